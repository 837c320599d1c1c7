set_option maxHeartbeats 4000000 in
set_option maxRecDepth 100000 in
theorem k_X3_work (l : Launch) (D : va_G) (cy : Nat → ClassId) (ad : Nat → Nat) (S : Ms) (p1 : Int32) {N L b : Nat} (hok : okM N L b S) (hru : ¬ mO S 10 < 0) : mMv l yX3_work wsX3_work { frames := 1, cells := 0, slots := 0, locals := 22 } D cy ad [.ref (ad 0), .int p1] S (F_X3_work S p1) := by
  intro sz
  refine Met.ofW (cc := cX3_work) (maxL := 3) (ret := none) (by decide) rfl ?_
  intro p e s m args below meth c s₁ B hml hv
  obtain ⟨rfl, hsz, hP, hK, hap0⟩ := hv
  have hx := B.exec
  have hb := B.bytes
  have hr := B.returns
  have hts := atoms_spec (ws := wsX3_work) B.pre
  have hown : s.vm.findClass RX3 = some m.cls := findClass_of_methodNamed B.named
  have hlocks := B.notSynchronized
  subst hsz
  have hap := gw_self (sz := s.heap.size) hap0
  generalize hAe : gA 19 ad s.heap.size = A at hap ⊢
  have hA : ∀ q : Nat, s.heap.size ≤ q → A q := fun q h => by rw [← hAe]; exact Or.inr h
  have hS : va_S A s.heap s.heap [] := va_S.rf
  have hinX3 : ∀ w ∈ wsX30, w ∈ wsX3_work := by decide +kernel
  have hl := lv_entry ([.ref (ad 0), .int p1]) (n := 3) (Nat.le_of_ble_eq_true rfl)
  rw [lg_entry_eq]
  generalize (lg_sl ([.ref (ad 0), .int p1]) ++ List.replicate (3 - (lg_sl ([.ref (ad 0), .int p1])).length) Slot.unset).toArray = ls at hl ⊢
  have hl : lv_has ls 3 [(0, .ref (ad 0)), (1, .int p1)] := hl
  obtain ⟨H, hH⟩ : ∃ H, H = s.heap := ⟨_, rfl⟩
  rw [← hH] at hP
  have hS : va_S A s.heap H [] := by rw [hH]; exact hS
  rw [← hH]
  generalize ([] : List Loc) = locs at hS ⊢
  have hr16 := okM_rx hok hru
  have hrN := okM_rN hok hru
  have hst := okM_rs hok hru
  refine lv_aload_n hx hb dX3_work_0 rfl (lv_at hl 0 rfl) ?_
  refine m_gO hx hb hts hinX3 hown hK hP 10 (by decide) (hts (.fieldLink RX3 85 "FeedbackQueuesModel" "running" "I") (by decide +kernel)) rfl dX3_work_1 ?_
  refine lv_istore_n (lv' := [(2, .int (mO S 10)), (0, .ref (ad 0)), (1, .int p1)]) hx hb dX3_work_4 rfl hl (by decide) rfl (fun ls hl => ?_)
  refine lv_aload_n hx hb dX3_work_5 rfl (lv_at hl 1 rfl) ?_
  refine m_gO hx hb hts hinX3 hown hK hP 19 (by decide) (hts (.fieldLink RX3 50 "FeedbackQueuesModel" "counts" "[I") (by decide +kernel)) rfl dX3_work_6 ?_
  refine lv_bipush (v := 10) hx hb dX3_work_9 (by decide) ?_
  refine lv_iload_n hx hb dX3_work_11 rfl (lv_at hl 0 rfl) ?_
  refine lv_imul hx hb dX3_work_12 ?_
  refine lv_iconst (v := 2) hx hb dX3_work_13 (by decide) ?_
  refine lv_iadd hx hb dX3_work_14 ?_
  refine lv_dup2_11 hx hb dX3_work_15 rfl rfl ?_
  refine m_iA (d := 14) (a := 19) (n := 160) (k := 10 * (mO S 10).toNatClampNeg + 2) hx hb hK hP (by decide) rfl rfl (ten hr16) dX3_work_16 ?_
  refine lv_iconst (v := 1) hx hb dX3_work_17 (by decide) ?_
  refine lv_iadd hx hb dX3_work_18 ?_
  refine m_sA (d := 14) (a := 19) (n := 160) (k := 10 * (mO S 10).toNatClampNeg + 2) (v := (mA S 19 (10 * (mO S 10).toNatClampNeg + 2)) + 1) hx hb hK hap hP hS (by decide) rfl rfl (ten hr16) dX3_work_19 (fun H locs hP hS => ?_)
  obtain ⟨S1, eS1⟩ : ∃ z : Ms, z = mQ S 19 (10 * (mO S 10).toNatClampNeg + 2) ((mA S 19 (10 * (mO S 10).toNatClampNeg + 2)) + 1) := ⟨_, rfl⟩
  rw [← eS1] at hP
  have hok1 : okM N L b S1 := by rw [eS1]; exact okM_mQ hok (by decide)
  refine lv_aload_n hx hb dX3_work_20 rfl (lv_at hl 1 rfl) ?_
  refine m_gO hx hb hts hinX3 hown hK hP 14 (by decide) (hts (.fieldLink RX3 34 "FeedbackQueuesModel" "left" "[I") (by decide +kernel)) rfl dX3_work_21 ?_
  refine lv_iload_n hx hb dX3_work_24 rfl (lv_at hl 0 rfl) ?_
  refine lv_dup2_11 hx hb dX3_work_25 rfl rfl ?_
  refine m_iA (d := 9) (a := 14) (n := 16) (k := (mO S 10).toNatClampNeg) hx hb hK hP (by decide) rfl rfl (hr16) dX3_work_26 ?_
  refine lv_iconst (v := 1) hx hb dX3_work_27 (by decide) ?_
  refine lv_isub hx hb dX3_work_28 ?_
  refine m_sA (d := 9) (a := 14) (n := 16) (k := (mO S 10).toNatClampNeg) (v := (mA S1 14 ((mO S 10).toNatClampNeg)) - 1) hx hb hK hap hP hS (by decide) rfl rfl (hr16) dX3_work_29 (fun H locs hP hS => ?_)
  obtain ⟨S2, eS2⟩ : ∃ z : Ms, z = mQ S1 14 ((mO S 10).toNatClampNeg) ((mA S1 14 ((mO S 10).toNatClampNeg)) - 1) := ⟨_, rfl⟩
  rw [← eS2] at hP
  have hok2 : okM N L b S2 := by rw [eS2]; exact okM_mQ hok1 (by decide)
  refine lv_aload_n hx hb dX3_work_30 rfl (lv_at hl 1 rfl) ?_
  refine m_gO hx hb hts hinX3 hown hK hP 15 (by decide) (hts (.fieldLink RX3 37 "FeedbackQueuesModel" "quantum" "[I") (by decide +kernel)) rfl dX3_work_31 ?_
  refine lv_iload_n hx hb dX3_work_34 rfl (lv_at hl 0 rfl) ?_
  refine lv_dup2_11 hx hb dX3_work_35 rfl rfl ?_
  refine m_iA (d := 10) (a := 15) (n := 16) (k := (mO S 10).toNatClampNeg) hx hb hK hP (by decide) rfl rfl (hr16) dX3_work_36 ?_
  refine lv_iconst (v := 1) hx hb dX3_work_37 (by decide) ?_
  refine lv_isub hx hb dX3_work_38 ?_
  refine m_sA (d := 10) (a := 15) (n := 16) (k := (mO S 10).toNatClampNeg) (v := (mA S2 15 ((mO S 10).toNatClampNeg)) - 1) hx hb hK hap hP hS (by decide) rfl rfl (hr16) dX3_work_39 (fun H locs hP hS => ?_)
  obtain ⟨S3, eS3⟩ : ∃ z : Ms, z = mQ S2 15 ((mO S 10).toNatClampNeg) ((mA S2 15 ((mO S 10).toNatClampNeg)) - 1) := ⟨_, rfl⟩
  rw [← eS3] at hP
  have hok3 : okM N L b S3 := by rw [eS3]; exact okM_mQ hok2 (by decide)
  refine lv_aload_n hx hb dX3_work_40 rfl (lv_at hl 1 rfl) ?_
  refine m_gO hx hb hts hinX3 hown hK hP 16 (by decide) (hts (.fieldLink RX3 40 "FeedbackQueuesModel" "share" "[I") (by decide +kernel)) rfl dX3_work_41 ?_
  refine lv_iload_n hx hb dX3_work_44 rfl (lv_at hl 0 rfl) ?_
  refine lv_dup2_11 hx hb dX3_work_45 rfl rfl ?_
  refine m_iA (d := 11) (a := 16) (n := 16) (k := (mO S 10).toNatClampNeg) hx hb hK hP (by decide) rfl rfl (hr16) dX3_work_46 ?_
  refine lv_iconst (v := 1) hx hb dX3_work_47 (by decide) ?_
  refine lv_isub hx hb dX3_work_48 ?_
  refine m_sA (d := 11) (a := 16) (n := 16) (k := (mO S 10).toNatClampNeg) (v := (mA S3 16 ((mO S 10).toNatClampNeg)) - 1) hx hb hK hap hP hS (by decide) rfl rfl (hr16) dX3_work_49 (fun H locs hP hS => ?_)
  obtain ⟨S4, eS4⟩ : ∃ z : Ms, z = mQ S3 16 ((mO S 10).toNatClampNeg) ((mA S3 16 ((mO S 10).toNatClampNeg)) - 1) := ⟨_, rfl⟩
  rw [← eS4] at hP
  have hok4 : okM N L b S4 := by rw [eS4]; exact okM_mQ hok3 (by decide)
  refine lv_aload_n hx hb dX3_work_50 rfl (lv_at hl 1 rfl) ?_
  refine m_gO hx hb hts hinX3 hown hK hP 14 (by decide) (hts (.fieldLink RX3 34 "FeedbackQueuesModel" "left" "[I") (by decide +kernel)) rfl dX3_work_51 ?_
  refine lv_iload_n hx hb dX3_work_54 rfl (lv_at hl 0 rfl) ?_
  refine m_iA (d := 9) (a := 14) (n := 16) (k := (mO S 10).toNatClampNeg) hx hb hK hP (by decide) rfl rfl (hr16) dX3_work_55 ?_
  refine lv_if_ne (tgt := 136) hx hb dX3_work_56 (by decide) (fun c_56 => ?_) (fun c_56 => ?_)
  · skip
    refine lv_aload_n hx hb dX3_work_136 rfl (lv_at hl 1 rfl) ?_
    refine m_gO hx hb hts hinX3 hown hK hP 16 (by decide) (hts (.fieldLink RX3 40 "FeedbackQueuesModel" "share" "[I") (by decide +kernel)) rfl dX3_work_137 ?_
    refine lv_iload_n hx hb dX3_work_140 rfl (lv_at hl 0 rfl) ?_
    refine m_iA (d := 11) (a := 16) (n := 16) (k := (mO S 10).toNatClampNeg) hx hb hK hP (by decide) rfl rfl (hr16) dX3_work_141 ?_
    refine lv_if_gt (tgt := 222) hx hb dX3_work_142 (by decide) (fun c_142 => ?_) (fun c_142 => ?_)
    · skip
      refine lv_aload_n hx hb dX3_work_222 rfl (lv_at hl 1 rfl) ?_
      refine m_gO hx hb hts hinX3 hown hK hP 15 (by decide) (hts (.fieldLink RX3 37 "FeedbackQueuesModel" "quantum" "[I") (by decide +kernel)) rfl dX3_work_223 ?_
      refine lv_iload_n hx hb dX3_work_226 rfl (lv_at hl 0 rfl) ?_
      refine m_iA (d := 10) (a := 15) (n := 16) (k := (mO S 10).toNatClampNeg) hx hb hK hP (by decide) rfl rfl (hr16) dX3_work_227 ?_
      refine lv_if_ne (tgt := 247) hx hb dX3_work_228 (by decide) (fun c_228 => ?_) (fun c_228 => ?_)
      · skip
        have hF : F_X3_work S p1 = S4 := by subst eS4 eS3 eS2 eS1; simp only [F_X3_work, if_neg c_56, if_pos c_142, if_neg c_228]
        rw [hF]
        exact m_vret hx hb hr hlocks hP hS dX3_work_247 (fun _ h => h)
      · skip
        refine lv_aload_n hx hb dX3_work_231 rfl (lv_at hl 1 rfl) ?_
        refine lv_iconst (v := (-1)) hx hb dX3_work_232 (by decide) ?_
        refine m_pO (ty := .int) (v := (-1)) hx hb hts hinX3 hown hK hap hP hS 10 (by decide) (hts (.fieldLink RX3 85 "FeedbackQueuesModel" "running" "I") (by decide +kernel)) rfl (by decide +kernel) rfl rfl (mOf_10 ad S4 _) (Nat.le_of_ble_eq_true rfl) dX3_work_233 (fun H locs hP hS => ?_)
        obtain ⟨S5, eS5⟩ : ∃ z : Ms, z = mP S4 10 ((-1)) := ⟨_, rfl⟩
        rw [← eS5] at hP
        have hok5 : okM N L b S5 := by rw [eS5]; exact okM_r0 hok4
        refine lv_aload_n hx hb dX3_work_236 rfl (lv_at hl 1 rfl) ?_
        refine lv_aload_n hx hb dX3_work_237 rfl (lv_at hl 1 rfl) ?_
        refine m_gO hx hb hts hinX3 hown hK hP 12 (by decide) (hts (.fieldLink RX3 28 "FeedbackQueuesModel" "level" "[I") (by decide +kernel)) rfl dX3_work_238 ?_
        refine lv_iload_n hx hb dX3_work_241 rfl (lv_at hl 0 rfl) ?_
        refine m_iA (d := 7) (a := 12) (n := 16) (k := (mO S 10).toNatClampNeg) hx hb hK hP (by decide) rfl rfl (hr16) dX3_work_242 ?_
        refine lv_iload_n hx hb dX3_work_243 rfl (lv_at hl 0 rfl) ?_
        refine m_cVv (As := [.int (mA S5 12 ((mO S 10).toNatClampNeg)), .int (mO S 10)]) (rest := []) ⟨hx, hb, hml, hown, hts⟩ (k_X3_toEnd l D cy ad S5 (mA S5 12 ((mO S 10).toNatClampNeg)) (mO S 10)  (okM_ixl hok5 hr16.2.2) hr16 (okM_15 hok5 hrN (by subst eS5 eS4 eS3 eS2 eS1; exact ne21 hst) (okM_ixl hok5 hr16.2.2))) (cwV 2 hts gX3_work_X3_toEnd rfl rfl rfl (by decide +kernel) ⟨Nat.le_of_ble_eq_true rfl, Nat.le_of_ble_eq_true rfl⟩) hK hap hA hP hS rfl hl.1 rfl (Nat.le_of_ble_eq_true rfl) dX3_work_244 ⟨Nat.zero_le _, Nat.zero_le _⟩ (fun H locs hP hS => ?_)
        obtain ⟨S6, eS6⟩ : ∃ z : Ms, z = F_X3_toEnd S5 (mA S5 12 ((mO S 10).toNatClampNeg)) (mO S 10) := ⟨_, rfl⟩
        rw [← eS6] at hP
        have hF : F_X3_work S p1 = S6 := by subst eS6 eS5 eS4 eS3 eS2 eS1; simp only [F_X3_work, if_neg c_56, if_pos c_142, if_pos c_228]
        rw [hF]
        exact m_vret hx hb hr hlocks hP hS dX3_work_247 (fun _ h => h)
    · skip
      refine lv_aload_n hx hb dX3_work_145 rfl (lv_at hl 1 rfl) ?_
      refine lv_iconst (v := (-1)) hx hb dX3_work_146 (by decide) ?_
      refine m_pO (ty := .int) (v := (-1)) hx hb hts hinX3 hown hK hap hP hS 10 (by decide) (hts (.fieldLink RX3 85 "FeedbackQueuesModel" "running" "I") (by decide +kernel)) rfl (by decide +kernel) rfl rfl (mOf_10 ad S4 _) (Nat.le_of_ble_eq_true rfl) dX3_work_147 (fun H locs hP hS => ?_)
      obtain ⟨S7, eS7⟩ : ∃ z : Ms, z = mP S4 10 ((-1)) := ⟨_, rfl⟩
      rw [← eS7] at hP
      have hok6 : okM N L b S7 := by rw [eS7]; exact okM_r0 hok4
      refine lv_aload_n hx hb dX3_work_150 rfl (lv_at hl 1 rfl) ?_
      refine m_gO hx hb hts hinX3 hown hK hP 12 (by decide) (hts (.fieldLink RX3 28 "FeedbackQueuesModel" "level" "[I") (by decide +kernel)) rfl dX3_work_151 ?_
      refine lv_iload_n hx hb dX3_work_154 rfl (lv_at hl 0 rfl) ?_
      refine m_iA (d := 7) (a := 12) (n := 16) (k := (mO S 10).toNatClampNeg) hx hb hK hP (by decide) rfl rfl (hr16) dX3_work_155 ?_
      refine lv_aload_n hx hb dX3_work_156 rfl (lv_at hl 1 rfl) ?_
      refine m_gO hx hb hts hinX3 hown hK hP 1 (by decide) (hts (.fieldLink RX3 73 "FeedbackQueuesModel" "levels" "I") (by decide +kernel)) rfl dX3_work_157 ?_
      refine lv_iconst (v := 1) hx hb dX3_work_160 (by decide) ?_
      refine lv_isub hx hb dX3_work_161 ?_
      refine lv_icmp_ge (tgt := 191) hx hb dX3_work_162 (by decide) (fun c_162 => ?_) (fun c_162 => ?_)
      · skip
        refine lv_aload_n hx hb dX3_work_191 rfl (lv_at hl 1 rfl) ?_
        refine m_gO hx hb hts hinX3 hown hK hP 16 (by decide) (hts (.fieldLink RX3 40 "FeedbackQueuesModel" "share" "[I") (by decide +kernel)) rfl dX3_work_192 ?_
        refine lv_iload_n hx hb dX3_work_195 rfl (lv_at hl 0 rfl) ?_
        refine lv_aload_n hx hb dX3_work_196 rfl (lv_at hl 1 rfl) ?_
        refine m_gO hx hb hts hinX3 hown hK hP 3 (by decide) (hts (.fieldLink RX3 13 "FeedbackQueuesModel" "shares" "[I") (by decide +kernel)) rfl dX3_work_197 ?_
        refine lv_aload_n hx hb dX3_work_200 rfl (lv_at hl 1 rfl) ?_
        refine m_gO hx hb hts hinX3 hown hK hP 12 (by decide) (hts (.fieldLink RX3 28 "FeedbackQueuesModel" "level" "[I") (by decide +kernel)) rfl dX3_work_201 ?_
        refine lv_iload_n hx hb dX3_work_204 rfl (lv_at hl 0 rfl) ?_
        refine m_iA (d := 7) (a := 12) (n := 16) (k := (mO S 10).toNatClampNeg) hx hb hK hP (by decide) rfl rfl (hr16) dX3_work_205 ?_
        refine m_iA (d := 2) (a := 3) (n := 6) (k := (mA S7 12 (mO S 10).toNatClampNeg).toNatClampNeg) hx hb hK hP (by decide) rfl rfl (okM_lx hok6 hr16.2.2) dX3_work_206 ?_
        refine m_sA (d := 11) (a := 16) (n := 16) (k := (mO S 10).toNatClampNeg) (v := mA S7 3 ((mA S7 12 (mO S 10).toNatClampNeg).toNatClampNeg)) hx hb hK hap hP hS (by decide) rfl rfl (hr16) dX3_work_207 (fun H locs hP hS => ?_)
        obtain ⟨S8, eS8⟩ : ∃ z : Ms, z = mQ S7 16 ((mO S 10).toNatClampNeg) (mA S7 3 ((mA S7 12 (mO S 10).toNatClampNeg).toNatClampNeg)) := ⟨_, rfl⟩
        rw [← eS8] at hP
        have hok7 : okM N L b S8 := by rw [eS8]; exact okM_mQ hok6 (by decide)
        refine lv_aload_n hx hb dX3_work_208 rfl (lv_at hl 1 rfl) ?_
        refine lv_aload_n hx hb dX3_work_209 rfl (lv_at hl 1 rfl) ?_
        refine m_gO hx hb hts hinX3 hown hK hP 12 (by decide) (hts (.fieldLink RX3 28 "FeedbackQueuesModel" "level" "[I") (by decide +kernel)) rfl dX3_work_210 ?_
        refine lv_iload_n hx hb dX3_work_213 rfl (lv_at hl 0 rfl) ?_
        refine m_iA (d := 7) (a := 12) (n := 16) (k := (mO S 10).toNatClampNeg) hx hb hK hP (by decide) rfl rfl (hr16) dX3_work_214 ?_
        refine lv_iload_n hx hb dX3_work_215 rfl (lv_at hl 0 rfl) ?_
        refine m_cVv (As := [.int (mA S8 12 ((mO S 10).toNatClampNeg)), .int (mO S 10)]) (rest := []) ⟨hx, hb, hml, hown, hts⟩ (k_X3_toEnd l D cy ad S8 (mA S8 12 ((mO S 10).toNatClampNeg)) (mO S 10)  (okM_ixl hok7 hr16.2.2) hr16 (okM_15 hok7 hrN (by subst eS8 eS7 eS4 eS3 eS2 eS1; exact ne21 hst) (okM_ixl hok7 hr16.2.2))) (cwV 2 hts gX3_work_X3_toEnd rfl rfl rfl (by decide +kernel) ⟨Nat.le_of_ble_eq_true rfl, Nat.le_of_ble_eq_true rfl⟩) hK hap hA hP hS rfl hl.1 rfl (Nat.le_of_ble_eq_true rfl) dX3_work_216 ⟨Nat.zero_le _, Nat.zero_le _⟩ (fun H locs hP hS => ?_)
        obtain ⟨S9, eS9⟩ : ∃ z : Ms, z = F_X3_toEnd S8 (mA S8 12 ((mO S 10).toNatClampNeg)) (mO S 10) := ⟨_, rfl⟩
        rw [← eS9] at hP
        refine lv_goto (tgt := 247) hx hb dX3_work_219 (by decide) ?_
        have hF : F_X3_work S p1 = S9 := by subst eS9 eS8 eS7 eS4 eS3 eS2 eS1; simp only [F_X3_work, if_neg c_56, if_neg c_142, if_pos c_162]
        rw [hF]
        exact m_vret hx hb hr hlocks hP hS dX3_work_247 (fun _ h => h)
      · skip
        refine lv_aload_n hx hb dX3_work_165 rfl (lv_at hl 1 rfl) ?_
        refine m_gO hx hb hts hinX3 hown hK hP 12 (by decide) (hts (.fieldLink RX3 28 "FeedbackQueuesModel" "level" "[I") (by decide +kernel)) rfl dX3_work_166 ?_
        refine lv_iload_n hx hb dX3_work_169 rfl (lv_at hl 0 rfl) ?_
        refine lv_dup2_11 hx hb dX3_work_170 rfl rfl ?_
        refine m_iA (d := 7) (a := 12) (n := 16) (k := (mO S 10).toNatClampNeg) hx hb hK hP (by decide) rfl rfl (hr16) dX3_work_171 ?_
        refine lv_iconst (v := 1) hx hb dX3_work_172 (by decide) ?_
        refine lv_iadd hx hb dX3_work_173 ?_
        refine m_sA (d := 7) (a := 12) (n := 16) (k := (mO S 10).toNatClampNeg) (v := (mA S7 12 ((mO S 10).toNatClampNeg)) + 1) hx hb hK hap hP hS (by decide) rfl rfl (hr16) dX3_work_174 (fun H locs hP hS => ?_)
        obtain ⟨S10, eS10⟩ : ∃ z : Ms, z = mQ S7 12 ((mO S 10).toNatClampNeg) ((mA S7 12 ((mO S 10).toNatClampNeg)) + 1) := ⟨_, rfl⟩
        rw [← eS10] at hP
        have hok8 : okM N L b S10 := by rw [eS10]; exact okM_mQ12 hok6 (okM_dn hok6 hr16.2.2 (by subst eS10 eS7 eS4 eS3 eS2 eS1; exact c_162))
        refine lv_aload_n hx hb dX3_work_175 rfl (lv_at hl 1 rfl) ?_
        refine m_gO hx hb hts hinX3 hown hK hP 19 (by decide) (hts (.fieldLink RX3 50 "FeedbackQueuesModel" "counts" "[I") (by decide +kernel)) rfl dX3_work_176 ?_
        refine lv_bipush (v := 10) hx hb dX3_work_179 (by decide) ?_
        refine lv_iload_n hx hb dX3_work_181 rfl (lv_at hl 0 rfl) ?_
        refine lv_imul hx hb dX3_work_182 ?_
        refine lv_bipush (v := 8) hx hb dX3_work_183 (by decide) ?_
        refine lv_iadd hx hb dX3_work_185 ?_
        refine lv_dup2_11 hx hb dX3_work_186 rfl rfl ?_
        refine m_iA (d := 14) (a := 19) (n := 160) (k := 10 * (mO S 10).toNatClampNeg + 8) hx hb hK hP (by decide) rfl rfl (ten hr16) dX3_work_187 ?_
        refine lv_iconst (v := 1) hx hb dX3_work_188 (by decide) ?_
        refine lv_iadd hx hb dX3_work_189 ?_
        refine m_sA (d := 14) (a := 19) (n := 160) (k := 10 * (mO S 10).toNatClampNeg + 8) (v := (mA S10 19 (10 * (mO S 10).toNatClampNeg + 8)) + 1) hx hb hK hap hP hS (by decide) rfl rfl (ten hr16) dX3_work_190 (fun H locs hP hS => ?_)
        obtain ⟨S11, eS11⟩ : ∃ z : Ms, z = mQ S10 19 (10 * (mO S 10).toNatClampNeg + 8) ((mA S10 19 (10 * (mO S 10).toNatClampNeg + 8)) + 1) := ⟨_, rfl⟩
        rw [← eS11] at hP
        have hok9 : okM N L b S11 := by rw [eS11]; exact okM_mQ hok8 (by decide)
        refine lv_aload_n hx hb dX3_work_191 rfl (lv_at hl 1 rfl) ?_
        refine m_gO hx hb hts hinX3 hown hK hP 16 (by decide) (hts (.fieldLink RX3 40 "FeedbackQueuesModel" "share" "[I") (by decide +kernel)) rfl dX3_work_192 ?_
        refine lv_iload_n hx hb dX3_work_195 rfl (lv_at hl 0 rfl) ?_
        refine lv_aload_n hx hb dX3_work_196 rfl (lv_at hl 1 rfl) ?_
        refine m_gO hx hb hts hinX3 hown hK hP 3 (by decide) (hts (.fieldLink RX3 13 "FeedbackQueuesModel" "shares" "[I") (by decide +kernel)) rfl dX3_work_197 ?_
        refine lv_aload_n hx hb dX3_work_200 rfl (lv_at hl 1 rfl) ?_
        refine m_gO hx hb hts hinX3 hown hK hP 12 (by decide) (hts (.fieldLink RX3 28 "FeedbackQueuesModel" "level" "[I") (by decide +kernel)) rfl dX3_work_201 ?_
        refine lv_iload_n hx hb dX3_work_204 rfl (lv_at hl 0 rfl) ?_
        refine m_iA (d := 7) (a := 12) (n := 16) (k := (mO S 10).toNatClampNeg) hx hb hK hP (by decide) rfl rfl (hr16) dX3_work_205 ?_
        refine m_iA (d := 2) (a := 3) (n := 6) (k := (mA S11 12 (mO S 10).toNatClampNeg).toNatClampNeg) hx hb hK hP (by decide) rfl rfl (okM_lx hok9 hr16.2.2) dX3_work_206 ?_
        refine m_sA (d := 11) (a := 16) (n := 16) (k := (mO S 10).toNatClampNeg) (v := mA S11 3 ((mA S11 12 (mO S 10).toNatClampNeg).toNatClampNeg)) hx hb hK hap hP hS (by decide) rfl rfl (hr16) dX3_work_207 (fun H locs hP hS => ?_)
        obtain ⟨S12, eS12⟩ : ∃ z : Ms, z = mQ S11 16 ((mO S 10).toNatClampNeg) (mA S11 3 ((mA S11 12 (mO S 10).toNatClampNeg).toNatClampNeg)) := ⟨_, rfl⟩
        rw [← eS12] at hP
        have hok10 : okM N L b S12 := by rw [eS12]; exact okM_mQ hok9 (by decide)
        refine lv_aload_n hx hb dX3_work_208 rfl (lv_at hl 1 rfl) ?_
        refine lv_aload_n hx hb dX3_work_209 rfl (lv_at hl 1 rfl) ?_
        refine m_gO hx hb hts hinX3 hown hK hP 12 (by decide) (hts (.fieldLink RX3 28 "FeedbackQueuesModel" "level" "[I") (by decide +kernel)) rfl dX3_work_210 ?_
        refine lv_iload_n hx hb dX3_work_213 rfl (lv_at hl 0 rfl) ?_
        refine m_iA (d := 7) (a := 12) (n := 16) (k := (mO S 10).toNatClampNeg) hx hb hK hP (by decide) rfl rfl (hr16) dX3_work_214 ?_
        refine lv_iload_n hx hb dX3_work_215 rfl (lv_at hl 0 rfl) ?_
        refine m_cVv (As := [.int (mA S12 12 ((mO S 10).toNatClampNeg)), .int (mO S 10)]) (rest := []) ⟨hx, hb, hml, hown, hts⟩ (k_X3_toEnd l D cy ad S12 (mA S12 12 ((mO S 10).toNatClampNeg)) (mO S 10)  (okM_ixl hok10 hr16.2.2) hr16 (okM_15 hok10 hrN (by subst eS12 eS11 eS10 eS7 eS4 eS3 eS2 eS1; exact ne21 hst) (okM_ixl hok10 hr16.2.2))) (cwV 2 hts gX3_work_X3_toEnd rfl rfl rfl (by decide +kernel) ⟨Nat.le_of_ble_eq_true rfl, Nat.le_of_ble_eq_true rfl⟩) hK hap hA hP hS rfl hl.1 rfl (Nat.le_of_ble_eq_true rfl) dX3_work_216 ⟨Nat.zero_le _, Nat.zero_le _⟩ (fun H locs hP hS => ?_)
        obtain ⟨S13, eS13⟩ : ∃ z : Ms, z = F_X3_toEnd S12 (mA S12 12 ((mO S 10).toNatClampNeg)) (mO S 10) := ⟨_, rfl⟩
        rw [← eS13] at hP
        refine lv_goto (tgt := 247) hx hb dX3_work_219 (by decide) ?_
        have hF : F_X3_work S p1 = S13 := by subst eS13 eS12 eS11 eS10 eS7 eS4 eS3 eS2 eS1; simp only [F_X3_work, if_neg c_56, if_neg c_142, if_neg c_162]
        rw [hF]
        exact m_vret hx hb hr hlocks hP hS dX3_work_247 (fun _ h => h)
  · skip
    refine lv_aload_n hx hb dX3_work_59 rfl (lv_at hl 1 rfl) ?_
    refine lv_iconst (v := (-1)) hx hb dX3_work_60 (by decide) ?_
    refine m_pO (ty := .int) (v := (-1)) hx hb hts hinX3 hown hK hap hP hS 10 (by decide) (hts (.fieldLink RX3 85 "FeedbackQueuesModel" "running" "I") (by decide +kernel)) rfl (by decide +kernel) rfl rfl (mOf_10 ad S4 _) (Nat.le_of_ble_eq_true rfl) dX3_work_61 (fun H locs hP hS => ?_)
    obtain ⟨S14, eS14⟩ : ∃ z : Ms, z = mP S4 10 ((-1)) := ⟨_, rfl⟩
    rw [← eS14] at hP
    have hok11 : okM N L b S14 := by rw [eS14]; exact okM_r0 hok4
    refine lv_aload_n hx hb dX3_work_64 rfl (lv_at hl 1 rfl) ?_
    refine m_gO hx hb hts hinX3 hown hK hP 13 (by decide) (hts (.fieldLink RX3 31 "FeedbackQueuesModel" "at" "[I") (by decide +kernel)) rfl dX3_work_65 ?_
    refine lv_iload_n hx hb dX3_work_68 rfl (lv_at hl 0 rfl) ?_
    refine lv_dup2_11 hx hb dX3_work_69 rfl rfl ?_
    refine m_iA (d := 8) (a := 13) (n := 16) (k := (mO S 10).toNatClampNeg) hx hb hK hP (by decide) rfl rfl (hr16) dX3_work_70 ?_
    refine lv_iconst (v := 1) hx hb dX3_work_71 (by decide) ?_
    refine lv_iadd hx hb dX3_work_72 ?_
    refine m_sA (d := 8) (a := 13) (n := 16) (k := (mO S 10).toNatClampNeg) (v := (mA S14 13 ((mO S 10).toNatClampNeg)) + 1) hx hb hK hap hP hS (by decide) rfl rfl (hr16) dX3_work_73 (fun H locs hP hS => ?_)
    obtain ⟨S15, eS15⟩ : ∃ z : Ms, z = mQ S14 13 ((mO S 10).toNatClampNeg) ((mA S14 13 ((mO S 10).toNatClampNeg)) + 1) := ⟨_, rfl⟩
    rw [← eS15] at hP
    refine lv_aload_n hx hb dX3_work_74 rfl (lv_at hl 1 rfl) ?_
    refine m_gO hx hb hts hinX3 hown hK hP 13 (by decide) (hts (.fieldLink RX3 31 "FeedbackQueuesModel" "at" "[I") (by decide +kernel)) rfl dX3_work_75 ?_
    refine lv_iload_n hx hb dX3_work_78 rfl (lv_at hl 0 rfl) ?_
    refine m_iA (d := 8) (a := 13) (n := 16) (k := (mO S 10).toNatClampNeg) hx hb hK hP (by decide) rfl rfl (hr16) dX3_work_79 ?_
    refine lv_aload_n hx hb dX3_work_80 rfl (lv_at hl 1 rfl) ?_
    refine m_gO hx hb hts hinX3 hown hK hP 7 (by decide) (hts (.fieldLink RX3 19 "FeedbackQueuesModel" "bursts" "[I") (by decide +kernel)) rfl dX3_work_81 ?_
    refine lv_iload_n hx hb dX3_work_84 rfl (lv_at hl 0 rfl) ?_
    refine m_iA (d := 4) (a := 7) (n := 16) (k := (mO S 10).toNatClampNeg) hx hb hK hP (by decide) rfl rfl (hr16) dX3_work_85 ?_
    refine lv_icmp_ne (tgt := 100) hx hb dX3_work_86 (by decide) (fun c_86 => ?_) (fun c_86 => ?_)
    · skip
      refine lv_aload_n hx hb dX3_work_100 rfl (lv_at hl 1 rfl) ?_
      refine m_gO hx hb hts hinX3 hown hK hP 11 (by decide) (hts (.fieldLink RX3 25 "FeedbackQueuesModel" "state" "[I") (by decide +kernel)) rfl dX3_work_101 ?_
      refine lv_iload_n hx hb dX3_work_104 rfl (lv_at hl 0 rfl) ?_
      refine lv_iconst (v := 3) hx hb dX3_work_105 (by decide) ?_
      refine m_sA (d := 6) (a := 11) (n := 16) (k := (mO S 10).toNatClampNeg) (v := 3) hx hb hK hap hP hS (by decide) rfl rfl (hr16) dX3_work_106 (fun H locs hP hS => ?_)
      obtain ⟨S16, eS16⟩ : ∃ z : Ms, z = mQ S15 11 ((mO S 10).toNatClampNeg) 3 := ⟨_, rfl⟩
      rw [← eS16] at hP
      have hok12 : okM N L b S16 := by rw [eS16, eS15]; exact okM_blk hok11 hr16.2.2 (by subst eS16 eS15 eS14 eS4 eS3 eS2 eS1; exact hst) (by subst eS16 eS15 eS14 eS4 eS3 eS2 eS1; exact c_86) (by subst eS16 eS15 eS14 eS4 eS3 eS2 eS1; rfl)
      refine lv_aload_n hx hb dX3_work_107 rfl (lv_at hl 1 rfl) ?_
      refine m_gO hx hb hts hinX3 hown hK hP 18 (by decide) (hts (.fieldLink RX3 47 "FeedbackQueuesModel" "until" "[I") (by decide +kernel)) rfl dX3_work_108 ?_
      refine lv_iload_n hx hb dX3_work_111 rfl (lv_at hl 0 rfl) ?_
      refine lv_iload_n hx hb dX3_work_112 rfl (lv_at hl 2 rfl) ?_
      refine lv_iconst (v := 1) hx hb dX3_work_113 (by decide) ?_
      refine lv_iadd hx hb dX3_work_114 ?_
      refine lv_aload_n hx hb dX3_work_115 rfl (lv_at hl 1 rfl) ?_
      refine m_gO hx hb hts hinX3 hown hK hP 8 (by decide) (hts (.fieldLink RX3 22 "FeedbackQueuesModel" "ticks" "[I") (by decide +kernel)) rfl dX3_work_116 ?_
      refine lv_bipush (v := 12) hx hb dX3_work_119 (by decide) ?_
      refine lv_iload_n hx hb dX3_work_121 rfl (lv_at hl 0 rfl) ?_
      refine lv_imul hx hb dX3_work_122 ?_
      refine lv_aload_n hx hb dX3_work_123 rfl (lv_at hl 1 rfl) ?_
      refine m_gO hx hb hts hinX3 hown hK hP 13 (by decide) (hts (.fieldLink RX3 31 "FeedbackQueuesModel" "at" "[I") (by decide +kernel)) rfl dX3_work_124 ?_
      refine lv_iload_n hx hb dX3_work_127 rfl (lv_at hl 0 rfl) ?_
      refine m_iA (d := 8) (a := 13) (n := 16) (k := (mO S 10).toNatClampNeg) hx hb hK hP (by decide) rfl rfl (hr16) dX3_work_128 ?_
      refine lv_iadd hx hb dX3_work_129 ?_
      refine m_iA (d := 5) (a := 8) (n := 192) (k := 12 * (mO S 10).toNatClampNeg + (mA S16 13 (mO S 10).toNatClampNeg).toNatClampNeg) hx hb hK hP (by decide) rfl rfl (okM_txx hok12 hr16 (by subst eS16 eS15 eS14 eS4 eS3 eS2 eS1; exact wst3 _ _)) dX3_work_130 ?_
      refine lv_iadd hx hb dX3_work_131 ?_
      refine m_sA (d := 13) (a := 18) (n := 16) (k := (mO S 10).toNatClampNeg) (v := (p1 + 1) + (mA S16 8 (12 * (mO S 10).toNatClampNeg + (mA S16 13 (mO S 10).toNatClampNeg).toNatClampNeg))) hx hb hK hap hP hS (by decide) rfl rfl (hr16) dX3_work_132 (fun H locs hP hS => ?_)
      obtain ⟨S17, eS17⟩ : ∃ z : Ms, z = mQ S16 18 ((mO S 10).toNatClampNeg) ((p1 + 1) + (mA S16 8 (12 * (mO S 10).toNatClampNeg + (mA S16 13 (mO S 10).toNatClampNeg).toNatClampNeg))) := ⟨_, rfl⟩
      rw [← eS17] at hP
      have hok13 : okM N L b S17 := by rw [eS17]; exact okM_mQ hok12 (by decide)
      refine lv_goto (tgt := 247) hx hb dX3_work_133 (by decide) ?_
      have hF : F_X3_work S p1 = S17 := by subst eS17 eS16 eS15 eS14 eS4 eS3 eS2 eS1; simp only [F_X3_work, if_pos c_56, if_neg c_86]
      rw [hF]
      exact m_vret hx hb hr hlocks hP hS dX3_work_247 (fun _ h => h)
    · skip
      refine lv_aload_n hx hb dX3_work_89 rfl (lv_at hl 1 rfl) ?_
      refine lv_iload_n hx hb dX3_work_90 rfl (lv_at hl 0 rfl) ?_
      refine lv_iload_n hx hb dX3_work_91 rfl (lv_at hl 2 rfl) ?_
      refine lv_iconst (v := 1) hx hb dX3_work_92 (by decide) ?_
      refine lv_iadd hx hb dX3_work_93 ?_
      refine m_cVv (As := [.int (mO S 10), .int (p1 + 1)]) (rest := []) ⟨hx, hb, hml, hown, hts⟩ (k_X3_end l D cy ad S15 (mO S 10) (p1 + 1)  hr16) (cwV 2 hts gX3_work_X3_end rfl rfl rfl (by decide +kernel) ⟨Nat.le_of_ble_eq_true rfl, Nat.le_of_ble_eq_true rfl⟩) hK hap hA hP hS rfl hl.1 rfl (Nat.le_of_ble_eq_true rfl) dX3_work_94 ⟨Nat.zero_le _, Nat.zero_le _⟩ (fun H locs hP hS => ?_)
      obtain ⟨S18, eS18⟩ : ∃ z : Ms, z = F_X3_end S15 (mO S 10) (p1 + 1) := ⟨_, rfl⟩
      rw [← eS18] at hP
      have hok14 : okM N L b S18 := by rw [eS18, eS15]; exact okM_atEnd hok11 hrN rfl (by subst eS18 eS15 eS14 eS4 eS3 eS2 eS1; exact ne21 hst) (Or.inl (by subst eS18 eS15 eS14 eS4 eS3 eS2 eS1; rfl))
      refine lv_goto (tgt := 247) hx hb dX3_work_97 (by decide) ?_
      have hF : F_X3_work S p1 = S18 := by subst eS18 eS15 eS14 eS4 eS3 eS2 eS1; simp only [F_X3_work, if_pos c_56, if_pos c_86]
      rw [hF]
      exact m_vret hx hb hr hlocks hP hS dX3_work_247 (fun _ h => h)
