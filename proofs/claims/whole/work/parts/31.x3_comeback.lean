set_option maxHeartbeats 4000000 in
set_option maxRecDepth 100000 in
theorem k_X3_comeBack (l : Launch) (D : va_G) (cy : Nat → ClassId) (ad : Nat → Nat) (S : Ms) (p1 : Int32) {N L b : Nat} (hok : okM N L b S)  : mMv l yX3_comeBack wsX3_comeBack { frames := 1, cells := 0, slots := 0, locals := 22 } D cy ad [.ref (ad 0), .int p1] S (F_X3_comeBack S p1) := by
  intro sz
  refine Met.ofW (cc := cX3_comeBack) (maxL := 3) (ret := none) (by decide) rfl ?_
  intro p e s m args below meth c s₁ B hml hv
  obtain ⟨rfl, hsz, hP, hK, hap0⟩ := hv
  have hx := B.exec
  have hb := B.bytes
  have hr := B.returns
  have hts := atoms_spec (ws := wsX3_comeBack) B.pre
  have hown : s.vm.findClass RX3 = some m.cls := findClass_of_methodNamed B.named
  have hlocks := B.notSynchronized
  subst hsz
  have hap := gw_self (sz := s.heap.size) hap0
  generalize hAe : gA 19 ad s.heap.size = A at hap ⊢
  have hA : ∀ q : Nat, s.heap.size ≤ q → A q := fun q h => by rw [← hAe]; exact Or.inr h
  have hS : va_S A s.heap s.heap [] := va_S.rf
  have hinX3 : ∀ w ∈ wsX30, w ∈ wsX3_comeBack := by decide +kernel
  have hl := lv_entry ([.ref (ad 0), .int p1]) (n := 3) (Nat.le_of_ble_eq_true rfl)
  rw [lg_entry_eq]
  generalize (lg_sl ([.ref (ad 0), .int p1]) ++ List.replicate (3 - (lg_sl ([.ref (ad 0), .int p1])).length) Slot.unset).toArray = ls at hl ⊢
  have hl : lv_has ls 3 [(0, .ref (ad 0)), (1, .int p1)] := hl
  obtain ⟨H, hH⟩ : ∃ H, H = s.heap := ⟨_, rfl⟩
  rw [← hH] at hP
  have hS : va_S A s.heap H [] := by rw [hH]; exact hS
  rw [← hH]
  generalize ([] : List Loc) = locs at hS ⊢
  refine lv_iconst (v := 0) hx hb dX3_comeBack_0 (by decide) ?_
  refine lv_istore_n (lv' := [(2, .int 0), (0, .ref (ad 0)), (1, .int p1)]) hx hb dX3_comeBack_1 rfl hl (by decide) rfl (fun ls hl => ?_)
  have hNe : (mO S 5).toNatClampNeg = N := okM_N hok
  have hN16 : N ≤ 16 := hok.2.2.1
  have lp_2 : ∀ (Q : State → Prop) (n t : Nat) (Z : Ms) (H : Heap) (locs : List Loc) (ls : Array Slot), t + n = (mO S 5).toNatClampNeg → okM N L b Z → va_P D vwCl (mwl cy ad Z) H → va_S A s.heap H locs → lv_has ls 3 [(2, .int (nI t)), (0, .ref (ad 0)), (1, .int p1)] → (∀ (H : Heap) (locs : List Loc) (ls : Array Slot), va_P D vwCl (mwl cy ad (itr (B_X3_comeBack_2 p1) n t Z)) H → va_S A s.heap H locs → lv_has ls 3 [(2, .int (nI ((mO S 5).toNatClampNeg))), (0, .ref (ad 0)), (1, .int p1)] → W p l e (headSpec wsX3_comeBack { frames := 1, cells := 0, slots := 0, locals := 22 }).room s m ([.ref (ad 0), .int p1] : List Value).toArray below meth c H locs 0 0 Q (F0 m 103 ls [])) → W p l e (headSpec wsX3_comeBack { frames := 1, cells := 0, slots := 0, locals := 22 }).room s m ([.ref (ad 0), .int p1] : List Value).toArray below meth c H locs 0 0 Q (F0 m 2 ls []) := by
    intro Q n
    induction n with
    | zero =>
      intro t Z H locs ls hk hI hP hS hl K
      refine lv_iload_n hx hb dX3_comeBack_2 rfl (lv_at hl 0 rfl) ?_
      refine lv_aload_n hx hb dX3_comeBack_3 rfl (lv_at hl 1 rfl) ?_
      refine m_gO hx hb hts hinX3 hown hK hP 5 (by decide) (hts (.fieldLink RX3 76 "FeedbackQueuesModel" "processes" "I") (by decide +kernel)) rfl dX3_comeBack_4 ?_
      refine lv_icmp_ge (tgt := 103) hx hb dX3_comeBack_7 (by decide) (fun c_7 => ?_) (fun c_7 => ?_)
      rotate_left
      · exact absurd (by rw [show mO Z 5 = nI ((mO S 5).toNatClampNeg) from by rw [hNe]; exact hI.1]; exact nI_le (by omega) (by omega)) c_7
      have hiN : t = (mO S 5).toNatClampNeg := by omega
      rw [hiN] at hl
      exact K H locs ls hP hS (lv_sub hl [0, 1, 2] rfl)
    | succ n ih =>
      intro t Z H locs ls hk hI hP hS hl K
      have ht : t < (mO S 5).toNatClampNeg := by omega
      refine lv_iload_n hx hb dX3_comeBack_2 rfl (lv_at hl 0 rfl) ?_
      refine lv_aload_n hx hb dX3_comeBack_3 rfl (lv_at hl 1 rfl) ?_
      refine m_gO hx hb hts hinX3 hown hK hP 5 (by decide) (hts (.fieldLink RX3 76 "FeedbackQueuesModel" "processes" "I") (by decide +kernel)) rfl dX3_comeBack_4 ?_
      refine lv_icmp_ge (tgt := 103) hx hb dX3_comeBack_7 (by decide) (fun c_7 => ?_) (fun c_7 => ?_)
      · exact absurd c_7 (by rw [show mO Z 5 = nI ((mO S 5).toNatClampNeg) from by rw [hNe]; exact hI.1]; exact nI_ge (by omega) (by omega))
      refine lv_aload_n hx hb dX3_comeBack_10 rfl (lv_at hl 1 rfl) ?_
      refine m_gO hx hb hts hinX3 hown hK hP 11 (by decide) (hts (.fieldLink RX3 25 "FeedbackQueuesModel" "state" "[I") (by decide +kernel)) rfl dX3_comeBack_11 ?_
      refine lv_iload_n hx hb dX3_comeBack_14 rfl (lv_at hl 0 rfl) ?_
      refine m_iA (d := 6) (a := 11) (n := 16) (k := t) hx hb hK hP (by decide) rfl rfl (ix_nI (by omega) (by omega)) dX3_comeBack_15 ?_
      refine lv_iconst (v := 3) hx hb dX3_comeBack_16 (by decide) ?_
      refine lv_icmp_ne (tgt := 97) hx hb dX3_comeBack_17 (by decide) (fun c_17 => ?_) (fun c_17 => ?_)
      · skip
        refine lv_iinc (v := nI (t + 1)) (lv' := [(2, .int (nI (t + 1))), (0, .ref (ad 0)), (1, .int p1)]) hx hb dX3_comeBack_97 hl (k := 0) rfl (inc_nI t) (by decide) rfl (fun ls hl => ?_)
        refine lv_goto (tgt := 2) hx hb dX3_comeBack_100 (by decide) ?_
        have hF : B_X3_comeBack_2 p1 t Z = Z := by simp only [B_X3_comeBack_2, if_neg c_17]
        rw [← hF] at hP
        exact ih (t + 1) (B_X3_comeBack_2 p1 t Z) H locs ls (by omega) (ok_B_comeBack hI (by omega)) hP hS (lv_sub hl [0, 1, 2] rfl) K
      · skip
        refine lv_aload_n hx hb dX3_comeBack_20 rfl (lv_at hl 1 rfl) ?_
        refine m_gO hx hb hts hinX3 hown hK hP 18 (by decide) (hts (.fieldLink RX3 47 "FeedbackQueuesModel" "until" "[I") (by decide +kernel)) rfl dX3_comeBack_21 ?_
        refine lv_iload_n hx hb dX3_comeBack_24 rfl (lv_at hl 0 rfl) ?_
        refine m_iA (d := 13) (a := 18) (n := 16) (k := t) hx hb hK hP (by decide) rfl rfl (ix_nI (by omega) (by omega)) dX3_comeBack_25 ?_
        refine lv_iload_n hx hb dX3_comeBack_26 rfl (lv_at hl 2 rfl) ?_
        refine lv_icmp_ne (tgt := 97) hx hb dX3_comeBack_27 (by decide) (fun c_27 => ?_) (fun c_27 => ?_)
        · skip
          refine lv_iinc (v := nI (t + 1)) (lv' := [(2, .int (nI (t + 1))), (0, .ref (ad 0)), (1, .int p1)]) hx hb dX3_comeBack_97 hl (k := 0) rfl (inc_nI t) (by decide) rfl (fun ls hl => ?_)
          refine lv_goto (tgt := 2) hx hb dX3_comeBack_100 (by decide) ?_
          have hF : B_X3_comeBack_2 p1 t Z = Z := by simp only [B_X3_comeBack_2, if_pos c_17, if_neg c_27]
          rw [← hF] at hP
          exact ih (t + 1) (B_X3_comeBack_2 p1 t Z) H locs ls (by omega) (ok_B_comeBack hI (by omega)) hP hS (lv_sub hl [0, 1, 2] rfl) K
        · skip
          refine lv_aload_n hx hb dX3_comeBack_30 rfl (lv_at hl 1 rfl) ?_
          refine m_gO hx hb hts hinX3 hown hK hP 13 (by decide) (hts (.fieldLink RX3 31 "FeedbackQueuesModel" "at" "[I") (by decide +kernel)) rfl dX3_comeBack_31 ?_
          refine lv_iload_n hx hb dX3_comeBack_34 rfl (lv_at hl 0 rfl) ?_
          refine lv_dup2_11 hx hb dX3_comeBack_35 rfl rfl ?_
          refine m_iA (d := 8) (a := 13) (n := 16) (k := t) hx hb hK hP (by decide) rfl rfl (ix_nI (by omega) (by omega)) dX3_comeBack_36 ?_
          refine lv_iconst (v := 1) hx hb dX3_comeBack_37 (by decide) ?_
          refine lv_iadd hx hb dX3_comeBack_38 ?_
          refine m_sA (d := 8) (a := 13) (n := 16) (k := t) (v := (mA Z 13 t) + 1) hx hb hK hap hP hS (by decide) rfl rfl (ix_nI (by omega) (by omega)) dX3_comeBack_39 (fun H locs hP hS => ?_)
          obtain ⟨S1, eS1⟩ : ∃ z : Ms, z = mQ Z 13 t ((mA Z 13 t) + 1) := ⟨_, rfl⟩
          rw [← eS1] at hP
          refine lv_aload_n hx hb dX3_comeBack_40 rfl (lv_at hl 1 rfl) ?_
          refine m_gO hx hb hts hinX3 hown hK hP 13 (by decide) (hts (.fieldLink RX3 31 "FeedbackQueuesModel" "at" "[I") (by decide +kernel)) rfl dX3_comeBack_41 ?_
          refine lv_iload_n hx hb dX3_comeBack_44 rfl (lv_at hl 0 rfl) ?_
          refine m_iA (d := 8) (a := 13) (n := 16) (k := t) hx hb hK hP (by decide) rfl rfl (ix_nI (by omega) (by omega)) dX3_comeBack_45 ?_
          refine lv_aload_n hx hb dX3_comeBack_46 rfl (lv_at hl 1 rfl) ?_
          refine m_gO hx hb hts hinX3 hown hK hP 7 (by decide) (hts (.fieldLink RX3 19 "FeedbackQueuesModel" "bursts" "[I") (by decide +kernel)) rfl dX3_comeBack_47 ?_
          refine lv_iload_n hx hb dX3_comeBack_50 rfl (lv_at hl 0 rfl) ?_
          refine m_iA (d := 4) (a := 7) (n := 16) (k := t) hx hb hK hP (by decide) rfl rfl (ix_nI (by omega) (by omega)) dX3_comeBack_51 ?_
          refine lv_icmp_ne (tgt := 64) hx hb dX3_comeBack_52 (by decide) (fun c_52 => ?_) (fun c_52 => ?_)
          · skip
            have hok1 : okM N L b S1 := by rw [eS1]; exact okM_at hI (by omega) (Or.inr (Or.inr c_17)) (by subst eS1; exact c_52)
            refine lv_aload_n hx hb dX3_comeBack_64 rfl (lv_at hl 1 rfl) ?_
            refine m_gO hx hb hts hinX3 hown hK hP 14 (by decide) (hts (.fieldLink RX3 34 "FeedbackQueuesModel" "left" "[I") (by decide +kernel)) rfl dX3_comeBack_65 ?_
            refine lv_iload_n hx hb dX3_comeBack_68 rfl (lv_at hl 0 rfl) ?_
            refine lv_aload_n hx hb dX3_comeBack_69 rfl (lv_at hl 1 rfl) ?_
            refine m_gO hx hb hts hinX3 hown hK hP 8 (by decide) (hts (.fieldLink RX3 22 "FeedbackQueuesModel" "ticks" "[I") (by decide +kernel)) rfl dX3_comeBack_70 ?_
            refine lv_bipush (v := 12) hx hb dX3_comeBack_73 (by decide) ?_
            refine lv_iload_n hx hb dX3_comeBack_75 rfl (lv_at hl 0 rfl) ?_
            refine lv_imul hx hb dX3_comeBack_76 ?_
            refine lv_aload_n hx hb dX3_comeBack_77 rfl (lv_at hl 1 rfl) ?_
            refine m_gO hx hb hts hinX3 hown hK hP 13 (by decide) (hts (.fieldLink RX3 31 "FeedbackQueuesModel" "at" "[I") (by decide +kernel)) rfl dX3_comeBack_78 ?_
            refine lv_iload_n hx hb dX3_comeBack_81 rfl (lv_at hl 0 rfl) ?_
            refine m_iA (d := 8) (a := 13) (n := 16) (k := t) hx hb hK hP (by decide) rfl rfl (ix_nI (by omega) (by omega)) dX3_comeBack_82 ?_
            refine lv_iadd hx hb dX3_comeBack_83 ?_
            refine m_iA (d := 5) (a := 8) (n := 192) (k := 12 * t + (mA S1 13 t).toNatClampNeg) hx hb hK hP (by decide) rfl rfl (okM_tx hok1 (by omega) (by subst eS1; exact Or.inr (Or.inr c_17))) dX3_comeBack_84 ?_
            refine m_sA (d := 9) (a := 14) (n := 16) (k := t) (v := mA S1 8 (12 * t + (mA S1 13 t).toNatClampNeg)) hx hb hK hap hP hS (by decide) rfl rfl (ix_nI (by omega) (by omega)) dX3_comeBack_85 (fun H locs hP hS => ?_)
            obtain ⟨S2, eS2⟩ : ∃ z : Ms, z = mQ S1 14 t (mA S1 8 (12 * t + (mA S1 13 t).toNatClampNeg)) := ⟨_, rfl⟩
            rw [← eS2] at hP
            have hok2 : okM N L b S2 := by rw [eS2]; exact okM_mQ hok1 (by decide)
            refine lv_aload_n hx hb dX3_comeBack_86 rfl (lv_at hl 1 rfl) ?_
            refine lv_aload_n hx hb dX3_comeBack_87 rfl (lv_at hl 1 rfl) ?_
            refine m_gO hx hb hts hinX3 hown hK hP 12 (by decide) (hts (.fieldLink RX3 28 "FeedbackQueuesModel" "level" "[I") (by decide +kernel)) rfl dX3_comeBack_88 ?_
            refine lv_iload_n hx hb dX3_comeBack_91 rfl (lv_at hl 0 rfl) ?_
            refine m_iA (d := 7) (a := 12) (n := 16) (k := t) hx hb hK hP (by decide) rfl rfl (ix_nI (by omega) (by omega)) dX3_comeBack_92 ?_
            refine lv_iload_n hx hb dX3_comeBack_93 rfl (lv_at hl 0 rfl) ?_
            refine m_cVv (As := [.int (mA S2 12 t), .int (nI t)]) (rest := []) ⟨hx, hb, hml, hown, hts⟩ (k_X3_toEnd l D cy ad S2 (mA S2 12 t) (nI t)  (okM_ixl hok2 (by omega)) (ixc (ix_nI (by omega) (by omega))) (okM_15 hok2 (u := t) (by omega) (by subst eS2 eS1; exact ne31 c_17) (okM_ixl hok2 (by omega)))) (cwV 2 hts gX3_comeBack_X3_toEnd rfl rfl rfl (by decide +kernel) ⟨Nat.le_of_ble_eq_true rfl, Nat.le_of_ble_eq_true rfl⟩) hK hap hA hP hS rfl hl.1 rfl (Nat.le_of_ble_eq_true rfl) dX3_comeBack_94 ⟨Nat.zero_le _, Nat.zero_le _⟩ (fun H locs hP hS => ?_)
            obtain ⟨S3, eS3⟩ : ∃ z : Ms, z = F_X3_toEnd S2 (mA S2 12 t) (nI t) := ⟨_, rfl⟩
            rw [← eS3] at hP
            refine lv_iinc (v := nI (t + 1)) (lv' := [(2, .int (nI (t + 1))), (0, .ref (ad 0)), (1, .int p1)]) hx hb dX3_comeBack_97 hl (k := 0) rfl (inc_nI t) (by decide) rfl (fun ls hl => ?_)
            refine lv_goto (tgt := 2) hx hb dX3_comeBack_100 (by decide) ?_
            have hF : B_X3_comeBack_2 p1 t Z = S3 := by subst eS3 eS2 eS1; simp only [B_X3_comeBack_2, if_pos c_17, if_pos c_27, if_neg c_52]
            rw [← hF] at hP
            exact ih (t + 1) (B_X3_comeBack_2 p1 t Z) H locs ls (by omega) (ok_B_comeBack hI (by omega)) hP hS (lv_sub hl [0, 1, 2] rfl) K
          · skip
            refine lv_aload_n hx hb dX3_comeBack_55 rfl (lv_at hl 1 rfl) ?_
            refine lv_iload_n hx hb dX3_comeBack_56 rfl (lv_at hl 0 rfl) ?_
            refine lv_iload_n hx hb dX3_comeBack_57 rfl (lv_at hl 2 rfl) ?_
            refine m_cVv (As := [.int (nI t), .int p1]) (rest := []) ⟨hx, hb, hml, hown, hts⟩ (k_X3_end l D cy ad S1 (nI t) p1  (ixc (ix_nI (by omega) (by omega)))) (cwV 2 hts gX3_comeBack_X3_end rfl rfl rfl (by decide +kernel) ⟨Nat.le_of_ble_eq_true rfl, Nat.le_of_ble_eq_true rfl⟩) hK hap hA hP hS rfl hl.1 rfl (Nat.le_of_ble_eq_true rfl) dX3_comeBack_58 ⟨Nat.zero_le _, Nat.zero_le _⟩ (fun H locs hP hS => ?_)
            obtain ⟨S4, eS4⟩ : ∃ z : Ms, z = F_X3_end S1 (nI t) p1 := ⟨_, rfl⟩
            rw [← eS4] at hP
            have hok3 : okM N L b S4 := by rw [eS4, eS1]; exact okM_atEnd hI (by omega) (nI_clamp (by omega)) (ne31 c_17) (Or.inr (ne32 c_17))
            refine lv_goto (tgt := 97) hx hb dX3_comeBack_61 (by decide) ?_
            refine lv_iinc (v := nI (t + 1)) (lv' := [(2, .int (nI (t + 1))), (0, .ref (ad 0)), (1, .int p1)]) hx hb dX3_comeBack_97 hl (k := 0) rfl (inc_nI t) (by decide) rfl (fun ls hl => ?_)
            refine lv_goto (tgt := 2) hx hb dX3_comeBack_100 (by decide) ?_
            have hF : B_X3_comeBack_2 p1 t Z = S4 := by subst eS4 eS1; simp only [B_X3_comeBack_2, if_pos c_17, if_pos c_27, if_pos c_52]
            rw [← hF] at hP
            exact ih (t + 1) (B_X3_comeBack_2 p1 t Z) H locs ls (by omega) (ok_B_comeBack hI (by omega)) hP hS (lv_sub hl [0, 1, 2] rfl) K
  refine lp_2 _ ((mO S 5).toNatClampNeg) 0 S H locs ls (by omega) (hok) hP hS (by rw [show nI 0 = 0 from by decide]; exact lv_sub hl [0, 1, 2] rfl) (fun H locs ls hP hS hl => ?_)
  obtain ⟨S5, eS5⟩ : ∃ z : Ms, z = itr (B_X3_comeBack_2 p1) ((mO S 5).toNatClampNeg) 0 S := ⟨_, rfl⟩
  rw [← eS5] at hP
  have hF : F_X3_comeBack S p1 = S5 := by subst eS5; simp only [F_X3_comeBack]
  rw [hF]
  exact m_vret hx hb hr hlocks hP hS dX3_comeBack_103 (fun _ h => h)
