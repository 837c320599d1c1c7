set_option maxHeartbeats 4000000 in
set_option maxRecDepth 100000 in
theorem k_X3_run (l : Launch) (D : va_G) (cy : Nat → ClassId) (ad : Nat → Nat) (S : Ms) (p1 : Int32) {N L b T : Nat} (hok : okR0 N L b T S) (hbT : b + 30000 < 2 ^ 30) (hTT : T ≤ 100000) : mMi l yX3_run wsX3_run { frames := 2, cells := 0, slots := 0, locals := 46 } D cy ad [.ref (ad 0), .int p1] S (F_X3_run S p1).1 (F_X3_run S p1).2 := by
  intro sz
  refine Met.ofW (cc := cX3_run) (maxL := 5) (ret := (some .int)) (by decide) rfl ?_
  intro p e s m args below meth c s₁ B hml hv
  obtain ⟨rfl, hsz, hP, hK, hap0⟩ := hv
  have hx := B.exec
  have hb := B.bytes
  have hr := B.returns
  have hts := atoms_spec (ws := wsX3_run) B.pre
  have hown : s.vm.findClass RX3 = some m.cls := findClass_of_methodNamed B.named
  have hlocks := B.notSynchronized
  subst hsz
  have hap := gw_self (sz := s.heap.size) hap0
  generalize hAe : gA 19 ad s.heap.size = A at hap ⊢
  have hA : ∀ q : Nat, s.heap.size ≤ q → A q := fun q h => by rw [← hAe]; exact Or.inr h
  have hS : va_S A s.heap s.heap [] := va_S.rf
  have hinX3 : ∀ w ∈ wsX30, w ∈ wsX3_run := by decide +kernel
  have hl := lv_entry ([.ref (ad 0), .int p1]) (n := 5) (Nat.le_of_ble_eq_true rfl)
  rw [lg_entry_eq]
  generalize (lg_sl ([.ref (ad 0), .int p1]) ++ List.replicate (5 - (lg_sl ([.ref (ad 0), .int p1])).length) Slot.unset).toArray = ls at hl ⊢
  have hl : lv_has ls 5 [(0, .ref (ad 0)), (1, .int p1)] := hl
  obtain ⟨H, hH⟩ : ∃ H, H = s.heap := ⟨_, rfl⟩
  rw [← hH] at hP
  have hS : va_S A s.heap H [] := by rw [hH]; exact hS
  rw [← hH]
  generalize ([] : List Loc) = locs at hS ⊢
  refine lv_aload_n hx hb dX3_run_0 rfl (lv_at hl 0 rfl) ?_
  refine lv_iload_n hx hb dX3_run_1 rfl (lv_at hl 1 rfl) ?_
  refine lv_if_lt (tgt := 23) hx hb dX3_run_2 (by decide) (fun c_2 => ?_) (fun c_2 => ?_)
  · skip
    refine lv_iconst (v := 1) hx hb dX3_run_23 (by decide) ?_
    refine lv_goto (tgt := 28) hx hb dX3_run_24 (by decide) ?_
    refine m_pO (ty := .int) (v := 1) hx hb hts hinX3 hown hK hap hP hS 0 (by decide) (hts (.fieldLink RX3 69 "FeedbackQueuesModel" "thrown" "I") (by decide +kernel)) rfl (by decide +kernel) rfl rfl (mOf_0 ad S _) (Nat.le_of_ble_eq_true rfl) dX3_run_28 (fun H locs hP hS => ?_)
    obtain ⟨S1, eS1⟩ : ∃ z : Ms, z = mP S 0 1 := ⟨_, rfl⟩
    rw [← eS1] at hP
    refine lv_iconst (v := 0) hx hb dX3_run_31 (by decide) ?_
    refine lv_istore_n (lv' := [(2, .int 0), (0, .ref (ad 0)), (1, .int p1)]) hx hb dX3_run_32 rfl hl (by decide) rfl (fun ls hl => ?_)
    refine lv_iconst (v := 0) hx hb dX3_run_33 (by decide) ?_
    refine lv_istore_n (lv' := [(3, .int 0), (2, .int 0), (0, .ref (ad 0)), (1, .int p1)]) hx hb dX3_run_34 rfl hl (by decide) rfl (fun ls hl => ?_)
    refine lv_iload_n hx hb dX3_run_35 rfl (lv_at hl 0 rfl) ?_
    refine lv_iload_n hx hb dX3_run_36 rfl (lv_at hl 3 rfl) ?_
    refine lv_icmp_ge (tgt := 146) hx hb dX3_run_37 (by decide) (fun c_37 => ?_) (fun c_37 => ?_)
    · skip
      refine lv_iload_n hx hb dX3_run_146 rfl (lv_at hl 1 rfl) ?_
      have hF : F_X3_run S p1 = (S1, 0) := by subst eS1; simp only [F_X3_run, if_pos c_2, if_pos c_37]
      rw [hF]
      exact m_iret hx hb hr hlocks hP hS dX3_run_147 (fun _ h => h)
    · skip
      refine lv_aload_n hx hb dX3_run_40 rfl (lv_at hl 2 rfl) ?_
      refine m_gO hx hb hts hinX3 hown hK hP 0 (by decide) (hts (.fieldLink RX3 69 "FeedbackQueuesModel" "thrown" "I") (by decide +kernel)) rfl dX3_run_41 ?_
      rw [show mO S1 0 = 1 from by rw [eS1]; rfl]
      refine lv_if_ne (tgt := 146) hx hb dX3_run_44 (by decide) (fun c_44 => ?_) (fun c_44 => ?_)
      rotate_left
      · exact absurd c_44 (by decide)
      refine lv_iload_n hx hb dX3_run_146 rfl (lv_at hl 1 rfl) ?_
      have hF : F_X3_run S p1 = (S1, 0) := by subst eS1; simp only [F_X3_run, if_pos c_2, if_neg c_37]
      rw [hF]
      exact m_iret hx hb hr hlocks hP hS dX3_run_147 (fun _ h => h)
  · skip
    refine lv_iload_n hx hb dX3_run_5 rfl (lv_at hl 1 rfl) ?_
    refine lv_sipush (v := 30000) hx hb dX3_run_6 (by decide) ?_
    refine lv_icmp_gt (tgt := 23) hx hb dX3_run_9 (by decide) (fun c_9 => ?_) (fun c_9 => ?_)
    · skip
      refine lv_iconst (v := 1) hx hb dX3_run_23 (by decide) ?_
      refine lv_goto (tgt := 28) hx hb dX3_run_24 (by decide) ?_
      refine m_pO (ty := .int) (v := 1) hx hb hts hinX3 hown hK hap hP hS 0 (by decide) (hts (.fieldLink RX3 69 "FeedbackQueuesModel" "thrown" "I") (by decide +kernel)) rfl (by decide +kernel) rfl rfl (mOf_0 ad S _) (Nat.le_of_ble_eq_true rfl) dX3_run_28 (fun H locs hP hS => ?_)
      obtain ⟨S2, eS2⟩ : ∃ z : Ms, z = mP S 0 1 := ⟨_, rfl⟩
      rw [← eS2] at hP
      refine lv_iconst (v := 0) hx hb dX3_run_31 (by decide) ?_
      refine lv_istore_n (lv' := [(2, .int 0), (0, .ref (ad 0)), (1, .int p1)]) hx hb dX3_run_32 rfl hl (by decide) rfl (fun ls hl => ?_)
      refine lv_iconst (v := 0) hx hb dX3_run_33 (by decide) ?_
      refine lv_istore_n (lv' := [(3, .int 0), (2, .int 0), (0, .ref (ad 0)), (1, .int p1)]) hx hb dX3_run_34 rfl hl (by decide) rfl (fun ls hl => ?_)
      refine lv_iload_n hx hb dX3_run_35 rfl (lv_at hl 0 rfl) ?_
      refine lv_iload_n hx hb dX3_run_36 rfl (lv_at hl 3 rfl) ?_
      refine lv_icmp_ge (tgt := 146) hx hb dX3_run_37 (by decide) (fun c_37 => ?_) (fun c_37 => ?_)
      · skip
        refine lv_iload_n hx hb dX3_run_146 rfl (lv_at hl 1 rfl) ?_
        have hF : F_X3_run S p1 = (S2, 0) := by subst eS2; simp only [F_X3_run, if_neg c_2, if_pos c_9, if_pos c_37]
        rw [hF]
        exact m_iret hx hb hr hlocks hP hS dX3_run_147 (fun _ h => h)
      · skip
        refine lv_aload_n hx hb dX3_run_40 rfl (lv_at hl 2 rfl) ?_
        refine m_gO hx hb hts hinX3 hown hK hP 0 (by decide) (hts (.fieldLink RX3 69 "FeedbackQueuesModel" "thrown" "I") (by decide +kernel)) rfl dX3_run_41 ?_
        rw [show mO S2 0 = 1 from by rw [eS2]; rfl]
        refine lv_if_ne (tgt := 146) hx hb dX3_run_44 (by decide) (fun c_44 => ?_) (fun c_44 => ?_)
        rotate_left
        · exact absurd c_44 (by decide)
        refine lv_iload_n hx hb dX3_run_146 rfl (lv_at hl 1 rfl) ?_
        have hF : F_X3_run S p1 = (S2, 0) := by subst eS2; simp only [F_X3_run, if_neg c_2, if_pos c_9, if_neg c_37]
        rw [hF]
        exact m_iret hx hb hr hlocks hP hS dX3_run_147 (fun _ h => h)
    · skip
      refine lv_aload_n hx hb dX3_run_12 rfl (lv_at hl 0 rfl) ?_
      refine m_gO hx hb hts hinX3 hown hK hP 9 (by decide) (hts (.fieldLink RX3 82 "FeedbackQueuesModel" "time" "I") (by decide +kernel)) rfl dX3_run_13 ?_
      refine lv_iload_n hx hb dX3_run_16 rfl (lv_at hl 1 rfl) ?_
      refine lv_iadd hx hb dX3_run_17 ?_
      refine lv_ldc (v := 100000) hx hb hown (hts (.constant RX3 113 (100000)) (by decide +kernel)) dX3_run_18 ?_
      refine lv_icmp_le (tgt := 27) hx hb dX3_run_20 (by decide) (fun c_20 => ?_) (fun c_20 => ?_)
      · skip
        refine lv_iconst (v := 0) hx hb dX3_run_27 (by decide) ?_
        refine m_pO (ty := .int) (v := 0) hx hb hts hinX3 hown hK hap hP hS 0 (by decide) (hts (.fieldLink RX3 69 "FeedbackQueuesModel" "thrown" "I") (by decide +kernel)) rfl (by decide +kernel) rfl rfl (mOf_0 ad S _) (Nat.le_of_ble_eq_true rfl) dX3_run_28 (fun H locs hP hS => ?_)
        obtain ⟨S3, eS3⟩ : ∃ z : Ms, z = mP S 0 0 := ⟨_, rfl⟩
        rw [← eS3] at hP
        have hok1 : okR N L b T S3 := by rw [eS3]; exact okR_mP hok
        refine lv_iconst (v := 0) hx hb dX3_run_31 (by decide) ?_
        refine lv_istore_n (lv' := [(2, .int 0), (0, .ref (ad 0)), (1, .int p1)]) hx hb dX3_run_32 rfl hl (by decide) rfl (fun ls hl => ?_)
        refine lv_iconst (v := 0) hx hb dX3_run_33 (by decide) ?_
        refine lv_istore_n (lv' := [(3, .int 0), (2, .int 0), (0, .ref (ad 0)), (1, .int p1)]) hx hb dX3_run_34 rfl hl (by decide) rfl (fun ls hl => ?_)
        have hp9 := le_ix (n := 30000) (by decide) (by omega) c_2 (Int32.not_lt.mp c_9)
        have hpn : p1 = nI (p1).toNatClampNeg := hp9.nI
        have hp3 := hp9.2.2
        have lp_35 : ∀ (n t : Nat) (Z : Ms) (w : Int32) (H : Heap) (locs : List Loc) (ls : Array Slot), t + n = (p1).toNatClampNeg → okR N L (b + t) (T + t) Z → F_X3_run S p1 = L_X3_run_35 p1 n t Z w → va_P D vwCl (mwl cy ad Z) H → va_S A s.heap H locs → lv_has ls 5 [(3, .int (nI t)), (2, .int w), (0, .ref (ad 0)), (1, .int p1)] → W p l e (headSpec wsX3_run { frames := 2, cells := 0, slots := 0, locals := 46 }).room s m ([.ref (ad 0), .int p1] : List Value).toArray below meth c H locs 0 0 (MQ below (va_Qi (fun (x : Int32) (_ : Unit) => x = (F_X3_run S p1).2) (fun _ t => mPost D cy ad (F_X3_run S p1).1 t) A) ([.ref (ad 0), .int p1] : List Value).toArray s 0 0 A) (F0 m 35 ls []) := by
          intro n
          induction n with
          | zero =>
            intro t Z w H locs ls hk hI hT hP hS hl
            refine lv_iload_n hx hb dX3_run_35 rfl (lv_at hl 0 rfl) ?_
            refine lv_iload_n hx hb dX3_run_36 rfl (lv_at hl 3 rfl) ?_
            refine lv_icmp_ge (tgt := 146) hx hb dX3_run_37 (by decide) (fun c_37 => ?_) (fun c_37 => ?_)
            rotate_left
            · exact absurd (by rw [hpn]; exact nI_le (by omega) (by omega)) c_37
            refine lv_iload_n hx hb dX3_run_146 rfl (lv_at hl 1 rfl) ?_
            have hF : F_X3_run S p1 = (Z, w) := hT.trans (by simp only [L_X3_run_35])
            rw [hF]
            exact m_iret hx hb hr hlocks hP hS dX3_run_147 (fun _ h => h)
          | succ n ih =>
            intro t Z w H locs ls hk hI hT hP hS hl
            have ht : t < (p1).toNatClampNeg := by omega
            have hnow : mO Z 9 = nI (T + t) := hI.2.2.1
            refine lv_iload_n hx hb dX3_run_35 rfl (lv_at hl 0 rfl) ?_
            refine lv_iload_n hx hb dX3_run_36 rfl (lv_at hl 3 rfl) ?_
            refine lv_icmp_ge (tgt := 146) hx hb dX3_run_37 (by decide) (fun c_37 => ?_) (fun c_37 => ?_)
            · exact absurd c_37 (by rw [hpn]; exact nI_ge (by omega) (by omega))
            refine lv_aload_n hx hb dX3_run_40 rfl (lv_at hl 2 rfl) ?_
            refine m_gO hx hb hts hinX3 hown hK hP 0 (by decide) (hts (.fieldLink RX3 69 "FeedbackQueuesModel" "thrown" "I") (by decide +kernel)) rfl dX3_run_41 ?_
            refine lv_if_ne (tgt := 146) hx hb dX3_run_44 (by decide) (fun c_44 => ?_) (fun c_44 => ?_)
            · exact absurd hI.2.1 c_44
            refine lv_aload_n hx hb dX3_run_47 rfl (lv_at hl 2 rfl) ?_
            refine m_gO hx hb hts hinX3 hown hK hP 9 (by decide) (hts (.fieldLink RX3 82 "FeedbackQueuesModel" "time" "I") (by decide +kernel)) rfl dX3_run_48 ?_
            refine lv_istore (lv' := [(4, .int (mO Z 9)), (3, .int (nI t)), (2, .int w), (0, .ref (ad 0)), (1, .int p1)]) hx hb dX3_run_51 hl (by decide) rfl (fun ls hl => ?_)
            refine lv_aload_n hx hb dX3_run_53 rfl (lv_at hl 3 rfl) ?_
            refine m_gO hx hb hts hinX3 hown hK hP 4 (by decide) (hts (.fieldLink RX3 88 "FeedbackQueuesModel" "period" "I") (by decide +kernel)) rfl dX3_run_54 ?_
            refine lv_if_le (tgt := 79) hx hb dX3_run_57 (by decide) (fun c_57 => ?_) (fun c_57 => ?_)
            · skip
              refine lv_aload_n hx hb dX3_run_79 rfl (lv_at hl 3 rfl) ?_
              refine lv_iload hx hb dX3_run_80 (lv_at hl 0 rfl) ?_
              refine m_cVv (As := [.int (mO Z 9)]) (rest := []) ⟨hx, hb, hml, hown, hts⟩ (k_X3_come l D cy ad Z (mO Z 9)  hI.1 hnow hI.2.2.2 (by omega)) (cwV 1 hts gX3_run_X3_come rfl rfl rfl (by decide +kernel) ⟨Nat.le_of_ble_eq_true rfl, Nat.le_of_ble_eq_true rfl⟩) hK hap hA hP hS rfl hl.1 rfl (Nat.le_of_ble_eq_true rfl) dX3_run_82 ⟨Nat.zero_le _, Nat.zero_le _⟩ (fun H locs hP hS => ?_)
              obtain ⟨S4, eS4⟩ : ∃ z : Ms, z = F_X3_come Z (mO Z 9) := ⟨_, rfl⟩
              rw [← eS4] at hP
              have hok2 : okR1 N L (b + t) (T + t) S4 := by rw [eS4]; exact R_come hI hnow (by omega)
              refine lv_aload_n hx hb dX3_run_85 rfl (lv_at hl 3 rfl) ?_
              refine lv_iload hx hb dX3_run_86 (lv_at hl 0 rfl) ?_
              refine m_cVv (As := [.int (mO Z 9)]) (rest := []) ⟨hx, hb, hml, hown, hts⟩ (k_X3_comeBack l D cy ad S4 (mO Z 9)  hok2.1) (cwV 1 hts gX3_run_X3_comeBack rfl rfl rfl (by decide +kernel) ⟨Nat.le_of_ble_eq_true rfl, Nat.le_of_ble_eq_true rfl⟩) hK hap hA hP hS rfl hl.1 rfl (Nat.le_of_ble_eq_true rfl) dX3_run_88 ⟨Nat.zero_le _, Nat.zero_le _⟩ (fun H locs hP hS => ?_)
              obtain ⟨S5, eS5⟩ : ∃ z : Ms, z = F_X3_comeBack S4 (mO Z 9) := ⟨_, rfl⟩
              rw [← eS5] at hP
              have hok3 : okR1 N L (b + t) (T + t) S5 := by rw [eS5]; exact R1_comeBack hok2
              refine lv_aload_n hx hb dX3_run_91 rfl (lv_at hl 3 rfl) ?_
              refine lv_iload hx hb dX3_run_92 (lv_at hl 0 rfl) ?_
              refine m_cVv (As := [.int (mO Z 9)]) (rest := []) ⟨hx, hb, hml, hown, hts⟩ (k_X3_choose l D cy ad S5 (mO Z 9)  hok3.1 (by omega)) (cwV 1 hts gX3_run_X3_choose rfl rfl rfl (by decide +kernel) ⟨Nat.le_of_ble_eq_true rfl, Nat.le_of_ble_eq_true rfl⟩) hK hap hA hP hS rfl hl.1 rfl (Nat.le_of_ble_eq_true rfl) dX3_run_94 ⟨Nat.zero_le _, Nat.zero_le _⟩ (fun H locs hP hS => ?_)
              obtain ⟨S6, eS6⟩ : ∃ z : Ms, z = F_X3_choose S5 (mO Z 9) := ⟨_, rfl⟩
              rw [← eS6] at hP
              have hok4 : okR1 N L (b + t + 1) (T + t) S6 := by rw [eS6]; exact R1_choose hok3
              refine lv_aload_n hx hb dX3_run_97 rfl (lv_at hl 3 rfl) ?_
              refine m_cVv (As := []) (rest := []) ⟨hx, hb, hml, hown, hts⟩ (k_X3_count l D cy ad S6   hok4.1) (cwV 0 hts gX3_run_X3_count rfl rfl rfl (by decide +kernel) ⟨Nat.le_of_ble_eq_true rfl, Nat.le_of_ble_eq_true rfl⟩) hK hap hA hP hS rfl hl.1 rfl (Nat.le_of_ble_eq_true rfl) dX3_run_98 ⟨Nat.zero_le _, Nat.zero_le _⟩ (fun H locs hP hS => ?_)
              obtain ⟨S7, eS7⟩ : ∃ z : Ms, z = F_X3_count S6 := ⟨_, rfl⟩
              rw [← eS7] at hP
              have hok5 : okR1 N L (b + t + 1) (T + t) S7 := by rw [eS7]; exact R1_count hok4
              refine lv_aload_n hx hb dX3_run_101 rfl (lv_at hl 3 rfl) ?_
              refine m_gO hx hb hts hinX3 hown hK hP 10 (by decide) (hts (.fieldLink RX3 85 "FeedbackQueuesModel" "running" "I") (by decide +kernel)) rfl dX3_run_102 ?_
              refine lv_if_lt (tgt := 117) hx hb dX3_run_105 (by decide) (fun c_105 => ?_) (fun c_105 => ?_)
              · skip
                refine lv_iinc (v := w + 1) (lv' := [(2, .int (w + 1)), (4, .int (mO Z 9)), (3, .int (nI t)), (0, .ref (ad 0)), (1, .int p1)]) hx hb dX3_run_117 hl (k := 2) rfl (rfl) (by decide) rfl (fun ls hl => ?_)
                refine lv_aload_n hx hb dX3_run_120 rfl (lv_at hl 3 rfl) ?_
                refine m_gO hx hb hts hinX3 hown hK hP 22 (by decide) (hts (.fieldLink RX3 59 "FeedbackQueuesModel" "all" "[I") (by decide +kernel)) rfl dX3_run_121 ?_
                refine lv_iconst (v := 1) hx hb dX3_run_124 (by decide) ?_
                refine lv_dup2_11 hx hb dX3_run_125 rfl rfl ?_
                refine m_iA (d := 17) (a := 22) (n := 4) (k := 1) hx hb hK hP (by decide) rfl rfl (ix_lit (by decide) (by omega) (by omega)) dX3_run_126 ?_
                refine lv_iconst (v := 1) hx hb dX3_run_127 (by decide) ?_
                refine lv_iadd hx hb dX3_run_128 ?_
                refine m_sA (d := 17) (a := 22) (n := 4) (k := 1) (v := (mA S7 22 1) + 1) hx hb hK hap hP hS (by decide) rfl rfl (ix_lit (by decide) (by omega) (by omega)) dX3_run_129 (fun H locs hP hS => ?_)
                obtain ⟨S8, eS8⟩ : ∃ z : Ms, z = mQ S7 22 1 ((mA S7 22 1) + 1) := ⟨_, rfl⟩
                rw [← eS8] at hP
                have hok6 : okR1 N L (b + t + 1) (T + t) S8 := by rw [eS8]; exact okR1_mQ hok5 (by decide)
                refine lv_aload_n hx hb dX3_run_130 rfl (lv_at hl 3 rfl) ?_
                refine lv_dup hx hb dX3_run_131 rfl ?_
                refine m_gO hx hb hts hinX3 hown hK hP 9 (by decide) (hts (.fieldLink RX3 82 "FeedbackQueuesModel" "time" "I") (by decide +kernel)) rfl dX3_run_132 ?_
                refine lv_iconst (v := 1) hx hb dX3_run_135 (by decide) ?_
                refine lv_iadd hx hb dX3_run_136 ?_
                refine m_pO (ty := .int) (v := (mO S8 9) + 1) hx hb hts hinX3 hown hK hap hP hS 9 (by decide) (hts (.fieldLink RX3 82 "FeedbackQueuesModel" "time" "I") (by decide +kernel)) rfl (by decide +kernel) rfl rfl (mOf_9 ad S8 _) (Nat.le_of_ble_eq_true rfl) dX3_run_137 (fun H locs hP hS => ?_)
                obtain ⟨S9, eS9⟩ : ∃ z : Ms, z = mP S8 9 ((mO S8 9) + 1) := ⟨_, rfl⟩
                rw [← eS9] at hP
                have hok7 : okR N L (b + (t + 1)) (T + (t + 1)) S9 := by rw [eS9]; exact okR1_time hok6 rfl
                refine lv_iinc (v := nI (t + 1)) (lv' := [(3, .int (nI (t + 1))), (2, .int (w + 1)), (4, .int (mO Z 9)), (0, .ref (ad 0)), (1, .int p1)]) hx hb dX3_run_140 hl (k := 2) rfl (inc_nI t) (by decide) rfl (fun ls hl => ?_)
                refine lv_goto (tgt := 35) hx hb dX3_run_143 (by decide) ?_
                exact ih (t + 1) S9 (w + 1) H locs ls (by omega) (hok7) (hT.trans (by subst eS9 eS8 eS7 eS6 eS5 eS4; simp only [L_X3_run_35, if_pos c_57, if_pos c_105])) hP hS (lv_sub hl [0, 1, 3, 4] rfl)
              · skip
                refine lv_aload_n hx hb dX3_run_108 rfl (lv_at hl 3 rfl) ?_
                refine lv_iload hx hb dX3_run_109 (lv_at hl 0 rfl) ?_
                refine m_cVv (As := [.int (mO Z 9)]) (rest := []) ⟨hx, hb, hml, hown, hts⟩ (k_X3_work l D cy ad S7 (mO Z 9)  hok5.1 c_105) (cwV 1 hts gX3_run_X3_work rfl rfl rfl (by decide +kernel) ⟨Nat.le_of_ble_eq_true rfl, Nat.le_of_ble_eq_true rfl⟩) hK hap hA hP hS rfl hl.1 rfl (Nat.le_of_ble_eq_true rfl) dX3_run_111 ⟨Nat.zero_le _, Nat.zero_le _⟩ (fun H locs hP hS => ?_)
                obtain ⟨S10, eS10⟩ : ∃ z : Ms, z = F_X3_work S7 (mO Z 9) := ⟨_, rfl⟩
                rw [← eS10] at hP
                have hok8 : okR1 N L (b + t + 1) (T + t) S10 := by rw [eS10]; exact R1_work hok5 c_105
                refine lv_goto (tgt := 130) hx hb dX3_run_114 (by decide) ?_
                refine lv_aload_n hx hb dX3_run_130 rfl (lv_at hl 3 rfl) ?_
                refine lv_dup hx hb dX3_run_131 rfl ?_
                refine m_gO hx hb hts hinX3 hown hK hP 9 (by decide) (hts (.fieldLink RX3 82 "FeedbackQueuesModel" "time" "I") (by decide +kernel)) rfl dX3_run_132 ?_
                refine lv_iconst (v := 1) hx hb dX3_run_135 (by decide) ?_
                refine lv_iadd hx hb dX3_run_136 ?_
                refine m_pO (ty := .int) (v := (mO S10 9) + 1) hx hb hts hinX3 hown hK hap hP hS 9 (by decide) (hts (.fieldLink RX3 82 "FeedbackQueuesModel" "time" "I") (by decide +kernel)) rfl (by decide +kernel) rfl rfl (mOf_9 ad S10 _) (Nat.le_of_ble_eq_true rfl) dX3_run_137 (fun H locs hP hS => ?_)
                obtain ⟨S11, eS11⟩ : ∃ z : Ms, z = mP S10 9 ((mO S10 9) + 1) := ⟨_, rfl⟩
                rw [← eS11] at hP
                have hok9 : okR N L (b + (t + 1)) (T + (t + 1)) S11 := by rw [eS11]; exact okR1_time hok8 rfl
                refine lv_iinc (v := nI (t + 1)) (lv' := [(3, .int (nI (t + 1))), (4, .int (mO Z 9)), (2, .int w), (0, .ref (ad 0)), (1, .int p1)]) hx hb dX3_run_140 hl (k := 1) rfl (inc_nI t) (by decide) rfl (fun ls hl => ?_)
                refine lv_goto (tgt := 35) hx hb dX3_run_143 (by decide) ?_
                exact ih (t + 1) S11 w H locs ls (by omega) (hok9) (hT.trans (by subst eS11 eS10 eS7 eS6 eS5 eS4; simp only [L_X3_run_35, if_pos c_57, if_neg c_105])) hP hS (lv_sub hl [0, 2, 3, 4] rfl)
            · skip
              refine lv_iload hx hb dX3_run_60 (lv_at hl 0 rfl) ?_
              refine lv_if_le (tgt := 79) hx hb dX3_run_62 (by decide) (fun c_62 => ?_) (fun c_62 => ?_)
              · skip
                refine lv_aload_n hx hb dX3_run_79 rfl (lv_at hl 3 rfl) ?_
                refine lv_iload hx hb dX3_run_80 (lv_at hl 0 rfl) ?_
                refine m_cVv (As := [.int (mO Z 9)]) (rest := []) ⟨hx, hb, hml, hown, hts⟩ (k_X3_come l D cy ad Z (mO Z 9)  hI.1 hnow hI.2.2.2 (by omega)) (cwV 1 hts gX3_run_X3_come rfl rfl rfl (by decide +kernel) ⟨Nat.le_of_ble_eq_true rfl, Nat.le_of_ble_eq_true rfl⟩) hK hap hA hP hS rfl hl.1 rfl (Nat.le_of_ble_eq_true rfl) dX3_run_82 ⟨Nat.zero_le _, Nat.zero_le _⟩ (fun H locs hP hS => ?_)
                obtain ⟨S12, eS12⟩ : ∃ z : Ms, z = F_X3_come Z (mO Z 9) := ⟨_, rfl⟩
                rw [← eS12] at hP
                have hok10 : okR1 N L (b + t) (T + t) S12 := by rw [eS12]; exact R_come hI hnow (by omega)
                refine lv_aload_n hx hb dX3_run_85 rfl (lv_at hl 3 rfl) ?_
                refine lv_iload hx hb dX3_run_86 (lv_at hl 0 rfl) ?_
                refine m_cVv (As := [.int (mO Z 9)]) (rest := []) ⟨hx, hb, hml, hown, hts⟩ (k_X3_comeBack l D cy ad S12 (mO Z 9)  hok10.1) (cwV 1 hts gX3_run_X3_comeBack rfl rfl rfl (by decide +kernel) ⟨Nat.le_of_ble_eq_true rfl, Nat.le_of_ble_eq_true rfl⟩) hK hap hA hP hS rfl hl.1 rfl (Nat.le_of_ble_eq_true rfl) dX3_run_88 ⟨Nat.zero_le _, Nat.zero_le _⟩ (fun H locs hP hS => ?_)
                obtain ⟨S13, eS13⟩ : ∃ z : Ms, z = F_X3_comeBack S12 (mO Z 9) := ⟨_, rfl⟩
                rw [← eS13] at hP
                have hok11 : okR1 N L (b + t) (T + t) S13 := by rw [eS13]; exact R1_comeBack hok10
                refine lv_aload_n hx hb dX3_run_91 rfl (lv_at hl 3 rfl) ?_
                refine lv_iload hx hb dX3_run_92 (lv_at hl 0 rfl) ?_
                refine m_cVv (As := [.int (mO Z 9)]) (rest := []) ⟨hx, hb, hml, hown, hts⟩ (k_X3_choose l D cy ad S13 (mO Z 9)  hok11.1 (by omega)) (cwV 1 hts gX3_run_X3_choose rfl rfl rfl (by decide +kernel) ⟨Nat.le_of_ble_eq_true rfl, Nat.le_of_ble_eq_true rfl⟩) hK hap hA hP hS rfl hl.1 rfl (Nat.le_of_ble_eq_true rfl) dX3_run_94 ⟨Nat.zero_le _, Nat.zero_le _⟩ (fun H locs hP hS => ?_)
                obtain ⟨S14, eS14⟩ : ∃ z : Ms, z = F_X3_choose S13 (mO Z 9) := ⟨_, rfl⟩
                rw [← eS14] at hP
                have hok12 : okR1 N L (b + t + 1) (T + t) S14 := by rw [eS14]; exact R1_choose hok11
                refine lv_aload_n hx hb dX3_run_97 rfl (lv_at hl 3 rfl) ?_
                refine m_cVv (As := []) (rest := []) ⟨hx, hb, hml, hown, hts⟩ (k_X3_count l D cy ad S14   hok12.1) (cwV 0 hts gX3_run_X3_count rfl rfl rfl (by decide +kernel) ⟨Nat.le_of_ble_eq_true rfl, Nat.le_of_ble_eq_true rfl⟩) hK hap hA hP hS rfl hl.1 rfl (Nat.le_of_ble_eq_true rfl) dX3_run_98 ⟨Nat.zero_le _, Nat.zero_le _⟩ (fun H locs hP hS => ?_)
                obtain ⟨S15, eS15⟩ : ∃ z : Ms, z = F_X3_count S14 := ⟨_, rfl⟩
                rw [← eS15] at hP
                have hok13 : okR1 N L (b + t + 1) (T + t) S15 := by rw [eS15]; exact R1_count hok12
                refine lv_aload_n hx hb dX3_run_101 rfl (lv_at hl 3 rfl) ?_
                refine m_gO hx hb hts hinX3 hown hK hP 10 (by decide) (hts (.fieldLink RX3 85 "FeedbackQueuesModel" "running" "I") (by decide +kernel)) rfl dX3_run_102 ?_
                refine lv_if_lt (tgt := 117) hx hb dX3_run_105 (by decide) (fun c_105 => ?_) (fun c_105 => ?_)
                · skip
                  refine lv_iinc (v := w + 1) (lv' := [(2, .int (w + 1)), (4, .int (mO Z 9)), (3, .int (nI t)), (0, .ref (ad 0)), (1, .int p1)]) hx hb dX3_run_117 hl (k := 2) rfl (rfl) (by decide) rfl (fun ls hl => ?_)
                  refine lv_aload_n hx hb dX3_run_120 rfl (lv_at hl 3 rfl) ?_
                  refine m_gO hx hb hts hinX3 hown hK hP 22 (by decide) (hts (.fieldLink RX3 59 "FeedbackQueuesModel" "all" "[I") (by decide +kernel)) rfl dX3_run_121 ?_
                  refine lv_iconst (v := 1) hx hb dX3_run_124 (by decide) ?_
                  refine lv_dup2_11 hx hb dX3_run_125 rfl rfl ?_
                  refine m_iA (d := 17) (a := 22) (n := 4) (k := 1) hx hb hK hP (by decide) rfl rfl (ix_lit (by decide) (by omega) (by omega)) dX3_run_126 ?_
                  refine lv_iconst (v := 1) hx hb dX3_run_127 (by decide) ?_
                  refine lv_iadd hx hb dX3_run_128 ?_
                  refine m_sA (d := 17) (a := 22) (n := 4) (k := 1) (v := (mA S15 22 1) + 1) hx hb hK hap hP hS (by decide) rfl rfl (ix_lit (by decide) (by omega) (by omega)) dX3_run_129 (fun H locs hP hS => ?_)
                  obtain ⟨S16, eS16⟩ : ∃ z : Ms, z = mQ S15 22 1 ((mA S15 22 1) + 1) := ⟨_, rfl⟩
                  rw [← eS16] at hP
                  have hok14 : okR1 N L (b + t + 1) (T + t) S16 := by rw [eS16]; exact okR1_mQ hok13 (by decide)
                  refine lv_aload_n hx hb dX3_run_130 rfl (lv_at hl 3 rfl) ?_
                  refine lv_dup hx hb dX3_run_131 rfl ?_
                  refine m_gO hx hb hts hinX3 hown hK hP 9 (by decide) (hts (.fieldLink RX3 82 "FeedbackQueuesModel" "time" "I") (by decide +kernel)) rfl dX3_run_132 ?_
                  refine lv_iconst (v := 1) hx hb dX3_run_135 (by decide) ?_
                  refine lv_iadd hx hb dX3_run_136 ?_
                  refine m_pO (ty := .int) (v := (mO S16 9) + 1) hx hb hts hinX3 hown hK hap hP hS 9 (by decide) (hts (.fieldLink RX3 82 "FeedbackQueuesModel" "time" "I") (by decide +kernel)) rfl (by decide +kernel) rfl rfl (mOf_9 ad S16 _) (Nat.le_of_ble_eq_true rfl) dX3_run_137 (fun H locs hP hS => ?_)
                  obtain ⟨S17, eS17⟩ : ∃ z : Ms, z = mP S16 9 ((mO S16 9) + 1) := ⟨_, rfl⟩
                  rw [← eS17] at hP
                  have hok15 : okR N L (b + (t + 1)) (T + (t + 1)) S17 := by rw [eS17]; exact okR1_time hok14 rfl
                  refine lv_iinc (v := nI (t + 1)) (lv' := [(3, .int (nI (t + 1))), (2, .int (w + 1)), (4, .int (mO Z 9)), (0, .ref (ad 0)), (1, .int p1)]) hx hb dX3_run_140 hl (k := 2) rfl (inc_nI t) (by decide) rfl (fun ls hl => ?_)
                  refine lv_goto (tgt := 35) hx hb dX3_run_143 (by decide) ?_
                  exact ih (t + 1) S17 (w + 1) H locs ls (by omega) (hok15) (hT.trans (by subst eS17 eS16 eS15 eS14 eS13 eS12; simp only [L_X3_run_35, if_neg c_57, if_pos c_62, if_pos c_105])) hP hS (lv_sub hl [0, 1, 3, 4] rfl)
                · skip
                  refine lv_aload_n hx hb dX3_run_108 rfl (lv_at hl 3 rfl) ?_
                  refine lv_iload hx hb dX3_run_109 (lv_at hl 0 rfl) ?_
                  refine m_cVv (As := [.int (mO Z 9)]) (rest := []) ⟨hx, hb, hml, hown, hts⟩ (k_X3_work l D cy ad S15 (mO Z 9)  hok13.1 c_105) (cwV 1 hts gX3_run_X3_work rfl rfl rfl (by decide +kernel) ⟨Nat.le_of_ble_eq_true rfl, Nat.le_of_ble_eq_true rfl⟩) hK hap hA hP hS rfl hl.1 rfl (Nat.le_of_ble_eq_true rfl) dX3_run_111 ⟨Nat.zero_le _, Nat.zero_le _⟩ (fun H locs hP hS => ?_)
                  obtain ⟨S18, eS18⟩ : ∃ z : Ms, z = F_X3_work S15 (mO Z 9) := ⟨_, rfl⟩
                  rw [← eS18] at hP
                  have hok16 : okR1 N L (b + t + 1) (T + t) S18 := by rw [eS18]; exact R1_work hok13 c_105
                  refine lv_goto (tgt := 130) hx hb dX3_run_114 (by decide) ?_
                  refine lv_aload_n hx hb dX3_run_130 rfl (lv_at hl 3 rfl) ?_
                  refine lv_dup hx hb dX3_run_131 rfl ?_
                  refine m_gO hx hb hts hinX3 hown hK hP 9 (by decide) (hts (.fieldLink RX3 82 "FeedbackQueuesModel" "time" "I") (by decide +kernel)) rfl dX3_run_132 ?_
                  refine lv_iconst (v := 1) hx hb dX3_run_135 (by decide) ?_
                  refine lv_iadd hx hb dX3_run_136 ?_
                  refine m_pO (ty := .int) (v := (mO S18 9) + 1) hx hb hts hinX3 hown hK hap hP hS 9 (by decide) (hts (.fieldLink RX3 82 "FeedbackQueuesModel" "time" "I") (by decide +kernel)) rfl (by decide +kernel) rfl rfl (mOf_9 ad S18 _) (Nat.le_of_ble_eq_true rfl) dX3_run_137 (fun H locs hP hS => ?_)
                  obtain ⟨S19, eS19⟩ : ∃ z : Ms, z = mP S18 9 ((mO S18 9) + 1) := ⟨_, rfl⟩
                  rw [← eS19] at hP
                  have hok17 : okR N L (b + (t + 1)) (T + (t + 1)) S19 := by rw [eS19]; exact okR1_time hok16 rfl
                  refine lv_iinc (v := nI (t + 1)) (lv' := [(3, .int (nI (t + 1))), (4, .int (mO Z 9)), (2, .int w), (0, .ref (ad 0)), (1, .int p1)]) hx hb dX3_run_140 hl (k := 1) rfl (inc_nI t) (by decide) rfl (fun ls hl => ?_)
                  refine lv_goto (tgt := 35) hx hb dX3_run_143 (by decide) ?_
                  exact ih (t + 1) S19 w H locs ls (by omega) (hok17) (hT.trans (by subst eS19 eS18 eS15 eS14 eS13 eS12; simp only [L_X3_run_35, if_neg c_57, if_pos c_62, if_neg c_105])) hP hS (lv_sub hl [0, 2, 3, 4] rfl)
              · skip
                refine lv_iload hx hb dX3_run_65 (lv_at hl 0 rfl) ?_
                refine lv_aload_n hx hb dX3_run_67 rfl (lv_at hl 3 rfl) ?_
                refine m_gO hx hb hts hinX3 hown hK hP 4 (by decide) (hts (.fieldLink RX3 88 "FeedbackQueuesModel" "period" "I") (by decide +kernel)) rfl dX3_run_68 ?_
                refine lv_irem hx hb dX3_run_71 (pos_ne c_57) ?_
                refine lv_if_ne (tgt := 79) hx hb dX3_run_72 (by decide) (fun c_72 => ?_) (fun c_72 => ?_)
                · skip
                  refine lv_aload_n hx hb dX3_run_79 rfl (lv_at hl 3 rfl) ?_
                  refine lv_iload hx hb dX3_run_80 (lv_at hl 0 rfl) ?_
                  refine m_cVv (As := [.int (mO Z 9)]) (rest := []) ⟨hx, hb, hml, hown, hts⟩ (k_X3_come l D cy ad Z (mO Z 9)  hI.1 hnow hI.2.2.2 (by omega)) (cwV 1 hts gX3_run_X3_come rfl rfl rfl (by decide +kernel) ⟨Nat.le_of_ble_eq_true rfl, Nat.le_of_ble_eq_true rfl⟩) hK hap hA hP hS rfl hl.1 rfl (Nat.le_of_ble_eq_true rfl) dX3_run_82 ⟨Nat.zero_le _, Nat.zero_le _⟩ (fun H locs hP hS => ?_)
                  obtain ⟨S20, eS20⟩ : ∃ z : Ms, z = F_X3_come Z (mO Z 9) := ⟨_, rfl⟩
                  rw [← eS20] at hP
                  have hok18 : okR1 N L (b + t) (T + t) S20 := by rw [eS20]; exact R_come hI hnow (by omega)
                  refine lv_aload_n hx hb dX3_run_85 rfl (lv_at hl 3 rfl) ?_
                  refine lv_iload hx hb dX3_run_86 (lv_at hl 0 rfl) ?_
                  refine m_cVv (As := [.int (mO Z 9)]) (rest := []) ⟨hx, hb, hml, hown, hts⟩ (k_X3_comeBack l D cy ad S20 (mO Z 9)  hok18.1) (cwV 1 hts gX3_run_X3_comeBack rfl rfl rfl (by decide +kernel) ⟨Nat.le_of_ble_eq_true rfl, Nat.le_of_ble_eq_true rfl⟩) hK hap hA hP hS rfl hl.1 rfl (Nat.le_of_ble_eq_true rfl) dX3_run_88 ⟨Nat.zero_le _, Nat.zero_le _⟩ (fun H locs hP hS => ?_)
                  obtain ⟨S21, eS21⟩ : ∃ z : Ms, z = F_X3_comeBack S20 (mO Z 9) := ⟨_, rfl⟩
                  rw [← eS21] at hP
                  have hok19 : okR1 N L (b + t) (T + t) S21 := by rw [eS21]; exact R1_comeBack hok18
                  refine lv_aload_n hx hb dX3_run_91 rfl (lv_at hl 3 rfl) ?_
                  refine lv_iload hx hb dX3_run_92 (lv_at hl 0 rfl) ?_
                  refine m_cVv (As := [.int (mO Z 9)]) (rest := []) ⟨hx, hb, hml, hown, hts⟩ (k_X3_choose l D cy ad S21 (mO Z 9)  hok19.1 (by omega)) (cwV 1 hts gX3_run_X3_choose rfl rfl rfl (by decide +kernel) ⟨Nat.le_of_ble_eq_true rfl, Nat.le_of_ble_eq_true rfl⟩) hK hap hA hP hS rfl hl.1 rfl (Nat.le_of_ble_eq_true rfl) dX3_run_94 ⟨Nat.zero_le _, Nat.zero_le _⟩ (fun H locs hP hS => ?_)
                  obtain ⟨S22, eS22⟩ : ∃ z : Ms, z = F_X3_choose S21 (mO Z 9) := ⟨_, rfl⟩
                  rw [← eS22] at hP
                  have hok20 : okR1 N L (b + t + 1) (T + t) S22 := by rw [eS22]; exact R1_choose hok19
                  refine lv_aload_n hx hb dX3_run_97 rfl (lv_at hl 3 rfl) ?_
                  refine m_cVv (As := []) (rest := []) ⟨hx, hb, hml, hown, hts⟩ (k_X3_count l D cy ad S22   hok20.1) (cwV 0 hts gX3_run_X3_count rfl rfl rfl (by decide +kernel) ⟨Nat.le_of_ble_eq_true rfl, Nat.le_of_ble_eq_true rfl⟩) hK hap hA hP hS rfl hl.1 rfl (Nat.le_of_ble_eq_true rfl) dX3_run_98 ⟨Nat.zero_le _, Nat.zero_le _⟩ (fun H locs hP hS => ?_)
                  obtain ⟨S23, eS23⟩ : ∃ z : Ms, z = F_X3_count S22 := ⟨_, rfl⟩
                  rw [← eS23] at hP
                  have hok21 : okR1 N L (b + t + 1) (T + t) S23 := by rw [eS23]; exact R1_count hok20
                  refine lv_aload_n hx hb dX3_run_101 rfl (lv_at hl 3 rfl) ?_
                  refine m_gO hx hb hts hinX3 hown hK hP 10 (by decide) (hts (.fieldLink RX3 85 "FeedbackQueuesModel" "running" "I") (by decide +kernel)) rfl dX3_run_102 ?_
                  refine lv_if_lt (tgt := 117) hx hb dX3_run_105 (by decide) (fun c_105 => ?_) (fun c_105 => ?_)
                  · skip
                    refine lv_iinc (v := w + 1) (lv' := [(2, .int (w + 1)), (4, .int (mO Z 9)), (3, .int (nI t)), (0, .ref (ad 0)), (1, .int p1)]) hx hb dX3_run_117 hl (k := 2) rfl (rfl) (by decide) rfl (fun ls hl => ?_)
                    refine lv_aload_n hx hb dX3_run_120 rfl (lv_at hl 3 rfl) ?_
                    refine m_gO hx hb hts hinX3 hown hK hP 22 (by decide) (hts (.fieldLink RX3 59 "FeedbackQueuesModel" "all" "[I") (by decide +kernel)) rfl dX3_run_121 ?_
                    refine lv_iconst (v := 1) hx hb dX3_run_124 (by decide) ?_
                    refine lv_dup2_11 hx hb dX3_run_125 rfl rfl ?_
                    refine m_iA (d := 17) (a := 22) (n := 4) (k := 1) hx hb hK hP (by decide) rfl rfl (ix_lit (by decide) (by omega) (by omega)) dX3_run_126 ?_
                    refine lv_iconst (v := 1) hx hb dX3_run_127 (by decide) ?_
                    refine lv_iadd hx hb dX3_run_128 ?_
                    refine m_sA (d := 17) (a := 22) (n := 4) (k := 1) (v := (mA S23 22 1) + 1) hx hb hK hap hP hS (by decide) rfl rfl (ix_lit (by decide) (by omega) (by omega)) dX3_run_129 (fun H locs hP hS => ?_)
                    obtain ⟨S24, eS24⟩ : ∃ z : Ms, z = mQ S23 22 1 ((mA S23 22 1) + 1) := ⟨_, rfl⟩
                    rw [← eS24] at hP
                    have hok22 : okR1 N L (b + t + 1) (T + t) S24 := by rw [eS24]; exact okR1_mQ hok21 (by decide)
                    refine lv_aload_n hx hb dX3_run_130 rfl (lv_at hl 3 rfl) ?_
                    refine lv_dup hx hb dX3_run_131 rfl ?_
                    refine m_gO hx hb hts hinX3 hown hK hP 9 (by decide) (hts (.fieldLink RX3 82 "FeedbackQueuesModel" "time" "I") (by decide +kernel)) rfl dX3_run_132 ?_
                    refine lv_iconst (v := 1) hx hb dX3_run_135 (by decide) ?_
                    refine lv_iadd hx hb dX3_run_136 ?_
                    refine m_pO (ty := .int) (v := (mO S24 9) + 1) hx hb hts hinX3 hown hK hap hP hS 9 (by decide) (hts (.fieldLink RX3 82 "FeedbackQueuesModel" "time" "I") (by decide +kernel)) rfl (by decide +kernel) rfl rfl (mOf_9 ad S24 _) (Nat.le_of_ble_eq_true rfl) dX3_run_137 (fun H locs hP hS => ?_)
                    obtain ⟨S25, eS25⟩ : ∃ z : Ms, z = mP S24 9 ((mO S24 9) + 1) := ⟨_, rfl⟩
                    rw [← eS25] at hP
                    have hok23 : okR N L (b + (t + 1)) (T + (t + 1)) S25 := by rw [eS25]; exact okR1_time hok22 rfl
                    refine lv_iinc (v := nI (t + 1)) (lv' := [(3, .int (nI (t + 1))), (2, .int (w + 1)), (4, .int (mO Z 9)), (0, .ref (ad 0)), (1, .int p1)]) hx hb dX3_run_140 hl (k := 2) rfl (inc_nI t) (by decide) rfl (fun ls hl => ?_)
                    refine lv_goto (tgt := 35) hx hb dX3_run_143 (by decide) ?_
                    exact ih (t + 1) S25 (w + 1) H locs ls (by omega) (hok23) (hT.trans (by subst eS25 eS24 eS23 eS22 eS21 eS20; simp only [L_X3_run_35, if_neg c_57, if_neg c_62, if_neg c_72, if_pos c_105])) hP hS (lv_sub hl [0, 1, 3, 4] rfl)
                  · skip
                    refine lv_aload_n hx hb dX3_run_108 rfl (lv_at hl 3 rfl) ?_
                    refine lv_iload hx hb dX3_run_109 (lv_at hl 0 rfl) ?_
                    refine m_cVv (As := [.int (mO Z 9)]) (rest := []) ⟨hx, hb, hml, hown, hts⟩ (k_X3_work l D cy ad S23 (mO Z 9)  hok21.1 c_105) (cwV 1 hts gX3_run_X3_work rfl rfl rfl (by decide +kernel) ⟨Nat.le_of_ble_eq_true rfl, Nat.le_of_ble_eq_true rfl⟩) hK hap hA hP hS rfl hl.1 rfl (Nat.le_of_ble_eq_true rfl) dX3_run_111 ⟨Nat.zero_le _, Nat.zero_le _⟩ (fun H locs hP hS => ?_)
                    obtain ⟨S26, eS26⟩ : ∃ z : Ms, z = F_X3_work S23 (mO Z 9) := ⟨_, rfl⟩
                    rw [← eS26] at hP
                    have hok24 : okR1 N L (b + t + 1) (T + t) S26 := by rw [eS26]; exact R1_work hok21 c_105
                    refine lv_goto (tgt := 130) hx hb dX3_run_114 (by decide) ?_
                    refine lv_aload_n hx hb dX3_run_130 rfl (lv_at hl 3 rfl) ?_
                    refine lv_dup hx hb dX3_run_131 rfl ?_
                    refine m_gO hx hb hts hinX3 hown hK hP 9 (by decide) (hts (.fieldLink RX3 82 "FeedbackQueuesModel" "time" "I") (by decide +kernel)) rfl dX3_run_132 ?_
                    refine lv_iconst (v := 1) hx hb dX3_run_135 (by decide) ?_
                    refine lv_iadd hx hb dX3_run_136 ?_
                    refine m_pO (ty := .int) (v := (mO S26 9) + 1) hx hb hts hinX3 hown hK hap hP hS 9 (by decide) (hts (.fieldLink RX3 82 "FeedbackQueuesModel" "time" "I") (by decide +kernel)) rfl (by decide +kernel) rfl rfl (mOf_9 ad S26 _) (Nat.le_of_ble_eq_true rfl) dX3_run_137 (fun H locs hP hS => ?_)
                    obtain ⟨S27, eS27⟩ : ∃ z : Ms, z = mP S26 9 ((mO S26 9) + 1) := ⟨_, rfl⟩
                    rw [← eS27] at hP
                    have hok25 : okR N L (b + (t + 1)) (T + (t + 1)) S27 := by rw [eS27]; exact okR1_time hok24 rfl
                    refine lv_iinc (v := nI (t + 1)) (lv' := [(3, .int (nI (t + 1))), (4, .int (mO Z 9)), (2, .int w), (0, .ref (ad 0)), (1, .int p1)]) hx hb dX3_run_140 hl (k := 1) rfl (inc_nI t) (by decide) rfl (fun ls hl => ?_)
                    refine lv_goto (tgt := 35) hx hb dX3_run_143 (by decide) ?_
                    exact ih (t + 1) S27 w H locs ls (by omega) (hok25) (hT.trans (by subst eS27 eS26 eS23 eS22 eS21 eS20; simp only [L_X3_run_35, if_neg c_57, if_neg c_62, if_neg c_72, if_neg c_105])) hP hS (lv_sub hl [0, 2, 3, 4] rfl)
                · skip
                  refine lv_aload_n hx hb dX3_run_75 rfl (lv_at hl 3 rfl) ?_
                  refine m_cVv (As := []) (rest := []) ⟨hx, hb, hml, hown, hts⟩ (k_X3_allUp l D cy ad Z   hI.1) (cwV 0 hts gX3_run_X3_allUp rfl rfl rfl (by decide +kernel) ⟨Nat.le_of_ble_eq_true rfl, Nat.le_of_ble_eq_true rfl⟩) hK hap hA hP hS rfl hl.1 rfl (Nat.le_of_ble_eq_true rfl) dX3_run_76 ⟨Nat.zero_le _, Nat.zero_le _⟩ (fun H locs hP hS => ?_)
                  obtain ⟨S28, eS28⟩ : ∃ z : Ms, z = F_X3_allUp Z := ⟨_, rfl⟩
                  rw [← eS28] at hP
                  have hok26 : okR N L (b + t) (T + t) S28 := by rw [eS28]; exact R_allUp hI
                  refine lv_aload_n hx hb dX3_run_79 rfl (lv_at hl 3 rfl) ?_
                  refine lv_iload hx hb dX3_run_80 (lv_at hl 0 rfl) ?_
                  refine m_cVv (As := [.int (mO Z 9)]) (rest := []) ⟨hx, hb, hml, hown, hts⟩ (k_X3_come l D cy ad S28 (mO Z 9)  hok26.1 hnow hok26.2.2.2 (by omega)) (cwV 1 hts gX3_run_X3_come rfl rfl rfl (by decide +kernel) ⟨Nat.le_of_ble_eq_true rfl, Nat.le_of_ble_eq_true rfl⟩) hK hap hA hP hS rfl hl.1 rfl (Nat.le_of_ble_eq_true rfl) dX3_run_82 ⟨Nat.zero_le _, Nat.zero_le _⟩ (fun H locs hP hS => ?_)
                  obtain ⟨S29, eS29⟩ : ∃ z : Ms, z = F_X3_come S28 (mO Z 9) := ⟨_, rfl⟩
                  rw [← eS29] at hP
                  have hok27 : okR1 N L (b + t) (T + t) S29 := by rw [eS29]; exact R_come hok26 hnow (by omega)
                  refine lv_aload_n hx hb dX3_run_85 rfl (lv_at hl 3 rfl) ?_
                  refine lv_iload hx hb dX3_run_86 (lv_at hl 0 rfl) ?_
                  refine m_cVv (As := [.int (mO Z 9)]) (rest := []) ⟨hx, hb, hml, hown, hts⟩ (k_X3_comeBack l D cy ad S29 (mO Z 9)  hok27.1) (cwV 1 hts gX3_run_X3_comeBack rfl rfl rfl (by decide +kernel) ⟨Nat.le_of_ble_eq_true rfl, Nat.le_of_ble_eq_true rfl⟩) hK hap hA hP hS rfl hl.1 rfl (Nat.le_of_ble_eq_true rfl) dX3_run_88 ⟨Nat.zero_le _, Nat.zero_le _⟩ (fun H locs hP hS => ?_)
                  obtain ⟨S30, eS30⟩ : ∃ z : Ms, z = F_X3_comeBack S29 (mO Z 9) := ⟨_, rfl⟩
                  rw [← eS30] at hP
                  have hok28 : okR1 N L (b + t) (T + t) S30 := by rw [eS30]; exact R1_comeBack hok27
                  refine lv_aload_n hx hb dX3_run_91 rfl (lv_at hl 3 rfl) ?_
                  refine lv_iload hx hb dX3_run_92 (lv_at hl 0 rfl) ?_
                  refine m_cVv (As := [.int (mO Z 9)]) (rest := []) ⟨hx, hb, hml, hown, hts⟩ (k_X3_choose l D cy ad S30 (mO Z 9)  hok28.1 (by omega)) (cwV 1 hts gX3_run_X3_choose rfl rfl rfl (by decide +kernel) ⟨Nat.le_of_ble_eq_true rfl, Nat.le_of_ble_eq_true rfl⟩) hK hap hA hP hS rfl hl.1 rfl (Nat.le_of_ble_eq_true rfl) dX3_run_94 ⟨Nat.zero_le _, Nat.zero_le _⟩ (fun H locs hP hS => ?_)
                  obtain ⟨S31, eS31⟩ : ∃ z : Ms, z = F_X3_choose S30 (mO Z 9) := ⟨_, rfl⟩
                  rw [← eS31] at hP
                  have hok29 : okR1 N L (b + t + 1) (T + t) S31 := by rw [eS31]; exact R1_choose hok28
                  refine lv_aload_n hx hb dX3_run_97 rfl (lv_at hl 3 rfl) ?_
                  refine m_cVv (As := []) (rest := []) ⟨hx, hb, hml, hown, hts⟩ (k_X3_count l D cy ad S31   hok29.1) (cwV 0 hts gX3_run_X3_count rfl rfl rfl (by decide +kernel) ⟨Nat.le_of_ble_eq_true rfl, Nat.le_of_ble_eq_true rfl⟩) hK hap hA hP hS rfl hl.1 rfl (Nat.le_of_ble_eq_true rfl) dX3_run_98 ⟨Nat.zero_le _, Nat.zero_le _⟩ (fun H locs hP hS => ?_)
                  obtain ⟨S32, eS32⟩ : ∃ z : Ms, z = F_X3_count S31 := ⟨_, rfl⟩
                  rw [← eS32] at hP
                  have hok30 : okR1 N L (b + t + 1) (T + t) S32 := by rw [eS32]; exact R1_count hok29
                  refine lv_aload_n hx hb dX3_run_101 rfl (lv_at hl 3 rfl) ?_
                  refine m_gO hx hb hts hinX3 hown hK hP 10 (by decide) (hts (.fieldLink RX3 85 "FeedbackQueuesModel" "running" "I") (by decide +kernel)) rfl dX3_run_102 ?_
                  refine lv_if_lt (tgt := 117) hx hb dX3_run_105 (by decide) (fun c_105 => ?_) (fun c_105 => ?_)
                  · skip
                    refine lv_iinc (v := w + 1) (lv' := [(2, .int (w + 1)), (4, .int (mO Z 9)), (3, .int (nI t)), (0, .ref (ad 0)), (1, .int p1)]) hx hb dX3_run_117 hl (k := 2) rfl (rfl) (by decide) rfl (fun ls hl => ?_)
                    refine lv_aload_n hx hb dX3_run_120 rfl (lv_at hl 3 rfl) ?_
                    refine m_gO hx hb hts hinX3 hown hK hP 22 (by decide) (hts (.fieldLink RX3 59 "FeedbackQueuesModel" "all" "[I") (by decide +kernel)) rfl dX3_run_121 ?_
                    refine lv_iconst (v := 1) hx hb dX3_run_124 (by decide) ?_
                    refine lv_dup2_11 hx hb dX3_run_125 rfl rfl ?_
                    refine m_iA (d := 17) (a := 22) (n := 4) (k := 1) hx hb hK hP (by decide) rfl rfl (ix_lit (by decide) (by omega) (by omega)) dX3_run_126 ?_
                    refine lv_iconst (v := 1) hx hb dX3_run_127 (by decide) ?_
                    refine lv_iadd hx hb dX3_run_128 ?_
                    refine m_sA (d := 17) (a := 22) (n := 4) (k := 1) (v := (mA S32 22 1) + 1) hx hb hK hap hP hS (by decide) rfl rfl (ix_lit (by decide) (by omega) (by omega)) dX3_run_129 (fun H locs hP hS => ?_)
                    obtain ⟨S33, eS33⟩ : ∃ z : Ms, z = mQ S32 22 1 ((mA S32 22 1) + 1) := ⟨_, rfl⟩
                    rw [← eS33] at hP
                    have hok31 : okR1 N L (b + t + 1) (T + t) S33 := by rw [eS33]; exact okR1_mQ hok30 (by decide)
                    refine lv_aload_n hx hb dX3_run_130 rfl (lv_at hl 3 rfl) ?_
                    refine lv_dup hx hb dX3_run_131 rfl ?_
                    refine m_gO hx hb hts hinX3 hown hK hP 9 (by decide) (hts (.fieldLink RX3 82 "FeedbackQueuesModel" "time" "I") (by decide +kernel)) rfl dX3_run_132 ?_
                    refine lv_iconst (v := 1) hx hb dX3_run_135 (by decide) ?_
                    refine lv_iadd hx hb dX3_run_136 ?_
                    refine m_pO (ty := .int) (v := (mO S33 9) + 1) hx hb hts hinX3 hown hK hap hP hS 9 (by decide) (hts (.fieldLink RX3 82 "FeedbackQueuesModel" "time" "I") (by decide +kernel)) rfl (by decide +kernel) rfl rfl (mOf_9 ad S33 _) (Nat.le_of_ble_eq_true rfl) dX3_run_137 (fun H locs hP hS => ?_)
                    obtain ⟨S34, eS34⟩ : ∃ z : Ms, z = mP S33 9 ((mO S33 9) + 1) := ⟨_, rfl⟩
                    rw [← eS34] at hP
                    have hok32 : okR N L (b + (t + 1)) (T + (t + 1)) S34 := by rw [eS34]; exact okR1_time hok31 rfl
                    refine lv_iinc (v := nI (t + 1)) (lv' := [(3, .int (nI (t + 1))), (2, .int (w + 1)), (4, .int (mO Z 9)), (0, .ref (ad 0)), (1, .int p1)]) hx hb dX3_run_140 hl (k := 2) rfl (inc_nI t) (by decide) rfl (fun ls hl => ?_)
                    refine lv_goto (tgt := 35) hx hb dX3_run_143 (by decide) ?_
                    exact ih (t + 1) S34 (w + 1) H locs ls (by omega) (hok32) (hT.trans (by subst eS34 eS33 eS32 eS31 eS30 eS29 eS28; simp only [L_X3_run_35, if_neg c_57, if_neg c_62, if_pos c_72, if_pos c_105])) hP hS (lv_sub hl [0, 1, 3, 4] rfl)
                  · skip
                    refine lv_aload_n hx hb dX3_run_108 rfl (lv_at hl 3 rfl) ?_
                    refine lv_iload hx hb dX3_run_109 (lv_at hl 0 rfl) ?_
                    refine m_cVv (As := [.int (mO Z 9)]) (rest := []) ⟨hx, hb, hml, hown, hts⟩ (k_X3_work l D cy ad S32 (mO Z 9)  hok30.1 c_105) (cwV 1 hts gX3_run_X3_work rfl rfl rfl (by decide +kernel) ⟨Nat.le_of_ble_eq_true rfl, Nat.le_of_ble_eq_true rfl⟩) hK hap hA hP hS rfl hl.1 rfl (Nat.le_of_ble_eq_true rfl) dX3_run_111 ⟨Nat.zero_le _, Nat.zero_le _⟩ (fun H locs hP hS => ?_)
                    obtain ⟨S35, eS35⟩ : ∃ z : Ms, z = F_X3_work S32 (mO Z 9) := ⟨_, rfl⟩
                    rw [← eS35] at hP
                    have hok33 : okR1 N L (b + t + 1) (T + t) S35 := by rw [eS35]; exact R1_work hok30 c_105
                    refine lv_goto (tgt := 130) hx hb dX3_run_114 (by decide) ?_
                    refine lv_aload_n hx hb dX3_run_130 rfl (lv_at hl 3 rfl) ?_
                    refine lv_dup hx hb dX3_run_131 rfl ?_
                    refine m_gO hx hb hts hinX3 hown hK hP 9 (by decide) (hts (.fieldLink RX3 82 "FeedbackQueuesModel" "time" "I") (by decide +kernel)) rfl dX3_run_132 ?_
                    refine lv_iconst (v := 1) hx hb dX3_run_135 (by decide) ?_
                    refine lv_iadd hx hb dX3_run_136 ?_
                    refine m_pO (ty := .int) (v := (mO S35 9) + 1) hx hb hts hinX3 hown hK hap hP hS 9 (by decide) (hts (.fieldLink RX3 82 "FeedbackQueuesModel" "time" "I") (by decide +kernel)) rfl (by decide +kernel) rfl rfl (mOf_9 ad S35 _) (Nat.le_of_ble_eq_true rfl) dX3_run_137 (fun H locs hP hS => ?_)
                    obtain ⟨S36, eS36⟩ : ∃ z : Ms, z = mP S35 9 ((mO S35 9) + 1) := ⟨_, rfl⟩
                    rw [← eS36] at hP
                    have hok34 : okR N L (b + (t + 1)) (T + (t + 1)) S36 := by rw [eS36]; exact okR1_time hok33 rfl
                    refine lv_iinc (v := nI (t + 1)) (lv' := [(3, .int (nI (t + 1))), (4, .int (mO Z 9)), (2, .int w), (0, .ref (ad 0)), (1, .int p1)]) hx hb dX3_run_140 hl (k := 1) rfl (inc_nI t) (by decide) rfl (fun ls hl => ?_)
                    refine lv_goto (tgt := 35) hx hb dX3_run_143 (by decide) ?_
                    exact ih (t + 1) S36 w H locs ls (by omega) (hok34) (hT.trans (by subst eS36 eS35 eS32 eS31 eS30 eS29 eS28; simp only [L_X3_run_35, if_neg c_57, if_neg c_62, if_pos c_72, if_neg c_105])) hP hS (lv_sub hl [0, 2, 3, 4] rfl)
        exact lp_35 ((p1).toNatClampNeg) 0 S3 0 H locs ls (by omega) (hok1) (by subst eS3; simp only [F_X3_run, if_neg c_2, if_neg c_9, if_pos c_20]) hP hS (by rw [show nI 0 = 0 from by decide]; exact lv_sub hl [0, 1, 2, 3] rfl)
      · skip
        refine lv_iconst (v := 1) hx hb dX3_run_23 (by decide) ?_
        refine lv_goto (tgt := 28) hx hb dX3_run_24 (by decide) ?_
        refine m_pO (ty := .int) (v := 1) hx hb hts hinX3 hown hK hap hP hS 0 (by decide) (hts (.fieldLink RX3 69 "FeedbackQueuesModel" "thrown" "I") (by decide +kernel)) rfl (by decide +kernel) rfl rfl (mOf_0 ad S _) (Nat.le_of_ble_eq_true rfl) dX3_run_28 (fun H locs hP hS => ?_)
        obtain ⟨S37, eS37⟩ : ∃ z : Ms, z = mP S 0 1 := ⟨_, rfl⟩
        rw [← eS37] at hP
        refine lv_iconst (v := 0) hx hb dX3_run_31 (by decide) ?_
        refine lv_istore_n (lv' := [(2, .int 0), (0, .ref (ad 0)), (1, .int p1)]) hx hb dX3_run_32 rfl hl (by decide) rfl (fun ls hl => ?_)
        refine lv_iconst (v := 0) hx hb dX3_run_33 (by decide) ?_
        refine lv_istore_n (lv' := [(3, .int 0), (2, .int 0), (0, .ref (ad 0)), (1, .int p1)]) hx hb dX3_run_34 rfl hl (by decide) rfl (fun ls hl => ?_)
        refine lv_iload_n hx hb dX3_run_35 rfl (lv_at hl 0 rfl) ?_
        refine lv_iload_n hx hb dX3_run_36 rfl (lv_at hl 3 rfl) ?_
        refine lv_icmp_ge (tgt := 146) hx hb dX3_run_37 (by decide) (fun c_37 => ?_) (fun c_37 => ?_)
        · skip
          refine lv_iload_n hx hb dX3_run_146 rfl (lv_at hl 1 rfl) ?_
          have hF : F_X3_run S p1 = (S37, 0) := by subst eS37; simp only [F_X3_run, if_neg c_2, if_neg c_9, if_neg c_20, if_pos c_37]
          rw [hF]
          exact m_iret hx hb hr hlocks hP hS dX3_run_147 (fun _ h => h)
        · skip
          refine lv_aload_n hx hb dX3_run_40 rfl (lv_at hl 2 rfl) ?_
          refine m_gO hx hb hts hinX3 hown hK hP 0 (by decide) (hts (.fieldLink RX3 69 "FeedbackQueuesModel" "thrown" "I") (by decide +kernel)) rfl dX3_run_41 ?_
          rw [show mO S37 0 = 1 from by rw [eS37]; rfl]
          refine lv_if_ne (tgt := 146) hx hb dX3_run_44 (by decide) (fun c_44 => ?_) (fun c_44 => ?_)
          rotate_left
          · exact absurd c_44 (by decide)
          refine lv_iload_n hx hb dX3_run_146 rfl (lv_at hl 1 rfl) ?_
          have hF : F_X3_run S p1 = (S37, 0) := by subst eS37; simp only [F_X3_run, if_neg c_2, if_neg c_9, if_neg c_20, if_neg c_37]
          rw [hF]
          exact m_iret hx hb hr hlocks hP hS dX3_run_147 (fun _ h => h)
