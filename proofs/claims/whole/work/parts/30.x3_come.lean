set_option maxHeartbeats 4000000 in
set_option maxRecDepth 100000 in
theorem k_X3_come (l : Launch) (D : va_G) (cy : Nat → ClassId) (ad : Nat → Nat) (S : Ms) (p1 : Int32) {N L b : Nat} (hok : okM N L b S) {T : Nat} (hT : p1 = nI T) (hti : tiM N T S) (hTb : T ≤ 200000) : mMv l yX3_come wsX3_come { frames := 1, cells := 0, slots := 0, locals := 22 } D cy ad [.ref (ad 0), .int p1] S (F_X3_come S p1) := by
  intro sz
  refine Met.ofW (cc := cX3_come) (maxL := 3) (ret := none) (by decide) rfl ?_
  intro p e s m args below meth c s₁ B hml hv
  obtain ⟨rfl, hsz, hP, hK, hap0⟩ := hv
  have hx := B.exec
  have hb := B.bytes
  have hr := B.returns
  have hts := atoms_spec (ws := wsX3_come) B.pre
  have hown : s.vm.findClass RX3 = some m.cls := findClass_of_methodNamed B.named
  have hlocks := B.notSynchronized
  subst hsz
  have hap := gw_self (sz := s.heap.size) hap0
  generalize hAe : gA 19 ad s.heap.size = A at hap ⊢
  have hA : ∀ q : Nat, s.heap.size ≤ q → A q := fun q h => by rw [← hAe]; exact Or.inr h
  have hS : va_S A s.heap s.heap [] := va_S.rf
  have hinX3 : ∀ w ∈ wsX30, w ∈ wsX3_come := by decide +kernel
  have hl := lv_entry ([.ref (ad 0), .int p1]) (n := 3) (Nat.le_of_ble_eq_true rfl)
  rw [lg_entry_eq]
  generalize (lg_sl ([.ref (ad 0), .int p1]) ++ List.replicate (3 - (lg_sl ([.ref (ad 0), .int p1])).length) Slot.unset).toArray = ls at hl ⊢
  have hl : lv_has ls 3 [(0, .ref (ad 0)), (1, .int p1)] := hl
  obtain ⟨H, hH⟩ : ∃ H, H = s.heap := ⟨_, rfl⟩
  rw [← hH] at hP
  have hS : va_S A s.heap H [] := by rw [hH]; exact hS
  rw [← hH]
  generalize ([] : List Loc) = locs at hS ⊢
  refine lv_iconst (v := 0) hx hb dX3_come_0 (by decide) ?_
  refine lv_istore_n (lv' := [(2, .int 0), (0, .ref (ad 0)), (1, .int p1)]) hx hb dX3_come_1 rfl hl (by decide) rfl (fun ls hl => ?_)
  have hNe : (mO S 5).toNatClampNeg = N := okM_N hok
  have hN16 : N ≤ 16 := hok.2.2.1
  have lp_2 : ∀ (Q : State → Prop) (n t : Nat) (Z : Ms) (H : Heap) (locs : List Loc) (ls : Array Slot), t + n = (mO S 5).toNatClampNeg → (okM N L b Z ∧ tiC N T t Z) → va_P D vwCl (mwl cy ad Z) H → va_S A s.heap H locs → lv_has ls 3 [(2, .int (nI t)), (0, .ref (ad 0)), (1, .int p1)] → (∀ (H : Heap) (locs : List Loc) (ls : Array Slot), va_P D vwCl (mwl cy ad (itr (B_X3_come_2 p1) n t Z)) H → va_S A s.heap H locs → lv_has ls 3 [(2, .int (nI ((mO S 5).toNatClampNeg))), (0, .ref (ad 0)), (1, .int p1)] → W p l e (headSpec wsX3_come { frames := 1, cells := 0, slots := 0, locals := 22 }).room s m ([.ref (ad 0), .int p1] : List Value).toArray below meth c H locs 0 0 Q (F0 m 94 ls [])) → W p l e (headSpec wsX3_come { frames := 1, cells := 0, slots := 0, locals := 22 }).room s m ([.ref (ad 0), .int p1] : List Value).toArray below meth c H locs 0 0 Q (F0 m 2 ls []) := by
    intro Q n
    induction n with
    | zero =>
      intro t Z H locs ls hk hI hP hS hl K
      refine lv_iload_n hx hb dX3_come_2 rfl (lv_at hl 0 rfl) ?_
      refine lv_aload_n hx hb dX3_come_3 rfl (lv_at hl 1 rfl) ?_
      refine m_gO hx hb hts hinX3 hown hK hP 5 (by decide) (hts (.fieldLink RX3 76 "FeedbackQueuesModel" "processes" "I") (by decide +kernel)) rfl dX3_come_4 ?_
      refine lv_icmp_ge (tgt := 94) hx hb dX3_come_7 (by decide) (fun c_7 => ?_) (fun c_7 => ?_)
      rotate_left
      · exact absurd (by rw [show mO Z 5 = nI ((mO S 5).toNatClampNeg) from by rw [hNe]; exact hI.1.1]; exact nI_le (by omega) (by omega)) c_7
      have hiN : t = (mO S 5).toNatClampNeg := by omega
      rw [hiN] at hl
      exact K H locs ls hP hS (lv_sub hl [0, 1, 2] rfl)
    | succ n ih =>
      intro t Z H locs ls hk hI hP hS hl K
      have ht : t < (mO S 5).toNatClampNeg := by omega
      refine lv_iload_n hx hb dX3_come_2 rfl (lv_at hl 0 rfl) ?_
      refine lv_aload_n hx hb dX3_come_3 rfl (lv_at hl 1 rfl) ?_
      refine m_gO hx hb hts hinX3 hown hK hP 5 (by decide) (hts (.fieldLink RX3 76 "FeedbackQueuesModel" "processes" "I") (by decide +kernel)) rfl dX3_come_4 ?_
      refine lv_icmp_ge (tgt := 94) hx hb dX3_come_7 (by decide) (fun c_7 => ?_) (fun c_7 => ?_)
      · exact absurd c_7 (by rw [show mO Z 5 = nI ((mO S 5).toNatClampNeg) from by rw [hNe]; exact hI.1.1]; exact nI_ge (by omega) (by omega))
      refine lv_aload_n hx hb dX3_come_10 rfl (lv_at hl 1 rfl) ?_
      refine m_gO hx hb hts hinX3 hown hK hP 6 (by decide) (hts (.fieldLink RX3 16 "FeedbackQueuesModel" "arrivals" "[I") (by decide +kernel)) rfl dX3_come_11 ?_
      refine lv_iload_n hx hb dX3_come_14 rfl (lv_at hl 0 rfl) ?_
      refine m_iA (d := 3) (a := 6) (n := 16) (k := t) hx hb hK hP (by decide) rfl rfl (ix_nI (by omega) (by omega)) dX3_come_15 ?_
      refine lv_iload_n hx hb dX3_come_16 rfl (lv_at hl 2 rfl) ?_
      refine lv_icmp_ne (tgt := 38) hx hb dX3_come_17 (by decide) (fun c_17 => ?_) (fun c_17 => ?_)
      · skip
        refine lv_aload_n hx hb dX3_come_38 rfl (lv_at hl 1 rfl) ?_
        refine m_gO hx hb hts hinX3 hown hK hP 6 (by decide) (hts (.fieldLink RX3 16 "FeedbackQueuesModel" "arrivals" "[I") (by decide +kernel)) rfl dX3_come_39 ?_
        refine lv_iload_n hx hb dX3_come_42 rfl (lv_at hl 0 rfl) ?_
        refine m_iA (d := 3) (a := 6) (n := 16) (k := t) hx hb hK hP (by decide) rfl rfl (ix_nI (by omega) (by omega)) dX3_come_43 ?_
        refine lv_iload_n hx hb dX3_come_44 rfl (lv_at hl 2 rfl) ?_
        refine lv_icmp_ne (tgt := 88) hx hb dX3_come_45 (by decide) (fun c_45 => ?_) (fun c_45 => ?_)
        rotate_left
        · exact absurd c_45 c_17
        refine lv_iinc (v := nI (t + 1)) (lv' := [(2, .int (nI (t + 1))), (0, .ref (ad 0)), (1, .int p1)]) hx hb dX3_come_88 hl (k := 0) rfl (inc_nI t) (by decide) rfl (fun ls hl => ?_)
        refine lv_goto (tgt := 2) hx hb dX3_come_91 (by decide) ?_
        have hF : B_X3_come_2 p1 t Z = Z := by simp only [B_X3_come_2, if_neg c_17]
        rw [← hF] at hP
        exact ih (t + 1) (B_X3_come_2 p1 t Z) H locs ls (by omega) (come_inv hI (by omega) hT) hP hS (lv_sub hl [0, 1, 2] rfl) K
      · skip
        refine lv_aload_n hx hb dX3_come_20 rfl (lv_at hl 1 rfl) ?_
        refine m_gO hx hb hts hinX3 hown hK hP 7 (by decide) (hts (.fieldLink RX3 19 "FeedbackQueuesModel" "bursts" "[I") (by decide +kernel)) rfl dX3_come_21 ?_
        refine lv_iload_n hx hb dX3_come_24 rfl (lv_at hl 0 rfl) ?_
        refine m_iA (d := 4) (a := 7) (n := 16) (k := t) hx hb hK hP (by decide) rfl rfl (ix_nI (by omega) (by omega)) dX3_come_25 ?_
        refine lv_if_ne (tgt := 38) hx hb dX3_come_26 (by decide) (fun c_26 => ?_) (fun c_26 => ?_)
        · skip
          refine lv_aload_n hx hb dX3_come_38 rfl (lv_at hl 1 rfl) ?_
          refine m_gO hx hb hts hinX3 hown hK hP 6 (by decide) (hts (.fieldLink RX3 16 "FeedbackQueuesModel" "arrivals" "[I") (by decide +kernel)) rfl dX3_come_39 ?_
          refine lv_iload_n hx hb dX3_come_42 rfl (lv_at hl 0 rfl) ?_
          refine m_iA (d := 3) (a := 6) (n := 16) (k := t) hx hb hK hP (by decide) rfl rfl (ix_nI (by omega) (by omega)) dX3_come_43 ?_
          refine lv_iload_n hx hb dX3_come_44 rfl (lv_at hl 2 rfl) ?_
          refine lv_icmp_ne (tgt := 88) hx hb dX3_come_45 (by decide) (fun c_45 => ?_) (fun c_45 => ?_)
          · exact absurd c_17 c_45
          refine lv_aload_n hx hb dX3_come_48 rfl (lv_at hl 1 rfl) ?_
          refine m_gO hx hb hts hinX3 hown hK hP 12 (by decide) (hts (.fieldLink RX3 28 "FeedbackQueuesModel" "level" "[I") (by decide +kernel)) rfl dX3_come_49 ?_
          refine lv_iload_n hx hb dX3_come_52 rfl (lv_at hl 0 rfl) ?_
          refine lv_iconst (v := 0) hx hb dX3_come_53 (by decide) ?_
          refine m_sA (d := 7) (a := 12) (n := 16) (k := t) (v := 0) hx hb hK hap hP hS (by decide) rfl rfl (ix_nI (by omega) (by omega)) dX3_come_54 (fun H locs hP hS => ?_)
          obtain ⟨S1, eS1⟩ : ∃ z : Ms, z = mQ Z 12 t 0 := ⟨_, rfl⟩
          rw [← eS1] at hP
          have hok1 : okM N L b S1 := by rw [eS1]; exact okM_mQ12 hI.1 ⟨0, hI.1.2.2.2.1, by decide⟩
          refine lv_aload_n hx hb dX3_come_55 rfl (lv_at hl 1 rfl) ?_
          refine m_gO hx hb hts hinX3 hown hK hP 16 (by decide) (hts (.fieldLink RX3 40 "FeedbackQueuesModel" "share" "[I") (by decide +kernel)) rfl dX3_come_56 ?_
          refine lv_iload_n hx hb dX3_come_59 rfl (lv_at hl 0 rfl) ?_
          refine lv_aload_n hx hb dX3_come_60 rfl (lv_at hl 1 rfl) ?_
          refine m_gO hx hb hts hinX3 hown hK hP 3 (by decide) (hts (.fieldLink RX3 13 "FeedbackQueuesModel" "shares" "[I") (by decide +kernel)) rfl dX3_come_61 ?_
          refine lv_iconst (v := 0) hx hb dX3_come_64 (by decide) ?_
          refine m_iA (d := 2) (a := 3) (n := 6) (k := 0) hx hb hK hP (by decide) rfl rfl (ix_lit (by decide) (by omega) (by omega)) dX3_come_65 ?_
          refine m_sA (d := 11) (a := 16) (n := 16) (k := t) (v := mA S1 3 0) hx hb hK hap hP hS (by decide) rfl rfl (ix_nI (by omega) (by omega)) dX3_come_66 (fun H locs hP hS => ?_)
          obtain ⟨S2, eS2⟩ : ∃ z : Ms, z = mQ S1 16 t (mA S1 3 0) := ⟨_, rfl⟩
          rw [← eS2] at hP
          have hok2 : okM N L b S2 := by rw [eS2]; exact okM_mQ hok1 (by decide)
          refine lv_aload_n hx hb dX3_come_67 rfl (lv_at hl 1 rfl) ?_
          refine m_gO hx hb hts hinX3 hown hK hP 14 (by decide) (hts (.fieldLink RX3 34 "FeedbackQueuesModel" "left" "[I") (by decide +kernel)) rfl dX3_come_68 ?_
          refine lv_iload_n hx hb dX3_come_71 rfl (lv_at hl 0 rfl) ?_
          refine lv_aload_n hx hb dX3_come_72 rfl (lv_at hl 1 rfl) ?_
          refine m_gO hx hb hts hinX3 hown hK hP 8 (by decide) (hts (.fieldLink RX3 22 "FeedbackQueuesModel" "ticks" "[I") (by decide +kernel)) rfl dX3_come_73 ?_
          refine lv_bipush (v := 12) hx hb dX3_come_76 (by decide) ?_
          refine lv_iload_n hx hb dX3_come_78 rfl (lv_at hl 0 rfl) ?_
          refine lv_imul hx hb dX3_come_79 ?_
          refine m_iA (d := 5) (a := 8) (n := 192) (k := 12 * t) hx hb hK hP (by decide) rfl rfl (ix_mulc (by decide) rfl (by omega) (by omega)) dX3_come_80 ?_
          refine m_sA (d := 9) (a := 14) (n := 16) (k := t) (v := mA S2 8 (12 * t)) hx hb hK hap hP hS (by decide) rfl rfl (ix_nI (by omega) (by omega)) dX3_come_81 (fun H locs hP hS => ?_)
          obtain ⟨S3, eS3⟩ : ∃ z : Ms, z = mQ S2 14 t (mA S2 8 (12 * t)) := ⟨_, rfl⟩
          rw [← eS3] at hP
          have hok3 : okM N L b S3 := by rw [eS3]; exact okM_mQ hok2 (by decide)
          refine lv_aload_n hx hb dX3_come_82 rfl (lv_at hl 1 rfl) ?_
          refine lv_iconst (v := 0) hx hb dX3_come_83 (by decide) ?_
          refine lv_iload_n hx hb dX3_come_84 rfl (lv_at hl 0 rfl) ?_
          refine m_cVv (As := [.int 0, .int (nI t)]) (rest := []) ⟨hx, hb, hml, hown, hts⟩ (k_X3_toEnd l D cy ad S3 0 (nI t)  (ixc (ix_lit (k := 0) (by decide) (by omega) (by omega))) (ixc (ix_nI (by omega) (by omega))) (okM_15 hok3 (u := t) (by omega) (by subst eS3 eS2 eS1; exact ne1 (ti_at hI.2 (by omega) hT c_45)) (ixc (ix_lit (k := 0) (by decide) (by omega) (by omega))))) (cwV 2 hts gX3_come_X3_toEnd rfl rfl rfl (by decide +kernel) ⟨Nat.le_of_ble_eq_true rfl, Nat.le_of_ble_eq_true rfl⟩) hK hap hA hP hS rfl hl.1 rfl (Nat.le_of_ble_eq_true rfl) dX3_come_85 ⟨Nat.zero_le _, Nat.zero_le _⟩ (fun H locs hP hS => ?_)
          obtain ⟨S4, eS4⟩ : ∃ z : Ms, z = F_X3_toEnd S3 0 (nI t) := ⟨_, rfl⟩
          rw [← eS4] at hP
          refine lv_iinc (v := nI (t + 1)) (lv' := [(2, .int (nI (t + 1))), (0, .ref (ad 0)), (1, .int p1)]) hx hb dX3_come_88 hl (k := 0) rfl (inc_nI t) (by decide) rfl (fun ls hl => ?_)
          refine lv_goto (tgt := 2) hx hb dX3_come_91 (by decide) ?_
          have hF : B_X3_come_2 p1 t Z = S4 := by subst eS4 eS3 eS2 eS1; simp only [B_X3_come_2, if_pos c_17, if_neg c_26]
          rw [← hF] at hP
          exact ih (t + 1) (B_X3_come_2 p1 t Z) H locs ls (by omega) (come_inv hI (by omega) hT) hP hS (lv_sub hl [0, 1, 2] rfl) K
        · skip
          refine lv_aload_n hx hb dX3_come_29 rfl (lv_at hl 1 rfl) ?_
          refine lv_iload_n hx hb dX3_come_30 rfl (lv_at hl 0 rfl) ?_
          refine lv_iload_n hx hb dX3_come_31 rfl (lv_at hl 2 rfl) ?_
          refine m_cVv (As := [.int (nI t), .int p1]) (rest := []) ⟨hx, hb, hml, hown, hts⟩ (k_X3_end l D cy ad Z (nI t) p1  (ixc (ix_nI (by omega) (by omega)))) (cwV 2 hts gX3_come_X3_end rfl rfl rfl (by decide +kernel) ⟨Nat.le_of_ble_eq_true rfl, Nat.le_of_ble_eq_true rfl⟩) hK hap hA hP hS rfl hl.1 rfl (Nat.le_of_ble_eq_true rfl) dX3_come_32 ⟨Nat.zero_le _, Nat.zero_le _⟩ (fun H locs hP hS => ?_)
          obtain ⟨S5, eS5⟩ : ∃ z : Ms, z = F_X3_end Z (nI t) p1 := ⟨_, rfl⟩
          rw [← eS5] at hP
          have hok4 : okM N L b S5 := by rw [eS5]; exact okM_end hI.1 (by omega) (nI_clamp (by omega)) (ne1 (ti_at hI.2 (by omega) hT c_17)) (Or.inr (ne2 (ti_at hI.2 (by omega) hT c_17)))
          refine lv_goto (tgt := 88) hx hb dX3_come_35 (by decide) ?_
          refine lv_iinc (v := nI (t + 1)) (lv' := [(2, .int (nI (t + 1))), (0, .ref (ad 0)), (1, .int p1)]) hx hb dX3_come_88 hl (k := 0) rfl (inc_nI t) (by decide) rfl (fun ls hl => ?_)
          refine lv_goto (tgt := 2) hx hb dX3_come_91 (by decide) ?_
          have hF : B_X3_come_2 p1 t Z = S5 := by subst eS5; simp only [B_X3_come_2, if_pos c_17, if_pos c_26]
          rw [← hF] at hP
          exact ih (t + 1) (B_X3_come_2 p1 t Z) H locs ls (by omega) (come_inv hI (by omega) hT) hP hS (lv_sub hl [0, 1, 2] rfl) K
  refine lp_2 _ ((mO S 5).toNatClampNeg) 0 S H locs ls (by omega) (⟨hok, ti_0 hti⟩) hP hS (by rw [show nI 0 = 0 from by decide]; exact lv_sub hl [0, 1, 2] rfl) (fun H locs ls hP hS hl => ?_)
  obtain ⟨S6, eS6⟩ : ∃ z : Ms, z = itr (B_X3_come_2 p1) ((mO S 5).toNatClampNeg) 0 S := ⟨_, rfl⟩
  rw [← eS6] at hP
  have hF : F_X3_come S p1 = S6 := by subst eS6; simp only [F_X3_come]
  rw [hF]
  exact m_vret hx hb hr hlocks hP hS dX3_come_94 (fun _ h => h)
