set_option maxHeartbeats 4000000 in
set_option maxRecDepth 100000 in
theorem k_X3_allUp (l : Launch) (D : va_G) (cy : Nat → ClassId) (ad : Nat → Nat) (S : Ms)  {N L b : Nat} (hok : okM N L b S)  : mMv l yX3_allUp wsX3_allUp { frames := 1, cells := 0, slots := 0, locals := 23 } D cy ad [.ref (ad 0)] S (F_X3_allUp S ) := by
  intro sz
  refine Met.ofW (cc := cX3_allUp) (maxL := 2) (ret := none) (by decide) rfl ?_
  intro p e s m args below meth c s₁ B hml hv
  obtain ⟨rfl, hsz, hP, hK, hap0⟩ := hv
  have hx := B.exec
  have hb := B.bytes
  have hr := B.returns
  have hts := atoms_spec (ws := wsX3_allUp) B.pre
  have hown : s.vm.findClass RX3 = some m.cls := findClass_of_methodNamed B.named
  have hlocks := B.notSynchronized
  subst hsz
  have hap := gw_self (sz := s.heap.size) hap0
  generalize hAe : gA 19 ad s.heap.size = A at hap ⊢
  have hA : ∀ q : Nat, s.heap.size ≤ q → A q := fun q h => by rw [← hAe]; exact Or.inr h
  have hS : va_S A s.heap s.heap [] := va_S.rf
  have hinX3 : ∀ w ∈ wsX30, w ∈ wsX3_allUp := by decide +kernel
  have hl := lv_entry ([.ref (ad 0)]) (n := 2) (Nat.le_of_ble_eq_true rfl)
  rw [lg_entry_eq]
  generalize (lg_sl ([.ref (ad 0)]) ++ List.replicate (2 - (lg_sl ([.ref (ad 0)])).length) Slot.unset).toArray = ls at hl ⊢
  have hl : lv_has ls 2 [(0, .ref (ad 0))] := hl
  obtain ⟨H, hH⟩ : ∃ H, H = s.heap := ⟨_, rfl⟩
  rw [← hH] at hP
  have hS : va_S A s.heap H [] := by rw [hH]; exact hS
  rw [← hH]
  generalize ([] : List Loc) = locs at hS ⊢
  refine lv_aload_n hx hb dX3_allUp_0 rfl (lv_at hl 0 rfl) ?_
  refine m_gO hx hb hts hinX3 hown hK hP 22 (by decide) (hts (.fieldLink RX3 59 "FeedbackQueuesModel" "all" "[I") (by decide +kernel)) rfl dX3_allUp_1 ?_
  refine lv_iconst (v := 2) hx hb dX3_allUp_4 (by decide) ?_
  refine lv_dup2_11 hx hb dX3_allUp_5 rfl rfl ?_
  refine m_iA (d := 17) (a := 22) (n := 4) (k := 2) hx hb hK hP (by decide) rfl rfl (ix_lit (by decide) (by omega) (by omega)) dX3_allUp_6 ?_
  refine lv_iconst (v := 1) hx hb dX3_allUp_7 (by decide) ?_
  refine lv_iadd hx hb dX3_allUp_8 ?_
  refine m_sA (d := 17) (a := 22) (n := 4) (k := 2) (v := (mA S 22 2) + 1) hx hb hK hap hP hS (by decide) rfl rfl (ix_lit (by decide) (by omega) (by omega)) dX3_allUp_9 (fun H locs hP hS => ?_)
  obtain ⟨S1, eS1⟩ : ∃ z : Ms, z = mQ S 22 2 ((mA S 22 2) + 1) := ⟨_, rfl⟩
  rw [← eS1] at hP
  have hok1 : okM N L b S1 := by rw [eS1]; exact okM_mQ22 hok (by decide)
  refine lv_iconst (v := 1) hx hb dX3_allUp_10 (by decide) ?_
  refine lv_istore_n (lv' := [(1, .int 1), (0, .ref (ad 0))]) hx hb dX3_allUp_11 rfl hl (by decide) rfl (fun ls hl => ?_)
  have hLe : (mO S1 1).toNatClampNeg = L := okM_L hok1
  have hL6 : L ≤ 6 := hok1.2.2.2.2.1
  have hL1 : 1 ≤ L := hok1.2.2.2.1
  have lp_12 : ∀ (Q : State → Prop) (n t : Nat) (Z : Ms) (H : Heap) (locs : List Loc) (ls : Array Slot), t + n = (mO S1 1).toNatClampNeg → (okM N L b Z ∧ 1 ≤ t) → va_P D vwCl (mwl cy ad Z) H → va_S A s.heap H locs → lv_has ls 2 [(1, .int (nI t)), (0, .ref (ad 0))] → (∀ (H : Heap) (locs : List Loc) (ls : Array Slot), va_P D vwCl (mwl cy ad (itr B_X3_allUp_12 n t Z)) H → va_S A s.heap H locs → lv_has ls 2 [(1, .int (nI ((mO S1 1).toNatClampNeg))), (0, .ref (ad 0))] → W p l e (headSpec wsX3_allUp { frames := 1, cells := 0, slots := 0, locals := 23 }).room s m ([.ref (ad 0)] : List Value).toArray below meth c H locs 0 0 Q (F0 m 48 ls [])) → W p l e (headSpec wsX3_allUp { frames := 1, cells := 0, slots := 0, locals := 23 }).room s m ([.ref (ad 0)] : List Value).toArray below meth c H locs 0 0 Q (F0 m 12 ls []) := by
    intro Q n
    induction n with
    | zero =>
      intro t Z H locs ls hk hI hP hS hl K
      refine lv_iload_n hx hb dX3_allUp_12 rfl (lv_at hl 0 rfl) ?_
      refine lv_aload_n hx hb dX3_allUp_13 rfl (lv_at hl 1 rfl) ?_
      refine m_gO hx hb hts hinX3 hown hK hP 1 (by decide) (hts (.fieldLink RX3 73 "FeedbackQueuesModel" "levels" "I") (by decide +kernel)) rfl dX3_allUp_14 ?_
      refine lv_icmp_ge (tgt := 48) hx hb dX3_allUp_17 (by decide) (fun c_17 => ?_) (fun c_17 => ?_)
      rotate_left
      · exact absurd (by rw [show mO Z 1 = nI ((mO S1 1).toNatClampNeg) from by rw [hLe]; exact hI.1.2.1]; exact nI_le (by omega) (by omega)) c_17
      have hiN : t = (mO S1 1).toNatClampNeg := by omega
      rw [hiN] at hl
      exact K H locs ls hP hS (lv_sub hl [0, 1] rfl)
    | succ n ih =>
      intro t Z H locs ls hk hI hP hS hl K
      have ht : t < (mO S1 1).toNatClampNeg := by omega
      have ht1 := hI.2
      refine lv_iload_n hx hb dX3_allUp_12 rfl (lv_at hl 0 rfl) ?_
      refine lv_aload_n hx hb dX3_allUp_13 rfl (lv_at hl 1 rfl) ?_
      refine m_gO hx hb hts hinX3 hown hK hP 1 (by decide) (hts (.fieldLink RX3 73 "FeedbackQueuesModel" "levels" "I") (by decide +kernel)) rfl dX3_allUp_14 ?_
      refine lv_icmp_ge (tgt := 48) hx hb dX3_allUp_17 (by decide) (fun c_17 => ?_) (fun c_17 => ?_)
      · exact absurd c_17 (by rw [show mO Z 1 = nI ((mO S1 1).toNatClampNeg) from by rw [hLe]; exact hI.1.2.1]; exact nI_ge (by omega) (by omega))
      have lp_20 : ∀ (Q : State → Prop) (nx : Nat) (Zx : Ms) (H : Heap) (locs : List Loc) (ls : Array Slot), mA Zx 21 t = nI nx → (okM N L b Zx ∧ 1 ≤ t ∧ nx ≤ 16) → va_P D vwCl (mwl cy ad Zx) H → va_S A s.heap H locs → lv_has ls 2 [(1, .int (nI t)), (0, .ref (ad 0))] → (∀ (H : Heap) (locs : List Loc) (ls : Array Slot), va_P D vwCl (mwl cy ad (itd (B_X3_allUp_20 t) nx Zx)) H → va_S A s.heap H locs → lv_has ls 2 [(1, .int (nI t)), (0, .ref (ad 0))] → W p l e (headSpec wsX3_allUp { frames := 1, cells := 0, slots := 0, locals := 23 }).room s m ([.ref (ad 0)] : List Value).toArray below meth c H locs 0 0 Q (F0 m 42 ls [])) → W p l e (headSpec wsX3_allUp { frames := 1, cells := 0, slots := 0, locals := 23 }).room s m ([.ref (ad 0)] : List Value).toArray below meth c H locs 0 0 Q (F0 m 20 ls []) := by
        intro Q nx
        induction nx with
        | zero =>
          intro Zx H locs ls hkx hIx hP hS hl Kx
          refine lv_aload_n hx hb dX3_allUp_20 rfl (lv_at hl 1 rfl) ?_
          refine m_gO hx hb hts hinX3 hown hK hP 21 (by decide) (hts (.fieldLink RX3 56 "FeedbackQueuesModel" "size" "[I") (by decide +kernel)) rfl dX3_allUp_21 ?_
          refine lv_iload_n hx hb dX3_allUp_24 rfl (lv_at hl 0 rfl) ?_
          refine m_iA (d := 16) (a := 21) (n := 6) (k := t) hx hb hK hP (by decide) rfl rfl (ix_nI (by omega) (by omega)) dX3_allUp_25 ?_
          refine lv_if_le (tgt := 42) hx hb dX3_allUp_26 (by decide) (fun c_26 => ?_) (fun c_26 => ?_)
          rotate_left
          · exact absurd (by rw [hkx]; decide) c_26
          exact Kx H locs ls hP hS (lv_sub hl [0, 1] rfl)
        | succ nx ihx =>
          intro Zx H locs ls hkx hIx hP hS hl Kx
          refine lv_aload_n hx hb dX3_allUp_20 rfl (lv_at hl 1 rfl) ?_
          refine m_gO hx hb hts hinX3 hown hK hP 21 (by decide) (hts (.fieldLink RX3 56 "FeedbackQueuesModel" "size" "[I") (by decide +kernel)) rfl dX3_allUp_21 ?_
          refine lv_iload_n hx hb dX3_allUp_24 rfl (lv_at hl 0 rfl) ?_
          refine m_iA (d := 16) (a := 21) (n := 6) (k := t) hx hb hK hP (by decide) rfl rfl (ix_nI (by omega) (by omega)) dX3_allUp_25 ?_
          refine lv_if_le (tgt := 42) hx hb dX3_allUp_26 (by decide) (fun c_26 => ?_) (fun c_26 => ?_)
          · exact absurd c_26 (by rw [hkx]; exact nI_nle (by omega) (by have := hIx.2.2; omega))
          refine lv_aload_n hx hb dX3_allUp_29 rfl (lv_at hl 1 rfl) ?_
          refine lv_iconst (v := 0) hx hb dX3_allUp_30 (by decide) ?_
          refine lv_aload_n hx hb dX3_allUp_31 rfl (lv_at hl 1 rfl) ?_
          refine lv_iload_n hx hb dX3_allUp_32 rfl (lv_at hl 0 rfl) ?_
          refine m_cVi (As := [.int (nI t)]) (rest := [.int 0, .ref (ad 0)]) ⟨hx, hb, hml, hown, hts⟩ (k_X3_takeFirst l D cy ad Zx (nI t)  (ixc (ix_nI (by omega) (by omega))) (by rw [nI_clamp (by omega)]; exact (okM_q hIx.1).1 t (by omega)) (by rw [nI_clamp (by omega), hkx]; exact nI_ne0 (by omega) (by have := hIx.2.2; omega))) (cwV 1 hts gX3_allUp_X3_takeFirst rfl rfl rfl (by decide +kernel) ⟨Nat.le_of_ble_eq_true rfl, Nat.le_of_ble_eq_true rfl⟩) hK hap hA hP hS rfl hl.1 rfl (Nat.le_of_ble_eq_true rfl) dX3_allUp_33 ⟨Nat.zero_le _, Nat.zero_le _⟩ (fun H locs hP hS => ?_)
          obtain ⟨S2, eS2⟩ : ∃ z : Ms, z = (F_X3_takeFirst Zx (nI t)).1 := ⟨_, rfl⟩
          rw [← eS2] at hP
          refine m_cVv (As := [.int 0, .int ((F_X3_takeFirst Zx (nI t)).2)]) (rest := []) ⟨hx, hb, hml, hown, hts⟩ (k_X3_toEnd l D cy ad S2 0 ((F_X3_takeFirst Zx (nI t)).2)  (ixc (ix_lit (k := 0) (by decide) (by omega) (by omega))) (tk_ix hIx.1 (by omega) hkx hIx.2.2) (by subst eS2; exact tk_15 hIx.1 (by omega) hkx hIx.2.2 (ixc (ix_lit (k := 0) (by decide) (by omega) (by omega))))) (cwV 2 hts gX3_allUp_X3_toEnd rfl rfl rfl (by decide +kernel) ⟨Nat.le_of_ble_eq_true rfl, Nat.le_of_ble_eq_true rfl⟩) hK hap hA hP hS rfl hl.1 rfl (Nat.le_of_ble_eq_true rfl) dX3_allUp_36 ⟨Nat.zero_le _, Nat.zero_le _⟩ (fun H locs hP hS => ?_)
          obtain ⟨S3, eS3⟩ : ∃ z : Ms, z = F_X3_toEnd S2 0 ((F_X3_takeFirst Zx (nI t)).2) := ⟨_, rfl⟩
          rw [← eS3] at hP
          refine lv_goto (tgt := 20) hx hb dX3_allUp_39 (by decide) ?_
          have hF : B_X3_allUp_20 t nx Zx = S3 := by subst eS3 eS2; simp only [B_X3_allUp_20]
          rw [← hF] at hP
          exact ihx (B_X3_allUp_20 t nx Zx) H locs ls (up_cnt hIx.1 (by omega) hIx.2.1 hkx hIx.2.2) (⟨(up20 hIx.1 (by omega) hIx.2.1 hkx hIx.2.2).1, hIx.2.1, by have := hIx.2.2; omega⟩) hP hS (lv_sub hl [0, 1] rfl) Kx
      refine lp_20 _ ((mA Z 21 t).toNatClampNeg) Z H locs ls (ub_nI ((okM_q hI.1).1 t (by omega)) (by omega)) (⟨hI.1, hI.2, ub_le ((okM_q hI.1).1 t (by omega)) (by omega)⟩) hP hS (lv_sub hl [0, 1] rfl) (fun H locs ls hP hS hl => ?_)
      obtain ⟨S4, eS4⟩ : ∃ z : Ms, z = itd (B_X3_allUp_20 t) ((mA Z 21 t).toNatClampNeg) Z := ⟨_, rfl⟩
      rw [← eS4] at hP
      have hok2 : okM N L b S4 := by rw [eS4]; exact (up12 hI.1 (by omega) ht1).1
      refine lv_iinc (v := nI (t + 1)) (lv' := [(1, .int (nI (t + 1))), (0, .ref (ad 0))]) hx hb dX3_allUp_42 hl (k := 0) rfl (inc_nI t) (by decide) rfl (fun ls hl => ?_)
      refine lv_goto (tgt := 12) hx hb dX3_allUp_45 (by decide) ?_
      have hF : B_X3_allUp_12 t Z = S4 := by subst eS4; simp only [B_X3_allUp_12]
      rw [← hF] at hP
      exact ih (t + 1) (B_X3_allUp_12 t Z) H locs ls (by omega) (⟨(up12 hI.1 (by omega) hI.2).1, by omega⟩) hP hS (lv_sub hl [0, 1] rfl) K
  refine lp_12 _ ((mO S1 1).toNatClampNeg - 1) 1 S1 H locs ls (by omega) (⟨hok1, Nat.le_refl 1⟩) hP hS (by rw [show nI 1 = 1 from by decide]; exact lv_sub hl [0, 1] rfl) (fun H locs ls hP hS hl => ?_)
  obtain ⟨S5, eS5⟩ : ∃ z : Ms, z = itr B_X3_allUp_12 ((mO S1 1).toNatClampNeg - 1) 1 S1 := ⟨_, rfl⟩
  rw [← eS5] at hP
  have hok3 : okM N L b S5 := by rw [eS5]; exact (up12s hok1 _ (by omega)).1
  refine lv_iconst (v := 0) hx hb dX3_allUp_48 (by decide) ?_
  refine lv_istore_n (lv' := [(1, .int 0), (0, .ref (ad 0))]) hx hb dX3_allUp_49 rfl hl (by decide) rfl (fun ls hl => ?_)
  have hNe : (mO S5 5).toNatClampNeg = N := okM_N hok3
  have hN16 : N ≤ 16 := hok3.2.2.1
  have lp_50 : ∀ (Q : State → Prop) (n t : Nat) (Z : Ms) (H : Heap) (locs : List Loc) (ls : Array Slot), t + n = (mO S5 5).toNatClampNeg → okM N L b Z → va_P D vwCl (mwl cy ad Z) H → va_S A s.heap H locs → lv_has ls 2 [(1, .int (nI t)), (0, .ref (ad 0))] → (∀ (H : Heap) (locs : List Loc) (ls : Array Slot), va_P D vwCl (mwl cy ad (itr B_X3_allUp_50 n t Z)) H → va_S A s.heap H locs → lv_has ls 2 [(1, .int (nI ((mO S5 5).toNatClampNeg))), (0, .ref (ad 0))] → W p l e (headSpec wsX3_allUp { frames := 1, cells := 0, slots := 0, locals := 23 }).room s m ([.ref (ad 0)] : List Value).toArray below meth c H locs 0 0 Q (F0 m 138 ls [])) → W p l e (headSpec wsX3_allUp { frames := 1, cells := 0, slots := 0, locals := 23 }).room s m ([.ref (ad 0)] : List Value).toArray below meth c H locs 0 0 Q (F0 m 50 ls []) := by
    intro Q n
    induction n with
    | zero =>
      intro t Z H locs ls hk hI hP hS hl K
      refine lv_iload_n hx hb dX3_allUp_50 rfl (lv_at hl 0 rfl) ?_
      refine lv_aload_n hx hb dX3_allUp_51 rfl (lv_at hl 1 rfl) ?_
      refine m_gO hx hb hts hinX3 hown hK hP 5 (by decide) (hts (.fieldLink RX3 76 "FeedbackQueuesModel" "processes" "I") (by decide +kernel)) rfl dX3_allUp_52 ?_
      refine lv_icmp_ge (tgt := 138) hx hb dX3_allUp_55 (by decide) (fun c_55 => ?_) (fun c_55 => ?_)
      rotate_left
      · exact absurd (by rw [show mO Z 5 = nI ((mO S5 5).toNatClampNeg) from by rw [hNe]; exact hI.1]; exact nI_le (by omega) (by omega)) c_55
      have hiN : t = (mO S5 5).toNatClampNeg := by omega
      rw [hiN] at hl
      exact K H locs ls hP hS (lv_sub hl [0, 1] rfl)
    | succ n ih =>
      intro t Z H locs ls hk hI hP hS hl K
      have ht : t < (mO S5 5).toNatClampNeg := by omega
      refine lv_iload_n hx hb dX3_allUp_50 rfl (lv_at hl 0 rfl) ?_
      refine lv_aload_n hx hb dX3_allUp_51 rfl (lv_at hl 1 rfl) ?_
      refine m_gO hx hb hts hinX3 hown hK hP 5 (by decide) (hts (.fieldLink RX3 76 "FeedbackQueuesModel" "processes" "I") (by decide +kernel)) rfl dX3_allUp_52 ?_
      refine lv_icmp_ge (tgt := 138) hx hb dX3_allUp_55 (by decide) (fun c_55 => ?_) (fun c_55 => ?_)
      · exact absurd c_55 (by rw [show mO Z 5 = nI ((mO S5 5).toNatClampNeg) from by rw [hNe]; exact hI.1]; exact nI_ge (by omega) (by omega))
      refine lv_aload_n hx hb dX3_allUp_58 rfl (lv_at hl 1 rfl) ?_
      refine m_gO hx hb hts hinX3 hown hK hP 11 (by decide) (hts (.fieldLink RX3 25 "FeedbackQueuesModel" "state" "[I") (by decide +kernel)) rfl dX3_allUp_59 ?_
      refine lv_iload_n hx hb dX3_allUp_62 rfl (lv_at hl 0 rfl) ?_
      refine m_iA (d := 6) (a := 11) (n := 16) (k := t) hx hb hK hP (by decide) rfl rfl (ix_nI (by omega) (by omega)) dX3_allUp_63 ?_
      refine lv_if_eq (tgt := 132) hx hb dX3_allUp_64 (by decide) (fun c_64 => ?_) (fun c_64 => ?_)
      · skip
        refine lv_iinc (v := nI (t + 1)) (lv' := [(1, .int (nI (t + 1))), (0, .ref (ad 0))]) hx hb dX3_allUp_132 hl (k := 0) rfl (inc_nI t) (by decide) rfl (fun ls hl => ?_)
        refine lv_goto (tgt := 50) hx hb dX3_allUp_135 (by decide) ?_
        have hF : B_X3_allUp_50 t Z = Z := by simp only [B_X3_allUp_50, if_pos c_64]
        rw [← hF] at hP
        exact ih (t + 1) (B_X3_allUp_50 t Z) H locs ls (by omega) ((up50 hI t).1) hP hS (lv_sub hl [0, 1] rfl) K
      · skip
        refine lv_aload_n hx hb dX3_allUp_67 rfl (lv_at hl 1 rfl) ?_
        refine m_gO hx hb hts hinX3 hown hK hP 11 (by decide) (hts (.fieldLink RX3 25 "FeedbackQueuesModel" "state" "[I") (by decide +kernel)) rfl dX3_allUp_68 ?_
        refine lv_iload_n hx hb dX3_allUp_71 rfl (lv_at hl 0 rfl) ?_
        refine m_iA (d := 6) (a := 11) (n := 16) (k := t) hx hb hK hP (by decide) rfl rfl (ix_nI (by omega) (by omega)) dX3_allUp_72 ?_
        refine lv_iconst (v := 4) hx hb dX3_allUp_73 (by decide) ?_
        refine lv_icmp_eq (tgt := 132) hx hb dX3_allUp_74 (by decide) (fun c_74 => ?_) (fun c_74 => ?_)
        · skip
          refine lv_iinc (v := nI (t + 1)) (lv' := [(1, .int (nI (t + 1))), (0, .ref (ad 0))]) hx hb dX3_allUp_132 hl (k := 0) rfl (inc_nI t) (by decide) rfl (fun ls hl => ?_)
          refine lv_goto (tgt := 50) hx hb dX3_allUp_135 (by decide) ?_
          have hF : B_X3_allUp_50 t Z = Z := by simp only [B_X3_allUp_50, if_neg c_64, if_pos c_74]
          rw [← hF] at hP
          exact ih (t + 1) (B_X3_allUp_50 t Z) H locs ls (by omega) ((up50 hI t).1) hP hS (lv_sub hl [0, 1] rfl) K
        · skip
          refine lv_aload_n hx hb dX3_allUp_77 rfl (lv_at hl 1 rfl) ?_
          refine m_gO hx hb hts hinX3 hown hK hP 12 (by decide) (hts (.fieldLink RX3 28 "FeedbackQueuesModel" "level" "[I") (by decide +kernel)) rfl dX3_allUp_78 ?_
          refine lv_iload_n hx hb dX3_allUp_81 rfl (lv_at hl 0 rfl) ?_
          refine lv_iconst (v := 0) hx hb dX3_allUp_82 (by decide) ?_
          refine m_sA (d := 7) (a := 12) (n := 16) (k := t) (v := 0) hx hb hK hap hP hS (by decide) rfl rfl (ix_nI (by omega) (by omega)) dX3_allUp_83 (fun H locs hP hS => ?_)
          obtain ⟨S6, eS6⟩ : ∃ z : Ms, z = mQ Z 12 t 0 := ⟨_, rfl⟩
          rw [← eS6] at hP
          have hok4 : okM N L b S6 := by rw [eS6]; exact okM_mQ12 hI ⟨0, hI.2.2.2.1, by decide⟩
          refine lv_aload_n hx hb dX3_allUp_84 rfl (lv_at hl 1 rfl) ?_
          refine m_gO hx hb hts hinX3 hown hK hP 16 (by decide) (hts (.fieldLink RX3 40 "FeedbackQueuesModel" "share" "[I") (by decide +kernel)) rfl dX3_allUp_85 ?_
          refine lv_iload_n hx hb dX3_allUp_88 rfl (lv_at hl 0 rfl) ?_
          refine lv_aload_n hx hb dX3_allUp_89 rfl (lv_at hl 1 rfl) ?_
          refine m_gO hx hb hts hinX3 hown hK hP 3 (by decide) (hts (.fieldLink RX3 13 "FeedbackQueuesModel" "shares" "[I") (by decide +kernel)) rfl dX3_allUp_90 ?_
          refine lv_iconst (v := 0) hx hb dX3_allUp_93 (by decide) ?_
          refine m_iA (d := 2) (a := 3) (n := 6) (k := 0) hx hb hK hP (by decide) rfl rfl (ix_lit (by decide) (by omega) (by omega)) dX3_allUp_94 ?_
          refine m_sA (d := 11) (a := 16) (n := 16) (k := t) (v := mA S6 3 0) hx hb hK hap hP hS (by decide) rfl rfl (ix_nI (by omega) (by omega)) dX3_allUp_95 (fun H locs hP hS => ?_)
          obtain ⟨S7, eS7⟩ : ∃ z : Ms, z = mQ S6 16 t (mA S6 3 0) := ⟨_, rfl⟩
          rw [← eS7] at hP
          have hok5 : okM N L b S7 := by rw [eS7]; exact okM_mQ hok4 (by decide)
          refine lv_aload_n hx hb dX3_allUp_96 rfl (lv_at hl 1 rfl) ?_
          refine m_gO hx hb hts hinX3 hown hK hP 17 (by decide) (hts (.fieldLink RX3 43 "FeedbackQueuesModel" "kept" "[Z") (by decide +kernel)) rfl dX3_allUp_97 ?_
          refine lv_iload_n hx hb dX3_allUp_100 rfl (lv_at hl 0 rfl) ?_
          refine m_zA (d := 12) (a := 17) (n := 16) (k := t) hx hb hK hP (by decide) rfl rfl (ix_nI (by omega) (by omega)) dX3_allUp_101 ?_
          refine lv_if_eq (tgt := 132) hx hb dX3_allUp_102 (by decide) (fun c_102 => ?_) (fun c_102 => ?_)
          · skip
            refine lv_iinc (v := nI (t + 1)) (lv' := [(1, .int (nI (t + 1))), (0, .ref (ad 0))]) hx hb dX3_allUp_132 hl (k := 0) rfl (inc_nI t) (by decide) rfl (fun ls hl => ?_)
            refine lv_goto (tgt := 50) hx hb dX3_allUp_135 (by decide) ?_
            have hF : B_X3_allUp_50 t Z = S7 := by subst eS7 eS6; simp only [B_X3_allUp_50, if_neg c_64, if_neg c_74, if_pos c_102]
            rw [← hF] at hP
            exact ih (t + 1) (B_X3_allUp_50 t Z) H locs ls (by omega) ((up50 hI t).1) hP hS (lv_sub hl [0, 1] rfl) K
          · skip
            refine lv_aload_n hx hb dX3_allUp_105 rfl (lv_at hl 1 rfl) ?_
            refine m_gO hx hb hts hinX3 hown hK hP 15 (by decide) (hts (.fieldLink RX3 37 "FeedbackQueuesModel" "quantum" "[I") (by decide +kernel)) rfl dX3_allUp_106 ?_
            refine lv_iload_n hx hb dX3_allUp_109 rfl (lv_at hl 0 rfl) ?_
            refine m_iA (d := 10) (a := 15) (n := 16) (k := t) hx hb hK hP (by decide) rfl rfl (ix_nI (by omega) (by omega)) dX3_allUp_110 ?_
            refine lv_aload_n hx hb dX3_allUp_111 rfl (lv_at hl 1 rfl) ?_
            refine m_gO hx hb hts hinX3 hown hK hP 2 (by decide) (hts (.fieldLink RX3 7 "FeedbackQueuesModel" "quanta" "[I") (by decide +kernel)) rfl dX3_allUp_112 ?_
            refine lv_iconst (v := 0) hx hb dX3_allUp_115 (by decide) ?_
            refine m_iA (d := 1) (a := 2) (n := 6) (k := 0) hx hb hK hP (by decide) rfl rfl (ix_lit (by decide) (by omega) (by omega)) dX3_allUp_116 ?_
            refine lv_icmp_le (tgt := 132) hx hb dX3_allUp_117 (by decide) (fun c_117 => ?_) (fun c_117 => ?_)
            · skip
              refine lv_iinc (v := nI (t + 1)) (lv' := [(1, .int (nI (t + 1))), (0, .ref (ad 0))]) hx hb dX3_allUp_132 hl (k := 0) rfl (inc_nI t) (by decide) rfl (fun ls hl => ?_)
              refine lv_goto (tgt := 50) hx hb dX3_allUp_135 (by decide) ?_
              have hF : B_X3_allUp_50 t Z = S7 := by subst eS7 eS6; simp only [B_X3_allUp_50, if_neg c_64, if_neg c_74, if_neg c_102, if_pos c_117]
              rw [← hF] at hP
              exact ih (t + 1) (B_X3_allUp_50 t Z) H locs ls (by omega) ((up50 hI t).1) hP hS (lv_sub hl [0, 1] rfl) K
            · skip
              refine lv_aload_n hx hb dX3_allUp_120 rfl (lv_at hl 1 rfl) ?_
              refine m_gO hx hb hts hinX3 hown hK hP 15 (by decide) (hts (.fieldLink RX3 37 "FeedbackQueuesModel" "quantum" "[I") (by decide +kernel)) rfl dX3_allUp_121 ?_
              refine lv_iload_n hx hb dX3_allUp_124 rfl (lv_at hl 0 rfl) ?_
              refine lv_aload_n hx hb dX3_allUp_125 rfl (lv_at hl 1 rfl) ?_
              refine m_gO hx hb hts hinX3 hown hK hP 2 (by decide) (hts (.fieldLink RX3 7 "FeedbackQueuesModel" "quanta" "[I") (by decide +kernel)) rfl dX3_allUp_126 ?_
              refine lv_iconst (v := 0) hx hb dX3_allUp_129 (by decide) ?_
              refine m_iA (d := 1) (a := 2) (n := 6) (k := 0) hx hb hK hP (by decide) rfl rfl (ix_lit (by decide) (by omega) (by omega)) dX3_allUp_130 ?_
              refine m_sA (d := 10) (a := 15) (n := 16) (k := t) (v := mA S7 2 0) hx hb hK hap hP hS (by decide) rfl rfl (ix_nI (by omega) (by omega)) dX3_allUp_131 (fun H locs hP hS => ?_)
              obtain ⟨S8, eS8⟩ : ∃ z : Ms, z = mQ S7 15 t (mA S7 2 0) := ⟨_, rfl⟩
              rw [← eS8] at hP
              have hok6 : okM N L b S8 := by rw [eS8]; exact okM_mQ hok5 (by decide)
              refine lv_iinc (v := nI (t + 1)) (lv' := [(1, .int (nI (t + 1))), (0, .ref (ad 0))]) hx hb dX3_allUp_132 hl (k := 0) rfl (inc_nI t) (by decide) rfl (fun ls hl => ?_)
              refine lv_goto (tgt := 50) hx hb dX3_allUp_135 (by decide) ?_
              have hF : B_X3_allUp_50 t Z = S8 := by subst eS8 eS7 eS6; simp only [B_X3_allUp_50, if_neg c_64, if_neg c_74, if_neg c_102, if_neg c_117]
              rw [← hF] at hP
              exact ih (t + 1) (B_X3_allUp_50 t Z) H locs ls (by omega) ((up50 hI t).1) hP hS (lv_sub hl [0, 1] rfl) K
  refine lp_50 _ ((mO S5 5).toNatClampNeg) 0 S5 H locs ls (by omega) (hok3) hP hS (by rw [show nI 0 = 0 from by decide]; exact lv_sub hl [0, 1] rfl) (fun H locs ls hP hS hl => ?_)
  obtain ⟨S9, eS9⟩ : ∃ z : Ms, z = itr B_X3_allUp_50 ((mO S5 5).toNatClampNeg) 0 S5 := ⟨_, rfl⟩
  rw [← eS9] at hP
  have hok7 : okM N L b S9 := by rw [eS9]; exact (up50s hok3 _).1
  refine lv_aload_n hx hb dX3_allUp_138 rfl (lv_at hl 1 rfl) ?_
  refine m_gO hx hb hts hinX3 hown hK hP 10 (by decide) (hts (.fieldLink RX3 85 "FeedbackQueuesModel" "running" "I") (by decide +kernel)) rfl dX3_allUp_139 ?_
  refine lv_if_lt (tgt := 160) hx hb dX3_allUp_142 (by decide) (fun c_142 => ?_) (fun c_142 => ?_)
  · skip
    have hF : F_X3_allUp S  = S9 := by subst eS9 eS5 eS1; simp only [F_X3_allUp, if_pos c_142]
    rw [hF]
    exact m_vret hx hb hr hlocks hP hS dX3_allUp_160 (fun _ h => h)
  · skip
    refine lv_aload_n hx hb dX3_allUp_145 rfl (lv_at hl 1 rfl) ?_
    refine m_gO hx hb hts hinX3 hown hK hP 15 (by decide) (hts (.fieldLink RX3 37 "FeedbackQueuesModel" "quantum" "[I") (by decide +kernel)) rfl dX3_allUp_146 ?_
    refine lv_aload_n hx hb dX3_allUp_149 rfl (lv_at hl 1 rfl) ?_
    refine m_gO hx hb hts hinX3 hown hK hP 10 (by decide) (hts (.fieldLink RX3 85 "FeedbackQueuesModel" "running" "I") (by decide +kernel)) rfl dX3_allUp_150 ?_
    refine lv_aload_n hx hb dX3_allUp_153 rfl (lv_at hl 1 rfl) ?_
    refine m_gO hx hb hts hinX3 hown hK hP 2 (by decide) (hts (.fieldLink RX3 7 "FeedbackQueuesModel" "quanta" "[I") (by decide +kernel)) rfl dX3_allUp_154 ?_
    refine lv_iconst (v := 0) hx hb dX3_allUp_157 (by decide) ?_
    refine m_iA (d := 1) (a := 2) (n := 6) (k := 0) hx hb hK hP (by decide) rfl rfl (ix_lit (by decide) (by omega) (by omega)) dX3_allUp_158 ?_
    refine m_sA (d := 10) (a := 15) (n := 16) (k := ((mO S9 10)).toNatClampNeg) (v := mA S9 2 0) hx hb hK hap hP hS (by decide) rfl rfl (okM_rx hok7 c_142) dX3_allUp_159 (fun H locs hP hS => ?_)
    obtain ⟨S10, eS10⟩ : ∃ z : Ms, z = mQ S9 15 (((mO S9 10)).toNatClampNeg) (mA S9 2 0) := ⟨_, rfl⟩
    rw [← eS10] at hP
    have hok8 : okM N L b S10 := by rw [eS10]; exact okM_mQ hok7 (by decide)
    have hF : F_X3_allUp S  = S10 := by subst eS10 eS9 eS5 eS1; simp only [F_X3_allUp, if_neg c_142]
    rw [hF]
    exact m_vret hx hb hr hlocks hP hS dX3_allUp_160 (fun _ h => h)
