set_option maxHeartbeats 4000000 in
set_option maxRecDepth 100000 in
theorem k_X0_clear (l : Launch) (D : va_G) (cy : Nat → ClassId) (ad : Nat → Nat) (S : Cs) (i : Nat) (hi : i < 6)  : cMv l yX0_clear wsX0_clear { frames := 0, cells := 0, slots := 0, locals := 0 } D cy ad [.ref (ad (4 + 2 * i))] S (F_X0_clear S i) := by
  intro sz
  refine Met.ofW (cc := cX0_clear) (maxL := 1) (ret := none) (by decide) rfl ?_
  intro p e s m args below meth c s₁ B hml hv
  obtain ⟨rfl, hsz, hP, hK, hap0, hN⟩ := hv
  have hx := B.exec
  have hb := B.bytes
  have hr := B.returns
  have hts := atoms_spec (ws := wsX0_clear) B.pre
  have hown : s.vm.findClass RX0 = some m.cls := findClass_of_methodNamed B.named
  have hlocks := B.notSynchronized
  subst hsz
  have hap := gw_self (sz := s.heap.size) hap0
  generalize hAe : gA 48 ad s.heap.size = A at hap ⊢
  have hA : ∀ q : Nat, s.heap.size ≤ q → A q := fun q h => by rw [← hAe]; exact Or.inr h
  have hS : va_S A s.heap s.heap [] := va_S.rf
  have hinX0 : ∀ w ∈ wsX00, w ∈ wsX0_clear := by decide +kernel
  have hl := lv_entry ([.ref (ad (4 + 2 * i))]) (n := 1) (Nat.le_of_ble_eq_true rfl)
  rw [lg_entry_eq]
  generalize (lg_sl ([.ref (ad (4 + 2 * i))]) ++ List.replicate (1 - (lg_sl ([.ref (ad (4 + 2 * i))])).length) Slot.unset).toArray = ls at hl ⊢
  have hl : lv_has ls 1 [(0, .ref (ad (4 + 2 * i)))] := hl
  obtain ⟨H, hH⟩ : ∃ H, H = s.heap := ⟨_, rfl⟩
  rw [← hH] at hP
  have hS : va_S A s.heap H [] := by rw [hH]; exact hS
  rw [← hH]
  generalize ([] : List Loc) = locs at hS ⊢
  refine lv_aload_n hx hb dX0_clear_0 rfl (lv_at hl 0 rfl) ?_
  refine lv_iconst (v := 0) hx hb dX0_clear_1 (by decide) ?_
  refine c_pL (i := i) (ty := .int) (v := 0) hx hb hts hinX0 hown hK hap hP hS hi 3 (by decide) (hts (.fieldLink RX0 22 "FeedbackQueues$Level" "size" "I") (by decide +kernel)) rfl (by decide +kernel) rfl rfl (cLf_3 ad S i _) (Nat.le_of_ble_eq_true rfl) dX0_clear_2 (fun H locs hP hS => ?_)
  obtain ⟨S1, eS1⟩ : ∃ z : Cs, z = sL S i 3 0 := ⟨_, rfl⟩
  rw [← eS1] at hP
  have hF : F_X0_clear S i = S1 := by subst eS1; simp only [F_X0_clear]
  rw [hF]
  exact c_vret hx hb hr hlocks hP hS dX0_clear_5 (fun _ h => h)
set_option maxHeartbeats 4000000 in
set_option maxRecDepth 100000 in
theorem k_X0_at (l : Launch) (D : va_G) (cy : Nat → ClassId) (ad : Nat → Nat) (S : Cs) (i : Nat) (p1 : Int32) (hi : i < 6) (hz : ub 16 (cL S i 3)) : cMi l yX0_at wsX0_at { frames := 0, cells := 0, slots := 0, locals := 0 } D cy ad [.ref (ad (4 + 2 * i)), .int p1] S (F_X0_at S i p1).1 (F_X0_at S i p1).2 := by
  intro sz
  refine Met.ofW (cc := cX0_at) (maxL := 2) (ret := (some .int)) (by decide) rfl ?_
  intro p e s m args below meth c s₁ B hml hv
  obtain ⟨rfl, hsz, hP, hK, hap0, hN⟩ := hv
  have hx := B.exec
  have hb := B.bytes
  have hr := B.returns
  have hts := atoms_spec (ws := wsX0_at) B.pre
  have hown : s.vm.findClass RX0 = some m.cls := findClass_of_methodNamed B.named
  have hlocks := B.notSynchronized
  subst hsz
  have hap := gw_self (sz := s.heap.size) hap0
  generalize hAe : gA 48 ad s.heap.size = A at hap ⊢
  have hA : ∀ q : Nat, s.heap.size ≤ q → A q := fun q h => by rw [← hAe]; exact Or.inr h
  have hS : va_S A s.heap s.heap [] := va_S.rf
  have hinX0 : ∀ w ∈ wsX00, w ∈ wsX0_at := by decide +kernel
  have hl := lv_entry ([.ref (ad (4 + 2 * i)), .int p1]) (n := 2) (Nat.le_of_ble_eq_true rfl)
  rw [lg_entry_eq]
  generalize (lg_sl ([.ref (ad (4 + 2 * i)), .int p1]) ++ List.replicate (2 - (lg_sl ([.ref (ad (4 + 2 * i)), .int p1])).length) Slot.unset).toArray = ls at hl ⊢
  have hl : lv_has ls 2 [(0, .ref (ad (4 + 2 * i))), (1, .int p1)] := hl
  obtain ⟨H, hH⟩ : ∃ H, H = s.heap := ⟨_, rfl⟩
  rw [← hH] at hP
  have hS : va_S A s.heap H [] := by rw [hH]; exact hS
  rw [← hH]
  generalize ([] : List Loc) = locs at hS ⊢
  refine lv_iload_n hx hb dX0_at_0 rfl (lv_at hl 1 rfl) ?_
  refine lv_if_lt (tgt := 21) hx hb dX0_at_1 (by decide) (fun c_1 => ?_) (fun c_1 => ?_)
  · skip
    refine lv_iconst (v := (-1)) hx hb dX0_at_21 (by decide) ?_
    have hF : F_X0_at S i p1 = (S, (-1)) := by simp only [F_X0_at, if_pos c_1]
    rw [hF]
    exact c_iret hx hb hr hlocks hP hS dX0_at_22 (fun _ h => h)
  · skip
    refine lv_iload_n hx hb dX0_at_4 rfl (lv_at hl 1 rfl) ?_
    refine lv_aload_n hx hb dX0_at_5 rfl (lv_at hl 0 rfl) ?_
    refine c_gL (i := i) hx hb hts hinX0 hown hK hP hi 3 (by decide) (hts (.fieldLink RX0 22 "FeedbackQueues$Level" "size" "I") (by decide +kernel)) rfl dX0_at_6 ?_
    refine lv_icmp_ge (tgt := 21) hx hb dX0_at_9 (by decide) (fun c_9 => ?_) (fun c_9 => ?_)
    · skip
      refine lv_iconst (v := (-1)) hx hb dX0_at_21 (by decide) ?_
      have hF : F_X0_at S i p1 = (S, (-1)) := by simp only [F_X0_at, if_neg c_1, if_pos c_9]
      rw [hF]
      exact c_iret hx hb hr hlocks hP hS dX0_at_22 (fun _ h => h)
    · skip
      refine lv_aload_n hx hb dX0_at_12 rfl (lv_at hl 0 rfl) ?_
      refine c_gL (i := i) hx hb hts hinX0 hown hK hP hi 2 (by decide) (hts (.fieldLink RX0 18 "FeedbackQueues$Level" "queue" "[I") (by decide +kernel)) rfl dX0_at_13 ?_
      refine lv_iload_n hx hb dX0_at_16 rfl (lv_at hl 1 rfl) ?_
      refine c_iQ (i := i) (k := (p1).toNatClampNeg) hx hb hK hP hi (ix_cmp c_1 hz (by omega) (by omega) c_9) dX0_at_17 ?_
      refine lv_goto (tgt := 22) hx hb dX0_at_18 (by decide) ?_
      have hF : F_X0_at S i p1 = (S, cQ S i ((p1).toNatClampNeg)) := by simp only [F_X0_at, if_neg c_1, if_neg c_9]
      rw [hF]
      exact c_iret hx hb hr hlocks hP hS dX0_at_22 (fun _ h => h)
set_option maxHeartbeats 4000000 in
set_option maxRecDepth 100000 in
theorem k_X0_addLast (l : Launch) (D : va_G) (cy : Nat → ClassId) (ad : Nat → Nat) (S : Cs) (i : Nat) (p1 : Int32) (hi : i < 6) (hz : ub 16 (cL S i 3)) : cMv l yX0_addLast wsX0_addLast { frames := 0, cells := 0, slots := 0, locals := 0 } D cy ad [.ref (ad (4 + 2 * i)), .int p1] S (F_X0_addLast S i p1) := by
  intro sz
  refine Met.ofW (cc := cX0_addLast) (maxL := 2) (ret := none) (by decide) rfl ?_
  intro p e s m args below meth c s₁ B hml hv
  obtain ⟨rfl, hsz, hP, hK, hap0, hN⟩ := hv
  have hx := B.exec
  have hb := B.bytes
  have hr := B.returns
  have hts := atoms_spec (ws := wsX0_addLast) B.pre
  have hown : s.vm.findClass RX0 = some m.cls := findClass_of_methodNamed B.named
  have hlocks := B.notSynchronized
  subst hsz
  have hap := gw_self (sz := s.heap.size) hap0
  generalize hAe : gA 48 ad s.heap.size = A at hap ⊢
  have hA : ∀ q : Nat, s.heap.size ≤ q → A q := fun q h => by rw [← hAe]; exact Or.inr h
  have hS : va_S A s.heap s.heap [] := va_S.rf
  have hinX0 : ∀ w ∈ wsX00, w ∈ wsX0_addLast := by decide +kernel
  have hl := lv_entry ([.ref (ad (4 + 2 * i)), .int p1]) (n := 2) (Nat.le_of_ble_eq_true rfl)
  rw [lg_entry_eq]
  generalize (lg_sl ([.ref (ad (4 + 2 * i)), .int p1]) ++ List.replicate (2 - (lg_sl ([.ref (ad (4 + 2 * i)), .int p1])).length) Slot.unset).toArray = ls at hl ⊢
  have hl : lv_has ls 2 [(0, .ref (ad (4 + 2 * i))), (1, .int p1)] := hl
  obtain ⟨H, hH⟩ : ∃ H, H = s.heap := ⟨_, rfl⟩
  rw [← hH] at hP
  have hS : va_S A s.heap H [] := by rw [hH]; exact hS
  rw [← hH]
  generalize ([] : List Loc) = locs at hS ⊢
  refine lv_aload_n hx hb dX0_addLast_0 rfl (lv_at hl 0 rfl) ?_
  refine c_gL (i := i) hx hb hts hinX0 hown hK hP hi 3 (by decide) (hts (.fieldLink RX0 22 "FeedbackQueues$Level" "size" "I") (by decide +kernel)) rfl dX0_addLast_1 ?_
  refine lv_bipush (v := 16) hx hb dX0_addLast_4 (by decide) ?_
  refine lv_icmp_ge (tgt := 29) hx hb dX0_addLast_6 (by decide) (fun c_6 => ?_) (fun c_6 => ?_)
  · skip
    have hF : F_X0_addLast S i p1 = S := by simp only [F_X0_addLast, if_pos c_6]
    rw [hF]
    exact c_vret hx hb hr hlocks hP hS dX0_addLast_29 (fun _ h => h)
  · skip
    refine lv_aload_n hx hb dX0_addLast_9 rfl (lv_at hl 0 rfl) ?_
    refine c_gL (i := i) hx hb hts hinX0 hown hK hP hi 2 (by decide) (hts (.fieldLink RX0 18 "FeedbackQueues$Level" "queue" "[I") (by decide +kernel)) rfl dX0_addLast_10 ?_
    refine lv_aload_n hx hb dX0_addLast_13 rfl (lv_at hl 0 rfl) ?_
    refine c_gL (i := i) hx hb hts hinX0 hown hK hP hi 3 (by decide) (hts (.fieldLink RX0 22 "FeedbackQueues$Level" "size" "I") (by decide +kernel)) rfl dX0_addLast_14 ?_
    refine lv_iload_n hx hb dX0_addLast_17 rfl (lv_at hl 1 rfl) ?_
    refine c_sQ (i := i) (k := ((cL S i 3)).toNatClampNeg) (v := p1) hx hb hK hap hP hS hi (ix_nge (k := 16) hz (by omega) (by decide) (by omega) c_6) dX0_addLast_18 (fun H locs hP hS => ?_)
    obtain ⟨S1, eS1⟩ : ∃ z : Cs, z = sQ S i (((cL S i 3)).toNatClampNeg) p1 := ⟨_, rfl⟩
    rw [← eS1] at hP
    refine lv_aload_n hx hb dX0_addLast_19 rfl (lv_at hl 0 rfl) ?_
    refine lv_dup hx hb dX0_addLast_20 rfl ?_
    refine c_gL (i := i) hx hb hts hinX0 hown hK hP hi 3 (by decide) (hts (.fieldLink RX0 22 "FeedbackQueues$Level" "size" "I") (by decide +kernel)) rfl dX0_addLast_21 ?_
    refine lv_iconst (v := 1) hx hb dX0_addLast_24 (by decide) ?_
    refine lv_iadd hx hb dX0_addLast_25 ?_
    refine c_pL (i := i) (ty := .int) (v := (cL S1 i 3) + 1) hx hb hts hinX0 hown hK hap hP hS hi 3 (by decide) (hts (.fieldLink RX0 22 "FeedbackQueues$Level" "size" "I") (by decide +kernel)) rfl (by decide +kernel) rfl rfl (cLf_3 ad S1 i _) (Nat.le_of_ble_eq_true rfl) dX0_addLast_26 (fun H locs hP hS => ?_)
    obtain ⟨S2, eS2⟩ : ∃ z : Cs, z = sL S1 i 3 ((cL S1 i 3) + 1) := ⟨_, rfl⟩
    rw [← eS2] at hP
    have hF : F_X0_addLast S i p1 = S2 := by subst eS2 eS1; simp only [F_X0_addLast, if_neg c_6]
    rw [hF]
    exact c_vret hx hb hr hlocks hP hS dX0_addLast_29 (fun _ h => h)
set_option maxHeartbeats 4000000 in
set_option maxRecDepth 100000 in
theorem k_X0_addFirst (l : Launch) (D : va_G) (cy : Nat → ClassId) (ad : Nat → Nat) (S : Cs) (i : Nat) (p1 : Int32) (hi : i < 6) (hz : ub 16 (cL S i 3)) : cMv l yX0_addFirst wsX0_addFirst { frames := 0, cells := 0, slots := 0, locals := 0 } D cy ad [.ref (ad (4 + 2 * i)), .int p1] S (F_X0_addFirst S i p1) := by
  intro sz
  refine Met.ofW (cc := cX0_addFirst) (maxL := 3) (ret := none) (by decide) rfl ?_
  intro p e s m args below meth c s₁ B hml hv
  obtain ⟨rfl, hsz, hP, hK, hap0, hN⟩ := hv
  have hx := B.exec
  have hb := B.bytes
  have hr := B.returns
  have hts := atoms_spec (ws := wsX0_addFirst) B.pre
  have hown : s.vm.findClass RX0 = some m.cls := findClass_of_methodNamed B.named
  have hlocks := B.notSynchronized
  subst hsz
  have hap := gw_self (sz := s.heap.size) hap0
  generalize hAe : gA 48 ad s.heap.size = A at hap ⊢
  have hA : ∀ q : Nat, s.heap.size ≤ q → A q := fun q h => by rw [← hAe]; exact Or.inr h
  have hS : va_S A s.heap s.heap [] := va_S.rf
  have hinX0 : ∀ w ∈ wsX00, w ∈ wsX0_addFirst := by decide +kernel
  have hl := lv_entry ([.ref (ad (4 + 2 * i)), .int p1]) (n := 3) (Nat.le_of_ble_eq_true rfl)
  rw [lg_entry_eq]
  generalize (lg_sl ([.ref (ad (4 + 2 * i)), .int p1]) ++ List.replicate (3 - (lg_sl ([.ref (ad (4 + 2 * i)), .int p1])).length) Slot.unset).toArray = ls at hl ⊢
  have hl : lv_has ls 3 [(0, .ref (ad (4 + 2 * i))), (1, .int p1)] := hl
  obtain ⟨H, hH⟩ : ∃ H, H = s.heap := ⟨_, rfl⟩
  rw [← hH] at hP
  have hS : va_S A s.heap H [] := by rw [hH]; exact hS
  rw [← hH]
  generalize ([] : List Loc) = locs at hS ⊢
  refine lv_aload_n hx hb dX0_addFirst_0 rfl (lv_at hl 0 rfl) ?_
  refine c_gL (i := i) hx hb hts hinX0 hown hK hP hi 3 (by decide) (hts (.fieldLink RX0 22 "FeedbackQueues$Level" "size" "I") (by decide +kernel)) rfl dX0_addFirst_1 ?_
  refine lv_bipush (v := 16) hx hb dX0_addFirst_4 (by decide) ?_
  refine lv_icmp_ge (tgt := 55) hx hb dX0_addFirst_6 (by decide) (fun c_6 => ?_) (fun c_6 => ?_)
  · skip
    have hF : F_X0_addFirst S i p1 = S := by simp only [F_X0_addFirst, if_pos c_6]
    rw [hF]
    exact c_vret hx hb hr hlocks hP hS dX0_addFirst_55 (fun _ h => h)
  · skip
    refine lv_aload_n hx hb dX0_addFirst_9 rfl (lv_at hl 0 rfl) ?_
    refine c_gL (i := i) hx hb hts hinX0 hown hK hP hi 3 (by decide) (hts (.fieldLink RX0 22 "FeedbackQueues$Level" "size" "I") (by decide +kernel)) rfl dX0_addFirst_10 ?_
    refine lv_istore_n (lv' := [(2, .int (cL S i 3)), (0, .ref (ad (4 + 2 * i))), (1, .int p1)]) hx hb dX0_addFirst_13 rfl hl (by decide) rfl (fun ls hl => ?_)
    have hz9 := (ix_nge (k := 16) hz (by omega) (by decide) (by omega) c_6).2.2
    have lp_14 : ∀ (Q : State → Prop) (n : Nat) (Z : Cs) (H : Heap) (locs : List Loc) (ls : Array Slot), n ≤ ((cL S i 3).toNatClampNeg) → True → va_P D vwCl (cwl cy ad Z) H → va_S A s.heap H locs → lv_has ls 3 [(2, .int (nI n)), (0, .ref (ad (4 + 2 * i))), (1, .int p1)] → (∀ (H : Heap) (locs : List Loc) (ls : Array Slot), va_P D vwCl (cwl cy ad (itd (B_X0_addFirst_14 i p1) n Z)) H → va_S A s.heap H locs → lv_has ls 3 [(2, .int (nI 0)), (0, .ref (ad (4 + 2 * i))), (1, .int p1)] → W p l e (headSpec wsX0_addFirst { frames := 0, cells := 0, slots := 0, locals := 0 }).room s m ([.ref (ad (4 + 2 * i)), .int p1] : List Value).toArray below meth c H locs 0 0 Q (F0 m 38 ls [])) → W p l e (headSpec wsX0_addFirst { frames := 0, cells := 0, slots := 0, locals := 0 }).room s m ([.ref (ad (4 + 2 * i)), .int p1] : List Value).toArray below meth c H locs 0 0 Q (F0 m 14 ls []) := by
      intro Q n
      induction n with
      | zero =>
        intro Z H locs ls hk hI hP hS hl K
        refine lv_iload_n hx hb dX0_addFirst_14 rfl (lv_at hl 0 rfl) ?_
        refine lv_if_le (tgt := 38) hx hb dX0_addFirst_15 (by decide) (fun c_15 => ?_) (fun c_15 => ?_)
        rotate_left
        · exact absurd (by decide) c_15
        exact K H locs ls hP hS (lv_sub hl [0, 1, 2] rfl)
      | succ n ih =>
        intro Z H locs ls hk hI hP hS hl K
        refine lv_iload_n hx hb dX0_addFirst_14 rfl (lv_at hl 0 rfl) ?_
        refine lv_if_le (tgt := 38) hx hb dX0_addFirst_15 (by decide) (fun c_15 => ?_) (fun c_15 => ?_)
        · exact absurd c_15 (nI_nle (by omega) (by omega))
        refine lv_aload_n hx hb dX0_addFirst_18 rfl (lv_at hl 1 rfl) ?_
        refine c_gL (i := i) hx hb hts hinX0 hown hK hP hi 2 (by decide) (hts (.fieldLink RX0 18 "FeedbackQueues$Level" "queue" "[I") (by decide +kernel)) rfl dX0_addFirst_19 ?_
        refine lv_iload_n hx hb dX0_addFirst_22 rfl (lv_at hl 0 rfl) ?_
        refine lv_aload_n hx hb dX0_addFirst_23 rfl (lv_at hl 1 rfl) ?_
        refine c_gL (i := i) hx hb hts hinX0 hown hK hP hi 2 (by decide) (hts (.fieldLink RX0 18 "FeedbackQueues$Level" "queue" "[I") (by decide +kernel)) rfl dX0_addFirst_24 ?_
        refine lv_iload_n hx hb dX0_addFirst_27 rfl (lv_at hl 0 rfl) ?_
        refine lv_iconst (v := 1) hx hb dX0_addFirst_28 (by decide) ?_
        refine lv_isub hx hb dX0_addFirst_29 ?_
        refine c_iQ (i := i) (k := n) hx hb hK hP hi (ix_pre (by omega) (by omega)) dX0_addFirst_30 ?_
        refine c_sQ (i := i) (k := n + 1) (v := cQ Z i n) hx hb hK hap hP hS hi (ix_nI (by omega) (by omega)) dX0_addFirst_31 (fun H locs hP hS => ?_)
        obtain ⟨S1, eS1⟩ : ∃ z : Cs, z = sQ Z i (n + 1) (cQ Z i n) := ⟨_, rfl⟩
        rw [← eS1] at hP
        refine lv_iinc (v := nI n) (lv' := [(2, .int (nI n)), (0, .ref (ad (4 + 2 * i))), (1, .int p1)]) hx hb dX0_addFirst_32 hl (k := 0) rfl (dec_nI n) (by decide) rfl (fun ls hl => ?_)
        refine lv_goto (tgt := 14) hx hb dX0_addFirst_35 (by decide) ?_
        have hF : B_X0_addFirst_14 i p1 n Z = S1 := by subst eS1; simp only [B_X0_addFirst_14]
        rw [← hF] at hP
        exact ih (B_X0_addFirst_14 i p1 n Z) H locs ls (by omega) (trivial) hP hS (lv_sub hl [0, 1, 2] rfl) K
    refine lp_14 _ ((cL S i 3).toNatClampNeg) S H locs ls (Nat.le_refl _) (trivial) hP hS (by rw [← ub_nI hz (by omega)]; exact lv_sub hl [0, 1, 2] rfl) (fun H locs ls hP hS hl => ?_)
    obtain ⟨S2, eS2⟩ : ∃ z : Cs, z = itd (B_X0_addFirst_14 i p1) ((cL S i 3).toNatClampNeg) S := ⟨_, rfl⟩
    rw [← eS2] at hP
    refine lv_aload_n hx hb dX0_addFirst_38 rfl (lv_at hl 1 rfl) ?_
    refine c_gL (i := i) hx hb hts hinX0 hown hK hP hi 2 (by decide) (hts (.fieldLink RX0 18 "FeedbackQueues$Level" "queue" "[I") (by decide +kernel)) rfl dX0_addFirst_39 ?_
    refine lv_iconst (v := 0) hx hb dX0_addFirst_42 (by decide) ?_
    refine lv_iload_n hx hb dX0_addFirst_43 rfl (lv_at hl 2 rfl) ?_
    refine c_sQ (i := i) (k := 0) (v := p1) hx hb hK hap hP hS hi (ix_lit (by decide) (by omega) (by omega)) dX0_addFirst_44 (fun H locs hP hS => ?_)
    obtain ⟨S3, eS3⟩ : ∃ z : Cs, z = sQ S2 i 0 p1 := ⟨_, rfl⟩
    rw [← eS3] at hP
    refine lv_aload_n hx hb dX0_addFirst_45 rfl (lv_at hl 1 rfl) ?_
    refine lv_dup hx hb dX0_addFirst_46 rfl ?_
    refine c_gL (i := i) hx hb hts hinX0 hown hK hP hi 3 (by decide) (hts (.fieldLink RX0 22 "FeedbackQueues$Level" "size" "I") (by decide +kernel)) rfl dX0_addFirst_47 ?_
    refine lv_iconst (v := 1) hx hb dX0_addFirst_50 (by decide) ?_
    refine lv_iadd hx hb dX0_addFirst_51 ?_
    refine c_pL (i := i) (ty := .int) (v := (cL S3 i 3) + 1) hx hb hts hinX0 hown hK hap hP hS hi 3 (by decide) (hts (.fieldLink RX0 22 "FeedbackQueues$Level" "size" "I") (by decide +kernel)) rfl (by decide +kernel) rfl rfl (cLf_3 ad S3 i _) (Nat.le_of_ble_eq_true rfl) dX0_addFirst_52 (fun H locs hP hS => ?_)
    obtain ⟨S4, eS4⟩ : ∃ z : Cs, z = sL S3 i 3 ((cL S3 i 3) + 1) := ⟨_, rfl⟩
    rw [← eS4] at hP
    have hF : F_X0_addFirst S i p1 = S4 := by subst eS4 eS3 eS2; simp only [F_X0_addFirst, if_neg c_6]
    rw [hF]
    exact c_vret hx hb hr hlocks hP hS dX0_addFirst_55 (fun _ h => h)
set_option maxHeartbeats 4000000 in
set_option maxRecDepth 100000 in
theorem k_X0_takeFirst (l : Launch) (D : va_G) (cy : Nat → ClassId) (ad : Nat → Nat) (S : Cs) (i : Nat) (hi : i < 6) (hz : ub 16 (cL S i 3)) : cMi l yX0_takeFirst wsX0_takeFirst { frames := 0, cells := 0, slots := 0, locals := 0 } D cy ad [.ref (ad (4 + 2 * i))] S (F_X0_takeFirst S i).1 (F_X0_takeFirst S i).2 := by
  intro sz
  refine Met.ofW (cc := cX0_takeFirst) (maxL := 3) (ret := (some .int)) (by decide) rfl ?_
  intro p e s m args below meth c s₁ B hml hv
  obtain ⟨rfl, hsz, hP, hK, hap0, hN⟩ := hv
  have hx := B.exec
  have hb := B.bytes
  have hr := B.returns
  have hts := atoms_spec (ws := wsX0_takeFirst) B.pre
  have hown : s.vm.findClass RX0 = some m.cls := findClass_of_methodNamed B.named
  have hlocks := B.notSynchronized
  subst hsz
  have hap := gw_self (sz := s.heap.size) hap0
  generalize hAe : gA 48 ad s.heap.size = A at hap ⊢
  have hA : ∀ q : Nat, s.heap.size ≤ q → A q := fun q h => by rw [← hAe]; exact Or.inr h
  have hS : va_S A s.heap s.heap [] := va_S.rf
  have hinX0 : ∀ w ∈ wsX00, w ∈ wsX0_takeFirst := by decide +kernel
  have hl := lv_entry ([.ref (ad (4 + 2 * i))]) (n := 3) (Nat.le_of_ble_eq_true rfl)
  rw [lg_entry_eq]
  generalize (lg_sl ([.ref (ad (4 + 2 * i))]) ++ List.replicate (3 - (lg_sl ([.ref (ad (4 + 2 * i))])).length) Slot.unset).toArray = ls at hl ⊢
  have hl : lv_has ls 3 [(0, .ref (ad (4 + 2 * i)))] := hl
  obtain ⟨H, hH⟩ : ∃ H, H = s.heap := ⟨_, rfl⟩
  rw [← hH] at hP
  have hS : va_S A s.heap H [] := by rw [hH]; exact hS
  rw [← hH]
  generalize ([] : List Loc) = locs at hS ⊢
  refine lv_aload_n hx hb dX0_takeFirst_0 rfl (lv_at hl 0 rfl) ?_
  refine c_gL (i := i) hx hb hts hinX0 hown hK hP hi 3 (by decide) (hts (.fieldLink RX0 22 "FeedbackQueues$Level" "size" "I") (by decide +kernel)) rfl dX0_takeFirst_1 ?_
  refine lv_if_ne (tgt := 9) hx hb dX0_takeFirst_4 (by decide) (fun c_4 => ?_) (fun c_4 => ?_)
  · skip
    refine lv_aload_n hx hb dX0_takeFirst_9 rfl (lv_at hl 0 rfl) ?_
    refine c_gL (i := i) hx hb hts hinX0 hown hK hP hi 2 (by decide) (hts (.fieldLink RX0 18 "FeedbackQueues$Level" "queue" "[I") (by decide +kernel)) rfl dX0_takeFirst_10 ?_
    refine lv_iconst (v := 0) hx hb dX0_takeFirst_13 (by decide) ?_
    refine c_iQ (i := i) (k := 0) hx hb hK hP hi (ix_lit (by decide) (by omega) (by omega)) dX0_takeFirst_14 ?_
    refine lv_istore_n (lv' := [(1, .int (cQ S i 0)), (0, .ref (ad (4 + 2 * i)))]) hx hb dX0_takeFirst_15 rfl hl (by decide) rfl (fun ls hl => ?_)
    refine lv_aload_n hx hb dX0_takeFirst_16 rfl (lv_at hl 1 rfl) ?_
    refine lv_dup hx hb dX0_takeFirst_17 rfl ?_
    refine c_gL (i := i) hx hb hts hinX0 hown hK hP hi 3 (by decide) (hts (.fieldLink RX0 22 "FeedbackQueues$Level" "size" "I") (by decide +kernel)) rfl dX0_takeFirst_18 ?_
    refine lv_iconst (v := 1) hx hb dX0_takeFirst_21 (by decide) ?_
    refine lv_isub hx hb dX0_takeFirst_22 ?_
    refine c_pL (i := i) (ty := .int) (v := (cL S i 3) - 1) hx hb hts hinX0 hown hK hap hP hS hi 3 (by decide) (hts (.fieldLink RX0 22 "FeedbackQueues$Level" "size" "I") (by decide +kernel)) rfl (by decide +kernel) rfl rfl (cLf_3 ad S i _) (Nat.le_of_ble_eq_true rfl) dX0_takeFirst_23 (fun H locs hP hS => ?_)
    obtain ⟨S1, eS1⟩ : ∃ z : Cs, z = sL S i 3 ((cL S i 3) - 1) := ⟨_, rfl⟩
    rw [← eS1] at hP
    refine lv_iconst (v := 0) hx hb dX0_takeFirst_26 (by decide) ?_
    refine lv_istore_n (lv' := [(2, .int 0), (1, .int (cQ S i 0)), (0, .ref (ad (4 + 2 * i)))]) hx hb dX0_takeFirst_27 rfl hl (by decide) rfl (fun ls hl => ?_)
    have hz1 : ub 15 (cL S1 i 3) := by rw [eS1]; simp only [cL_sL, and_self, if_true]; exact ub_dec hz c_4
    have hz2 := ub_nI hz1 (by omega)
    have hz3 := ub_le hz1 (by omega)
    have lp_28 : ∀ (Q : State → Prop) (n t : Nat) (Z : Cs) (H : Heap) (locs : List Loc) (ls : Array Slot), t + n = (cL S1 i 3).toNatClampNeg → cL Z i 3 = nI ((cL S1 i 3).toNatClampNeg) → va_P D vwCl (cwl cy ad Z) H → va_S A s.heap H locs → lv_has ls 3 [(2, .int (nI t)), (1, .int (cQ S i 0)), (0, .ref (ad (4 + 2 * i)))] → (∀ (H : Heap) (locs : List Loc) (ls : Array Slot), va_P D vwCl (cwl cy ad (itr (B_X0_takeFirst_28 i) n t Z)) H → va_S A s.heap H locs → lv_has ls 3 [(2, .int (nI ((cL S1 i 3).toNatClampNeg))), (1, .int (cQ S i 0)), (0, .ref (ad (4 + 2 * i)))] → W p l e (headSpec wsX0_takeFirst { frames := 0, cells := 0, slots := 0, locals := 0 }).room s m ([.ref (ad (4 + 2 * i))] : List Value).toArray below meth c H locs 0 0 Q (F0 m 56 ls [])) → W p l e (headSpec wsX0_takeFirst { frames := 0, cells := 0, slots := 0, locals := 0 }).room s m ([.ref (ad (4 + 2 * i))] : List Value).toArray below meth c H locs 0 0 Q (F0 m 28 ls []) := by
      intro Q n
      induction n with
      | zero =>
        intro t Z H locs ls hk hI hP hS hl K
        refine lv_iload_n hx hb dX0_takeFirst_28 rfl (lv_at hl 0 rfl) ?_
        refine lv_aload_n hx hb dX0_takeFirst_29 rfl (lv_at hl 2 rfl) ?_
        refine c_gL (i := i) hx hb hts hinX0 hown hK hP hi 3 (by decide) (hts (.fieldLink RX0 22 "FeedbackQueues$Level" "size" "I") (by decide +kernel)) rfl dX0_takeFirst_30 ?_
        refine lv_icmp_ge (tgt := 56) hx hb dX0_takeFirst_33 (by decide) (fun c_33 => ?_) (fun c_33 => ?_)
        rotate_left
        · exact absurd (by rw [hI]; exact nI_le (by omega) (by omega)) c_33
        have hiN : t = (cL S1 i 3).toNatClampNeg := by omega
        rw [hiN] at hl
        exact K H locs ls hP hS (lv_sub hl [0, 1, 2] rfl)
      | succ n ih =>
        intro t Z H locs ls hk hI hP hS hl K
        have ht : t < (cL S1 i 3).toNatClampNeg := by omega
        refine lv_iload_n hx hb dX0_takeFirst_28 rfl (lv_at hl 0 rfl) ?_
        refine lv_aload_n hx hb dX0_takeFirst_29 rfl (lv_at hl 2 rfl) ?_
        refine c_gL (i := i) hx hb hts hinX0 hown hK hP hi 3 (by decide) (hts (.fieldLink RX0 22 "FeedbackQueues$Level" "size" "I") (by decide +kernel)) rfl dX0_takeFirst_30 ?_
        refine lv_icmp_ge (tgt := 56) hx hb dX0_takeFirst_33 (by decide) (fun c_33 => ?_) (fun c_33 => ?_)
        · exact absurd c_33 (by rw [hI]; exact nI_ge (by omega) (by omega))
        refine lv_aload_n hx hb dX0_takeFirst_36 rfl (lv_at hl 2 rfl) ?_
        refine c_gL (i := i) hx hb hts hinX0 hown hK hP hi 2 (by decide) (hts (.fieldLink RX0 18 "FeedbackQueues$Level" "queue" "[I") (by decide +kernel)) rfl dX0_takeFirst_37 ?_
        refine lv_iload_n hx hb dX0_takeFirst_40 rfl (lv_at hl 0 rfl) ?_
        refine lv_aload_n hx hb dX0_takeFirst_41 rfl (lv_at hl 2 rfl) ?_
        refine c_gL (i := i) hx hb hts hinX0 hown hK hP hi 2 (by decide) (hts (.fieldLink RX0 18 "FeedbackQueues$Level" "queue" "[I") (by decide +kernel)) rfl dX0_takeFirst_42 ?_
        refine lv_iload_n hx hb dX0_takeFirst_45 rfl (lv_at hl 0 rfl) ?_
        refine lv_iconst (v := 1) hx hb dX0_takeFirst_46 (by decide) ?_
        refine lv_iadd hx hb dX0_takeFirst_47 ?_
        refine c_iQ (i := i) (k := t + 1) hx hb hK hP hi (ix_suc (by omega) (by omega)) dX0_takeFirst_48 ?_
        refine c_sQ (i := i) (k := t) (v := cQ Z i (t + 1)) hx hb hK hap hP hS hi (ix_nI (by omega) (by omega)) dX0_takeFirst_49 (fun H locs hP hS => ?_)
        obtain ⟨S2, eS2⟩ : ∃ z : Cs, z = sQ Z i t (cQ Z i (t + 1)) := ⟨_, rfl⟩
        rw [← eS2] at hP
        refine lv_iinc (v := nI (t + 1)) (lv' := [(2, .int (nI (t + 1))), (1, .int (cQ S i 0)), (0, .ref (ad (4 + 2 * i)))]) hx hb dX0_takeFirst_50 hl (k := 0) rfl (inc_nI t) (by decide) rfl (fun ls hl => ?_)
        refine lv_goto (tgt := 28) hx hb dX0_takeFirst_53 (by decide) ?_
        have hF : B_X0_takeFirst_28 i t Z = S2 := by subst eS2; simp only [B_X0_takeFirst_28]
        rw [← hF] at hP
        exact ih (t + 1) (B_X0_takeFirst_28 i t Z) H locs ls (by omega) (hI) hP hS (lv_sub hl [0, 1, 2] rfl) K
    refine lp_28 _ ((cL S1 i 3).toNatClampNeg) 0 S1 H locs ls (by omega) (hz2) hP hS (by rw [show nI 0 = 0 from by decide]; exact lv_sub hl [0, 1, 2] rfl) (fun H locs ls hP hS hl => ?_)
    obtain ⟨S3, eS3⟩ : ∃ z : Cs, z = itr (B_X0_takeFirst_28 i) ((cL S1 i 3).toNatClampNeg) 0 S1 := ⟨_, rfl⟩
    rw [← eS3] at hP
    refine lv_iload_n hx hb dX0_takeFirst_56 rfl (lv_at hl 1 rfl) ?_
    have hF : F_X0_takeFirst S i = (S3, cQ S i 0) := by subst eS3 eS1; simp only [F_X0_takeFirst, if_neg c_4]
    rw [hF]
    exact c_iret hx hb hr hlocks hP hS dX0_takeFirst_57 (fun _ h => h)
  · skip
    refine lv_iconst (v := (-1)) hx hb dX0_takeFirst_7 (by decide) ?_
    have hF : F_X0_takeFirst S i = (S, (-1)) := by simp only [F_X0_takeFirst, if_pos c_4]
    rw [hF]
    exact c_iret hx hb hr hlocks hP hS dX0_takeFirst_8 (fun _ h => h)
set_option maxHeartbeats 4000000 in
set_option maxRecDepth 100000 in
theorem k_X0_addAllOf (l : Launch) (D : va_G) (cy : Nat → ClassId) (ad : Nat → Nat) (S : Cs) (i j : Nat) (hi : i < 6) (hj : j < 6) (hij : j ≠ i) (hz : ub 16 (cL S i 3)) (hzj : ub 16 (cL S j 3)) : cMv l yX0_addAllOf wsX0_addAllOf { frames := 1, cells := 0, slots := 0, locals := 21 } D cy ad [.ref (ad (4 + 2 * i)), .ref (ad (4 + 2 * j))] S (F_X0_addAllOf S i j) := by
  intro sz
  refine Met.ofW (cc := cX0_addAllOf) (maxL := 3) (ret := none) (by decide) rfl ?_
  intro p e s m args below meth c s₁ B hml hv
  obtain ⟨rfl, hsz, hP, hK, hap0, hN⟩ := hv
  have hx := B.exec
  have hb := B.bytes
  have hr := B.returns
  have hts := atoms_spec (ws := wsX0_addAllOf) B.pre
  have hown : s.vm.findClass RX0 = some m.cls := findClass_of_methodNamed B.named
  have hlocks := B.notSynchronized
  subst hsz
  have hap := gw_self (sz := s.heap.size) hap0
  generalize hAe : gA 48 ad s.heap.size = A at hap ⊢
  have hA : ∀ q : Nat, s.heap.size ≤ q → A q := fun q h => by rw [← hAe]; exact Or.inr h
  have hS : va_S A s.heap s.heap [] := va_S.rf
  have hinX0 : ∀ w ∈ wsX00, w ∈ wsX0_addAllOf := by decide +kernel
  have hl := lv_entry ([.ref (ad (4 + 2 * i)), .ref (ad (4 + 2 * j))]) (n := 3) (Nat.le_of_ble_eq_true rfl)
  rw [lg_entry_eq]
  generalize (lg_sl ([.ref (ad (4 + 2 * i)), .ref (ad (4 + 2 * j))]) ++ List.replicate (3 - (lg_sl ([.ref (ad (4 + 2 * i)), .ref (ad (4 + 2 * j))])).length) Slot.unset).toArray = ls at hl ⊢
  have hl : lv_has ls 3 [(0, .ref (ad (4 + 2 * i))), (1, .ref (ad (4 + 2 * j)))] := hl
  obtain ⟨H, hH⟩ : ∃ H, H = s.heap := ⟨_, rfl⟩
  rw [← hH] at hP
  have hS : va_S A s.heap H [] := by rw [hH]; exact hS
  rw [← hH]
  generalize ([] : List Loc) = locs at hS ⊢
  refine lv_iconst (v := 0) hx hb dX0_addAllOf_0 (by decide) ?_
  refine lv_istore_n (lv' := [(2, .int 0), (0, .ref (ad (4 + 2 * i))), (1, .ref (ad (4 + 2 * j)))]) hx hb dX0_addAllOf_1 rfl hl (by decide) rfl (fun ls hl => ?_)
  have hz2 := ub_nI hzj (by omega)
  have hz3 := ub_le hzj (by omega)
  have lp_2 : ∀ (Q : State → Prop) (n t : Nat) (Z : Cs) (H : Heap) (locs : List Loc) (ls : Array Slot), t + n = (cL S j 3).toNatClampNeg → (cL Z j 3 = nI ((cL S j 3).toNatClampNeg) ∧ ub 16 (cL Z i 3)) → va_P D vwCl (cwl cy ad Z) H → va_S A s.heap H locs → lv_has ls 3 [(2, .int (nI t)), (0, .ref (ad (4 + 2 * i))), (1, .ref (ad (4 + 2 * j)))] → (∀ (H : Heap) (locs : List Loc) (ls : Array Slot), va_P D vwCl (cwl cy ad (itr (B_X0_addAllOf_2 i j) n t Z)) H → va_S A s.heap H locs → lv_has ls 3 [(2, .int (nI ((cL S j 3).toNatClampNeg))), (0, .ref (ad (4 + 2 * i))), (1, .ref (ad (4 + 2 * j)))] → W p l e (headSpec wsX0_addAllOf { frames := 1, cells := 0, slots := 0, locals := 21 }).room s m ([.ref (ad (4 + 2 * i)), .ref (ad (4 + 2 * j))] : List Value).toArray below meth c H locs 0 0 Q (F0 m 26 ls [])) → W p l e (headSpec wsX0_addAllOf { frames := 1, cells := 0, slots := 0, locals := 21 }).room s m ([.ref (ad (4 + 2 * i)), .ref (ad (4 + 2 * j))] : List Value).toArray below meth c H locs 0 0 Q (F0 m 2 ls []) := by
    intro Q n
    induction n with
    | zero =>
      intro t Z H locs ls hk hI hP hS hl K
      refine lv_iload_n hx hb dX0_addAllOf_2 rfl (lv_at hl 0 rfl) ?_
      refine lv_aload_n hx hb dX0_addAllOf_3 rfl (lv_at hl 2 rfl) ?_
      refine c_gL (i := j) hx hb hts hinX0 hown hK hP hj 3 (by decide) (hts (.fieldLink RX0 22 "FeedbackQueues$Level" "size" "I") (by decide +kernel)) rfl dX0_addAllOf_4 ?_
      refine lv_icmp_ge (tgt := 26) hx hb dX0_addAllOf_7 (by decide) (fun c_7 => ?_) (fun c_7 => ?_)
      rotate_left
      · exact absurd (by rw [hI.1]; exact nI_le (by omega) (by omega)) c_7
      have hiN : t = (cL S j 3).toNatClampNeg := by omega
      rw [hiN] at hl
      exact K H locs ls hP hS (lv_sub hl [0, 1, 2] rfl)
    | succ n ih =>
      intro t Z H locs ls hk hI hP hS hl K
      have ht : t < (cL S j 3).toNatClampNeg := by omega
      refine lv_iload_n hx hb dX0_addAllOf_2 rfl (lv_at hl 0 rfl) ?_
      refine lv_aload_n hx hb dX0_addAllOf_3 rfl (lv_at hl 2 rfl) ?_
      refine c_gL (i := j) hx hb hts hinX0 hown hK hP hj 3 (by decide) (hts (.fieldLink RX0 22 "FeedbackQueues$Level" "size" "I") (by decide +kernel)) rfl dX0_addAllOf_4 ?_
      refine lv_icmp_ge (tgt := 26) hx hb dX0_addAllOf_7 (by decide) (fun c_7 => ?_) (fun c_7 => ?_)
      · exact absurd c_7 (by rw [hI.1]; exact nI_ge (by omega) (by omega))
      refine lv_aload_n hx hb dX0_addAllOf_10 rfl (lv_at hl 1 rfl) ?_
      refine lv_aload_n hx hb dX0_addAllOf_11 rfl (lv_at hl 2 rfl) ?_
      refine c_gL (i := j) hx hb hts hinX0 hown hK hP hj 2 (by decide) (hts (.fieldLink RX0 18 "FeedbackQueues$Level" "queue" "[I") (by decide +kernel)) rfl dX0_addAllOf_12 ?_
      refine lv_iload_n hx hb dX0_addAllOf_15 rfl (lv_at hl 0 rfl) ?_
      refine c_iQ (i := j) (k := t) hx hb hK hP hj (ix_nI (by omega) (by omega)) dX0_addAllOf_16 ?_
      refine c_cVv (As := [.int (cQ Z j t)]) (rest := []) (k := (4 + 2 * i)) (ci := 0) (q := (RX0, TX0, 4)) ⟨hx, hb, hml, hown, hts⟩ (k_X0_addLast l D cy ad Z i (cQ Z j t) hi hI.2) (cwV 1 hts gX0_addAllOf_X0_addLast rfl rfl rfl (by decide +kernel) ⟨Nat.le_of_ble_eq_true rfl, Nat.le_of_ble_eq_true rfl⟩) hK hap hA hN hP hS (by have h9 := (hi); omega) (cE_L cy ad Z hi) rfl rfl hl.1 rfl (Nat.le_of_ble_eq_true rfl) dX0_addAllOf_17 ⟨Nat.zero_le _, Nat.zero_le _⟩ (fun H locs hP hS => ?_)
      obtain ⟨S1, eS1⟩ : ∃ z : Cs, z = F_X0_addLast Z i (cQ Z j t) := ⟨_, rfl⟩
      rw [← eS1] at hP
      refine lv_iinc (v := nI (t + 1)) (lv' := [(2, .int (nI (t + 1))), (0, .ref (ad (4 + 2 * i))), (1, .ref (ad (4 + 2 * j)))]) hx hb dX0_addAllOf_20 hl (k := 0) rfl (inc_nI t) (by decide) rfl (fun ls hl => ?_)
      refine lv_goto (tgt := 2) hx hb dX0_addAllOf_23 (by decide) ?_
      have hF : B_X0_addAllOf_2 i j t Z = S1 := by subst eS1; simp only [B_X0_addAllOf_2]
      rw [← hF] at hP
      exact ih (t + 1) (B_X0_addAllOf_2 i j t Z) H locs ls (by omega) (aa_inv hij hI) hP hS (lv_sub hl [0, 1, 2] rfl) K
  refine lp_2 _ ((cL S j 3).toNatClampNeg) 0 S H locs ls (by omega) (⟨hz2, hz⟩) hP hS (by rw [show nI 0 = 0 from by decide]; exact lv_sub hl [0, 1, 2] rfl) (fun H locs ls hP hS hl => ?_)
  obtain ⟨S2, eS2⟩ : ∃ z : Cs, z = itr (B_X0_addAllOf_2 i j) ((cL S j 3).toNatClampNeg) 0 S := ⟨_, rfl⟩
  rw [← eS2] at hP
  have hF : F_X0_addAllOf S i j = S2 := by subst eS2; simp only [F_X0_addAllOf]
  rw [hF]
  exact c_vret hx hb hr hlocks hP hS dX0_addAllOf_26 (fun _ h => h)
set_option maxHeartbeats 4000000 in
set_option maxRecDepth 100000 in
theorem k_X1_startOver (l : Launch) (D : va_G) (cy : Nat → ClassId) (ad : Nat → Nat) (S : Cs) (i : Nat) (hi : i < 16)  : cMv l yX1_startOver wsX1_startOver { frames := 0, cells := 0, slots := 0, locals := 0 } D cy ad [.ref (ad (16 + 2 * i))] S (F_X1_startOver S i) := by
  intro sz
  refine Met.ofW (cc := cX1_startOver) (maxL := 1) (ret := none) (by decide) rfl ?_
  intro p e s m args below meth c s₁ B hml hv
  obtain ⟨rfl, hsz, hP, hK, hap0, hN⟩ := hv
  have hx := B.exec
  have hb := B.bytes
  have hr := B.returns
  have hts := atoms_spec (ws := wsX1_startOver) B.pre
  have hown : s.vm.findClass RX1 = some m.cls := findClass_of_methodNamed B.named
  have hlocks := B.notSynchronized
  subst hsz
  have hap := gw_self (sz := s.heap.size) hap0
  generalize hAe : gA 48 ad s.heap.size = A at hap ⊢
  have hA : ∀ q : Nat, s.heap.size ≤ q → A q := fun q h => by rw [← hAe]; exact Or.inr h
  have hS : va_S A s.heap s.heap [] := va_S.rf
  have hinX1 : ∀ w ∈ wsX10, w ∈ wsX1_startOver := by decide +kernel
  have hl := lv_entry ([.ref (ad (16 + 2 * i))]) (n := 1) (Nat.le_of_ble_eq_true rfl)
  rw [lg_entry_eq]
  generalize (lg_sl ([.ref (ad (16 + 2 * i))]) ++ List.replicate (1 - (lg_sl ([.ref (ad (16 + 2 * i))])).length) Slot.unset).toArray = ls at hl ⊢
  have hl : lv_has ls 1 [(0, .ref (ad (16 + 2 * i)))] := hl
  obtain ⟨H, hH⟩ : ∃ H, H = s.heap := ⟨_, rfl⟩
  rw [← hH] at hP
  have hS : va_S A s.heap H [] := by rw [hH]; exact hS
  rw [← hH]
  generalize ([] : List Loc) = locs at hS ⊢
  refine lv_aload_n hx hb dX1_startOver_0 rfl (lv_at hl 0 rfl) ?_
  refine lv_iconst (v := 0) hx hb dX1_startOver_1 (by decide) ?_
  refine c_pT (i := i) (ty := .int) (v := 0) hx hb hts hinX1 hown hK hap hP hS hi 4 (by decide) (hts (.fieldLink RX1 22 "FeedbackQueues$Task" "state" "I") (by decide +kernel)) rfl (by decide +kernel) rfl rfl (cTf_4 ad S i _) (Nat.le_of_ble_eq_true rfl) dX1_startOver_2 (fun H locs hP hS => ?_)
  obtain ⟨S1, eS1⟩ : ∃ z : Cs, z = sT S i 4 0 := ⟨_, rfl⟩
  rw [← eS1] at hP
  refine lv_aload_n hx hb dX1_startOver_5 rfl (lv_at hl 0 rfl) ?_
  refine lv_iconst (v := 0) hx hb dX1_startOver_6 (by decide) ?_
  refine c_pT (i := i) (ty := .int) (v := 0) hx hb hts hinX1 hown hK hap hP hS hi 5 (by decide) (hts (.fieldLink RX1 25 "FeedbackQueues$Task" "level" "I") (by decide +kernel)) rfl (by decide +kernel) rfl rfl (cTf_5 ad S1 i _) (Nat.le_of_ble_eq_true rfl) dX1_startOver_7 (fun H locs hP hS => ?_)
  obtain ⟨S2, eS2⟩ : ∃ z : Cs, z = sT S1 i 5 0 := ⟨_, rfl⟩
  rw [← eS2] at hP
  refine lv_aload_n hx hb dX1_startOver_10 rfl (lv_at hl 0 rfl) ?_
  refine lv_iconst (v := 0) hx hb dX1_startOver_11 (by decide) ?_
  refine c_pT (i := i) (ty := .int) (v := 0) hx hb hts hinX1 hown hK hap hP hS hi 6 (by decide) (hts (.fieldLink RX1 28 "FeedbackQueues$Task" "burstsBegun" "I") (by decide +kernel)) rfl (by decide +kernel) rfl rfl (cTf_6 ad S2 i _) (Nat.le_of_ble_eq_true rfl) dX1_startOver_12 (fun H locs hP hS => ?_)
  obtain ⟨S3, eS3⟩ : ∃ z : Cs, z = sT S2 i 6 0 := ⟨_, rfl⟩
  rw [← eS3] at hP
  refine lv_aload_n hx hb dX1_startOver_15 rfl (lv_at hl 0 rfl) ?_
  refine lv_iconst (v := 0) hx hb dX1_startOver_16 (by decide) ?_
  refine c_pT (i := i) (ty := .int) (v := 0) hx hb hts hinX1 hown hK hap hP hS hi 7 (by decide) (hts (.fieldLink RX1 31 "FeedbackQueues$Task" "burstLeft" "I") (by decide +kernel)) rfl (by decide +kernel) rfl rfl (cTf_7 ad S3 i _) (Nat.le_of_ble_eq_true rfl) dX1_startOver_17 (fun H locs hP hS => ?_)
  obtain ⟨S4, eS4⟩ : ∃ z : Cs, z = sT S3 i 7 0 := ⟨_, rfl⟩
  rw [← eS4] at hP
  refine lv_aload_n hx hb dX1_startOver_20 rfl (lv_at hl 0 rfl) ?_
  refine lv_iconst (v := 0) hx hb dX1_startOver_21 (by decide) ?_
  refine c_pT (i := i) (ty := .int) (v := 0) hx hb hts hinX1 hown hK hap hP hS hi 8 (by decide) (hts (.fieldLink RX1 34 "FeedbackQueues$Task" "quantumLeft" "I") (by decide +kernel)) rfl (by decide +kernel) rfl rfl (cTf_8 ad S4 i _) (Nat.le_of_ble_eq_true rfl) dX1_startOver_22 (fun H locs hP hS => ?_)
  obtain ⟨S5, eS5⟩ : ∃ z : Cs, z = sT S4 i 8 0 := ⟨_, rfl⟩
  rw [← eS5] at hP
  refine lv_aload_n hx hb dX1_startOver_25 rfl (lv_at hl 0 rfl) ?_
  refine lv_iconst (v := 0) hx hb dX1_startOver_26 (by decide) ?_
  refine c_pT (i := i) (ty := .int) (v := 0) hx hb hts hinX1 hown hK hap hP hS hi 9 (by decide) (hts (.fieldLink RX1 37 "FeedbackQueues$Task" "shareLeft" "I") (by decide +kernel)) rfl (by decide +kernel) rfl rfl (cTf_9 ad S5 i _) (Nat.le_of_ble_eq_true rfl) dX1_startOver_27 (fun H locs hP hS => ?_)
  obtain ⟨S6, eS6⟩ : ∃ z : Cs, z = sT S5 i 9 0 := ⟨_, rfl⟩
  rw [← eS6] at hP
  refine lv_aload_n hx hb dX1_startOver_30 rfl (lv_at hl 0 rfl) ?_
  refine lv_iconst (v := 0) hx hb dX1_startOver_31 (by decide) ?_
  refine c_pT (i := i) (ty := .boolean) (v := 0) hx hb hts hinX1 hown hK hap hP hS hi 10 (by decide) (hts (.fieldLink RX1 40 "FeedbackQueues$Task" "keepsQuantum" "Z") (by decide +kernel)) rfl (by decide +kernel) rfl rfl (cTf_10 ad S6 i _) (Nat.le_of_ble_eq_true rfl) dX1_startOver_32 (fun H locs hP hS => ?_)
  obtain ⟨S7, eS7⟩ : ∃ z : Cs, z = sT S6 i 10 0 := ⟨_, rfl⟩
  rw [← eS7] at hP
  refine lv_aload_n hx hb dX1_startOver_35 rfl (lv_at hl 0 rfl) ?_
  refine lv_iconst (v := 0) hx hb dX1_startOver_36 (by decide) ?_
  refine c_pT (i := i) (ty := .int) (v := 0) hx hb hts hinX1 hown hK hap hP hS hi 11 (by decide) (hts (.fieldLink RX1 44 "FeedbackQueues$Task" "ticksRun" "I") (by decide +kernel)) rfl (by decide +kernel) rfl rfl (cTf_11 ad S7 i _) (Nat.le_of_ble_eq_true rfl) dX1_startOver_37 (fun H locs hP hS => ?_)
  obtain ⟨S8, eS8⟩ : ∃ z : Cs, z = sT S7 i 11 0 := ⟨_, rfl⟩
  rw [← eS8] at hP
  refine lv_aload_n hx hb dX1_startOver_40 rfl (lv_at hl 0 rfl) ?_
  refine lv_iconst (v := 0) hx hb dX1_startOver_41 (by decide) ?_
  refine c_pT (i := i) (ty := .int) (v := 0) hx hb hts hinX1 hown hK hap hP hS hi 12 (by decide) (hts (.fieldLink RX1 47 "FeedbackQueues$Task" "ticksReady" "I") (by decide +kernel)) rfl (by decide +kernel) rfl rfl (cTf_12 ad S8 i _) (Nat.le_of_ble_eq_true rfl) dX1_startOver_42 (fun H locs hP hS => ?_)
  obtain ⟨S9, eS9⟩ : ∃ z : Cs, z = sT S8 i 12 0 := ⟨_, rfl⟩
  rw [← eS9] at hP
  refine lv_aload_n hx hb dX1_startOver_45 rfl (lv_at hl 0 rfl) ?_
  refine lv_iconst (v := 0) hx hb dX1_startOver_46 (by decide) ?_
  refine c_pT (i := i) (ty := .int) (v := 0) hx hb hts hinX1 hown hK hap hP hS hi 13 (by decide) (hts (.fieldLink RX1 50 "FeedbackQueues$Task" "ticksBlocked" "I") (by decide +kernel)) rfl (by decide +kernel) rfl rfl (cTf_13 ad S9 i _) (Nat.le_of_ble_eq_true rfl) dX1_startOver_47 (fun H locs hP hS => ?_)
  obtain ⟨S10, eS10⟩ : ∃ z : Cs, z = sT S9 i 13 0 := ⟨_, rfl⟩
  rw [← eS10] at hP
  refine lv_aload_n hx hb dX1_startOver_50 rfl (lv_at hl 0 rfl) ?_
  refine lv_iconst (v := (-1)) hx hb dX1_startOver_51 (by decide) ?_
  refine c_pT (i := i) (ty := .int) (v := (-1)) hx hb hts hinX1 hown hK hap hP hS hi 14 (by decide) (hts (.fieldLink RX1 53 "FeedbackQueues$Task" "firstRun" "I") (by decide +kernel)) rfl (by decide +kernel) rfl rfl (cTf_14 ad S10 i _) (Nat.le_of_ble_eq_true rfl) dX1_startOver_52 (fun H locs hP hS => ?_)
  obtain ⟨S11, eS11⟩ : ∃ z : Cs, z = sT S10 i 14 ((-1)) := ⟨_, rfl⟩
  rw [← eS11] at hP
  refine lv_aload_n hx hb dX1_startOver_55 rfl (lv_at hl 0 rfl) ?_
  refine lv_iconst (v := (-1)) hx hb dX1_startOver_56 (by decide) ?_
  refine c_pT (i := i) (ty := .int) (v := (-1)) hx hb hts hinX1 hown hK hap hP hS hi 15 (by decide) (hts (.fieldLink RX1 56 "FeedbackQueues$Task" "endedAt" "I") (by decide +kernel)) rfl (by decide +kernel) rfl rfl (cTf_15 ad S11 i _) (Nat.le_of_ble_eq_true rfl) dX1_startOver_57 (fun H locs hP hS => ?_)
  obtain ⟨S12, eS12⟩ : ∃ z : Cs, z = sT S11 i 15 ((-1)) := ⟨_, rfl⟩
  rw [← eS12] at hP
  refine lv_aload_n hx hb dX1_startOver_60 rfl (lv_at hl 0 rfl) ?_
  refine lv_iconst (v := 0) hx hb dX1_startOver_61 (by decide) ?_
  refine c_pT (i := i) (ty := .int) (v := 0) hx hb hts hinX1 hown hK hap hP hS hi 16 (by decide) (hts (.fieldLink RX1 59 "FeedbackQueues$Task" "timesSwitchedTo" "I") (by decide +kernel)) rfl (by decide +kernel) rfl rfl (cTf_16 ad S12 i _) (Nat.le_of_ble_eq_true rfl) dX1_startOver_62 (fun H locs hP hS => ?_)
  obtain ⟨S13, eS13⟩ : ∃ z : Cs, z = sT S12 i 16 0 := ⟨_, rfl⟩
  rw [← eS13] at hP
  refine lv_aload_n hx hb dX1_startOver_65 rfl (lv_at hl 0 rfl) ?_
  refine lv_iconst (v := 0) hx hb dX1_startOver_66 (by decide) ?_
  refine c_pT (i := i) (ty := .int) (v := 0) hx hb hts hinX1 hown hK hap hP hS hi 17 (by decide) (hts (.fieldLink RX1 62 "FeedbackQueues$Task" "timesDown" "I") (by decide +kernel)) rfl (by decide +kernel) rfl rfl (cTf_17 ad S13 i _) (Nat.le_of_ble_eq_true rfl) dX1_startOver_67 (fun H locs hP hS => ?_)
  obtain ⟨S14, eS14⟩ : ∃ z : Cs, z = sT S13 i 17 0 := ⟨_, rfl⟩
  rw [← eS14] at hP
  refine lv_aload_n hx hb dX1_startOver_70 rfl (lv_at hl 0 rfl) ?_
  refine lv_iconst (v := 0) hx hb dX1_startOver_71 (by decide) ?_
  refine c_pT (i := i) (ty := .int) (v := 0) hx hb hts hinX1 hown hK hap hP hS hi 18 (by decide) (hts (.fieldLink RX1 65 "FeedbackQueues$Task" "timesToFront" "I") (by decide +kernel)) rfl (by decide +kernel) rfl rfl (cTf_18 ad S14 i _) (Nat.le_of_ble_eq_true rfl) dX1_startOver_72 (fun H locs hP hS => ?_)
  obtain ⟨S15, eS15⟩ : ∃ z : Cs, z = sT S14 i 18 0 := ⟨_, rfl⟩
  rw [← eS15] at hP
  have hF : F_X1_startOver S i = S15 := by subst eS15 eS14 eS13 eS12 eS11 eS10 eS9 eS8 eS7 eS6 eS5 eS4 eS3 eS2 eS1; simp only [F_X1_startOver]
  rw [hF]
  exact c_vret hx hb hr hlocks hP hS dX1_startOver_75 (fun _ h => h)
set_option maxHeartbeats 4000000 in
set_option maxRecDepth 100000 in
theorem k_X1_tellArrival (l : Launch) (D : va_G) (cy : Nat → ClassId) (ad : Nat → Nat) (S : Cs) (i : Nat) (p1 : Int32) (hi : i < 16)  : cMv l yX1_tellArrival wsX1_tellArrival { frames := 0, cells := 0, slots := 0, locals := 0 } D cy ad [.ref (ad (16 + 2 * i)), .int p1] S (F_X1_tellArrival S i p1) := by
  intro sz
  refine Met.ofW (cc := cX1_tellArrival) (maxL := 2) (ret := none) (by decide) rfl ?_
  intro p e s m args below meth c s₁ B hml hv
  obtain ⟨rfl, hsz, hP, hK, hap0, hN⟩ := hv
  have hx := B.exec
  have hb := B.bytes
  have hr := B.returns
  have hts := atoms_spec (ws := wsX1_tellArrival) B.pre
  have hown : s.vm.findClass RX1 = some m.cls := findClass_of_methodNamed B.named
  have hlocks := B.notSynchronized
  subst hsz
  have hap := gw_self (sz := s.heap.size) hap0
  generalize hAe : gA 48 ad s.heap.size = A at hap ⊢
  have hA : ∀ q : Nat, s.heap.size ≤ q → A q := fun q h => by rw [← hAe]; exact Or.inr h
  have hS : va_S A s.heap s.heap [] := va_S.rf
  have hinX1 : ∀ w ∈ wsX10, w ∈ wsX1_tellArrival := by decide +kernel
  have hl := lv_entry ([.ref (ad (16 + 2 * i)), .int p1]) (n := 2) (Nat.le_of_ble_eq_true rfl)
  rw [lg_entry_eq]
  generalize (lg_sl ([.ref (ad (16 + 2 * i)), .int p1]) ++ List.replicate (2 - (lg_sl ([.ref (ad (16 + 2 * i)), .int p1])).length) Slot.unset).toArray = ls at hl ⊢
  have hl : lv_has ls 2 [(0, .ref (ad (16 + 2 * i))), (1, .int p1)] := hl
  obtain ⟨H, hH⟩ : ∃ H, H = s.heap := ⟨_, rfl⟩
  rw [← hH] at hP
  have hS : va_S A s.heap H [] := by rw [hH]; exact hS
  rw [← hH]
  generalize ([] : List Loc) = locs at hS ⊢
  refine lv_aload_n hx hb dX1_tellArrival_0 rfl (lv_at hl 0 rfl) ?_
  refine lv_iload_n hx hb dX1_tellArrival_1 rfl (lv_at hl 1 rfl) ?_
  refine c_pT (i := i) (ty := .int) (v := p1) hx hb hts hinX1 hown hK hap hP hS hi 1 (by decide) (hts (.fieldLink RX1 9 "FeedbackQueues$Task" "arrival" "I") (by decide +kernel)) rfl (by decide +kernel) rfl rfl (cTf_1 ad S i _) (Nat.le_of_ble_eq_true rfl) dX1_tellArrival_2 (fun H locs hP hS => ?_)
  obtain ⟨S1, eS1⟩ : ∃ z : Cs, z = sT S i 1 p1 := ⟨_, rfl⟩
  rw [← eS1] at hP
  refine lv_aload_n hx hb dX1_tellArrival_5 rfl (lv_at hl 0 rfl) ?_
  refine lv_iconst (v := 0) hx hb dX1_tellArrival_6 (by decide) ?_
  refine c_pT (i := i) (ty := .int) (v := 0) hx hb hts hinX1 hown hK hap hP hS hi 3 (by decide) (hts (.fieldLink RX1 19 "FeedbackQueues$Task" "burstCount" "I") (by decide +kernel)) rfl (by decide +kernel) rfl rfl (cTf_3 ad S1 i _) (Nat.le_of_ble_eq_true rfl) dX1_tellArrival_7 (fun H locs hP hS => ?_)
  obtain ⟨S2, eS2⟩ : ∃ z : Cs, z = sT S1 i 3 0 := ⟨_, rfl⟩
  rw [← eS2] at hP
  have hF : F_X1_tellArrival S i p1 = S2 := by subst eS2 eS1; simp only [F_X1_tellArrival]
  rw [hF]
  exact c_vret hx hb hr hlocks hP hS dX1_tellArrival_10 (fun _ h => h)
set_option maxHeartbeats 4000000 in
set_option maxRecDepth 100000 in
theorem k_X1_tellBurst (l : Launch) (D : va_G) (cy : Nat → ClassId) (ad : Nat → Nat) (S : Cs) (i : Nat) (p1 : Int32) (hi : i < 16) (hb3 : ub 12 (cT S i 3)) : cMi l yX1_tellBurst wsX1_tellBurst { frames := 0, cells := 0, slots := 0, locals := 0 } D cy ad [.ref (ad (16 + 2 * i)), .int p1] S (F_X1_tellBurst S i p1).1 (F_X1_tellBurst S i p1).2 := by
  intro sz
  refine Met.ofW (cc := cX1_tellBurst) (maxL := 2) (ret := (some .int)) (by decide) rfl ?_
  intro p e s m args below meth c s₁ B hml hv
  obtain ⟨rfl, hsz, hP, hK, hap0, hN⟩ := hv
  have hx := B.exec
  have hb := B.bytes
  have hr := B.returns
  have hts := atoms_spec (ws := wsX1_tellBurst) B.pre
  have hown : s.vm.findClass RX1 = some m.cls := findClass_of_methodNamed B.named
  have hlocks := B.notSynchronized
  subst hsz
  have hap := gw_self (sz := s.heap.size) hap0
  generalize hAe : gA 48 ad s.heap.size = A at hap ⊢
  have hA : ∀ q : Nat, s.heap.size ≤ q → A q := fun q h => by rw [← hAe]; exact Or.inr h
  have hS : va_S A s.heap s.heap [] := va_S.rf
  have hinX1 : ∀ w ∈ wsX10, w ∈ wsX1_tellBurst := by decide +kernel
  have hl := lv_entry ([.ref (ad (16 + 2 * i)), .int p1]) (n := 2) (Nat.le_of_ble_eq_true rfl)
  rw [lg_entry_eq]
  generalize (lg_sl ([.ref (ad (16 + 2 * i)), .int p1]) ++ List.replicate (2 - (lg_sl ([.ref (ad (16 + 2 * i)), .int p1])).length) Slot.unset).toArray = ls at hl ⊢
  have hl : lv_has ls 2 [(0, .ref (ad (16 + 2 * i))), (1, .int p1)] := hl
  obtain ⟨H, hH⟩ : ∃ H, H = s.heap := ⟨_, rfl⟩
  rw [← hH] at hP
  have hS : va_S A s.heap H [] := by rw [hH]; exact hS
  rw [← hH]
  generalize ([] : List Loc) = locs at hS ⊢
  refine lv_aload_n hx hb dX1_tellBurst_0 rfl (lv_at hl 0 rfl) ?_
  refine c_gT (i := i) hx hb hts hinX1 hown hK hP hi 3 (by decide) (hts (.fieldLink RX1 19 "FeedbackQueues$Task" "burstCount" "I") (by decide +kernel)) rfl dX1_tellBurst_1 ?_
  refine lv_bipush (v := 12) hx hb dX1_tellBurst_4 (by decide) ?_
  refine lv_icmp_lt (tgt := 11) hx hb dX1_tellBurst_6 (by decide) (fun c_6 => ?_) (fun c_6 => ?_)
  · skip
    refine lv_aload_n hx hb dX1_tellBurst_11 rfl (lv_at hl 0 rfl) ?_
    refine c_gT (i := i) hx hb hts hinX1 hown hK hP hi 2 (by decide) (hts (.fieldLink RX1 15 "FeedbackQueues$Task" "bursts" "[I") (by decide +kernel)) rfl dX1_tellBurst_12 ?_
    refine lv_aload_n hx hb dX1_tellBurst_15 rfl (lv_at hl 0 rfl) ?_
    refine c_gT (i := i) hx hb hts hinX1 hown hK hP hi 3 (by decide) (hts (.fieldLink RX1 19 "FeedbackQueues$Task" "burstCount" "I") (by decide +kernel)) rfl dX1_tellBurst_16 ?_
    refine lv_iload_n hx hb dX1_tellBurst_19 rfl (lv_at hl 1 rfl) ?_
    refine c_sB (i := i) (k := ((cT S i 3)).toNatClampNeg) (v := p1) hx hb hK hap hP hS hi (ix_lt (k := 12) hb3 (by omega) (by decide) (by omega) c_6) dX1_tellBurst_20 (fun H locs hP hS => ?_)
    obtain ⟨S1, eS1⟩ : ∃ z : Cs, z = sB S i (((cT S i 3)).toNatClampNeg) p1 := ⟨_, rfl⟩
    rw [← eS1] at hP
    refine lv_aload_n hx hb dX1_tellBurst_21 rfl (lv_at hl 0 rfl) ?_
    refine lv_dup hx hb dX1_tellBurst_22 rfl ?_
    refine c_gT (i := i) hx hb hts hinX1 hown hK hP hi 3 (by decide) (hts (.fieldLink RX1 19 "FeedbackQueues$Task" "burstCount" "I") (by decide +kernel)) rfl dX1_tellBurst_23 ?_
    refine lv_iconst (v := 1) hx hb dX1_tellBurst_26 (by decide) ?_
    refine lv_iadd hx hb dX1_tellBurst_27 ?_
    refine c_pT (i := i) (ty := .int) (v := (cT S1 i 3) + 1) hx hb hts hinX1 hown hK hap hP hS hi 3 (by decide) (hts (.fieldLink RX1 19 "FeedbackQueues$Task" "burstCount" "I") (by decide +kernel)) rfl (by decide +kernel) rfl rfl (cTf_3 ad S1 i _) (Nat.le_of_ble_eq_true rfl) dX1_tellBurst_28 (fun H locs hP hS => ?_)
    obtain ⟨S2, eS2⟩ : ∃ z : Cs, z = sT S1 i 3 ((cT S1 i 3) + 1) := ⟨_, rfl⟩
    rw [← eS2] at hP
    refine lv_aload_n hx hb dX1_tellBurst_31 rfl (lv_at hl 0 rfl) ?_
    refine c_gT (i := i) hx hb hts hinX1 hown hK hP hi 3 (by decide) (hts (.fieldLink RX1 19 "FeedbackQueues$Task" "burstCount" "I") (by decide +kernel)) rfl dX1_tellBurst_32 ?_
    have hF : F_X1_tellBurst S i p1 = (S2, cT S2 i 3) := by subst eS2 eS1; simp only [F_X1_tellBurst, if_pos c_6]
    rw [hF]
    exact c_iret hx hb hr hlocks hP hS dX1_tellBurst_35 (fun _ h => h)
  · skip
    refine lv_iconst (v := (-1)) hx hb dX1_tellBurst_9 (by decide) ?_
    have hF : F_X1_tellBurst S i p1 = (S, (-1)) := by simp only [F_X1_tellBurst, if_neg c_6]
    rw [hF]
    exact c_iret hx hb hr hlocks hP hS dX1_tellBurst_10 (fun _ h => h)
set_option maxHeartbeats 4000000 in
set_option maxRecDepth 100000 in
theorem k_X1_beginBurst (l : Launch) (D : va_G) (cy : Nat → ClassId) (ad : Nat → Nat) (S : Cs) (i : Nat) (hi : i < 16) (hg : ub 12 (cT S i 6)) (hb3 : ub 12 (cT S i 3)) : cMi l yX1_beginBurst wsX1_beginBurst { frames := 0, cells := 0, slots := 0, locals := 0 } D cy ad [.ref (ad (16 + 2 * i))] S (F_X1_beginBurst S i).1 (F_X1_beginBurst S i).2 := by
  intro sz
  refine Met.ofW (cc := cX1_beginBurst) (maxL := 1) (ret := (some .boolean)) (by decide) rfl ?_
  intro p e s m args below meth c s₁ B hml hv
  obtain ⟨rfl, hsz, hP, hK, hap0, hN⟩ := hv
  have hx := B.exec
  have hb := B.bytes
  have hr := B.returns
  have hts := atoms_spec (ws := wsX1_beginBurst) B.pre
  have hown : s.vm.findClass RX1 = some m.cls := findClass_of_methodNamed B.named
  have hlocks := B.notSynchronized
  subst hsz
  have hap := gw_self (sz := s.heap.size) hap0
  generalize hAe : gA 48 ad s.heap.size = A at hap ⊢
  have hA : ∀ q : Nat, s.heap.size ≤ q → A q := fun q h => by rw [← hAe]; exact Or.inr h
  have hS : va_S A s.heap s.heap [] := va_S.rf
  have hinX1 : ∀ w ∈ wsX10, w ∈ wsX1_beginBurst := by decide +kernel
  have hl := lv_entry ([.ref (ad (16 + 2 * i))]) (n := 1) (Nat.le_of_ble_eq_true rfl)
  rw [lg_entry_eq]
  generalize (lg_sl ([.ref (ad (16 + 2 * i))]) ++ List.replicate (1 - (lg_sl ([.ref (ad (16 + 2 * i))])).length) Slot.unset).toArray = ls at hl ⊢
  have hl : lv_has ls 1 [(0, .ref (ad (16 + 2 * i)))] := hl
  obtain ⟨H, hH⟩ : ∃ H, H = s.heap := ⟨_, rfl⟩
  rw [← hH] at hP
  have hS : va_S A s.heap H [] := by rw [hH]; exact hS
  rw [← hH]
  generalize ([] : List Loc) = locs at hS ⊢
  refine lv_aload_n hx hb dX1_beginBurst_0 rfl (lv_at hl 0 rfl) ?_
  refine c_gT (i := i) hx hb hts hinX1 hown hK hP hi 6 (by decide) (hts (.fieldLink RX1 28 "FeedbackQueues$Task" "burstsBegun" "I") (by decide +kernel)) rfl dX1_beginBurst_1 ?_
  refine lv_aload_n hx hb dX1_beginBurst_4 rfl (lv_at hl 0 rfl) ?_
  refine c_gT (i := i) hx hb hts hinX1 hown hK hP hi 3 (by decide) (hts (.fieldLink RX1 19 "FeedbackQueues$Task" "burstCount" "I") (by decide +kernel)) rfl dX1_beginBurst_5 ?_
  refine lv_icmp_lt (tgt := 13) hx hb dX1_beginBurst_8 (by decide) (fun c_8 => ?_) (fun c_8 => ?_)
  · skip
    refine lv_aload_n hx hb dX1_beginBurst_13 rfl (lv_at hl 0 rfl) ?_
    refine lv_aload_n hx hb dX1_beginBurst_14 rfl (lv_at hl 0 rfl) ?_
    refine c_gT (i := i) hx hb hts hinX1 hown hK hP hi 2 (by decide) (hts (.fieldLink RX1 15 "FeedbackQueues$Task" "bursts" "[I") (by decide +kernel)) rfl dX1_beginBurst_15 ?_
    refine lv_aload_n hx hb dX1_beginBurst_18 rfl (lv_at hl 0 rfl) ?_
    refine c_gT (i := i) hx hb hts hinX1 hown hK hP hi 6 (by decide) (hts (.fieldLink RX1 28 "FeedbackQueues$Task" "burstsBegun" "I") (by decide +kernel)) rfl dX1_beginBurst_19 ?_
    refine c_iB (i := i) (k := ((cT S i 6)).toNatClampNeg) hx hb hK hP hi (ix_lt2 hg hb3 (by omega) (by omega) c_8) dX1_beginBurst_22 ?_
    refine c_pT (i := i) (ty := .int) (v := cB S i (((cT S i 6)).toNatClampNeg)) hx hb hts hinX1 hown hK hap hP hS hi 7 (by decide) (hts (.fieldLink RX1 31 "FeedbackQueues$Task" "burstLeft" "I") (by decide +kernel)) rfl (by decide +kernel) rfl rfl (cTf_7 ad S i _) (Nat.le_of_ble_eq_true rfl) dX1_beginBurst_23 (fun H locs hP hS => ?_)
    obtain ⟨S1, eS1⟩ : ∃ z : Cs, z = sT S i 7 (cB S i (((cT S i 6)).toNatClampNeg)) := ⟨_, rfl⟩
    rw [← eS1] at hP
    refine lv_aload_n hx hb dX1_beginBurst_26 rfl (lv_at hl 0 rfl) ?_
    refine lv_dup hx hb dX1_beginBurst_27 rfl ?_
    refine c_gT (i := i) hx hb hts hinX1 hown hK hP hi 6 (by decide) (hts (.fieldLink RX1 28 "FeedbackQueues$Task" "burstsBegun" "I") (by decide +kernel)) rfl dX1_beginBurst_28 ?_
    refine lv_iconst (v := 1) hx hb dX1_beginBurst_31 (by decide) ?_
    refine lv_iadd hx hb dX1_beginBurst_32 ?_
    refine c_pT (i := i) (ty := .int) (v := (cT S1 i 6) + 1) hx hb hts hinX1 hown hK hap hP hS hi 6 (by decide) (hts (.fieldLink RX1 28 "FeedbackQueues$Task" "burstsBegun" "I") (by decide +kernel)) rfl (by decide +kernel) rfl rfl (cTf_6 ad S1 i _) (Nat.le_of_ble_eq_true rfl) dX1_beginBurst_33 (fun H locs hP hS => ?_)
    obtain ⟨S2, eS2⟩ : ∃ z : Cs, z = sT S1 i 6 ((cT S1 i 6) + 1) := ⟨_, rfl⟩
    rw [← eS2] at hP
    refine lv_iconst (v := 1) hx hb dX1_beginBurst_36 (by decide) ?_
    have hF : F_X1_beginBurst S i = (S2, 1) := by subst eS2 eS1; simp only [F_X1_beginBurst, if_pos c_8]
    rw [hF]
    exact c_zret hx hb hr hlocks narrow_b1 hP hS dX1_beginBurst_37 (fun _ h => h)
  · skip
    refine lv_iconst (v := 0) hx hb dX1_beginBurst_11 (by decide) ?_
    have hF : F_X1_beginBurst S i = (S, 0) := by simp only [F_X1_beginBurst, if_neg c_8]
    rw [hF]
    exact c_zret hx hb hr hlocks narrow_b0 hP hS dX1_beginBurst_12 (fun _ h => h)
set_option maxHeartbeats 4000000 in
set_option maxRecDepth 100000 in
theorem k_X1_beginRunning (l : Launch) (D : va_G) (cy : Nat → ClassId) (ad : Nat → Nat) (S : Cs) (i : Nat) (p1 : Int32) (p2 : Int32) (hi : i < 16)  : cMv l yX1_beginRunning wsX1_beginRunning { frames := 0, cells := 0, slots := 0, locals := 0 } D cy ad [.ref (ad (16 + 2 * i)), .int p1, .int p2] S (F_X1_beginRunning S i p1 p2) := by
  intro sz
  refine Met.ofW (cc := cX1_beginRunning) (maxL := 3) (ret := none) (by decide) rfl ?_
  intro p e s m args below meth c s₁ B hml hv
  obtain ⟨rfl, hsz, hP, hK, hap0, hN⟩ := hv
  have hx := B.exec
  have hb := B.bytes
  have hr := B.returns
  have hts := atoms_spec (ws := wsX1_beginRunning) B.pre
  have hown : s.vm.findClass RX1 = some m.cls := findClass_of_methodNamed B.named
  have hlocks := B.notSynchronized
  subst hsz
  have hap := gw_self (sz := s.heap.size) hap0
  generalize hAe : gA 48 ad s.heap.size = A at hap ⊢
  have hA : ∀ q : Nat, s.heap.size ≤ q → A q := fun q h => by rw [← hAe]; exact Or.inr h
  have hS : va_S A s.heap s.heap [] := va_S.rf
  have hinX1 : ∀ w ∈ wsX10, w ∈ wsX1_beginRunning := by decide +kernel
  have hl := lv_entry ([.ref (ad (16 + 2 * i)), .int p1, .int p2]) (n := 3) (Nat.le_of_ble_eq_true rfl)
  rw [lg_entry_eq]
  generalize (lg_sl ([.ref (ad (16 + 2 * i)), .int p1, .int p2]) ++ List.replicate (3 - (lg_sl ([.ref (ad (16 + 2 * i)), .int p1, .int p2])).length) Slot.unset).toArray = ls at hl ⊢
  have hl : lv_has ls 3 [(0, .ref (ad (16 + 2 * i))), (1, .int p1), (2, .int p2)] := hl
  obtain ⟨H, hH⟩ : ∃ H, H = s.heap := ⟨_, rfl⟩
  rw [← hH] at hP
  have hS : va_S A s.heap H [] := by rw [hH]; exact hS
  rw [← hH]
  generalize ([] : List Loc) = locs at hS ⊢
  refine lv_aload_n hx hb dX1_beginRunning_0 rfl (lv_at hl 0 rfl) ?_
  refine lv_iconst (v := 2) hx hb dX1_beginRunning_1 (by decide) ?_
  refine c_pT (i := i) (ty := .int) (v := 2) hx hb hts hinX1 hown hK hap hP hS hi 4 (by decide) (hts (.fieldLink RX1 22 "FeedbackQueues$Task" "state" "I") (by decide +kernel)) rfl (by decide +kernel) rfl rfl (cTf_4 ad S i _) (Nat.le_of_ble_eq_true rfl) dX1_beginRunning_2 (fun H locs hP hS => ?_)
  obtain ⟨S1, eS1⟩ : ∃ z : Cs, z = sT S i 4 2 := ⟨_, rfl⟩
  rw [← eS1] at hP
  refine lv_aload_n hx hb dX1_beginRunning_5 rfl (lv_at hl 0 rfl) ?_
  refine c_gT (i := i) hx hb hts hinX1 hown hK hP hi 10 (by decide) (hts (.fieldLink RX1 40 "FeedbackQueues$Task" "keepsQuantum" "Z") (by decide +kernel)) rfl dX1_beginRunning_6 ?_
  refine lv_if_ne (tgt := 17) hx hb dX1_beginRunning_9 (by decide) (fun c_9 => ?_) (fun c_9 => ?_)
  · skip
    refine lv_aload_n hx hb dX1_beginRunning_17 rfl (lv_at hl 0 rfl) ?_
    refine lv_iconst (v := 0) hx hb dX1_beginRunning_18 (by decide) ?_
    refine c_pT (i := i) (ty := .boolean) (v := 0) hx hb hts hinX1 hown hK hap hP hS hi 10 (by decide) (hts (.fieldLink RX1 40 "FeedbackQueues$Task" "keepsQuantum" "Z") (by decide +kernel)) rfl (by decide +kernel) rfl rfl (cTf_10 ad S1 i _) (Nat.le_of_ble_eq_true rfl) dX1_beginRunning_19 (fun H locs hP hS => ?_)
    obtain ⟨S2, eS2⟩ : ∃ z : Cs, z = sT S1 i 10 0 := ⟨_, rfl⟩
    rw [← eS2] at hP
    refine lv_aload_n hx hb dX1_beginRunning_22 rfl (lv_at hl 0 rfl) ?_
    refine lv_dup hx hb dX1_beginRunning_23 rfl ?_
    refine c_gT (i := i) hx hb hts hinX1 hown hK hP hi 16 (by decide) (hts (.fieldLink RX1 59 "FeedbackQueues$Task" "timesSwitchedTo" "I") (by decide +kernel)) rfl dX1_beginRunning_24 ?_
    refine lv_iconst (v := 1) hx hb dX1_beginRunning_27 (by decide) ?_
    refine lv_iadd hx hb dX1_beginRunning_28 ?_
    refine c_pT (i := i) (ty := .int) (v := (cT S2 i 16) + 1) hx hb hts hinX1 hown hK hap hP hS hi 16 (by decide) (hts (.fieldLink RX1 59 "FeedbackQueues$Task" "timesSwitchedTo" "I") (by decide +kernel)) rfl (by decide +kernel) rfl rfl (cTf_16 ad S2 i _) (Nat.le_of_ble_eq_true rfl) dX1_beginRunning_29 (fun H locs hP hS => ?_)
    obtain ⟨S3, eS3⟩ : ∃ z : Cs, z = sT S2 i 16 ((cT S2 i 16) + 1) := ⟨_, rfl⟩
    rw [← eS3] at hP
    refine lv_aload_n hx hb dX1_beginRunning_32 rfl (lv_at hl 0 rfl) ?_
    refine c_gT (i := i) hx hb hts hinX1 hown hK hP hi 14 (by decide) (hts (.fieldLink RX1 53 "FeedbackQueues$Task" "firstRun" "I") (by decide +kernel)) rfl dX1_beginRunning_33 ?_
    refine lv_iconst (v := (-1)) hx hb dX1_beginRunning_36 (by decide) ?_
    refine lv_icmp_ne (tgt := 45) hx hb dX1_beginRunning_37 (by decide) (fun c_37 => ?_) (fun c_37 => ?_)
    · skip
      have hF : F_X1_beginRunning S i p1 p2 = S3 := by subst eS3 eS2 eS1; simp only [F_X1_beginRunning, if_neg c_9, if_neg c_37]
      rw [hF]
      exact c_vret hx hb hr hlocks hP hS dX1_beginRunning_45 (fun _ h => h)
    · skip
      refine lv_aload_n hx hb dX1_beginRunning_40 rfl (lv_at hl 0 rfl) ?_
      refine lv_iload_n hx hb dX1_beginRunning_41 rfl (lv_at hl 1 rfl) ?_
      refine c_pT (i := i) (ty := .int) (v := p1) hx hb hts hinX1 hown hK hap hP hS hi 14 (by decide) (hts (.fieldLink RX1 53 "FeedbackQueues$Task" "firstRun" "I") (by decide +kernel)) rfl (by decide +kernel) rfl rfl (cTf_14 ad S3 i _) (Nat.le_of_ble_eq_true rfl) dX1_beginRunning_42 (fun H locs hP hS => ?_)
      obtain ⟨S4, eS4⟩ : ∃ z : Cs, z = sT S3 i 14 p1 := ⟨_, rfl⟩
      rw [← eS4] at hP
      have hF : F_X1_beginRunning S i p1 p2 = S4 := by subst eS4 eS3 eS2 eS1; simp only [F_X1_beginRunning, if_neg c_9, if_pos c_37]
      rw [hF]
      exact c_vret hx hb hr hlocks hP hS dX1_beginRunning_45 (fun _ h => h)
  · skip
    refine lv_aload_n hx hb dX1_beginRunning_12 rfl (lv_at hl 0 rfl) ?_
    refine lv_iload_n hx hb dX1_beginRunning_13 rfl (lv_at hl 2 rfl) ?_
    refine c_pT (i := i) (ty := .int) (v := p2) hx hb hts hinX1 hown hK hap hP hS hi 8 (by decide) (hts (.fieldLink RX1 34 "FeedbackQueues$Task" "quantumLeft" "I") (by decide +kernel)) rfl (by decide +kernel) rfl rfl (cTf_8 ad S1 i _) (Nat.le_of_ble_eq_true rfl) dX1_beginRunning_14 (fun H locs hP hS => ?_)
    obtain ⟨S5, eS5⟩ : ∃ z : Cs, z = sT S1 i 8 p2 := ⟨_, rfl⟩
    rw [← eS5] at hP
    refine lv_aload_n hx hb dX1_beginRunning_17 rfl (lv_at hl 0 rfl) ?_
    refine lv_iconst (v := 0) hx hb dX1_beginRunning_18 (by decide) ?_
    refine c_pT (i := i) (ty := .boolean) (v := 0) hx hb hts hinX1 hown hK hap hP hS hi 10 (by decide) (hts (.fieldLink RX1 40 "FeedbackQueues$Task" "keepsQuantum" "Z") (by decide +kernel)) rfl (by decide +kernel) rfl rfl (cTf_10 ad S5 i _) (Nat.le_of_ble_eq_true rfl) dX1_beginRunning_19 (fun H locs hP hS => ?_)
    obtain ⟨S6, eS6⟩ : ∃ z : Cs, z = sT S5 i 10 0 := ⟨_, rfl⟩
    rw [← eS6] at hP
    refine lv_aload_n hx hb dX1_beginRunning_22 rfl (lv_at hl 0 rfl) ?_
    refine lv_dup hx hb dX1_beginRunning_23 rfl ?_
    refine c_gT (i := i) hx hb hts hinX1 hown hK hP hi 16 (by decide) (hts (.fieldLink RX1 59 "FeedbackQueues$Task" "timesSwitchedTo" "I") (by decide +kernel)) rfl dX1_beginRunning_24 ?_
    refine lv_iconst (v := 1) hx hb dX1_beginRunning_27 (by decide) ?_
    refine lv_iadd hx hb dX1_beginRunning_28 ?_
    refine c_pT (i := i) (ty := .int) (v := (cT S6 i 16) + 1) hx hb hts hinX1 hown hK hap hP hS hi 16 (by decide) (hts (.fieldLink RX1 59 "FeedbackQueues$Task" "timesSwitchedTo" "I") (by decide +kernel)) rfl (by decide +kernel) rfl rfl (cTf_16 ad S6 i _) (Nat.le_of_ble_eq_true rfl) dX1_beginRunning_29 (fun H locs hP hS => ?_)
    obtain ⟨S7, eS7⟩ : ∃ z : Cs, z = sT S6 i 16 ((cT S6 i 16) + 1) := ⟨_, rfl⟩
    rw [← eS7] at hP
    refine lv_aload_n hx hb dX1_beginRunning_32 rfl (lv_at hl 0 rfl) ?_
    refine c_gT (i := i) hx hb hts hinX1 hown hK hP hi 14 (by decide) (hts (.fieldLink RX1 53 "FeedbackQueues$Task" "firstRun" "I") (by decide +kernel)) rfl dX1_beginRunning_33 ?_
    refine lv_iconst (v := (-1)) hx hb dX1_beginRunning_36 (by decide) ?_
    refine lv_icmp_ne (tgt := 45) hx hb dX1_beginRunning_37 (by decide) (fun c_37 => ?_) (fun c_37 => ?_)
    · skip
      have hF : F_X1_beginRunning S i p1 p2 = S7 := by subst eS7 eS6 eS5 eS1; simp only [F_X1_beginRunning, if_pos c_9, if_neg c_37]
      rw [hF]
      exact c_vret hx hb hr hlocks hP hS dX1_beginRunning_45 (fun _ h => h)
    · skip
      refine lv_aload_n hx hb dX1_beginRunning_40 rfl (lv_at hl 0 rfl) ?_
      refine lv_iload_n hx hb dX1_beginRunning_41 rfl (lv_at hl 1 rfl) ?_
      refine c_pT (i := i) (ty := .int) (v := p1) hx hb hts hinX1 hown hK hap hP hS hi 14 (by decide) (hts (.fieldLink RX1 53 "FeedbackQueues$Task" "firstRun" "I") (by decide +kernel)) rfl (by decide +kernel) rfl rfl (cTf_14 ad S7 i _) (Nat.le_of_ble_eq_true rfl) dX1_beginRunning_42 (fun H locs hP hS => ?_)
      obtain ⟨S8, eS8⟩ : ∃ z : Cs, z = sT S7 i 14 p1 := ⟨_, rfl⟩
      rw [← eS8] at hP
      have hF : F_X1_beginRunning S i p1 p2 = S8 := by subst eS8 eS7 eS6 eS5 eS1; simp only [F_X1_beginRunning, if_pos c_9, if_pos c_37]
      rw [hF]
      exact c_vret hx hb hr hlocks hP hS dX1_beginRunning_45 (fun _ h => h)
set_option maxHeartbeats 4000000 in
set_option maxRecDepth 100000 in
theorem k_X1_comeUp (l : Launch) (D : va_G) (cy : Nat → ClassId) (ad : Nat → Nat) (S : Cs) (i : Nat) (p1 : Int32) (p2 : Int32) (hi : i < 16)  : cMv l yX1_comeUp wsX1_comeUp { frames := 1, cells := 0, slots := 0, locals := 17 } D cy ad [.ref (ad (16 + 2 * i)), .int p1, .int p2] S (F_X1_comeUp S i p1 p2) := by
  intro sz
  refine Met.ofW (cc := cX1_comeUp) (maxL := 3) (ret := none) (by decide) rfl ?_
  intro p e s m args below meth c s₁ B hml hv
  obtain ⟨rfl, hsz, hP, hK, hap0, hN⟩ := hv
  have hx := B.exec
  have hb := B.bytes
  have hr := B.returns
  have hts := atoms_spec (ws := wsX1_comeUp) B.pre
  have hown : s.vm.findClass RX1 = some m.cls := findClass_of_methodNamed B.named
  have hlocks := B.notSynchronized
  subst hsz
  have hap := gw_self (sz := s.heap.size) hap0
  generalize hAe : gA 48 ad s.heap.size = A at hap ⊢
  have hA : ∀ q : Nat, s.heap.size ≤ q → A q := fun q h => by rw [← hAe]; exact Or.inr h
  have hS : va_S A s.heap s.heap [] := va_S.rf
  have hinX1 : ∀ w ∈ wsX10, w ∈ wsX1_comeUp := by decide +kernel
  have hl := lv_entry ([.ref (ad (16 + 2 * i)), .int p1, .int p2]) (n := 3) (Nat.le_of_ble_eq_true rfl)
  rw [lg_entry_eq]
  generalize (lg_sl ([.ref (ad (16 + 2 * i)), .int p1, .int p2]) ++ List.replicate (3 - (lg_sl ([.ref (ad (16 + 2 * i)), .int p1, .int p2])).length) Slot.unset).toArray = ls at hl ⊢
  have hl : lv_has ls 3 [(0, .ref (ad (16 + 2 * i))), (1, .int p1), (2, .int p2)] := hl
  obtain ⟨H, hH⟩ : ∃ H, H = s.heap := ⟨_, rfl⟩
  rw [← hH] at hP
  have hS : va_S A s.heap H [] := by rw [hH]; exact hS
  rw [← hH]
  generalize ([] : List Loc) = locs at hS ⊢
  refine lv_aload_n hx hb dX1_comeUp_0 rfl (lv_at hl 0 rfl) ?_
  refine lv_iconst (v := 0) hx hb dX1_comeUp_1 (by decide) ?_
  refine c_pT (i := i) (ty := .int) (v := 0) hx hb hts hinX1 hown hK hap hP hS hi 5 (by decide) (hts (.fieldLink RX1 25 "FeedbackQueues$Task" "level" "I") (by decide +kernel)) rfl (by decide +kernel) rfl rfl (cTf_5 ad S i _) (Nat.le_of_ble_eq_true rfl) dX1_comeUp_2 (fun H locs hP hS => ?_)
  obtain ⟨S1, eS1⟩ : ∃ z : Cs, z = sT S i 5 0 := ⟨_, rfl⟩
  rw [← eS1] at hP
  refine lv_aload_n hx hb dX1_comeUp_5 rfl (lv_at hl 0 rfl) ?_
  refine lv_iload_n hx hb dX1_comeUp_6 rfl (lv_at hl 2 rfl) ?_
  refine c_pT (i := i) (ty := .int) (v := p2) hx hb hts hinX1 hown hK hap hP hS hi 9 (by decide) (hts (.fieldLink RX1 37 "FeedbackQueues$Task" "shareLeft" "I") (by decide +kernel)) rfl (by decide +kernel) rfl rfl (cTf_9 ad S1 i _) (Nat.le_of_ble_eq_true rfl) dX1_comeUp_7 (fun H locs hP hS => ?_)
  obtain ⟨S2, eS2⟩ : ∃ z : Cs, z = sT S1 i 9 p2 := ⟨_, rfl⟩
  rw [← eS2] at hP
  refine lv_aload_n hx hb dX1_comeUp_10 rfl (lv_at hl 0 rfl) ?_
  refine lv_aload_n hx hb dX1_comeUp_11 rfl (lv_at hl 0 rfl) ?_
  refine c_gT (i := i) hx hb hts hinX1 hown hK hP hi 4 (by decide) (hts (.fieldLink RX1 22 "FeedbackQueues$Task" "state" "I") (by decide +kernel)) rfl dX1_comeUp_12 ?_
  refine lv_iconst (v := 2) hx hb dX1_comeUp_15 (by decide) ?_
  refine lv_icmp_ne (tgt := 23) hx hb dX1_comeUp_16 (by decide) (fun c_16 => ?_) (fun c_16 => ?_)
  · skip
    refine lv_aload_n hx hb dX1_comeUp_23 rfl (lv_at hl 0 rfl) ?_
    refine c_gT (i := i) hx hb hts hinX1 hown hK hP hi 8 (by decide) (hts (.fieldLink RX1 34 "FeedbackQueues$Task" "quantumLeft" "I") (by decide +kernel)) rfl dX1_comeUp_24 ?_
    refine lv_iload_n hx hb dX1_comeUp_27 rfl (lv_at hl 1 rfl) ?_
    refine va_mmin hx hb (hml.trans hl.1.symm) hown (hts (.methodLink RX1 71 Lib.Math.min.name) (by decide +kernel)) (hts (.static Lib.Math.min.name) (by decide +kernel)) (hts (.initialized "java/lang/Math") (by decide +kernel)) (hts (.code Lib.Math.min.name Lib.Math.min.code 2 (some .int)) (by decide +kernel)) (Nat.le_of_ble_eq_true rfl) (Nat.le_of_ble_eq_true rfl) (Nat.zero_le _) (Nat.zero_le _) dX1_comeUp_28 ?_
    refine c_pT (i := i) (ty := .int) (v := if p1 < (cT S2 i 8) then p1 else cT S2 i 8) hx hb hts hinX1 hown hK hap hP hS hi 8 (by decide) (hts (.fieldLink RX1 34 "FeedbackQueues$Task" "quantumLeft" "I") (by decide +kernel)) rfl (by decide +kernel) rfl rfl (cTf_8 ad S2 i _) (Nat.le_of_ble_eq_true rfl) dX1_comeUp_31 (fun H locs hP hS => ?_)
    obtain ⟨S3, eS3⟩ : ∃ z : Cs, z = sT S2 i 8 (if p1 < (cT S2 i 8) then p1 else cT S2 i 8) := ⟨_, rfl⟩
    rw [← eS3] at hP
    have hF : F_X1_comeUp S i p1 p2 = S3 := by subst eS3 eS2 eS1; simp only [F_X1_comeUp, if_neg c_16]
    rw [hF]
    exact c_vret hx hb hr hlocks hP hS dX1_comeUp_34 (fun _ h => h)
  · skip
    refine lv_iload_n hx hb dX1_comeUp_19 rfl (lv_at hl 1 rfl) ?_
    refine lv_goto (tgt := 31) hx hb dX1_comeUp_20 (by decide) ?_
    refine c_pT (i := i) (ty := .int) (v := p1) hx hb hts hinX1 hown hK hap hP hS hi 8 (by decide) (hts (.fieldLink RX1 34 "FeedbackQueues$Task" "quantumLeft" "I") (by decide +kernel)) rfl (by decide +kernel) rfl rfl (cTf_8 ad S2 i _) (Nat.le_of_ble_eq_true rfl) dX1_comeUp_31 (fun H locs hP hS => ?_)
    obtain ⟨S4, eS4⟩ : ∃ z : Cs, z = sT S2 i 8 p1 := ⟨_, rfl⟩
    rw [← eS4] at hP
    have hF : F_X1_comeUp S i p1 p2 = S4 := by subst eS4 eS2 eS1; simp only [F_X1_comeUp, if_pos c_16]
    rw [hF]
    exact c_vret hx hb hr hlocks hP hS dX1_comeUp_34 (fun _ h => h)
