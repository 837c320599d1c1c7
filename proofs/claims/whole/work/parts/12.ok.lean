/-! what holds of the class's state at every call: N tasks, L levels, at most b switches -/
def okC (N L b : Nat) (S : Cs) : Prop := cO S 4 = nI N ∧ cO S 3 = nI L ∧ N ≤ 16 ∧ 1 ≤ L ∧ L ≤ 6 ∧ (∀ i, i < 6 → ub 16 (cL S i 3)) ∧ (∀ i, i < 16 → ∃ v, v < L ∧ cT S i 5 = nI v) ∧ (∀ i, i < 16 → ub 12 (cT S i 3)) ∧ (∀ i, i < 16 → ub 12 (cT S i 6)) ∧ (∀ i, cN S = some i → i < N) ∧ ub b (cO S 8)
theorem itr_ind {α : Type} {P : α → Prop} {f : Nat → α → α} : ∀ (n t : Nat) (z : α), P z → (∀ k z, t ≤ k → k < t + n → P z → P (f k z)) → P (itr f n t z) := by
  intro n
  induction n with
  | zero => intro t z h _; exact h
  | succ n ih =>
    intro t z h hs
    exact ih (t + 1) (f t z) (hs t z (Nat.le_refl t) (by omega) h) (fun k z h1 h2 => hs k z (by omega) (by omega))
theorem itd_ind {α : Type} {P : α → Prop} {f : Nat → α → α} : ∀ (n : Nat) (z : α), P z → (∀ k z, k < n → P z → P (f k z)) → P (itd f n z) := by
  intro n
  induction n with
  | zero => intro z h _; exact h
  | succ n ih =>
    intro z h hs
    exact ih (f n z) (hs n z (by omega) h) (fun k z h1 => hs k z (by omega))
section OK
variable {N L b : Nat} {S : Cs}
theorem okC_N (h : okC N L b S) : (cO S 4).toNatClampNeg = N := by rw [h.1]; have := h.2.2.1; exact nI_clamp (by omega)
theorem okC_L (h : okC N L b S) : (cO S 3).toNatClampNeg = L := by rw [h.2.1]; have := h.2.2.2.2.1; exact nI_clamp (by omega)
theorem okC_sz (h : okC N L b S) {i : Nat} (hi : i < 6) : ub 16 (cL S i 3) := h.2.2.2.2.2.1 i hi
theorem okC_lv (h : okC N L b S) {u : Nat} (hu : u < 16) : ∃ v, v < L ∧ cT S u 5 = nI v := h.2.2.2.2.2.2.1 u hu
theorem okC_b (h : okC N L b S) {u : Nat} (hu : u < 16) : ub 12 (cT S u 3) := h.2.2.2.2.2.2.2.1 u hu
theorem okC_g (h : okC N L b S) {u : Nat} (hu : u < 16) : ub 12 (cT S u 6) := h.2.2.2.2.2.2.2.2.1 u hu
theorem okC_u6 (h : okC N L b S) {u : Nat} (hu : u < 16) : ub 6 (cT S u 5) := by
  obtain ⟨v, h1, h2⟩ := okC_lv h hu
  have := h.2.2.2.2.1
  exact ⟨v, by omega, h2⟩
theorem okC_ix (h : okC N L b S) {u : Nat} (hu : u < 16) : ix (cT S u 5) (cT S u 5).toNatClampNeg 6 := by
  obtain ⟨v, h1, h2⟩ := okC_lv h hu
  have := h.2.2.2.2.1
  rw [h2, nI_clamp (by omega)]
  exact ix_nI (by omega) (by omega)
theorem okC_onN (h : okC N L b S) (hn : ¬ cN S = none) : cI S < N := by
  have h1 := h.2.2.2.2.2.2.2.2.2.1
  unfold cI
  cases hq : cN S with
  | none => exact absurd hq hn
  | some i => exact h1 i hq
theorem okC_on (h : okC N L b S) (hn : ¬ cN S = none) : cI S < 16 := Nat.lt_of_lt_of_le (okC_onN h hn) h.2.2.1
theorem okC_w (h : okC N L b S) (hb : b < 2 ^ 30) (hc : ¬ 400 ≤ cO S 8) : ix (cO S 8) (cO S 8).toNatClampNeg 400 :=
  ix_nge h.2.2.2.2.2.2.2.2.2.2 (by omega) (by decide) (by omega) hc
theorem okC_dn (h : okC N L b S) {u : Nat} (hu : u < 16) (hc : ¬ cO S 3 - 1 ≤ cT S u 5) : ∃ v, v < L ∧ cT S u 5 + 1 = nI v := by
  obtain ⟨v, h1, h2⟩ := okC_lv h hu
  have h6 := h.2.2.2.2.1
  have hl := h.2.2.2.1
  obtain ⟨k, rfl⟩ : ∃ k, L = k + 1 := ⟨L - 1, by omega⟩
  rw [h2, h.2.1, nI_pred] at hc
  rw [h2, nI_1]
  refine ⟨v + 1, ?_, rfl⟩
  rcases Nat.lt_or_ge v k with q | q
  · omega
  · exact absurd (nI_le q (by omega)) hc
theorem okC_sO (h : okC N L b S) {j : Nat} {v : Int32} (hj : j ≠ 3 ∧ j ≠ 4 ∧ j ≠ 8) : okC N L b (sO S j v) := by
  obtain ⟨h1, h2, h3, h4, h5, h6, h7, h8, h9, h10, h11⟩ := h
  refine ⟨?_, ?_, h3, h4, h5, h6, h7, h8, h9, h10, ?_⟩
  · rw [cO_sO, if_neg (Ne.symm hj.2.1)]; exact h1
  · rw [cO_sO, if_neg (Ne.symm hj.1)]; exact h2
  · rw [cO_sO, if_neg (Ne.symm hj.2.2)]; exact h11
theorem okC_sL (h : okC N L b S) {i j : Nat} {v : Int32} (hj : j ≠ 3) : okC N L b (sL S i j v) := by
  obtain ⟨h1, h2, h3, h4, h5, h6, h7, h8, h9, h10, h11⟩ := h
  refine ⟨h1, h2, h3, h4, h5, fun a ha => ?_, h7, h8, h9, h10, h11⟩
  rw [cL_sL, if_neg (fun q => hj q.1.symm)]; exact h6 a ha
theorem okC_sL3 (h : okC N L b S) {i : Nat} {v : Int32} (hv : ub 16 v) : okC N L b (sL S i 3 v) := by
  obtain ⟨h1, h2, h3, h4, h5, h6, h7, h8, h9, h10, h11⟩ := h
  refine ⟨h1, h2, h3, h4, h5, fun a ha => ?_, h7, h8, h9, h10, h11⟩
  rw [cL_sL]
  by_cases q : (3 = 3 ∧ a = i)
  · rw [if_pos q]; exact hv
  · rw [if_neg q]; exact h6 a ha
theorem okC_sT (h : okC N L b S) {i j : Nat} {v : Int32} (hj : j ≠ 3 ∧ j ≠ 5 ∧ j ≠ 6) : okC N L b (sT S i j v) := by
  obtain ⟨h1, h2, h3, h4, h5, h6, h7, h8, h9, h10, h11⟩ := h
  refine ⟨h1, h2, h3, h4, h5, h6, fun a ha => ?_, fun a ha => ?_, fun a ha => ?_, h10, h11⟩
  · rw [cT_sT, if_neg (fun q => hj.2.1 q.1.symm)]; exact h7 a ha
  · rw [cT_sT, if_neg (fun q => hj.1 q.1.symm)]; exact h8 a ha
  · rw [cT_sT, if_neg (fun q => hj.2.2 q.1.symm)]; exact h9 a ha
theorem okC_sT5 (h : okC N L b S) {i : Nat} {x : Int32} (hx : ∃ v, v < L ∧ x = nI v) : okC N L b (sT S i 5 x) := by
  obtain ⟨h1, h2, h3, h4, h5, h6, h7, h8, h9, h10, h11⟩ := h
  refine ⟨h1, h2, h3, h4, h5, h6, fun a ha => ?_, h8, h9, h10, h11⟩
  rw [cT_sT]
  by_cases q : (5 = 5 ∧ a = i)
  · rw [if_pos q]; exact hx
  · rw [if_neg q]; exact h7 a ha
theorem okC_sT6 (h : okC N L b S) {i : Nat} {x : Int32} (hx : ub 12 x) : okC N L b (sT S i 6 x) := by
  obtain ⟨h1, h2, h3, h4, h5, h6, h7, h8, h9, h10, h11⟩ := h
  refine ⟨h1, h2, h3, h4, h5, h6, h7, h8, fun a ha => ?_, h10, h11⟩
  rw [cT_sT]
  by_cases q : (6 = 6 ∧ a = i)
  · rw [if_pos q]; exact hx
  · rw [if_neg q]; exact h9 a ha
theorem okC_sT3 (h : okC N L b S) {i : Nat} {x : Int32} (hx : ub 12 x) : okC N L b (sT S i 3 x) := by
  obtain ⟨h1, h2, h3, h4, h5, h6, h7, h8, h9, h10, h11⟩ := h
  refine ⟨h1, h2, h3, h4, h5, h6, h7, fun a ha => ?_, h9, h10, h11⟩
  rw [cT_sT]
  by_cases q : (3 = 3 ∧ a = i)
  · rw [if_pos q]; exact hx
  · rw [if_neg q]; exact h8 a ha
theorem okC_sQ (h : okC N L b S) {i j : Nat} {v : Int32} : okC N L b (sQ S i j v) := h
theorem okC_sB (h : okC N L b S) {i j : Nat} {v : Int32} : okC N L b (sB S i j v) := h
theorem okC_sW (h : okC N L b S) {j : Nat} {v : Int32} : okC N L b (sW S j v) := h
theorem okC_sN0 (h : okC N L b S) : okC N L b (sN S none) := by
  obtain ⟨h1, h2, h3, h4, h5, h6, h7, h8, h9, h10, h11⟩ := h
  exact ⟨h1, h2, h3, h4, h5, h6, h7, h8, h9, (fun _ q => nomatch q), h11⟩
theorem okC_sN1 (h : okC N L b S) {u : Nat} (hu : u < N) : okC N L b (sN S (some u)) := by
  obtain ⟨h1, h2, h3, h4, h5, h6, h7, h8, h9, h10, h11⟩ := h
  exact ⟨h1, h2, h3, h4, h5, h6, h7, h8, h9, (fun i q => by cases q; exact hu), h11⟩
theorem okC_mono (h : okC N L b S) {b2 : Nat} (hb : b ≤ b2) : okC N L b2 S := by
  obtain ⟨h1, h2, h3, h4, h5, h6, h7, h8, h9, h10, z, h11, h12⟩ := h
  exact ⟨h1, h2, h3, h4, h5, h6, h7, h8, h9, h10, z, by omega, h12⟩
theorem ok_X0_clear (h : okC N L b S) {i : Nat} (hi : i < 6) : okC N L b (F_X0_clear S i) := okC_sL3 h ⟨0, by omega, by decide⟩
theorem ok_X0_addLast (h : okC N L b S) {i : Nat} (hi : i < 6) {r : Int32} : okC N L b (F_X0_addLast S i r) := by
  unfold F_X0_addLast
  by_cases hc : 16 ≤ cL S i 3
  · rw [if_pos hc]; exact h
  · rw [if_neg hc]
    exact okC_sL3 (okC_sQ h) (ub_inc (okC_sz h hi) (by omega) (by decide) (by omega) hc)
theorem ok_X0_addFirst (h : okC N L b S) {i : Nat} (hi : i < 6) {r : Int32} : okC N L b (F_X0_addFirst S i r) := by
  unfold F_X0_addFirst
  by_cases hc : 16 ≤ cL S i 3
  · rw [if_pos hc]; exact h
  · rw [if_neg hc]
    have h2 : okC N L b (itd (B_X0_addFirst_14 i r) (cL S i 3).toNatClampNeg S) ∧ cL (itd (B_X0_addFirst_14 i r) (cL S i 3).toNatClampNeg S) i 3 = cL S i 3 :=
      itd_ind (P := fun Z => okC N L b Z ∧ cL Z i 3 = cL S i 3) _ _ ⟨h, rfl⟩ (fun k Z _ hZ => ⟨hZ.1, hZ.2⟩)
    refine okC_sL3 (okC_sQ h2.1) ?_
    rw [cL_sQ, h2.2]
    exact ub_inc (okC_sz h hi) (by omega) (by decide) (by omega) hc
theorem ok_X0_takeFirst (h : okC N L b S) {i : Nat} (hi : i < 6) : okC N L b (F_X0_takeFirst S i).1 := by
  unfold F_X0_takeFirst
  by_cases hc : cL S i 3 = 0
  · rw [if_pos hc]; exact h
  · rw [if_neg hc]
    refine itr_ind (P := okC N L b) _ _ _ (okC_sL3 h ?_) (fun k Z _ _ hZ => hZ)
    obtain ⟨z, h1, h2⟩ := ub_dec (okC_sz h hi) hc
    exact ⟨z, by omega, h2⟩
theorem ok_X0_addAllOf (h : okC N L b S) {i j : Nat} (hi : i < 6) (_ : j < 6) : okC N L b (F_X0_addAllOf S i j) :=
  itr_ind (P := okC N L b) _ _ _ h (fun k Z _ _ hZ => ok_X0_addLast hZ hi)
theorem ok_X1_beginBurst (h : okC N L b S) {i : Nat} (hi : i < 16) : okC N L b (F_X1_beginBurst S i).1 := by
  unfold F_X1_beginBurst
  by_cases hc : cT S i 6 < cT S i 3
  · rw [if_pos hc]
    refine okC_sT6 (okC_sT h (by decide)) ?_
    have h1 := (ix_lt2 (okC_g h hi) (okC_b h hi) (by omega) (by omega) hc).2.2
    rw [cT_sT, if_neg (by omega), ub_nI (okC_g h hi) (by omega), nI_1]
    exact ⟨_, h1, rfl⟩
  · rw [if_neg hc]; exact h
theorem ok_X1_beginRunning (h : okC N L b S) {i : Nat} (_ : i < 16) {x y : Int32} : okC N L b (F_X1_beginRunning S i x y) := by
  unfold F_X1_beginRunning
  dsimp only
  repeat' split
  all_goals repeat (refine okC_sT ?_ (by decide))
  all_goals exact h
theorem ok_X1_comeUp (h : okC N L b S) {i : Nat} (_ : i < 16) {x y : Int32} : okC N L b (F_X1_comeUp S i x y) := by
  unfold F_X1_comeUp
  dsimp only
  have h0 : okC N L b (sT S i 5 0) := okC_sT5 h ⟨0, h.2.2.2.1, by decide⟩
  split
  · exact okC_sT (okC_sT h0 (by decide)) (by decide)
  · exact okC_sT (okC_sT h0 (by decide)) (by decide)
theorem ok_X2_endTask (h : okC N L b S) {u : Nat} (_ : u < 16) {x : Int32} : okC N L b (F_X2_endTask S u x) :=
  okC_sO (okC_sT (okC_sT h (by decide)) (by decide)) (by decide)
theorem ok_X2_standAtEnd (h : okC N L b S) {u : Nat} (hu : u < 16) : okC N L b (F_X2_standAtEnd S u) := by
  have h1 : okC N L b (sT S u 4 1) := okC_sT h (by decide)
  exact ok_X0_addLast h1 (okC_ix h1 hu).2.2
theorem ok_X2_goOnOrEnd (h : okC N L b S) {u : Nat} (hu : u < 16) : okC N L b (F_X2_goOnOrEnd S u) := by
  unfold F_X2_goOnOrEnd
  dsimp only
  split
  · exact ok_X2_endTask (ok_X1_beginBurst h hu) hu
  · exact ok_X2_standAtEnd (ok_X1_beginBurst h hu) hu
theorem ok_X2_blockOrEnd (h : okC N L b S) {u : Nat} (hu : u < 16) : okC N L b (F_X2_blockOrEnd S u) := by
  unfold F_X2_blockOrEnd
  dsimp only
  split
  · exact ok_X2_endTask (ok_X1_beginBurst h hu) hu
  · exact okC_sT (ok_X1_beginBurst h hu) (by decide)
theorem ok_X2_sendDown (h : okC N L b S) {u : Nat} (hu : u < 16) : okC N L b (F_X2_sendDown S u) := by
  unfold F_X2_sendDown
  dsimp only
  split
  · exact ok_X2_standAtEnd (okC_sT h (by decide)) hu
  · next hc => exact ok_X2_standAtEnd (okC_sT (okC_sT (okC_sT5 h (okC_dn h hu hc)) (by decide)) (by decide)) hu
theorem ok_X2_useTick (h : okC N L b S) {u : Nat} (hu : u < 16) : okC N L b (F_X2_useTick S u) := by
  unfold F_X2_useTick
  dsimp only
  have h4 : ∀ x y z w : Int32, okC N L b (sT (sT (sT (sT S u 11 x) u 7 y) u 8 z) u 9 w) := fun x y z w => okC_sT (okC_sT (okC_sT (okC_sT h (by decide)) (by decide)) (by decide)) (by decide)
  repeat' split
  · exact okC_sN0 (ok_X2_blockOrEnd (h4 _ _ _ _) hu)
  · exact okC_sN0 (ok_X2_standAtEnd (h4 _ _ _ _) hu)
  · exact h4 _ _ _ _
  · exact okC_sN0 (ok_X2_sendDown (h4 _ _ _ _) hu)
theorem isOne_L {p1 : Int32} : ∀ (n t : Nat) (Z : Cs), (L_X2_isOneReadyAbove_2 p1 n t Z).1 = Z := by
  intro n
  induction n with
  | zero => intro t Z; rfl
  | succ n ih =>
    intro t Z
    unfold L_X2_isOneReadyAbove_2
    split
    · exact ih (t + 1) Z
    · rfl
theorem isOne_fst {S : Cs} {p1 : Int32} : (F_X2_isOneReadyAbove S p1).1 = S := isOne_L _ _ _
theorem ok_X2_isOneReadyAbove (h : okC N L b S) {p1 : Int32} : okC N L b (F_X2_isOneReadyAbove S p1).1 := by rw [isOne_fst]; exact h
theorem isTask_fst {S : Cs} {p1 : Int32} : (F_X2_isTask S p1).1 = S := by
  unfold F_X2_isTask
  repeat' split
  all_goals rfl
theorem ok_X2_isTask (h : okC N L b S) {p1 : Int32} : okC N L b (F_X2_isTask S p1).1 := by rw [isTask_fst]; exact h
theorem isT_ixN (h : okC N L b S) {x : Int32} (hc : ¬ (F_X2_isTask S x).2 = 0) : ix x x.toNatClampNeg N := by
  unfold F_X2_isTask at hc
  by_cases c1 : x < 0
  · rw [if_pos c1] at hc; exact absurd rfl hc
  · rw [if_neg c1] at hc
    by_cases c2 : cO S 4 ≤ x
    · rw [if_pos c2] at hc; exact absurd rfl hc
    · have := h.2.2.1
      exact ix_cmp c1 ⟨N, Nat.le_refl N, h.1⟩ (Nat.le_refl N) (by omega) c2
theorem isT_N (h : okC N L b S) {x : Int32} (hc : ¬ (F_X2_isTask S x).2 = 0) : x.toNatClampNeg < N := (isT_ixN h hc).2.2
theorem isT_ix (h : okC N L b S) {x : Int32} (hc : ¬ (F_X2_isTask S x).2 = 0) : ix x x.toNatClampNeg 16 := by
  obtain ⟨h1, h2, h3⟩ := isT_ixN h hc
  exact ⟨h1, h2, Nat.lt_of_lt_of_le h3 h.2.2.1⟩
theorem ok_B_countWaiting (h : okC N L b S) {t : Nat} (_ : t < 16) : okC N L b (B_X2_countWaiting_2 t S) := by
  unfold B_X2_countWaiting_2
  dsimp only
  repeat' split
  · exact okC_sT h (by decide)
  · exact okC_sT (okC_sT h (by decide)) (by decide)
  · exact h
theorem ok_B_letArrive (h : okC N L b S) {t : Nat} (ht : t < 16) : okC N L b (B_X2_letArrive_2 t S) := by
  unfold B_X2_letArrive_2
  dsimp only
  repeat' split
  · exact ok_X2_goOnOrEnd (okC_sT h (by decide)) ht
  · exact h
  · exact h
theorem ok_B_letComeBack (h : okC N L b S) {t : Nat} (ht : t < 16) : okC N L b (B_X2_letComeBack_2 t S) := by
  unfold B_X2_letComeBack_2
  dsimp only
  repeat' split
  · exact ok_X2_goOnOrEnd h ht
  · exact h
  · exact h
theorem ok_B_bringAllUp_19 (h : okC N L b S) {t : Nat} (ht : t < 16) : okC N L b (B_X2_bringAllUp_19 t S) := by
  unfold B_X2_bringAllUp_19
  dsimp only
  repeat' split
  · exact h
  · exact h
  · exact ok_X1_comeUp h ht
theorem ok_B_bringAllUp_77 (h : okC N L b S) {t : Nat} (_ : 1 ≤ t) (ht : t < 6) : okC N L b (B_X2_bringAllUp_77 t S) :=
  ok_X0_clear (ok_X0_addAllOf h (by omega) ht) ht
theorem ok_itr_19 (h : okC N L b S) {n : Nat} (hn : n ≤ 16) : okC N L b (itr B_X2_bringAllUp_19 n 0 S) := itr_ind (P := okC N L b) _ _ _ h (fun k Z _ hk hZ => ok_B_bringAllUp_19 hZ (by omega))
theorem ok_X2_countWaiting (h : okC N L b S) : okC N L b (F_X2_countWaiting S) := by
  have h1 := okC_N h
  have h2 := h.2.2.1
  exact itr_ind (P := okC N L b) _ _ _ h (fun k Z _ hk hZ => ok_B_countWaiting hZ (by omega))
theorem ok_X2_letArrive (h : okC N L b S) : okC N L b (F_X2_letArrive S) := by
  have h1 := okC_N h
  have h2 := h.2.2.1
  exact itr_ind (P := okC N L b) _ _ _ h (fun k Z _ hk hZ => ok_B_letArrive hZ (by omega))
theorem ok_X2_letComeBack (h : okC N L b S) : okC N L b (F_X2_letComeBack S) := by
  have h1 := okC_N h
  have h2 := h.2.2.1
  exact itr_ind (P := okC N L b) _ _ _ h (fun k Z _ hk hZ => ok_B_letComeBack hZ (by omega))
theorem ok_X2_bringAllUp (h : okC N L b S) : okC N L b (F_X2_bringAllUp S) := by
  unfold F_X2_bringAllUp
  dsimp only
  have h0 : okC N L b (sO S 10 (cO S 10 + 1)) := okC_sO h (by decide)
  have h1 := okC_N h0
  have h2 := h.2.2.1
  have h3 := ok_itr_19 h0 (n := (cO (sO S 10 (cO S 10 + 1)) 4).toNatClampNeg) (by omega)
  have h4 := okC_L h3
  have h5 := h.2.2.2.2.1
  exact itr_ind (P := okC N L b) _ _ _ h3 (fun k Z hk1 hk hZ => ok_B_bringAllUp_77 hZ hk1 (by omega))
theorem ok_X2_makeWay (h : okC N L b S) : okC N L b (F_X2_makeWay S) := by
  unfold F_X2_makeWay
  split
  · exact h
  · next hc =>
    dsimp only
    rw [isOne_fst]
    split
    · exact h
    · have h1 := okC_on h hc
      have h4 : ∀ x y z : Int32, okC N L b (sT (sT (sT S (cI S) 4 x) (cI S) 10 y) (cI S) 18 z) := fun x y z => okC_sT (okC_sT (okC_sT h (by decide)) (by decide)) (by decide)
      exact okC_sN0 (ok_X0_addFirst (h4 _ _ _) (okC_ix (h4 _ _ _) h1).2.2)
theorem okC_sO8 (h : okC N L b S) (hb : b < 2 ^ 30) : okC N L (b + 1) (sO S 8 (cO S 8 + 1)) := by
  obtain ⟨h1, h2, h3, h4, h5, h6, h7, h8, h9, h10, z, h11, h12⟩ := h
  refine ⟨h1, h2, h3, h4, h5, h6, h7, h8, h9, h10, z + 1, by omega, ?_⟩
  rw [cO_sO, if_pos rfl, h12, nI_1]
theorem ok_X2_switchTo (h : okC N L b S) (hb : b < 2 ^ 30) {u : Nat} (hu : u < 16) (huN : u < N) : okC N L (b + 1) (F_X2_switchTo S u) := by
  unfold F_X2_switchTo
  dsimp only
  split
  · exact okC_sN1 (okC_sO8 (ok_X1_beginRunning h hu) hb) huN
  · exact okC_sN1 (okC_sO8 (okC_sW (ok_X1_beginRunning h hu)) hb) huN
theorem ok_L_switchToFirst (hb : b < 2 ^ 30) : ∀ (n t : Nat) (Z : Cs), okC N L b Z → t + n ≤ 6 → okC N L (b + 1) (L_X2_switchToFirst_2 n t Z) := by
  intro n
  induction n with
  | zero => intro t Z h _; exact okC_mono h (by omega)
  | succ n ih =>
    intro t Z h ht
    unfold L_X2_switchToFirst_2
    dsimp only
    have h1 := ok_X0_takeFirst h (i := t) (by omega)
    split
    · exact ih (t + 1) _ (ok_X2_isTask h1) (by omega)
    · next hc => exact ok_X2_switchTo (ok_X2_isTask h1) hb (isT_ix h1 hc).2.2 (isT_N h1 hc)
theorem ok_X2_switchToFirst (h : okC N L b S) (hb : b < 2 ^ 30) : okC N L (b + 1) (F_X2_switchToFirst S) := by
  have h1 := okC_L h
  have h2 := h.2.2.2.2.1
  exact ok_L_switchToFirst hb _ _ _ h (by omega)
theorem ok_G_doTick (h : okC N L b S) (hb : b < 2 ^ 30) : okC N L (b + 1) (G_X2_doTick_30 S) := by
  unfold G_X2_doTick_30
  dsimp only
  have h3 := ok_X2_makeWay (ok_X2_letComeBack (ok_X2_letArrive h))
  split
  · have h5 := ok_X2_countWaiting (ok_X2_switchToFirst h3 hb)
    split
    · exact okC_sO (okC_sO h5 (by decide)) (by decide)
    · next hc => exact okC_sO (ok_X2_useTick h5 (okC_on h5 hc)) (by decide)
  · have h5 := okC_mono (ok_X2_countWaiting h3) (b2 := b + 1) (by omega)
    split
    · exact okC_sO (okC_sO h5 (by decide)) (by decide)
    · next hc => exact okC_sO (ok_X2_useTick h5 (okC_on h5 hc)) (by decide)
theorem ok_X2_doTick (h : okC N L b S) (hb : b < 2 ^ 30) : okC N L (b + 1) (F_X2_doTick S) := by
  unfold F_X2_doTick
  dsimp only
  repeat' split
  · exact ok_G_doTick h hb
  · exact ok_G_doTick h hb
  · exact ok_G_doTick (ok_X2_bringAllUp h) hb
  · exact ok_G_doTick h hb
end OK
