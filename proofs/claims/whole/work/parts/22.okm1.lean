/-! what holds of the model's state at every call -/
abbrev sZ (M : Ms) (l : Nat) : Nat := (mA M 21 l).toNatClampNeg
/-- the queues: no longer than 16, their entries are processes that are ready, no two alike -/
def qOK (N : Nat) (M : Ms) : Prop := (∀ l, l < 6 → ub 16 (mA M 21 l)) ∧ (∀ l k, l < 6 → k < sZ M l → ∃ q, q < N ∧ mA M 20 (16 * l + k) = nI q ∧ mA M 11 q = 1) ∧ (∀ l k l2 k2, l < 6 → l2 < 6 → k < sZ M l → k2 < sZ M l2 → mA M 20 (16 * l + k) = mA M 20 (16 * l2 + k2) → l = l2 ∧ k = k2)
/-- a process, by its state -/
def uOK (N L : Nat) (M : Ms) (u : Nat) : Prop := (∃ v, v < L ∧ mA M 12 u = nI v) ∧ ub 12 (mA M 7 u) ∧ (mA M 11 u = 0 → mA M 13 u = 0) ∧ (mA M 11 u = 0 ∨ mA M 11 u = 4 ∧ u < N ∨ (mA M 11 u = 1 ∨ mA M 11 u = 2 ∨ mA M 11 u = 3) ∧ u < N ∧ ∃ a c, mA M 13 u = nI a ∧ mA M 7 u = nI c ∧ a < c ∧ c ≤ 12)
def okM (N L b : Nat) (M : Ms) : Prop := mO M 5 = nI N ∧ mO M 1 = nI L ∧ N ≤ 16 ∧ 1 ≤ L ∧ L ≤ 6 ∧ ub b (mA M 22 0) ∧ (∀ u, u < 16 → uOK N L M u) ∧ (mO M 10 = -1 ∨ ∃ r, r < N ∧ mO M 10 = nI r ∧ mA M 11 r = 2) ∧ qOK N M
section OKM
variable {N L b : Nat} {S : Ms}
theorem okM_N (h : okM N L b S) : (mO S 5).toNatClampNeg = N := by rw [h.1]; have := h.2.2.1; exact nI_clamp (by omega)
theorem okM_L (h : okM N L b S) : (mO S 1).toNatClampNeg = L := by rw [h.2.1]; have := h.2.2.2.2.1; exact nI_clamp (by omega)
theorem okM_u (h : okM N L b S) {u : Nat} (hu : u < 16) : uOK N L S u := h.2.2.2.2.2.2.1 u hu
theorem okM_q (h : okM N L b S) : qOK N S := h.2.2.2.2.2.2.2.2
theorem okM_run (h : okM N L b S) : mO S 10 = -1 ∨ ∃ r, r < N ∧ mO S 10 = nI r ∧ mA S 11 r = 2 := h.2.2.2.2.2.2.2.1
theorem okM_l1 (h : okM N L b S) {x : Int32} (h0 : ¬ x < 0) (hc : x < mO S 1) : ix x x.toNatClampNeg 6 := by
  obtain ⟨j, hj, rfl⟩ := nI_of h0
  have hL := h.2.2.2.2.1
  rw [h.2.1] at hc
  have := (nI_ltI hj (by omega)).mp hc
  rw [nI_clamp hj]
  exact ix_nI (by omega) (by omega)
theorem okM_np (h : okM N L b S) (hc : ¬ mO S 5 = 16) : ix (mO S 5) (mO S 5).toNatClampNeg 16 := by
  have h1 := h.2.2.1
  have h2 := okM_N h
  have h3 : N ≠ 16 := fun q => hc (by rw [h.1, q]; decide)
  rw [h2, h.1]
  exact ix_nI (by omega) (by omega)
theorem noP_ixN (h : okM N L b S) {x : Int32} (hc : (F_X3_noProcess S x).2 = 0) : ix x x.toNatClampNeg N := by
  unfold F_X3_noProcess at hc
  by_cases c1 : x < 0
  · rw [if_pos c1] at hc; exact absurd hc (show ¬ (1 : Int32) = 0 from by decide)
  · rw [if_neg c1] at hc
    by_cases c2 : x < mO S 5
    · obtain ⟨j, hj, rfl⟩ := nI_of c1
      have hN := h.2.2.1
      rw [h.1] at c2
      have := (nI_ltI hj (by omega)).mp c2
      rw [nI_clamp hj]
      exact ix_nI (by omega) (by omega)
    · rw [if_neg c2] at hc; exact absurd hc (show ¬ (1 : Int32) = 0 from by decide)
theorem noP_ix (h : okM N L b S) {x : Int32} (hc : (F_X3_noProcess S x).2 = 0) : ix x x.toNatClampNeg 16 := by
  obtain ⟨h1, h2, h3⟩ := noP_ixN h hc
  exact ⟨h1, h2, Nat.lt_of_lt_of_le h3 h.2.2.1⟩
theorem noP_fst {S : Ms} {x : Int32} : (F_X3_noProcess S x).1 = S := by
  unfold F_X3_noProcess
  repeat' split
  all_goals rfl
theorem ok_X3_noProcess (h : okM N L b S) {x : Int32} : okM N L b (F_X3_noProcess S x).1 := by rw [noP_fst]; exact h
theorem okM_bx (h : okM N L b S) {x : Int32} (hx : ix x x.toNatClampNeg 16) (hc : ¬ mA S 7 x.toNatClampNeg = 12) : ix (12 * x + mA S 7 x.toNatClampNeg) (12 * x.toNatClampNeg + (mA S 7 x.toNatClampNeg).toNatClampNeg) 192 := by
  have h1 := (okM_u h hx.2.2).2.1
  have h2 := ub_le h1 (by omega)
  have h3 := ub_nI h1 (by omega)
  have h4 : (mA S 7 x.toNatClampNeg).toNatClampNeg ≠ 12 := fun q => hc (by rw [h3, q]; decide)
  have h5 := hx.2.2
  exact ix_lin (by decide) hx.nI h3 (by omega) (by omega)
theorem le_ix {x M : Int32} {n : Nat} (hM : M.toInt = n) (hn : n < 2 ^ 30) (h0 : ¬ x < 0) (h : x ≤ M) : ix x x.toNatClampNeg (n + 1) := by
  obtain ⟨j, hj, rfl⟩ := nI_of2 hM h0 h
  rw [nI_clamp (by omega)]
  exact ix_nI (by omega) (by omega)
theorem told_ix {x y : Int32} (hx : ix x x.toNatClampNeg 16) (h0 : ¬ y < 0) (h9 : y ≤ 9) : ix (10 * x + y) (10 * x.toNatClampNeg + y.toNatClampNeg) 160 := by
  have h1 := le_ix (n := 9) (by decide) (by omega) h0 h9
  have h2 := h1.2.2
  have h3 := hx.2.2
  exact ix_lin (by decide) hx.nI h1.nI (by omega) (by omega)
theorem all_ix {x : Int32} (h0 : ¬ x < 0) (h3 : x ≤ 3) : ix x x.toNatClampNeg 4 := le_ix (n := 3) (by decide) (by omega) h0 h3
theorem sw_ix {x : Int32} (h0 : ¬ x < 0) (h : x < 400) : ix x x.toNatClampNeg 400 := by
  obtain ⟨j, hj, rfl⟩ := nI_of h0
  have := (nI_ltI (a := j) (b := 400) hj (by omega)).mp h
  rw [nI_clamp hj]
  exact ix_nI (by omega) (by omega)
theorem okM_qx (h : okM N L b S) {x y : Int32} (hx : ix x x.toNatClampNeg 6) (h0 : ¬ y < 0) (hc : y < mA S 21 x.toNatClampNeg) : ix (16 * x + y) (16 * x.toNatClampNeg + y.toNatClampNeg) 96 := by
  have h1 := (okM_q h).1 _ hx.2.2
  obtain ⟨j, hj, rfl⟩ := nI_of h0
  obtain ⟨z, hz, hz2⟩ := h1
  rw [hz2] at hc
  have h2 := (nI_ltI hj (by omega)).mp hc
  have h3 := hx.2.2
  rw [nI_clamp hj]
  exact ix_lin (by decide) hx.nI rfl (by omega) (by omega)
theorem okM_mP (h : okM N L b S) {j : Nat} {v : Int32} (hj : j ≠ 1 ∧ j ≠ 5 ∧ j ≠ 10) : okM N L b (mP S j v) := by
  obtain ⟨h1, h2, h3, h4, h5, h6, h7, h8, h9⟩ := h
  refine ⟨?_, ?_, h3, h4, h5, h6, h7, ?_, h9⟩
  · rw [mO_mP, if_neg (Ne.symm hj.2.1)]; exact h1
  · rw [mO_mP, if_neg (Ne.symm hj.1)]; exact h2
  · rw [mO_mP, if_neg (Ne.symm hj.2.2)]; exact h8
theorem mA_ne (S : Ms) {a a2 : Nat} (k : Nat) (v : Int32) (k2 : Nat) (h : a2 ≠ a) : mA (mQ S a k v) a2 k2 = mA S a2 k2 := by rw [mA_mQ, if_neg (fun q => h q.1)]
theorem mA_eq (S : Ms) (a k : Nat) (v : Int32) : mA (mQ S a k v) a k = v := by rw [mA_mQ, if_pos ⟨rfl, rfl⟩]
theorem mA_nk (S : Ms) (a : Nat) {k k2 : Nat} (v : Int32) (a2 : Nat) (h : k2 ≠ k) : mA (mQ S a k v) a2 k2 = mA S a2 k2 := by rw [mA_mQ, if_neg (fun q => h q.2)]
theorem okM_mQ (h : okM N L b S) {a k : Nat} {v : Int32} (ha : a ≠ 7 ∧ a ≠ 11 ∧ a ≠ 12 ∧ a ≠ 13 ∧ a ≠ 20 ∧ a ≠ 21 ∧ a ≠ 22) : okM N L b (mQ S a k v) := by
  obtain ⟨h1, h2, h3, h4, h5, h6, h7, h8, h9⟩ := h
  have e7 := fun k2 => mA_ne S k v k2 (a2 := 7) (Ne.symm ha.1)
  have e11 := fun k2 => mA_ne S k v k2 (a2 := 11) (Ne.symm ha.2.1)
  have e12 := fun k2 => mA_ne S k v k2 (a2 := 12) (Ne.symm ha.2.2.1)
  have e13 := fun k2 => mA_ne S k v k2 (a2 := 13) (Ne.symm ha.2.2.2.1)
  have e20 := fun k2 => mA_ne S k v k2 (a2 := 20) (Ne.symm ha.2.2.2.2.1)
  have e21 := fun k2 => mA_ne S k v k2 (a2 := 21) (Ne.symm ha.2.2.2.2.2.1)
  have e22 := fun k2 => mA_ne S k v k2 (a2 := 22) (Ne.symm ha.2.2.2.2.2.2)
  refine ⟨h1, h2, h3, h4, h5, by rw [e22]; exact h6, fun u hu => ?_, ?_, ?_⟩
  · unfold uOK
    rw [e12, e7, e11, e13]
    exact h7 u hu
  · rcases h8 with q | ⟨r, q1, q2, q3⟩
    · exact Or.inl q
    · exact Or.inr ⟨r, q1, q2, by rw [e11]; exact q3⟩
  · unfold qOK sZ
    simp only [e20, e21, e11]
    exact h9
theorem ok_B_count {t : Nat} (h : okM N L b S) : okM N L b (B_X3_count_2 t S) := by
  unfold B_X3_count_2
  dsimp only
  repeat' split
  · exact okM_mQ h (by decide)
  · exact okM_mQ h (by decide)
  · exact h
theorem ok_X3_count (h : okM N L b S) : okM N L b (F_X3_count S) :=
  itr_ind (P := okM N L b) _ _ _ h (fun k Z _ _ hZ => ok_B_count hZ)
end OKM
