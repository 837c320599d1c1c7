/-! the queues' moves, place by place -/
section QM
theorem ub_sz {x : Int32} (hz : ub 16 x) : x + 1 = nI (x.toNatClampNeg + 1) := by
  obtain ⟨z, h1, rfl⟩ := hz
  rw [nI_clamp (by omega), nI_1]
variable {N : Nat} {M : Ms} {x y : Int32} {l u : Nat}
theorem toEnd_21 (hx : ix x l 6) (hz : ub 16 (mA M 21 l)) (i : Nat) : mA (F_X3_toEnd M x y) 21 i = if i = l then nI (sZ M l + 1) else mA M 21 i := by
  unfold F_X3_toEnd
  dsimp only
  rw [hx.2.1, mA_ne _ _ _ _ (by decide), mA_mQ]
  by_cases e : i = l
  · rw [if_pos ⟨rfl, e⟩, if_pos e, mA_ne _ _ _ _ (by decide)]; exact ub_sz hz
  · rw [if_neg (fun q => e q.2), if_neg e, mA_ne _ _ _ _ (by decide)]
theorem toEnd_20 (hx : ix x l 6) (i k : Nat) (hi : i < 6) (hk : k < 16) (hz : sZ M l ≤ 15) : mA (F_X3_toEnd M x y) 20 (16 * i + k) = if i = l ∧ k = sZ M l then y else mA M 20 (16 * i + k) := by
  unfold F_X3_toEnd
  dsimp only
  rw [hx.2.1, mA_ne _ _ _ _ (by decide), mA_ne _ _ _ _ (by decide), mA_mQ]
  by_cases e : i = l ∧ k = sZ M l
  · rw [if_pos e, if_pos ⟨rfl, by rw [e.1, e.2]⟩]
  · rw [if_neg e, if_neg]
    intro q
    have h2 := q.2
    have hz' : (mA M 21 l).toNatClampNeg ≤ 15 := hz
    refine e ⟨by omega, ?_⟩
    show k = (mA M 21 l).toNatClampNeg
    omega
theorem toEnd_11 (hy : ix y u 16) (i : Nat) : mA (F_X3_toEnd M x y) 11 i = if i = u then 1 else mA M 11 i := by
  unfold F_X3_toEnd
  dsimp only
  rw [hy.2.1, mA_mQ]
  by_cases e : i = u
  · rw [if_pos ⟨rfl, e⟩, if_pos e]
  · rw [if_neg (fun q => e q.2), if_neg e, mA_ne _ _ _ _ (by decide), mA_ne _ _ _ _ (by decide)]
theorem toEnd_o (a i : Nat) (ha : a ≠ 11 ∧ a ≠ 20 ∧ a ≠ 21) : mA (F_X3_toEnd M x y) a i = mA M a i := by
  unfold F_X3_toEnd
  dsimp only
  rw [mA_ne _ _ _ _ ha.1, mA_ne _ _ _ _ ha.2.2, mA_ne _ _ _ _ ha.2.1]
theorem toEnd_O (j : Nat) : mO (F_X3_toEnd M x y) j = mO M j := rfl
theorem qOK_toEnd (h : qOK N M) (hN : N ≤ 16) (hx : ix x l 6) (hy : ix y u 16) (hu : u < N) (hn : notin M u) : qOK N (F_X3_toEnd M x y) := by
  have hl := hx.2.2
  have h15 : sZ M l ≤ 15 := ub_le (qOK_15 h hN hu hl hn) (by omega)
  exact qOK_end h hN hl hu hn (fun i _ => toEnd_21 hx (h.1 l hl) i) (fun i k hi hk => by rw [toEnd_20 hx i k hi hk h15, hy.nI]) (fun i _ => toEnd_11 hy i)
/-- the shift up -/
theorem shiftU (x y : Int32) : ∀ (n : Nat) (Z : Ms) (a k : Nat), mA (itd (B_X3_toFront_7 x y) n Z) a k = if a = 20 ∧ 16 * x.toNatClampNeg < k ∧ k ≤ 16 * x.toNatClampNeg + n then mA Z 20 (k - 1) else mA Z a k := by
  intro n
  induction n with
  | zero =>
    intro Z a k
    show mA Z a k = _
    rw [if_neg (by omega)]
  | succ n ih =>
    intro Z a k
    show mA (itd (B_X3_toFront_7 x y) n (B_X3_toFront_7 x y n Z)) a k = _
    rw [ih]
    unfold B_X3_toFront_7
    dsimp only
    by_cases c1 : a = 20 ∧ 16 * x.toNatClampNeg < k ∧ k ≤ 16 * x.toNatClampNeg + n
    · rw [if_pos c1, if_pos (by omega), mA_nk _ _ _ _ (by omega)]
    · rw [if_neg c1]
      by_cases c2 : a = 20 ∧ k = 16 * x.toNatClampNeg + (n + 1)
      · rw [if_pos (by omega), c2.1, c2.2, mA_eq, show 16 * x.toNatClampNeg + (n + 1) - 1 = 16 * x.toNatClampNeg + n by omega]
      · rw [if_neg (by omega), mA_mQ, if_neg (by omega)]
theorem itd_O {f : Nat → Ms → Ms} (hf : ∀ n Z j, mO (f n Z) j = mO Z j) : ∀ (n : Nat) (Z : Ms) (j : Nat), mO (itd f n Z) j = mO Z j := by
  intro n
  induction n with
  | zero => intro Z j; rfl
  | succ n ih => intro Z j; exact (ih (f n Z) j).trans (hf n Z j)
theorem itr_O {f : Nat → Ms → Ms} (hf : ∀ n Z j, mO (f n Z) j = mO Z j) : ∀ (n t : Nat) (Z : Ms) (j : Nat), mO (itr f n t Z) j = mO Z j := by
  intro n
  induction n with
  | zero => intro t Z j; rfl
  | succ n ih => intro t Z j; exact (ih (t + 1) (f t Z) j).trans (hf t Z j)
theorem toFront_O (j : Nat) : mO (F_X3_toFront M x y) j = mO M j := itd_O (f := B_X3_toFront_7 x y) (fun _ _ _ => rfl) _ _ _
theorem toFront_21 (hx : ix x l 6) (hz : ub 16 (mA M 21 l)) (i : Nat) : mA (F_X3_toFront M x y) 21 i = if i = l then nI (sZ M l + 1) else mA M 21 i := by
  unfold F_X3_toFront
  dsimp only
  have e21 : ∀ (n k i : Nat), mA (mQ (itd (B_X3_toFront_7 x y) n M) 20 k y) 21 i = mA M 21 i := fun n k i => by
    rw [mA_ne _ _ _ _ (by decide), shiftU, if_neg (fun q => absurd q.1 (by decide))]
  rw [mA_ne _ _ _ _ (by decide), mA_mQ, hx.2.1, e21, e21]
  by_cases e : i = l
  · rw [if_pos ⟨rfl, e⟩, if_pos e]; exact ub_sz hz
  · rw [if_neg (fun q => e q.2), if_neg e]
theorem toFront_20 (hx : ix x l 6) (i k : Nat) (hi : i < 6) (hk : k < 16) (hz : sZ M l ≤ 15) : mA (F_X3_toFront M x y) 20 (16 * i + k) = if i = l then (if k = 0 then y else if k ≤ sZ M l then mA M 20 (16 * l + (k - 1)) else mA M 20 (16 * i + k)) else mA M 20 (16 * i + k) := by
  have hz' : (mA M 21 l).toNatClampNeg ≤ 15 := hz
  unfold F_X3_toFront
  dsimp only
  rw [mA_ne _ _ _ _ (by decide), mA_ne _ _ _ _ (by decide), mA_mQ, hx.2.1]
  by_cases e : i = l
  · subst e
    rw [if_pos rfl]
    by_cases k0 : k = 0
    · rw [if_pos k0, if_pos ⟨rfl, by omega⟩]
    · rw [if_neg k0, if_neg (by omega), shiftU, hx.2.1]
      by_cases c : k ≤ sZ M i
      · have c' : k ≤ (mA M 21 i).toNatClampNeg := c
        rw [if_pos c, if_pos (by omega), show 16 * i + k - 1 = 16 * i + (k - 1) by omega]
      · have c' : ¬ k ≤ (mA M 21 i).toNatClampNeg := c
        rw [if_neg c, if_neg (by omega)]
  · rw [if_neg e, if_neg (by omega), shiftU, hx.2.1, if_neg (by omega)]
theorem toFront_11 (hy : ix y u 16) (i : Nat) : mA (F_X3_toFront M x y) 11 i = if i = u then 1 else mA M 11 i := by
  unfold F_X3_toFront
  dsimp only
  rw [hy.2.1, mA_mQ]
  by_cases e : i = u
  · rw [if_pos ⟨rfl, e⟩, if_pos e]
  · rw [if_neg (fun q => e q.2), if_neg e, mA_ne _ _ _ _ (by decide), mA_ne _ _ _ _ (by decide), shiftU, if_neg (by omega)]
theorem toFront_o (a i : Nat) (ha : a ≠ 11 ∧ a ≠ 20 ∧ a ≠ 21) : mA (F_X3_toFront M x y) a i = mA M a i := by
  unfold F_X3_toFront
  dsimp only
  rw [mA_ne _ _ _ _ ha.1, mA_ne _ _ _ _ ha.2.2, mA_ne _ _ _ _ ha.2.1, shiftU, if_neg (fun q => ha.2.1 q.1)]
theorem qOK_toFront (h : qOK N M) (hN : N ≤ 16) (hx : ix x l 6) (hy : ix y u 16) (hu : u < N) (hn : notin M u) : qOK N (F_X3_toFront M x y) := by
  have hl := hx.2.2
  have h15 : sZ M l ≤ 15 := ub_le (qOK_15 h hN hu hl hn) (by omega)
  exact qOK_front h hN hl hu hn (fun i _ => toFront_21 hx (h.1 l hl) i) (fun i k hi hk => by rw [toFront_20 hx i k hi hk h15, hy.nI]) (fun i _ => toFront_11 hy i)
/-- the shift down -/
theorem shiftD (x : Int32) : ∀ (n t : Nat) (Z : Ms) (a k : Nat), mA (itr (B_X3_takeFirst_22 x) n t Z) a k = if a = 20 ∧ 16 * x.toNatClampNeg + t ≤ k ∧ k < 16 * x.toNatClampNeg + t + n then mA Z 20 (k + 1) else mA Z a k := by
  intro n
  induction n with
  | zero =>
    intro t Z a k
    show mA Z a k = _
    rw [if_neg (by omega)]
  | succ n ih =>
    intro t Z a k
    show mA (itr (B_X3_takeFirst_22 x) n (t + 1) (B_X3_takeFirst_22 x t Z)) a k = _
    rw [ih]
    unfold B_X3_takeFirst_22
    dsimp only
    by_cases c1 : a = 20 ∧ 16 * x.toNatClampNeg + (t + 1) ≤ k ∧ k < 16 * x.toNatClampNeg + (t + 1) + n
    · rw [if_pos c1, if_pos (by omega), mA_nk _ _ _ _ (by omega)]
    · rw [if_neg c1]
      by_cases c2 : a = 20 ∧ k = 16 * x.toNatClampNeg + t
      · rw [if_pos (by omega), c2.1, c2.2, mA_eq]
      · rw [if_neg (by omega), mA_mQ, if_neg (by omega)]
theorem take_O (j : Nat) : mO (F_X3_takeFirst M x).1 j = mO M j := itr_O (f := B_X3_takeFirst_22 x) (fun _ _ _ => rfl) _ _ _ _
theorem take_o (a i : Nat) (ha : a ≠ 20 ∧ a ≠ 21) : mA (F_X3_takeFirst M x).1 a i = mA M a i := by
  unfold F_X3_takeFirst
  dsimp only
  rw [shiftD, if_neg (fun q => ha.1 q.1), mA_ne _ _ _ _ ha.2]
theorem take_21 (hx : ix x l 6) (hz : ub 16 (mA M 21 l)) (h0 : 0 < sZ M l) (i : Nat) : mA (F_X3_takeFirst M x).1 21 i = if i = l then nI (sZ M l - 1) else mA M 21 i := by
  unfold F_X3_takeFirst
  dsimp only
  rw [shiftD, if_neg (by omega), mA_mQ, hx.2.1]
  by_cases e : i = l
  · rw [if_pos ⟨rfl, e⟩, if_pos e]
    have h1 := ub_nI hz (by omega)
    have h0' : 0 < (mA M 21 l).toNatClampNeg := h0
    obtain ⟨z, hz2⟩ : ∃ z, (mA M 21 l).toNatClampNeg = z + 1 := ⟨(mA M 21 l).toNatClampNeg - 1, by omega⟩
    show _ = nI ((mA M 21 l).toNatClampNeg - 1)
    rw [hz2] at h1 ⊢
    rw [h1, nI_pred]
    rfl
  · rw [if_neg (fun q => e q.2), if_neg e]
theorem take_20 (hx : ix x l 6) (hz : ub 16 (mA M 21 l)) (h0 : 0 < sZ M l) (i k : Nat) (_ : i < 6) (hk : k < 16) : mA (F_X3_takeFirst M x).1 20 (16 * i + k) = if i = l ∧ k + 1 < sZ M l then mA M 20 (16 * i + (k + 1)) else mA M 20 (16 * i + k) := by
  have h21 : (mA (mQ M 21 x.toNatClampNeg (mA M 21 x.toNatClampNeg - 1)) 21 x.toNatClampNeg).toNatClampNeg = sZ M l - 1 := by
    rw [mA_eq, hx.2.1]
    have h1 := ub_nI hz (by omega)
    have h2 := ub_le hz (by omega)
    have h0' : 0 < (mA M 21 l).toNatClampNeg := h0
    obtain ⟨z, hz2⟩ : ∃ z, (mA M 21 l).toNatClampNeg = z + 1 := ⟨(mA M 21 l).toNatClampNeg - 1, by omega⟩
    show _ = (mA M 21 l).toNatClampNeg - 1
    rw [hz2] at h1 h2 ⊢
    rw [h1, nI_pred, nI_clamp (by omega)]
    rfl
  have h16 : sZ M l ≤ 16 := ub_le hz (by omega)
  unfold F_X3_takeFirst
  dsimp only
  rw [h21, shiftD, mA_ne _ _ _ _ (by decide), mA_ne _ _ _ _ (by decide), hx.2.1]
  by_cases e : i = l ∧ k + 1 < sZ M l
  · rw [if_pos e, if_pos (by omega), show 16 * i + k + 1 = 16 * i + (k + 1) by omega]
  · rw [if_neg e, if_neg (by omega)]
theorem qOK_takeFirst (h : qOK N M) (hN : N ≤ 16) (hx : ix x l 6) (h0 : 0 < sZ M l) : qOK N (F_X3_takeFirst M x).1 ∧ ∃ q, q < N ∧ (F_X3_takeFirst M x).2 = nI q ∧ mA M 11 q = 1 ∧ notin (F_X3_takeFirst M x).1 q := by
  have hl := hx.2.2
  obtain ⟨h1, q, q1, q2, q3, q4⟩ := qOK_take h hN hl h0 (fun i _ => take_21 hx (h.1 l hl) h0 i) (fun i k hi hk => take_20 hx (h.1 l hl) h0 i k hi hk) (fun i => take_o 11 i (by decide))
  refine ⟨h1, q, q1, ?_, q3, q4⟩
  show mA M 20 (16 * x.toNatClampNeg) = _
  rw [hx.2.1]; exact q2
end QM
