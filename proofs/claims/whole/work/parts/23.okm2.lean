/-! pigeons -/
theorem pig : ∀ (n z : Nat) (f : Nat → Nat), (∀ k, k < z → f k < n) → (∀ j k, j < z → k < z → f j = f k → j = k) → z ≤ n := by
  intro n
  induction n with
  | zero =>
    intro z f h _
    rcases Nat.eq_zero_or_pos z with q | q
    · omega
    · exact absurd (h 0 q) (by omega)
  | succ n ih =>
    intro z f h hi
    cases z with
    | zero => omega
    | succ z =>
      -- take the last pigeon away, and let whoever sits at n take its hole
      have h1 := ih z (fun k => if f k = n then f z else f k) (fun k hk => by
        have a := h k (by omega)
        have c := h z (by omega)
        by_cases q : f k = n
        · have : f z ≠ n := fun e => by have := hi k z (by omega) (by omega) (by rw [q, e]); omega
          simp only [q, if_true]; omega
        · simp only [q, if_false]; omega) (fun j k hj hk e => by
        by_cases q : f j = n
        · by_cases r : f k = n
          · exact hi j k (by omega) (by omega) (by rw [q, r])
          · simp only [q, r, if_true, if_false] at e
            have := hi z k (by omega) (by omega) e
            omega
        · by_cases r : f k = n
          · simp only [q, r, if_true, if_false] at e
            have := hi j z (by omega) (by omega) e
            omega
          · simp only [q, r, if_false] at e
            exact hi j k (by omega) (by omega) e)
      omega
/-- u stands in no queue -/
def notin (M : Ms) (u : Nat) : Prop := ∀ l k, l < 6 → k < sZ M l → ¬ mA M 20 (16 * l + k) = nI u
section QQ
variable {N : Nat} {M : Ms}
theorem qOK_sz (h : qOK N M) {l : Nat} (hl : l < 6) : sZ M l ≤ 16 := ub_le (h.1 l hl) (by omega)
theorem qOK_15 (h : qOK N M) (hN : N ≤ 16) {u l : Nat} (hu : u < N) (hl : l < 6) (hn : notin M u) : ub 15 (mA M 21 l) := by
  have h1 := h.1 l hl
  have h2 := qOK_sz h hl
  refine ⟨sZ M l, ?_, ub_nI h1 (by omega)⟩
  have h3 := pig N (sZ M l + 1) (fun k => if k < sZ M l then (mA M 20 (16 * l + k)).toNatClampNeg else u) (fun k hk => by
    by_cases q : k < sZ M l
    · obtain ⟨r, r1, r2, -⟩ := h.2.1 l k hl q
      simp only [q, if_true]
      rw [r2, nI_clamp (by omega)]; exact r1
    · simp only [q, if_false]; exact hu) (fun j k hj hk e => by
    by_cases q : j < sZ M l
    · obtain ⟨r, r1, r2, -⟩ := h.2.1 l j hl q
      by_cases p : k < sZ M l
      · obtain ⟨x, x1, x2, -⟩ := h.2.1 l k hl p
        simp only [q, p, if_true] at e
        rw [r2, x2, nI_clamp (by omega), nI_clamp (by omega)] at e
        exact (h.2.2 l j l k hl hl q p (by rw [r2, x2, e])).2
      · simp only [q, p, if_true, if_false] at e
        rw [r2, nI_clamp (by omega)] at e
        exact absurd (by rw [r2, e]) (hn l j hl q)
    · by_cases p : k < sZ M l
      · obtain ⟨x, x1, x2, -⟩ := h.2.1 l k hl p
        simp only [q, p, if_true, if_false] at e
        rw [x2, nI_clamp (by omega)] at e
        exact absurd (by rw [x2, ← e]) (hn l k hl p)
      · omega)
  omega
theorem notin_of (h : qOK N M) (hN : N ≤ 16) {u : Nat} (hu : u < 16) (hs : ¬ mA M 11 u = 1) : notin M u := by
  intro l k hl hk e
  obtain ⟨q, q1, q2, q3⟩ := h.2.1 l k hl hk
  have : q = u := (nI_eq (by omega) (by omega)).mp (by rw [← q2, e])
  rw [this] at q3
  exact hs q3
/-- queue l gets u at its end; nobody else's state changes -/
theorem qOK_end (h : qOK N M) (hN : N ≤ 16) {M2 : Ms} {l u : Nat} (hl : l < 6) (hu : u < N) (hn : notin M u)
    (h21 : ∀ i, i < 6 → mA M2 21 i = if i = l then nI (sZ M l + 1) else mA M 21 i)
    (h20 : ∀ i k, i < 6 → k < 16 → mA M2 20 (16 * i + k) = if i = l ∧ k = sZ M l then nI u else mA M 20 (16 * i + k))
    (h11 : ∀ i, i < 16 → mA M2 11 i = if i = u then 1 else mA M 11 i) : qOK N M2 := by
  have h15 : sZ M l ≤ 15 := ub_le (qOK_15 h hN hu hl hn) (by omega)
  have hzl : sZ M2 l = sZ M l + 1 := by show (mA M2 21 l).toNatClampNeg = _; rw [h21 l hl, if_pos rfl, nI_clamp (by omega)]
  have hzo : ∀ i, i < 6 → i ≠ l → sZ M2 i = sZ M i := fun i hi hne => by show (mA M2 21 i).toNatClampNeg = _; rw [h21 i hi, if_neg hne]
  -- the old entries
  have hold : ∀ i k, i < 6 → k < sZ M i → mA M2 20 (16 * i + k) = mA M 20 (16 * i + k) := fun i k hi hk => by
    have := qOK_sz h hi
    rw [h20 i k hi (by omega), if_neg (fun q => by rw [q.1, q.2] at hk; omega)]
  have hnew : mA M2 20 (16 * l + sZ M l) = nI u := by rw [h20 l _ hl (by omega), if_pos ⟨rfl, rfl⟩]
  have hcase : ∀ i k, i < 6 → k < sZ M2 i → k < sZ M i ∨ (i = l ∧ k = sZ M l) := fun i k hi hk => by
    by_cases e : i = l
    · subst e; rw [hzl] at hk; omega
    · rw [hzo i hi e] at hk; exact Or.inl hk
  refine ⟨fun i hi => ?_, fun i k hi hk => ?_, fun i k i2 k2 hi hi2 hk hk2 e => ?_⟩
  · rw [h21 i hi]
    by_cases e : i = l
    · rw [if_pos e]; exact ⟨_, by omega, rfl⟩
    · rw [if_neg e]; exact h.1 i hi
  · rcases hcase i k hi hk with q | ⟨q1, q2⟩
    · obtain ⟨r, r1, r2, r3⟩ := h.2.1 i k hi q
      refine ⟨r, r1, by rw [hold i k hi q]; exact r2, ?_⟩
      rw [h11 r (by omega)]
      by_cases e : r = u
      · rw [if_pos e]
      · rw [if_neg e]; exact r3
    · rw [q1, q2]
      exact ⟨u, hu, hnew, by rw [h11 u (by omega), if_pos rfl]⟩
  · rcases hcase i k hi hk with q | ⟨q1, q2⟩
    · rcases hcase i2 k2 hi2 hk2 with r | ⟨r1, r2⟩
      · rw [hold i k hi q, hold i2 k2 hi2 r] at e
        exact h.2.2 i k i2 k2 hi hi2 q r e
      · rw [r1, r2, hnew, hold i k hi q] at e
        exact absurd e (hn i k hi q)
    · rcases hcase i2 k2 hi2 hk2 with r | ⟨r1, r2⟩
      · rw [q1, q2, hnew, hold i2 k2 hi2 r] at e
        exact absurd e.symm (hn i2 k2 hi2 r)
      · exact ⟨by rw [q1, r1], by rw [q2, r2]⟩
/-- queue l gets u at its front -/
theorem qOK_front (h : qOK N M) (hN : N ≤ 16) {M2 : Ms} {l u : Nat} (hl : l < 6) (hu : u < N) (hn : notin M u)
    (h21 : ∀ i, i < 6 → mA M2 21 i = if i = l then nI (sZ M l + 1) else mA M 21 i)
    (h20 : ∀ i k, i < 6 → k < 16 → mA M2 20 (16 * i + k) = if i = l then (if k = 0 then nI u else if k ≤ sZ M l then mA M 20 (16 * l + (k - 1)) else mA M 20 (16 * i + k)) else mA M 20 (16 * i + k))
    (h11 : ∀ i, i < 16 → mA M2 11 i = if i = u then 1 else mA M 11 i) : qOK N M2 := by
  have h15 : sZ M l ≤ 15 := ub_le (qOK_15 h hN hu hl hn) (by omega)
  have hzl : sZ M2 l = sZ M l + 1 := by show (mA M2 21 l).toNatClampNeg = _; rw [h21 l hl, if_pos rfl, nI_clamp (by omega)]
  have hzo : ∀ i, i < 6 → i ≠ l → sZ M2 i = sZ M i := fun i hi hne => by show (mA M2 21 i).toNatClampNeg = _; rw [h21 i hi, if_neg hne]
  have hnew : mA M2 20 (16 * l + 0) = nI u := by rw [h20 l 0 hl (by omega), if_pos rfl, if_pos rfl]
  -- what stands at place k of queue i in M2
  have hcase : ∀ i k, i < 6 → k < sZ M2 i → (i = l ∧ k = 0) ∨ (i = l ∧ 0 < k ∧ k - 1 < sZ M l ∧ mA M2 20 (16 * i + k) = mA M 20 (16 * l + (k - 1))) ∨ (i ≠ l ∧ k < sZ M i ∧ mA M2 20 (16 * i + k) = mA M 20 (16 * i + k)) := fun i k hi hk => by
    by_cases e : i = l
    · subst e
      rw [hzl] at hk
      by_cases k0 : k = 0
      · exact Or.inl ⟨rfl, k0⟩
      · refine Or.inr (Or.inl ⟨rfl, by omega, by omega, ?_⟩)
        rw [h20 i k hi (by omega), if_pos rfl, if_neg k0, if_pos (by omega)]
    · rw [hzo i hi e] at hk
      have := qOK_sz h hi
      refine Or.inr (Or.inr ⟨e, hk, ?_⟩)
      rw [h20 i k hi (by omega), if_neg e]
  refine ⟨fun i hi => ?_, fun i k hi hk => ?_, fun i k i2 k2 hi hi2 hk hk2 e => ?_⟩
  · rw [h21 i hi]
    by_cases e : i = l
    · rw [if_pos e]; exact ⟨_, by omega, rfl⟩
    · rw [if_neg e]; exact h.1 i hi
  · have fin : ∀ r, r < N → mA M 11 r = 1 → mA M2 11 r = 1 := fun r hr h1 => by
      rw [h11 r (by omega)]
      by_cases e : r = u
      · rw [if_pos e]
      · rw [if_neg e]; exact h1
    rcases hcase i k hi hk with ⟨q1, q2⟩ | ⟨q1, q2, q3, q4⟩ | ⟨q1, q2, q3⟩
    · rw [q1, q2]; exact ⟨u, hu, hnew, by rw [h11 u (by omega), if_pos rfl]⟩
    · obtain ⟨r, r1, r2, r3⟩ := h.2.1 l (k - 1) hl q3
      exact ⟨r, r1, by rw [q4]; exact r2, fin r r1 r3⟩
    · obtain ⟨r, r1, r2, r3⟩ := h.2.1 i k hi q2
      exact ⟨r, r1, by rw [q3]; exact r2, fin r r1 r3⟩
  · rcases hcase i k hi hk with ⟨q1, q2⟩ | ⟨q1, q2, q3, q4⟩ | ⟨q1, q2, q3⟩
    · rcases hcase i2 k2 hi2 hk2 with ⟨r1, r2⟩ | ⟨r1, r2, r3, r4⟩ | ⟨r1, r2, r3⟩
      · exact ⟨by rw [q1, r1], by rw [q2, r2]⟩
      · rw [q1, q2, hnew, r4] at e
        exact absurd e.symm (hn l (k2 - 1) hl r3)
      · rw [q1, q2, hnew, r3] at e
        exact absurd e.symm (hn i2 k2 hi2 r2)
    · rcases hcase i2 k2 hi2 hk2 with ⟨r1, r2⟩ | ⟨r1, r2, r3, r4⟩ | ⟨r1, r2, r3⟩
      · rw [r1, r2, hnew, q4] at e
        exact absurd e (hn l (k - 1) hl q3)
      · rw [q4, r4] at e
        have := h.2.2 l (k - 1) l (k2 - 1) hl hl q3 r3 e
        exact ⟨by rw [q1, r1], by omega⟩
      · rw [q4, r3] at e
        have := h.2.2 l (k - 1) i2 k2 hl hi2 q3 r2 e
        exact absurd this.1.symm r1
    · rcases hcase i2 k2 hi2 hk2 with ⟨r1, r2⟩ | ⟨r1, r2, r3, r4⟩ | ⟨r1, r2, r3⟩
      · rw [r1, r2, hnew, q3] at e
        exact absurd e (hn i k hi q2)
      · rw [q3, r4] at e
        have := h.2.2 i k l (k2 - 1) hi hl q2 r3 e
        exact absurd this.1 q1
      · rw [q3, r3] at e
        exact h.2.2 i k i2 k2 hi hi2 q2 r2 e
/-- the first one of queue l is taken -/
theorem qOK_take (h : qOK N M) (hN : N ≤ 16) {M2 : Ms} {l : Nat} (hl : l < 6) (h0 : 0 < sZ M l)
    (h21 : ∀ i, i < 6 → mA M2 21 i = if i = l then nI (sZ M l - 1) else mA M 21 i)
    (h20 : ∀ i k, i < 6 → k < 16 → mA M2 20 (16 * i + k) = if i = l ∧ k + 1 < sZ M l then mA M 20 (16 * i + (k + 1)) else mA M 20 (16 * i + k))
    (h11 : ∀ i, mA M2 11 i = mA M 11 i) : qOK N M2 ∧ ∃ q, q < N ∧ mA M 20 (16 * l) = nI q ∧ mA M 11 q = 1 ∧ notin M2 q := by
  have h16 := qOK_sz h hl
  have hzl : sZ M2 l = sZ M l - 1 := by show (mA M2 21 l).toNatClampNeg = _; rw [h21 l hl, if_pos rfl, nI_clamp (by omega)]
  have hzo : ∀ i, i < 6 → i ≠ l → sZ M2 i = sZ M i := fun i hi hne => by show (mA M2 21 i).toNatClampNeg = _; rw [h21 i hi, if_neg hne]
  have hcase : ∀ i k, i < 6 → k < sZ M2 i → (i = l ∧ k + 1 < sZ M l ∧ mA M2 20 (16 * i + k) = mA M 20 (16 * l + (k + 1))) ∨ (i ≠ l ∧ k < sZ M i ∧ mA M2 20 (16 * i + k) = mA M 20 (16 * i + k)) := fun i k hi hk => by
    by_cases e : i = l
    · subst e
      rw [hzl] at hk
      refine Or.inl ⟨rfl, by omega, ?_⟩
      rw [h20 i k hi (by omega), if_pos ⟨rfl, by omega⟩]
    · rw [hzo i hi e] at hk
      have := qOK_sz h hi
      refine Or.inr ⟨e, hk, ?_⟩
      rw [h20 i k hi (by omega), if_neg (fun q => e q.1)]
  refine ⟨⟨fun i hi => ?_, fun i k hi hk => ?_, fun i k i2 k2 hi hi2 hk hk2 e => ?_⟩, ?_⟩
  · rw [h21 i hi]
    by_cases e : i = l
    · rw [if_pos e]; exact ⟨_, by omega, rfl⟩
    · rw [if_neg e]; exact h.1 i hi
  · rcases hcase i k hi hk with ⟨q1, q2, q3⟩ | ⟨q1, q2, q3⟩
    · obtain ⟨r, r1, r2, r3⟩ := h.2.1 l (k + 1) hl q2
      exact ⟨r, r1, by rw [q3]; exact r2, by rw [h11]; exact r3⟩
    · obtain ⟨r, r1, r2, r3⟩ := h.2.1 i k hi q2
      exact ⟨r, r1, by rw [q3]; exact r2, by rw [h11]; exact r3⟩
  · rcases hcase i k hi hk with ⟨q1, q2, q3⟩ | ⟨q1, q2, q3⟩
    · rcases hcase i2 k2 hi2 hk2 with ⟨r1, r2, r3⟩ | ⟨r1, r2, r3⟩
      · rw [q3, r3] at e
        have := h.2.2 l (k + 1) l (k2 + 1) hl hl q2 r2 e
        exact ⟨by rw [q1, r1], by omega⟩
      · rw [q3, r3] at e
        exact absurd (h.2.2 l (k + 1) i2 k2 hl hi2 q2 r2 e).1.symm r1
    · rcases hcase i2 k2 hi2 hk2 with ⟨r1, r2, r3⟩ | ⟨r1, r2, r3⟩
      · rw [q3, r3] at e
        exact absurd (h.2.2 i k l (k2 + 1) hi hl q2 r2 e).1 q1
      · rw [q3, r3] at e
        exact h.2.2 i k i2 k2 hi hi2 q2 r2 e
  · obtain ⟨r, r1, r2, r3⟩ := h.2.1 l 0 hl h0
    refine ⟨r, r1, by rw [show 16 * l = 16 * l + 0 by omega]; exact r2, r3, fun i k hi hk e => ?_⟩
    rcases hcase i k hi hk with ⟨q1, q2, q3⟩ | ⟨q1, q2, q3⟩
    · rw [q3, ← r2] at e
      have := (h.2.2 l (k + 1) l 0 hl hl q2 h0 e).2
      omega
    · rw [q3, ← r2] at e
      exact absurd (h.2.2 i k l 0 hi hl q2 h0 e).1 q1
end QQ
