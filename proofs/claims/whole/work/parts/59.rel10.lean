section RS8
variable {tau : Int32} {S : Cs} {M : Ms} {N L b : Nat}
/-! all come up: the queues -/
def pU (t n k : Nat) (S : Cs) (M : Ms) : Prop := (∀ l, l < 6 → l ≠ t → cL S l 3 = mA M 21 l ∧ ∀ i, i < sZ M l → cQ S l i = mA M 20 (16 * l + i)) ∧ cL S t 3 = nI n ∧ mA M 21 t = nI (n - k) ∧ ∀ i, i < n - k → cQ S t (i + k) = mA M 20 (16 * t + i)
theorem pU_step {t n k nx : Nat} (h : pU t n k S M) (ho : okM N L b M) (ht : t < 6) (h1 : 1 ≤ t) (hn : n ≤ 16) (hk : k < n) : pU t n (k + 1) (B_X0_addAllOf_2 0 t k S) (B_X3_allUp_20 t nx M) := by
  obtain ⟨g1, g2, g3, g4⟩ := h
  have hN := ho.2.2.1
  have hxt : ix (nI t) t 6 := ix_nI ht (by omega)
  have hx0 : ix (0 : Int32) 0 6 := ix_lit (by decide) (by omega) (by omega)
  have hzt : sZ M t = n - k := by show (mA M 21 t).toNatClampNeg = _; rw [g3, nI_clamp (by omega)]
  have hq := (okM_q ho).1
  obtain ⟨o1, q, q1, q2, q3, q4⟩ := okM_take ho hxt (by rw [hzt]; omega)
  have hq2 := (okM_q o1).1
  have h015 : ub 15 (mA (F_X3_takeFirst M (nI t)).1 21 0) := qOK_15 (okM_q o1) hN q1 (by omega) q4
  have e210 : mA (F_X3_takeFirst M (nI t)).1 21 0 = mA M 21 0 := by rw [take_21 hxt (hq t ht) (by rw [hzt]; omega), if_neg (by omega)]
  have h015' : ub 15 (cL S 0 3) := by rw [(g1 0 (by omega) (by omega)).1, ← e210]; exact h015
  have h015n : sZ (F_X3_takeFirst M (nI t)).1 0 ≤ 15 := ub_le h015 (by omega)
  have e0 : sZ (F_X3_takeFirst M (nI t)).1 0 = sZ M 0 := by unfold sZ; rw [e210]
  have ev : cQ S t k = (F_X3_takeFirst M (nI t)).2 := by
    have := g4 0 (by omega)
    rw [Nat.zero_add] at this
    rw [this]
    show mA M 20 (16 * t + 0) = mA M 20 (16 * (nI t).toNatClampNeg)
    rw [nI_clamp (by omega)]; rfl
  have z0 : (cL S 0 3).toNatClampNeg = sZ M 0 := by rw [(g1 0 (by omega) (by omega)).1]
  unfold B_X0_addAllOf_2 B_X3_allUp_20
  dsimp only
  rw [ev]
  refine ⟨fun l hl hne => ⟨?_, fun i hi => ?_⟩, ?_, ?_, fun i hi => ?_⟩
  · rw [addLast_3 h015', toEnd_21 hx0 (hq2 0 (by omega)), take_21 hxt (hq t ht) (by rw [hzt]; omega), if_neg hne, e0]
    by_cases e : l = 0
    · rw [if_pos e, if_pos e, (g1 0 (by omega) (by omega)).1, ub_sz (hq 0 (by omega))]
    · rw [if_neg e, if_neg e]; exact (g1 l hl hne).1
  · have hs : sZ (F_X3_toEnd (F_X3_takeFirst M (nI t)).1 0 (F_X3_takeFirst M (nI t)).2) l = if l = 0 then sZ M 0 + 1 else sZ M l := by
      unfold sZ
      rw [toEnd_21 hx0 (hq2 0 (by omega)), take_21 hxt (hq t ht) (by rw [hzt]; omega), if_neg hne, e0]
      by_cases e : l = 0
      · rw [if_pos e, if_pos e, nI_clamp (by omega)]
      · rw [if_neg e, if_neg e]
    rw [hs] at hi
    have hl16 := ub_le (hq l hl) (by omega)
    have hi16 : i < 16 := by
      by_cases e : l = 0
      · rw [if_pos e] at hi; omega
      · rw [if_neg e] at hi; unfold sZ at hi; omega
    rw [addLast_Q h015', toEnd_20 hx0 l i hl hi16 h015n, take_20 hxt (hq t ht) (by rw [hzt]; omega) l i hl hi16, z0, e0]
    by_cases e : l = 0 ∧ i = sZ M 0
    · rw [if_pos e, if_pos e]
    · rw [if_neg e, if_neg e, if_neg (fun z => hne z.1)]
      refine (g1 l hl hne).2 i ?_
      by_cases e2 : l = 0
      · rw [if_pos e2] at hi
        subst e2
        have : i ≠ sZ M 0 := fun z => e ⟨rfl, z⟩
        omega
      · rw [if_neg e2] at hi; exact hi
  · rw [addLast_3 h015', if_neg (by omega)]; exact g2
  · rw [toEnd_21 hx0 (hq2 0 (by omega)), if_neg (by omega), take_21 hxt (hq t ht) (by rw [hzt]; omega), if_pos rfl, hzt, show n - k - 1 = n - (k + 1) by omega]
  · rw [addLast_Q h015', if_neg (fun z => absurd z.1 (by omega)), toEnd_20 hx0 t i ht (by omega) h015n, if_neg (fun z => absurd z.1 (by omega)), take_20 hxt (hq t ht) (by rw [hzt]; omega) t i ht (by omega), if_pos ⟨rfl, by rw [hzt]; omega⟩]
    have := g4 (i + 1) (by omega)
    rw [show i + 1 + k = i + (k + 1) by omega] at this
    exact this
theorem pU_all {t n : Nat} (ht : t < 6) (h1 : 1 ≤ t) (hn : n ≤ 16) : ∀ (m k : Nat) (S : Cs) (M : Ms), k + m = n → pU t n k S M → okM N L b M → pU t n n (itr (B_X0_addAllOf_2 0 t) m k S) (itd (B_X3_allUp_20 t) m M) := by
  intro m
  induction m with
  | zero => intro k S M e h _; rw [show k = n by omega] at h; exact h
  | succ m ih =>
    intro k S M e h ho
    have hs : mA M 21 t = nI (m + 1) := by rw [h.2.2.1, show n - k = m + 1 by omega]
    exact ih (k + 1) _ _ (by omega) (pU_step (nx := m) h ho ht h1 hn (by omega)) (up20 ho ht h1 hs (by omega)).1
theorem q_up {t : Nat} (h : qR S M) (ho : okM N L b M) (ht : t < 6) (h1 : 1 ≤ t) : qR (B_X2_bringAllUp_77 t S) (B_X3_allUp_12 t M) := by
  have hz := (okM_q ho).1 t ht
  have e := ub_nI hz (by omega)
  have le := ub_le hz (by omega)
  have h0 : pU t (sZ M t) 0 S M := ⟨fun l hl _ => h l hl, by rw [(h t ht).1]; exact e, by rw [Nat.sub_zero]; exact e, fun i hi => by rw [Nat.add_zero]; exact (h t ht).2 i (by omega)⟩
  have hf := pU_all (N := N) (L := L) (b := b) ht h1 le (sZ M t) 0 S M (Nat.zero_add _) h0 ho
  obtain ⟨g1, g2, g3, g4⟩ := hf
  unfold B_X2_bringAllUp_77 B_X3_allUp_12 F_X0_addAllOf F_X0_clear
  dsimp only
  rw [(h t ht).1]
  rw [Nat.sub_self] at g3
  intro l hl
  by_cases el : l = t
  · subst el
    refine ⟨?_, fun k hk => ?_⟩
    · rw [cL_sL, if_pos ⟨rfl, rfl⟩]
      exact (g3.trans (by decide)).symm
    · have : sZ (itd (B_X3_allUp_20 l) (mA M 21 l).toNatClampNeg M) l = 0 := by
        show (mA (itd (B_X3_allUp_20 l) (sZ M l) M) 21 l).toNatClampNeg = 0
        rw [g3]; decide
      omega
  · refine ⟨?_, fun k hk => ?_⟩
    · rw [cL_sL, if_neg (fun z => el z.2)]; exact (g1 l hl el).1
    · exact (g1 l hl el).2 k hk
theorem nq_up {t : Nat} : nq S (B_X2_bringAllUp_77 t S) := (itr_ind (P := nq S) _ _ _ nq.rf (fun k Z _ _ h => h.tr nq_addLast)).tr nq_sL3
theorem mV_20 {t n i : Nat} (ho : okM N L b M) (ht : t < 6) (h1 : 1 ≤ t) (hn : mA M 21 t = nI (n + 1)) (h16 : n + 1 ≤ 16) : mV (B_X3_allUp_20 t n M) i = mV M i := by
  have hN := ho.2.2.1
  obtain ⟨o1, q, q1, q2, q3, q4⟩ := okM_take ho (ix_nI ht (by omega)) (by rw [sz_n hn h16]; omega)
  unfold B_X3_allUp_20
  dsimp only
  rw [q2]
  by_cases e : i = q
  · subst e
    funext b j
    rw [mV_toEnd_at (nI_clamp (by omega)), mV_take]
    by_cases e2 : b = 11
    · rw [if_pos e2, e2, mV_p j (by decide)]; exact q3.symm
    · rw [if_neg e2]
  · rw [mV_toEnd_ne (nI_clamp (by omega)) e, mV_take]
theorem mV_20s {t i : Nat} (ht : t < 6) (h1 : 1 ≤ t) : ∀ (n : Nat) (Z : Ms), mA Z 21 t = nI n → n ≤ 16 → okM N L b Z → mV (itd (B_X3_allUp_20 t) n Z) i = mV Z i ∧ (∀ a k, a ≠ 11 → a ≠ 20 → a ≠ 21 → mA (itd (B_X3_allUp_20 t) n Z) a k = mA Z a k) ∧ ∀ j, mO (itd (B_X3_allUp_20 t) n Z) j = mO Z j := by
  intro n
  induction n with
  | zero => intro Z _ _ _; exact ⟨rfl, fun _ _ _ _ _ => rfl, fun _ => rfl⟩
  | succ n ih =>
    intro Z hn h16 ho
    obtain ⟨g1, g2, g3, g4⟩ := up20 ho ht h1 hn h16
    obtain ⟨k1, k2, k3⟩ := ih _ g3 (by omega) g1
    refine ⟨k1.trans (mV_20 ho ht h1 hn h16), fun a k a1 a2 a3 => (k2 a k a1 a2 a3).trans ?_, fun j => (k3 j).trans ?_⟩
    · unfold B_X3_allUp_20
      dsimp only
      rw [toEnd_o a k ⟨a1, a2, a3⟩, take_o a k ⟨a2, a3⟩]
    · unfold B_X3_allUp_20
      dsimp only
      rw [toEnd_O, take_O]
/-- both sides: the queues come together -/
theorem R_upq (h : qR S M) (ho : okM N L b M) (n : Nat) (hn : n ≤ 5) : qR (itr B_X2_bringAllUp_77 n 1 S) (itr B_X3_allUp_12 n 1 M) ∧ nq S (itr B_X2_bringAllUp_77 n 1 S) ∧ okM N L b (itr B_X3_allUp_12 n 1 M) ∧ (∀ i, mV (itr B_X3_allUp_12 n 1 M) i = mV M i) ∧ (∀ a k, a ≠ 11 → a ≠ 20 → a ≠ 21 → mA (itr B_X3_allUp_12 n 1 M) a k = mA M a k) ∧ ∀ j, mO (itr B_X3_allUp_12 n 1 M) j = mO M j := by
  have hz : ∀ (Z : Ms) (t : Nat), t < 6 → okM N L b Z → mA Z 21 t = nI (mA Z 21 t).toNatClampNeg ∧ (mA Z 21 t).toNatClampNeg ≤ 16 := fun Z t ht o => ⟨ub_nI ((okM_q o).1 t ht) (by omega), ub_le ((okM_q o).1 t ht) (by omega)⟩
  exact itr_sim (P := fun t S' M' => qR S' M' ∧ nq S S' ∧ okM N L b M' ∧ (∀ i, mV M' i = mV M i) ∧ (∀ a k, a ≠ 11 → a ≠ 20 → a ≠ 21 → mA M' a k = mA M a k) ∧ ∀ j, mO M' j = mO M j) n 1 S M ⟨h, nq.rf, ho, fun _ => rfl, fun _ _ _ _ _ => rfl, fun _ => rfl⟩ (fun k S' M' h1 h2 hP => by
    obtain ⟨p1, p2, p3, p4, p5, p6⟩ := hP
    obtain ⟨z1, z2⟩ := hz M' k (by omega) p3
    refine ⟨q_up p1 p3 (by omega) h1, p2.tr nq_up, (up12 p3 (by omega) h1).1, fun i => ((mV_20s (i := i) (by omega) h1 _ M' z1 z2 p3).1).trans (p4 i), fun a k2 a1 a2 a3 => ((mV_20s (i := 0) (by omega) h1 _ M' z1 z2 p3).2.1 a k2 a1 a2 a3).trans (p5 a k2 a1 a2 a3), fun j => ((mV_20s (i := 0) (by omega) h1 _ M' z1 z2 p3).2.2 j).trans (p6 j)⟩)
end RS8
