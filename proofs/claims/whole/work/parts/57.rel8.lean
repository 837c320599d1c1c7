section RS6
variable {tau : Int32} {S : Cs} {M : Ms} {N L b : Nat}
theorem ifv {x z : Int32} (h : x = -1 ∨ ¬ x < 0) : (if x = -1 then z else x) = if 0 ≤ x then x else z := by
  rcases h with h | h
  · rw [if_pos h, h]; rfl
  · rw [if_neg (fun q => h (by rw [q]; decide)), if_pos (Int32.not_lt.mp h)]
theorem R_switch {u : Nat} {x : Int32} (h : Rel tau S M) (hu : u < 16) (s1 : mA M 11 u = 1) (hT : mO M 9 = x) (hx0 : ¬ x < 0) (hlx : ix (mA M 12 u) (mA M 12 u).toNatClampNeg 6) : Rel tau (F_X2_switchTo S u) (G_X3_choose_208 (bM (mP M 10 (nI u)) u x) x (nI u)) := by
  have hX := h.x u
  obtain ⟨t0, t1, t3, tb, t4, t5, t10, tc, tf, tz, ta, tl, tu, tq⟩ := h.2.2.2.2.2 u hu
  have t4' := t4
  have t5' := t5
  have t10' := t10
  rw [mV_p 0 (by decide)] at t4' t5' t10'
  have s1' : cT S u 4 = 1 := t4'.trans s1
  obtain ⟨a6, a9⟩ := ta (Or.inl s1')
  have l7 := tl (Or.inl s1')
  have hnow : cO S 6 = x := by rw [h.1.2.2.2.1]; exact hT
  have hqu := (h.2.2.1 _ hlx.2.2).1
  have k5 := tc.2.2.2.1
  have k7 := tc.2.2.2.2.2.1
  rw [mV_19 (by decide)] at k5 k7
  obtain ⟨b1, b2, b3⟩ := bru_c (S := S) (u := u) (x := x) (q := cL S (mA M 12 u).toNatClampNeg 0)
  have v1 := bru_T (S := S) (u := u) (x := x) (q := cL S (mA M 12 u).toNatClampNeg 0)
  have hXb : RelX tau u (F_X1_beginRunning S u x (cL S (mA M 12 u).toNatClampNeg 0)) (bM (mP M 10 (nI u)) u x) := X_c (X_c (X_mQ (X_mQ (X_mQ (X_mP (bru_o hX)) (by decide)) (by decide)) (by decide)) (by decide)) (by decide)
  have hm : ∀ b j, mV (bM (mP M 10 (nI u)) u x) u b j = if b = 19 ∧ j % 10 = 5 then (if 0 ≤ mA M 19 (10 * u + 5) then mA M 19 (10 * u + 5) else x) else if b = 19 ∧ j % 10 = 7 then mA M 19 (10 * u + 7) + 1 else if b = 17 then 0 else if b = 15 then (if mA M 17 u = 0 then mA M 2 (mA M 12 u).toNatClampNeg else mA M 15 u) else if b = 11 then 2 else mV M u b j := fun b j => by
    unfold bM
    rw [mV_cat (by decide), mV_cat (by decide), mV_at (by decide), mV_at (by decide), mV_at (by decide)]
    rfl
  have ht : tR tau u (cT (F_X1_beginRunning S u x (cL S (mA M 12 u).toNatClampNeg 0)) u) (cB S u) (mV (bM (mP M 10 (nI u)) u x) u) := by
    unfold tR
    simp only [hm, v1]
    refine ⟨t0, t1, t3, tb, rfl, t5, rfl, ⟨tc.1, tc.2.1, tc.2.2.1, ?_, tc.2.2.2.2.1, ?_, tc.2.2.2.2.2.2⟩, ?_, fun q => absurd q n20, fun _ => ⟨a6, a9⟩, fun _ => l7, fun q => absurd q n23, fun _ => ?_⟩
    · show (if cT S u 14 = -1 then x else cT S u 14) = if 0 ≤ mA M 19 (10 * u + 5) then mA M 19 (10 * u + 5) else x
      rw [ifv tf, k5]
    · show cT S u 16 + 1 = mA M 19 (10 * u + 7) + 1
      rw [k7]
    · show (if cT S u 14 = -1 then x else cT S u 14) = -1 ∨ ¬ (if cT S u 14 = -1 then x else cT S u 14) < 0
      by_cases f : cT S u 14 = -1
      · rw [if_pos f]; exact Or.inr hx0
      · rw [if_neg f]; exact tf
    · show (if cT S u 10 = 0 then cL S (mA M 12 u).toNatClampNeg 0 else cT S u 8) = if mA M 17 u = 0 then mA M 2 (mA M 12 u).toNatClampNeg else mA M 15 u
      rw [t10']
      by_cases k : mA M 17 u = 0
      · rw [if_pos k, if_pos k]; exact hqu
      · rw [if_neg k, if_neg k, tq (Or.inr (by rw [t10']; exact k)), mV_p 0 (by decide)]
  have n0 : cT (F_X1_beginRunning S u x (cL S (mA M 12 u).toNatClampNeg 0)) u 0 = nI u := by rw [v1]; exact t0
  obtain ⟨a1, a2, a3, a4, a5⟩ := h.2.1
  have e22 : ∀ k, mA (bM (mP M 10 (nI u)) u x) 22 k = mA M 22 k := fun k => rfl
  have e23 : ∀ k, mA (bM (mP M 10 (nI u)) u x) 23 k = mA M 23 k := fun k => rfl
  unfold F_X2_switchTo G_X3_choose_208
  dsimp only
  rw [hnow, t5', b1 8, b1 6, hnow, n0, e22, a1]
  generalize hS1 : F_X1_beginRunning S u x (cL S (mA M 12 u).toNatClampNeg 0) = S1 at *
  generalize hY : bM (mP M 10 (nI u)) u x = Y at *
  have hO10 : mO Y 10 = nI u := by rw [← hY]; rfl
  have hcB : cB S1 u = cB S u := by rw [b3]
  by_cases c : 400 ≤ mA M 22 0
  · rw [if_pos c, if_pos c]
    refine RelX.rel (X_sN (X_a (X_sO hXb (by decide)) (by decide))) ⟨?_, ?_, ?_, ?_, fun k hk => ?_⟩ (Or.inr ⟨u, hu, rfl, hO10⟩) ?_
    · rw [mA_eq]; rfl
    · rw [mA_nk _ _ _ _ (by decide), e22]; exact (b1 9).trans a2
    · rw [mA_nk _ _ _ _ (by decide), e22]; exact (b1 10).trans a3
    · rw [mA_nk _ _ _ _ (by decide), e22]; exact (b1 11).trans a4
    · rw [mA_ne _ _ _ _ (by decide), e23]; exact (b2 k).trans (a5 k hk)
    · rw [mV_row (by decide)]
      show tR tau u (cT S1 u) (cB S1 u) (mV Y u)
      rw [hcB]; exact ht
  · rw [if_neg c, if_neg c]
    have e1 : cO (sW S1 (mA M 22 0).toNatClampNeg (16 * x + nI u)) 8 = mA M 22 0 := by show cO S1 8 = _; rw [b1]; exact a1
    have e2 : mA (mQ Y 23 (mA M 22 0).toNatClampNeg (16 * x + nI u)) 22 0 = mA M 22 0 := by rw [mA_ne _ _ _ _ (by decide), e22]
    rw [e1, e2]
    refine RelX.rel (X_sN (X_a (X_a (X_sO (X_sW hXb) (by decide)) (by decide)) (by decide))) ⟨?_, ?_, ?_, ?_, fun k hk => ?_⟩ (Or.inr ⟨u, hu, rfl, hO10⟩) ?_
    · rw [mA_eq]; rfl
    · rw [mA_nk _ _ _ _ (by decide), mA_ne _ _ _ _ (by decide), e22]; exact (b1 9).trans a2
    · rw [mA_nk _ _ _ _ (by decide), mA_ne _ _ _ _ (by decide), e22]; exact (b1 10).trans a3
    · rw [mA_nk _ _ _ _ (by decide), mA_ne _ _ _ _ (by decide), e22]; exact (b1 11).trans a4
    · show cW (sW S1 (mA M 22 0).toNatClampNeg (16 * x + nI u)) k = _
      rw [cW_sW, b2, mA_ne _ _ _ _ (by decide), mA_mQ, e23]
      by_cases e : k = (mA M 22 0).toNatClampNeg
      · rw [if_pos e, if_pos ⟨rfl, e⟩]
      · rw [if_neg e, if_neg (fun q => e q.2)]; exact a5 k hk
    · rw [mV_row (by decide), mV_row (by decide)]
      show tR tau u (cT S1 u) (cB S1 u) (mV Y u)
      rw [hcB]; exact ht
/-- nobody runs: the first of the first queue -/
theorem R_first {x p8 : Int32} (h : Rel tau S M) (ho : okM N L b M) (hn : cN S = none) (hm : mO M 10 = -1) (hT : mO M 9 = x) (hx0 : ¬ x < 0) (hp : p8 = -1 ∧ (∀ j, j < L → sZ M j = 0) ∨ ∃ j, j < L ∧ p8 = nI j ∧ 0 < sZ M j ∧ ∀ i, i < j → sZ M i = 0) : Rel tau (F_X2_switchToFirst S) (G_X3_choose_80 M x p8) := by
  have hL6 := ho.2.2.2.2.1
  have hN16 := ho.2.2.1
  have hq16 := (okM_q ho).1
  have hqR := h.2.2.2.2.1
  unfold F_X2_switchToFirst G_X3_choose_80
  dsimp only
  rw [h.nL ho, hm, if_neg (by decide)]
  rcases hp with ⟨hp, hz⟩ | ⟨j, hjL, hp, hj0, hz⟩
  · rw [hp, if_neg (by decide), sw_skips (j := L) L 0 (fun i _ hi => ((qR_le hqR hq16 (by omega)).1 (hz i hi)).1) (by omega) (by omega), show 0 + L - L = 0 by omega]
    exact h
  · rw [hp, if_pos (nI_pos' (by omega)), sw_skips (j := j) L 0 (fun i _ hi => ((qR_le hqR hq16 (by omega)).1 (hz i hi)).1) (by omega) (by omega)]
    have hxj : ix (nI j) j 6 := ix_nI (by omega) (by omega)
    obtain ⟨qr, q2⟩ := qR_take hqR hq16 hxj hj0
    obtain ⟨g1, q, qN, qe, qs, qn⟩ := okM_take ho hxj hj0
    have qe2 : (F_X0_takeFirst S j).2 = nI q := by
      rw [q2, ← qe]
      show _ = mA M 20 (16 * (nI j).toNatClampNeg)
      rw [nI_clamp (by omega)]
    obtain ⟨n, hn9⟩ : ∃ n, 0 + L - j = n + 1 := ⟨L - j - 1, by omega⟩
    rw [hn9, sw_hit (N := N) qe2 (by rw [h.1.2.1]; exact ho.1) hN16 qN, qe, g103 _ q x (nI q) (nI_clamp (by omega))]
    obtain ⟨m1, m2, m3, m4, m5, m6⟩ := nq_take (S := S) (l := j)
    have hR : Rel tau (F_X0_takeFirst S j).1 (F_X3_takeFirst M (nI j)).1 := by
      obtain ⟨⟨x1, x2, x3, x4, x5⟩, x6, x7, x8, x9, x10⟩ := h
      refine ⟨⟨by rw [m1, take_O]; exact x1, by rw [m1, take_O]; exact x2, by rw [m1, take_O]; exact x3, by rw [m1, take_O]; exact x4, by rw [m1]; exact x5⟩, aR_same x6 (fun k _ => by rw [m1]) (fun k => by rw [m4]) (fun k => take_o 22 k (by decide)) (fun k => take_o 23 k (by decide)), fun l hl => ?_, nR_same x8 m5 (take_O 10), qr, fun u hu => by rw [m2, m3, mV_take]; exact x10 u hu⟩
      rw [m6 l 0 (by decide), m6 l 1 (by decide), take_o 2 l (by decide), take_o 3 l (by decide)]
      exact x7 l hl
    exact R_switch hR (by omega) (by rw [take_o 11 q (by decide)]; exact qs) (by rw [take_O]; exact hT) hx0 (okM_lx g1 (by omega))
end RS6
