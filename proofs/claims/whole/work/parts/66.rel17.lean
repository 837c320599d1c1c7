section RV3
variable {S : Cs} {M : Ms} {N L b : Nat}
theorem okM_begin (h5 : mO M 5 = nI N) (h1 : mO M 1 = nI L) (hN : N ≤ 16) (hL1 : 1 ≤ L) (hL6 : L ≤ 6) (h7 : ∀ u, u < 16 → ub 12 (mA M 7 u)) : okM N L b (F_X3_begin M) ∧ uR (F_X3_begin M) ∧ (∀ u, u < 16 → mA (F_X3_begin M) 11 u = 0) ∧ ∀ u, u < 16 → mA (F_X3_begin M) 6 u = mA M 6 u := by
  obtain ⟨m1, m2, m3, m4, m5⟩ := startM (M := M)
  have v : ∀ u, u < 16 → ∀ a, a ≠ 8 ∧ a ≠ 19 ∧ a ≠ 2 ∧ a ≠ 3 ∧ a < 20 → mA (F_X3_begin M) a u = beM (mV M u) a 0 := fun u hu a ha => by
    rw [← m5 u hu, mV_p 0 ha]
  have e11 : ∀ u, u < 16 → mA (F_X3_begin M) 11 u = 0 := fun u hu => by rw [v u hu 11 (by decide)]; rfl
  have e6 : ∀ u, u < 16 → mA (F_X3_begin M) 6 u = mA M 6 u := fun u hu => by rw [v u hu 6 (by decide)]; exact mV_p (M := M) (a := 6) 0 (by decide)
  have z : ∀ l, l < 6 → sZ (F_X3_begin M) l = 0 := fun l hl => by show (mA (F_X3_begin M) 21 l).toNatClampNeg = 0; rw [m3 l hl]; decide
  refine ⟨⟨by rw [m1]; exact h5, by rw [m1]; exact h1, hN, hL1, hL6, ⟨0, by omega, by rw [m2 0 (by decide)]; decide⟩, fun u hu => ⟨⟨0, by omega, ?_⟩, ?_, fun _ => ?_, Or.inl (e11 u hu)⟩, Or.inl (m1 10), ⟨fun l hl => ⟨0, by omega, by rw [m3 l hl]; decide⟩, fun l k hl hk => by rw [z l hl] at hk; omega, fun l k l2 k2 hl hl2 hk => by rw [z l hl] at hk; omega⟩⟩, fun u hu q => by rw [e11 u hu] at q; exact absurd q (by decide), e11, e6⟩
  · rw [v u hu 12 (by decide)]; exact (show (0 : Int32) = nI 0 by decide)
  · rw [v u hu 7 (by decide)]
    show ub 12 (mV M u 7 0)
    rw [mV_p 0 (by decide)]; exact h7 u hu
  · rw [v u hu 13 (by decide)]; rfl
theorem okC_begin (h4 : cO S 4 = nI N) (h3 : cO S 3 = nI L) (hN : N ≤ 16) (hL1 : 1 ≤ L) (hL6 : L ≤ 6) (hb : ∀ u, u < 16 → ub 12 (cT S u 3)) : okC N L b (F_X2_startOver S) := by
  obtain ⟨c1, c2, c3, c4, c5, c6⟩ := startC (S := S)
  refine ⟨by rw [c1]; exact h4, by rw [c1]; exact h3, hN, hL1, hL6, fun i hi => ⟨0, by omega, by rw [c6 i hi]; exact (show (0 : Int32) = nI 0 by decide)⟩, fun i hi => ⟨0, by omega, by rw [c5 i hi]; exact (show (0 : Int32) = nI 0 by decide)⟩, fun i hi => by rw [c5 i hi]; exact hb i hi, fun i hi => ⟨0, by omega, by rw [c5 i hi]; exact (show (0 : Int32) = nI 0 by decide)⟩, fun i hi => ?_, ⟨0, by omega, by rw [c1]; exact (show (0 : Int32) = nI 0 by decide)⟩⟩
  rw [c2] at hi; cases hi
theorem V_restart (h : Inv b S M) : Inv b (F_X2_restart S) (F_X3_restart M) := by
  obtain ⟨N, L, T, hT, hC, hM, h9, hti, hu, hR⟩ := h
  have hN := hM.2.2.1
  obtain ⟨o1, o2, o3, o4⟩ := okM_begin (b := b) (M := mP M 0 0) hM.1 hM.2.1 hM.2.2.1 hM.2.2.2.1 hM.2.2.2.2.1 (fun u hu16 => (okM_u hM hu16).2.1)
  have hb := hR.base
  show Inv b (F_X2_startOver S) (F_X3_begin (mP M 0 0))
  refine ⟨N, L, 0, by omega, okC_begin hC.1 hC.2.1 hC.2.2.1 hC.2.2.2.1 hC.2.2.2.2.1 (fun u hu16 => okC_b hC hu16), o1, by rw [(startM (M := mP M 0 0)).1]; exact (show (0 : Int32) = nI 0 by decide), fun u huN => ?_, o2, R_begin (M := mP M 0 0) hb⟩
  obtain ⟨ar, a1, a2, -⟩ := hti u huN
  exact ⟨ar, by rw [o4 u (by omega)]; exact a1, a2, fun _ => o3 u (by omega)⟩
theorem set_c (p : Int32) (S : Cs) : cO (itr (B_X2_levels_28 p) 6 0 S) = cO S ∧ cW (itr (B_X2_levels_28 p) 6 0 S) = cW S ∧ cT (itr (B_X2_levels_28 p) 6 0 S) = cT S ∧ cB (itr (B_X2_levels_28 p) 6 0 S) = cB S ∧ ∀ l, l < 6 → cL (itr (B_X2_levels_28 p) 6 0 S) l = fun j => if j = 0 ∨ j = 1 then 1 else cL S l j := by
  obtain ⟨f1, f2, f3, f4⟩ := itr_ind (P := fun Z => cO Z = cO S ∧ cW Z = cW S ∧ cT Z = cT S ∧ cB Z = cB S) (f := B_X2_levels_28 p) 6 0 S ⟨rfl, rfl, rfl, rfl⟩ (fun k Z _ _ h => by unfold B_X2_levels_28; exact h)
  refine ⟨f1, f2, f3, f4, fun l hl => ?_⟩
  have := itr_view (f := B_X2_levels_28 p) (view := cL) (g := fun _ c => fun j => if j = 0 ∨ j = 1 then (1 : Int32) else c j) (fun k Z => by
    funext j
    show cL (sL (sL Z k 0 1) k 1 1) k j = _
    rw [cL_sL, cL_sL]
    by_cases e1 : j = 1
    · rw [if_pos ⟨e1, rfl⟩, if_pos (Or.inr e1)]
    · rw [if_neg (fun z => e1 z.1)]
      by_cases e0 : j = 0
      · rw [if_pos ⟨e0, rfl⟩, if_pos (Or.inl e0)]
      · rw [if_neg (fun z => e0 z.1), if_neg (by omega)]) (fun k Z u h => by
    funext j
    show cL (sL (sL Z k 0 1) k 1 1) u j = _
    rw [cL_sL, cL_sL, if_neg (fun z => h z.2), if_neg (fun z => h z.2)]) 6 0 S l
  rw [this, if_pos (by omega)]
theorem set_m (p : Int32) (M : Ms) : (∀ j, mO (itr (B_X3_set_7 p) 6 0 M) j = mO M j) ∧ (∀ a k, a ≠ 2 → a ≠ 3 → mA (itr (B_X3_set_7 p) 6 0 M) a k = mA M a k) ∧ ∀ l, l < 6 → mA (itr (B_X3_set_7 p) 6 0 M) 2 l = 1 ∧ mA (itr (B_X3_set_7 p) 6 0 M) 3 l = 1 := by
  obtain ⟨f1, f2⟩ := itr_ind (P := fun Z => (∀ j, mO Z j = mO M j) ∧ ∀ a k, a ≠ 2 → a ≠ 3 → mA Z a k = mA M a k) (f := B_X3_set_7 p) 6 0 M ⟨fun _ => rfl, fun _ _ _ _ => rfl⟩ (fun k Z _ _ h => ⟨h.1, fun a k2 h2 h3 => by
    show mA (mQ (mQ Z 2 k 1) 3 k 1) a k2 = _
    rw [mA_ne _ _ _ _ h3, mA_ne _ _ _ _ h2]; exact h.2 a k2 h2 h3⟩)
  refine ⟨f1, f2, fun l hl => ?_⟩
  rcases (show l = 0 ∨ l = 1 ∨ l = 2 ∨ l = 3 ∨ l = 4 ∨ l = 5 by omega) with rfl | rfl | rfl | rfl | rfl | rfl <;> exact ⟨rfl, rfl⟩
/-- new levels, on both sides -/
theorem R_set {p : Int32} {j : Nat} (hp : p = nI j) (h1 : 1 ≤ j) (h6 : j ≤ 6) (hb : (∀ k, k < 400 → cW S k = mA M 23 k) ∧ (cO S 5 = mO M 4 ∧ ub 10000 (cO S 5)) ∧ ∀ u, u < 16 → cT S u 0 = nI u ∧ cT S u 1 = mA M 6 u ∧ cT S u 3 = mA M 7 u ∧ ∀ k, k < 12 → cB S u k = mA M 8 (12 * u + k)) (h7 : ∀ u, u < 16 → ub 12 (mA M 7 u)) :
    (okC 0 j b (F_X2_startOver (sO (itr (B_X2_levels_28 p) 6 0 (sO S 3 p)) 4 0)) ∧ okM 0 j b (F_X3_set M p) ∧ mO (F_X3_set M p) 9 = nI 0 ∧ tiM 0 0 (F_X3_set M p) ∧ uR (F_X3_set M p) ∧ Rel (nI 0) (F_X2_startOver (sO (itr (B_X2_levels_28 p) 6 0 (sO S 3 p)) 4 0)) (F_X3_set M p)) ∧ mO (F_X3_set M p) 0 = mO M 0 := by
  obtain ⟨c1, c2, c3, c4, c5⟩ := set_c p (sO S 3 p)
  obtain ⟨m1, m2, m3⟩ := set_m p (mP M 1 p)
  unfold F_X3_set
  dsimp only
  obtain ⟨S5, hS5⟩ : ∃ z, z = sO (itr (B_X2_levels_28 p) 6 0 (sO S 3 p)) 4 0 := ⟨_, rfl⟩
  obtain ⟨M5, hM5⟩ : ∃ z, z = mP (itr (B_X3_set_7 p) 6 0 (mP M 1 p)) 5 0 := ⟨_, rfl⟩
  rw [← hS5, ← hM5]
  have s4 : cO S5 4 = nI 0 := by rw [hS5]; exact (show (0 : Int32) = nI 0 by decide)
  have s3 : cO S5 3 = nI j := by rw [hS5, cO_sO, if_neg (by decide), c1, cO_sO, if_pos rfl, hp]
  have s5 : cO S5 5 = cO S 5 := by rw [hS5, cO_sO, if_neg (by decide), c1, cO_sO, if_neg (by decide)]
  have sT5 : cT S5 = cT S := by rw [hS5]; exact c3
  have sB5 : cB S5 = cB S := by rw [hS5]; exact c4
  have sW5 : cW S5 = cW S := by rw [hS5]; exact c2
  have sL5 : ∀ l, l < 6 → cL S5 l 0 = 1 ∧ cL S5 l 1 = 1 := fun l hl => by
    rw [hS5]
    show cL (itr (B_X2_levels_28 p) 6 0 (sO S 3 p)) l 0 = 1 ∧ cL (itr (B_X2_levels_28 p) 6 0 (sO S 3 p)) l 1 = 1
    rw [c5 l hl]; exact ⟨rfl, rfl⟩
  have o5 : mO M5 5 = nI 0 := by rw [hM5]; exact (show (0 : Int32) = nI 0 by decide)
  have o1 : mO M5 1 = nI j := by rw [hM5, mO_mP, if_neg (by decide), m1, mO_mP, if_pos rfl, hp]
  have o4 : mO M5 4 = mO M 4 := by rw [hM5, mO_mP, if_neg (by decide), m1, mO_mP, if_neg (by decide)]
  have o0 : mO M5 0 = mO M 0 := by rw [hM5, mO_mP, if_neg (by decide), m1, mO_mP, if_neg (by decide)]
  have a5 : ∀ a k, a ≠ 2 → a ≠ 3 → mA M5 a k = mA M a k := fun a k h2 h3 => by rw [hM5]; exact m2 a k h2 h3
  have l5 : ∀ l, l < 6 → mA M5 2 l = 1 ∧ mA M5 3 l = 1 := fun l hl => by rw [hM5]; exact m3 l hl
  have hbR : bR S5 M5 := by
    refine ⟨⟨s3.trans o1.symm, s4.trans o5.symm, by rw [s5, o4]; exact hb.2.1.1, by rw [s5]; exact hb.2.1.2⟩, fun l hl => ⟨(sL5 l hl).1.trans (l5 l hl).1.symm, (sL5 l hl).2.trans (l5 l hl).2.symm⟩, fun k hk => by rw [sW5, a5 23 k (by decide) (by decide)]; exact hb.1 k hk, fun u hu => ?_⟩
    obtain ⟨t0, t1, t3, tb⟩ := hb.2.2 u hu
    rw [sT5, sB5, a5 6 u (by decide) (by decide), a5 7 u (by decide) (by decide)]
    exact ⟨t0, t1, t3, fun k hk => by rw [a5 8 _ (by decide) (by decide)]; exact tb k hk⟩
  have h7' : ∀ u, u < 16 → ub 12 (mA M5 7 u) := fun u hu => by rw [a5 7 u (by decide) (by decide)]; exact h7 u hu
  obtain ⟨k1, k2, k3, k4⟩ := okM_begin (b := b) o5 o1 (by omega) h1 h6 h7'
  refine ⟨⟨okC_begin s4 s3 (by omega) h1 h6 (fun u hu => by rw [sT5, (hb.2.2 u hu).2.2.1]; exact h7 u hu), k1, by rw [(startM (M := M5)).1]; exact (show (0 : Int32) = nI 0 by decide), fun u hu => absurd hu (by omega), k2, R_begin hbR⟩, ?_⟩
  rw [(startM (M := M5)).1]
  exact o0
theorem V_levels {p : Int32} (h : Inv b S M) : Vr b [2] (F_X2_levels S p) (F_X3_levels M p) 0 := by
  have hi := fun v => Inv_mP0 (v := v) h
  obtain ⟨N, L, T, hT, hC, hM, h9, hti, hu, hR⟩ := h
  have bad : Vr b [2] (S, 0, 2) (mP M 0 1) 0 := ⟨show (1 : Int32) = hc [2] 2 from by decide, fun _ => rfl, hi 1⟩
  unfold F_X2_levels F_X3_levels
  dsimp only
  by_cases n0 : p < 1
  · rw [if_pos n0, if_pos n0]; exact bad
  · rw [if_neg n0, if_neg n0]
    by_cases n1 : p ≤ 6
    · rw [if_pos n1, if_pos n1]
      have np : ¬ p < 0 := fun z => n0 (Int32.lt_of_lt_of_le z (by decide))
      obtain ⟨j, hj, hp⟩ := nI_of2 (n := 6) (by decide) np n1
      have hj1 : 1 ≤ j := by
        rcases Nat.eq_zero_or_pos j with q | q
        · rw [hp, q] at n0; exact absurd (by decide) n0
        · exact q
      have hb := hR.base
      obtain ⟨r1, r2⟩ := R_set (b := b) (S := S) (M := mP M 0 0) hp hj1 hj ⟨hb.2.2.1, ⟨hb.1.2.2.1, hb.1.2.2.2⟩, hb.2.2.2⟩ (fun u hu16 => (okM_u hM hu16).2.1)
      exact ⟨r2, fun _ => rfl, 0, j, 0, by omega, r1⟩
    · rw [if_neg n1, if_neg n1]; exact bad
theorem Inv_mono {b2 : Nat} (h : Inv b S M) (hb : b ≤ b2) : Inv b2 S M := by
  obtain ⟨N, L, T, h1, h2, h3, h4⟩ := h
  exact ⟨N, L, T, h1, okC_mono h2 hb, okM_mono h3 hb, h4⟩
theorem okC_ticks {p1 : Int32} : ∀ (n t b : Nat) (S : Cs), b + n < 2 ^ 30 → okC N L b S → okC N L (b + n) (itr (B_X2_run_49 p1) n t S) := by
  intro n
  induction n with
  | zero => intro t b S _ h; exact h
  | succ n ih =>
    intro t b S hb h
    have := ih (t + 1) (b + 1) (F_X2_doTick S) (by omega) (ok_X2_doTick h (by omega))
    rw [show b + 1 + n = b + (n + 1) by omega] at this
    exact this
theorem V_run {p : Int32} (h : Inv b S M) (hb : b + 30000 < 2 ^ 30) : Vr (b + 30000) [2] (F_X2_run S p) (F_X3_run M p).1 (F_X3_run M p).2 := by
  have hi := fun v => Inv_mono (Inv_mP0 (v := v) h) (b2 := b + 30000) (by omega)
  obtain ⟨N, L, T, hT, hC, hM, h9, hti, hu, hR⟩ := h
  have bad : Vr (b + 30000) [2] (S, 0, 2) (mP M 0 1) 0 := ⟨show (1 : Int32) = hc [2] 2 from by decide, fun _ => rfl, hi 1⟩
  unfold F_X2_run F_X3_run
  dsimp only
  rw [hR.1.2.2.2.1, h9]
  by_cases n0 : p < 0
  · rw [if_pos n0, if_pos n0]
    by_cases z : p ≤ 0
    · rw [if_pos z]; exact bad
    · rw [if_neg z]; exact bad
  · rw [if_neg n0, if_neg n0]
    by_cases n1 : p ≤ 30000
    · rw [if_pos n1, if_neg (show ¬ 30000 < p from Int32.not_lt.mpr n1)]
      obtain ⟨j, hj, hp⟩ := nI_of2 (n := 30000) (by decide) n0 n1
      by_cases n2 : nI T + p ≤ 100000
      · rw [if_pos n2, if_pos n2]
        have hTj : T + j ≤ 100000 := by
          rw [hp, nI_add] at n2
          exact (nI_leI (a := T + j) (b := 100000) (by omega) (by omega)).mp n2
        rw [hp, nI_clamp (by omega)]
        obtain ⟨r1, r2, r3, r4⟩ := R_ticks (p1 := nI j) (c0 := cO S 9) j 0 T b S (mP M 0 0) 0 hR ⟨okM_mP hM (by decide), rfl, h9, hti⟩ hu (by omega) (Int32.sub_self _).symm
        refine ⟨?_, fun _ => r4.symm, N, L, T + j, hTj, okC_mono (okC_ticks j 0 b S (by omega) hC) (by omega), okM_mono r2.1 (by omega), r2.2.2.1, r2.2.2.2, r3, r1⟩
        exact r2.2.1
      · rw [if_neg n2, if_neg n2]
        by_cases z : p ≤ 0
        · rw [if_pos z]; exact bad
        · rw [if_neg z]; exact bad
    · rw [if_neg n1, if_pos (show 30000 < p from Int32.not_le.mp n1)]
      by_cases z : p ≤ 0
      · rw [if_pos z]; exact bad
      · rw [if_neg z]; exact bad
/-- the beginning -/
theorem Inv_0 : Inv 0 cs0 (F_X3_set ms0 1) := by
  obtain ⟨⟨r1, r2, r3, r4, r5, r6⟩, -⟩ := R_set (b := 0) (S := cs0) (M := ms0) (p := 1) (j := 1) (by decide) (by omega) (by omega) ⟨fun k _ => rfl, ⟨rfl, ⟨0, by omega, by decide⟩⟩, fun u _ => ⟨rfl, rfl, rfl, fun k _ => rfl⟩⟩ (fun u _ => ⟨0, by omega, (show (0 : Int32) = nI 0 by decide)⟩)
  obtain ⟨c1, c2, c3, c4, c5, c6⟩ := startC (S := sO (itr (B_X2_levels_28 1) 6 0 (sO cs0 3 1)) 4 0)
  obtain ⟨d1, d2, d3, d4, d5⟩ := set_c 1 (sO cs0 3 1)
  generalize hX : F_X2_startOver (sO (itr (B_X2_levels_28 1) 6 0 (sO cs0 3 1)) 4 0) = X at *
  have eO : ∀ j, j < 12 → cO X j = cO cs0 j := fun j hj => by
    rw [c1, cO_sO, d1, cO_sO]
    rcases (show j = 0 ∨ j = 1 ∨ j = 2 ∨ j = 3 ∨ j = 4 ∨ j = 5 ∨ j = 6 ∨ j = 7 ∨ j = 8 ∨ j = 9 ∨ j = 10 ∨ j = 11 by omega) with rfl | rfl | rfl | rfl | rfl | rfl | rfl | rfl | rfl | rfl | rfl | rfl <;> rfl
  have eT : ∀ u, u < 16 → ∀ j, j < 19 → cT X u j = cT cs0 u j := fun u hu j hj => by
    rw [c5 u hu]
    show soT (cT (itr (B_X2_levels_28 1) 6 0 (sO cs0 3 1)) u) j = _
    rw [d3]
    rcases (show j = 0 ∨ j = 1 ∨ j = 2 ∨ j = 3 ∨ j = 4 ∨ j = 5 ∨ j = 6 ∨ j = 7 ∨ j = 8 ∨ j = 9 ∨ j = 10 ∨ j = 11 ∨ j = 12 ∨ j = 13 ∨ j = 14 ∨ j = 15 ∨ j = 16 ∨ j = 17 ∨ j = 18 by omega) with rfl | rfl | rfl | rfl | rfl | rfl | rfl | rfl | rfl | rfl | rfl | rfl | rfl | rfl | rfl | rfl | rfl | rfl | rfl <;> rfl
  have eL : ∀ l, l < 6 → ∀ j, j < 4 → cL X l j = cL cs0 l j := fun l hl j hj => by
    rw [c6 l hl]
    show (if j = 3 then 0 else cL (itr (B_X2_levels_28 1) 6 0 (sO cs0 3 1)) l j) = _
    rw [d5 l hl]
    rcases (show j = 0 ∨ j = 1 ∨ j = 2 ∨ j = 3 by omega) with rfl | rfl | rfl | rfl <;> rfl
  have eB : cB X = cB cs0 := by rw [c3]; exact d4
  have eW : cW X = cW cs0 := by rw [c4]; exact d2
  have z : ∀ l, l < 6 → sZ (F_X3_set ms0 1) l = 0 := fun l hl => by
    have := (r6.2.2.2.2.1 l hl).1
    show (mA (F_X3_set ms0 1) 21 l).toNatClampNeg = 0
    rw [← this, eL l hl 3 (by omega)]; rfl
  refine ⟨0, 1, 0, by omega, ?_, r2, r3, r4, r5, ?_⟩
  · exact ⟨rfl, rfl, by omega, by omega, by omega, fun i _ => ⟨0, by omega, rfl⟩, fun i _ => ⟨0, by omega, rfl⟩, fun i _ => ⟨0, by omega, rfl⟩, fun i _ => ⟨0, by omega, rfl⟩, fun i h => (by cases h), ⟨0, by omega, rfl⟩⟩
  · obtain ⟨⟨g1, g2, g3, g4, g5⟩, ⟨a1, a2, a3, a4, a5⟩, hl, hn, hq, ht⟩ := r6
    rw [eO 3 (by omega)] at g1
    rw [eO 4 (by omega)] at g2
    rw [eO 5 (by omega)] at g3 g5
    rw [eO 6 (by omega)] at g4
    rw [eO 8 (by omega)] at a1
    rw [eO 9 (by omega)] at a2
    rw [eO 10 (by omega)] at a3
    rw [eO 11 (by omega)] at a4
    refine ⟨⟨g1, g2, g3, g4, g5⟩, ⟨a1, a2, a3, a4, fun k hk => by rw [← eW]; exact a5 k hk⟩, fun l hl6 => ?_, nR_same hn c2.symm rfl, fun l hl6 => ⟨?_, fun k hk => by rw [z l hl6] at hk; omega⟩, fun u hu => ?_⟩
    · rw [← eL l hl6 0 (by omega), ← eL l hl6 1 (by omega)]; exact hl l hl6
    · rw [← eL l hl6 3 (by omega)]; exact (hq l hl6).1
    · have t := ht u hu
      unfold tR at t ⊢
      have e := eT u hu
      rw [e 0 (by omega), e 1 (by omega), e 3 (by omega), e 4 (by omega), e 5 (by omega), e 10 (by omega), e 11 (by omega), e 12 (by omega), e 13 (by omega), e 14 (by omega), e 15 (by omega), e 16 (by omega), e 17 (by omega), e 18 (by omega), e 6 (by omega), e 9 (by omega), e 7 (by omega), e 8 (by omega), eB] at t
      exact t
end RV3
