section RV
variable {S : Cs} {M : Ms} {N L b : Nat}
/-- between two calls -/
def Inv (b : Nat) (S : Cs) (M : Ms) : Prop := ∃ N L T, T ≤ 100000 ∧ okC N L b S ∧ okM N L b M ∧ mO M 9 = nI T ∧ tiM N T M ∧ uR M ∧ Rel (nI T) S M
/-- a call: what is thrown, what is answered, and both go on side by side -/
def Vr (b : Nat) (ks : List Nat) (r : Cs × Int32 × Nat) (M' : Ms) (res : Int32) : Prop := mO M' 0 = hc ks r.2.2 ∧ (r.2.2 = 0 → r.2.1 = res) ∧ Inv b r.1 M'
theorem Inv_mP0 {v : Int32} (h : Inv b S M) : Inv b S (mP M 0 v) := by
  obtain ⟨N, L, T, h1, h2, h3, h4, h5, h6, h7⟩ := h
  exact ⟨N, L, T, h1, h2, okM_mP h3 (by decide), h4, h5, h6, h7⟩
theorem t0_iff {T : Nat} (h : T < 2 ^ 31) : nI T = 0 ↔ nI T ≤ 0 := by
  rcases Nat.eq_zero_or_pos T with q | q
  · subst q; decide
  · exact ⟨fun z => absurd z (nI_ne0 q h), fun z => absurd z (nI_nle q h)⟩
theorem t0_z {T : Nat} (h : T < 2 ^ 31) (h0 : nI T ≤ 0) : T = 0 := by
  rcases Nat.eq_zero_or_pos T with q | q
  · exact q
  · exact absurd h0 (nI_nle q h)
theorem isL_iff {p : Int32} (h : cO S 3 = mO M 1) : (F_X2_isLevel S p).2 = 0 ↔ p < 0 ∨ ¬ p < mO M 1 := by
  unfold F_X2_isLevel
  rw [h]
  by_cases c1 : p < 0
  · rw [if_pos c1]; exact ⟨fun _ => Or.inl c1, fun _ => rfl⟩
  · rw [if_neg c1]
    by_cases c2 : mO M 1 ≤ p
    · rw [if_pos c2]; exact ⟨fun _ => Or.inr (Int32.not_lt.mpr c2), fun _ => rfl⟩
    · rw [if_neg c2]; exact ⟨fun z => absurd z (show ¬ (1 : Int32) = 0 by decide), fun z => z.elim (fun z => absurd z c1) (fun z => absurd (Int32.not_lt.mp z) c2)⟩
theorem isT_iff {p : Int32} (h : cO S 4 = mO M 5) : (F_X2_isTask S p).2 = 0 ↔ ¬ (F_X3_noProcess M p).2 = 0 := by
  unfold F_X2_isTask F_X3_noProcess
  rw [h]
  by_cases c1 : p < 0
  · rw [if_pos c1, if_pos c1]; exact ⟨fun _ => (show ¬ (1 : Int32) = 0 by decide), fun _ => rfl⟩
  · rw [if_neg c1, if_neg c1]
    by_cases c2 : mO M 5 ≤ p
    · rw [if_pos c2, if_neg (Int32.not_lt.mpr c2)]; exact ⟨fun _ => (show ¬ (1 : Int32) = 0 by decide), fun _ => rfl⟩
    · rw [if_neg c2, if_pos (Int32.not_le.mp c2)]; exact ⟨fun z => absurd z (show ¬ (1 : Int32) = 0 by decide), fun z => absurd rfl z⟩
theorem V_all {p : Int32} (h : Inv b S M) : Vr b [2] (F_X2_all S p) (F_X3_all M p).1 (F_X3_all M p).2 := by
  have hi := fun v => Inv_mP0 (v := v) h
  obtain ⟨N, L, T, -, -, -, -, -, -, ⟨-, ⟨a1, a2, a3, a4, a5⟩, -⟩⟩ := h
  unfold F_X2_all F_X3_all
  dsimp only
  by_cases c0 : p = 0
  · subst c0; rw [if_pos rfl, if_neg (by decide), if_pos (by decide)]; exact ⟨rfl, fun _ => a1, hi 0⟩
  by_cases c1 : p = 1
  · subst c1; rw [if_neg (by decide), if_pos rfl, if_neg (by decide), if_pos (by decide)]; exact ⟨rfl, fun _ => a2, hi 0⟩
  by_cases c2 : p = 2
  · subst c2; rw [if_neg (by decide), if_neg (by decide), if_pos rfl, if_neg (by decide), if_pos (by decide)]; exact ⟨rfl, fun _ => a3, hi 0⟩
  by_cases c3 : p = 3
  · subst c3; rw [if_neg (by decide), if_neg (by decide), if_neg (by decide), if_pos rfl, if_neg (by decide), if_pos (by decide)]; exact ⟨rfl, fun _ => a4, hi 0⟩
  rw [if_neg c0, if_neg c1, if_neg c2, if_neg c3]
  by_cases n0 : p < 0
  · rw [if_pos n0]; exact ⟨show (1 : Int32) = hc [2] 2 from by decide, fun z => absurd z (show ¬ (2 : Nat) = 0 by decide), hi 1⟩
  · rw [if_neg n0]
    by_cases n3 : p ≤ 3
    · obtain ⟨j, hj, rfl⟩ := nI_of2 (n := 3) (by decide) n0 n3
      rcases (show j = 0 ∨ j = 1 ∨ j = 2 ∨ j = 3 by omega) with rfl | rfl | rfl | rfl
      · exact absurd (by decide) c0
      · exact absurd (by decide) c1
      · exact absurd (by decide) c2
      · exact absurd (by decide) c3
    · rw [if_neg n3]; exact ⟨show (1 : Int32) = hc [2] 2 from by decide, fun z => absurd z (show ¬ (2 : Nat) = 0 by decide), hi 1⟩
theorem V_switched {p : Int32} (h : Inv b S M) : Vr b [1] (F_X2_switched S p) (F_X3_switched M p).1 (F_X3_switched M p).2 := by
  have hi := fun v => Inv_mP0 (v := v) h
  obtain ⟨N, L, T, -, -, -, -, -, -, ⟨-, ⟨a1, a2, a3, a4, a5⟩, -⟩⟩ := h
  have bad : Vr b [1] (S, 0, 1) (mP M 0 1) 0 := ⟨show (1 : Int32) = hc [1] 1 from by decide, fun z => absurd z (show ¬ (1 : Nat) = 0 by decide), hi 1⟩
  unfold F_X2_switched F_X3_switched
  dsimp only
  rw [a1]
  by_cases n0 : p < 0
  · rw [if_pos n0, if_pos n0]; exact bad
  · rw [if_neg n0, if_neg n0]
    by_cases n1 : mA M 22 0 ≤ p
    · rw [if_pos n1, if_pos n1]; exact bad
    · rw [if_neg n1, if_neg n1]
      by_cases n2 : p < 400
      · rw [if_pos n2, if_pos n2]; exact ⟨rfl, fun _ => a5 _ (sw_ix n0 n2).2.2, hi 0⟩
      · rw [if_neg n2, if_neg n2]; exact bad
theorem V_queued {p q : Int32} (h : Inv b S M) : Vr b [1] (F_X2_queued S p q) (F_X3_queued M p q).1 (F_X3_queued M p q).2 := by
  have hi := fun v => Inv_mP0 (v := v) h
  obtain ⟨N, L, T, -, hC, hM, -, -, -, hR⟩ := h
  have bad : Vr b [1] (S, 0, 1) (mP M 0 1) 0 := ⟨show (1 : Int32) = hc [1] 1 from by decide, fun z => absurd z (show ¬ (1 : Nat) = 0 by decide), hi 1⟩
  have hl := isL_iff (p := p) hR.1.1
  unfold F_X2_queued F_X3_queued
  dsimp only
  rw [isLevel_fst]
  by_cases n0 : p < 0
  · rw [if_pos n0, if_pos (hl.mpr (Or.inl n0))]; exact bad
  · rw [if_neg n0]
    by_cases n1 : p < mO M 1
    · rw [if_pos n1, if_neg (fun z => (hl.mp z).elim n0 (fun z => z n1))]
      have hx := okM_l1 hM n0 n1
      have hq := hR.2.2.2.2.1 _ hx.2.2
      show Vr b [1] ((F_X0_at S p.toNatClampNeg q).1, (F_X0_at S p.toNatClampNeg q).2, 0) _ _
      unfold F_X0_at
      rw [hq.1]
      by_cases m0 : q < 0
      · rw [if_pos m0, if_pos m0]; exact ⟨rfl, fun _ => rfl, hi 0⟩
      · rw [if_neg m0, if_neg m0]
        by_cases m1 : mA M 21 p.toNatClampNeg ≤ q
        · rw [if_pos m1, if_neg (show ¬ q < mA (mP M 0 0) 21 p.toNatClampNeg from Int32.not_lt.mpr m1)]; exact ⟨rfl, fun _ => rfl, hi 0⟩
        · rw [if_neg m1, if_pos (show q < mA (mP M 0 0) 21 p.toNatClampNeg from Int32.not_le.mp m1)]
          refine ⟨rfl, fun _ => hq.2 _ ?_, hi 0⟩
          obtain ⟨j, hj, rfl⟩ := nI_of m0
          have hz := (okM_q hM).1 _ hx.2.2
          have m2 := Int32.not_le.mp m1
          rw [ub_nI hz (by omega)] at m2
          have hz16 := ub_le hz (by omega)
          rw [nI_clamp hj]
          exact (nI_ltI (b := (mA M 21 p.toNatClampNeg).toNatClampNeg) hj (by omega)).mp m2
    · rw [if_neg n1, if_pos (hl.mpr (Or.inr n1))]; exact bad
theorem V_told {p q : Int32} (h : Inv b S M) : Vr b [1, 2] (F_X2_told S p q) (F_X3_told M p q).1 (F_X3_told M p q).2 := by
  have hi := fun v => Inv_mP0 (v := v) h
  obtain ⟨N, L, T, -, hC, hM, -, -, -, hR⟩ := h
  have ht := isT_iff (p := p) hR.1.2.1
  have bad2 : Vr b [1, 2] (S, 0, 2) (mP M 0 2) 0 := ⟨show (2 : Int32) = hc [1, 2] 2 from by decide, fun z => absurd z (show ¬ (2 : Nat) = 0 by decide), hi 2⟩
  unfold F_X2_told F_X3_told
  dsimp only
  rw [isTask_fst, noP_fst]
  by_cases n0 : (F_X3_noProcess M p).2 = 0
  · rw [if_pos n0, if_neg (fun z => ht.mp z n0)]
    have hx := noP_ix hM n0
    obtain ⟨t0, t1, t3, tb, t4, t5, t10, ⟨k2, k3, k4, k5, k6, k7, k8, k9⟩, -⟩ := hR.2.2.2.2.2 _ hx.2.2
    rw [mV_p 0 (by decide)] at t4 t5
    rw [mV_19 (by decide)] at k2 k3 k4 k5 k6 k7 k8 k9
    by_cases c0 : q = 0
    · subst c0; rw [if_pos rfl, if_neg (by decide), if_pos (by decide), if_pos rfl]; exact ⟨rfl, fun _ => t4, hi 0⟩
    by_cases c1 : q = 1
    · subst c1; rw [if_neg (by decide), if_pos rfl, if_neg (by decide), if_pos (by decide), if_neg (by decide), if_pos rfl]; exact ⟨rfl, fun _ => t5, hi 0⟩
    by_cases c2 : q = 2
    · subst c2; rw [if_neg (by decide), if_neg (by decide), if_pos rfl, if_neg (by decide), if_pos (by decide), if_neg (by decide), if_neg (by decide)]; exact ⟨rfl, fun _ => k2, hi 0⟩
    by_cases c3 : q = 3
    · subst c3; rw [if_neg (by decide), if_neg (by decide), if_neg (by decide), if_pos rfl, if_neg (by decide), if_pos (by decide), if_neg (by decide), if_neg (by decide)]; exact ⟨rfl, fun _ => k3, hi 0⟩
    by_cases c4 : q = 4
    · subst c4; rw [if_neg (by decide), if_neg (by decide), if_neg (by decide), if_neg (by decide), if_pos rfl, if_neg (by decide), if_pos (by decide), if_neg (by decide), if_neg (by decide)]; exact ⟨rfl, fun _ => k4, hi 0⟩
    by_cases c5 : q = 5
    · subst c5; rw [if_neg (by decide), if_neg (by decide), if_neg (by decide), if_neg (by decide), if_neg (by decide), if_pos rfl, if_neg (by decide), if_pos (by decide), if_neg (by decide), if_neg (by decide)]; exact ⟨rfl, fun _ => k5, hi 0⟩
    by_cases c6 : q = 6
    · subst c6; rw [if_neg (by decide), if_neg (by decide), if_neg (by decide), if_neg (by decide), if_neg (by decide), if_neg (by decide), if_pos rfl, if_neg (by decide), if_pos (by decide), if_neg (by decide), if_neg (by decide)]; exact ⟨rfl, fun _ => k6, hi 0⟩
    by_cases c7 : q = 7
    · subst c7; rw [if_neg (by decide), if_neg (by decide), if_neg (by decide), if_neg (by decide), if_neg (by decide), if_neg (by decide), if_neg (by decide), if_pos rfl, if_neg (by decide), if_pos (by decide), if_neg (by decide), if_neg (by decide)]; exact ⟨rfl, fun _ => k7, hi 0⟩
    by_cases c8 : q = 8
    · subst c8; rw [if_neg (by decide), if_neg (by decide), if_neg (by decide), if_neg (by decide), if_neg (by decide), if_neg (by decide), if_neg (by decide), if_neg (by decide), if_pos rfl, if_neg (by decide), if_pos (by decide), if_neg (by decide), if_neg (by decide)]; exact ⟨rfl, fun _ => k8, hi 0⟩
    by_cases c9 : q = 9
    · subst c9; rw [if_neg (by decide), if_neg (by decide), if_neg (by decide), if_neg (by decide), if_neg (by decide), if_neg (by decide), if_neg (by decide), if_neg (by decide), if_neg (by decide), if_pos rfl, if_neg (by decide), if_pos (by decide), if_neg (by decide), if_neg (by decide)]; exact ⟨rfl, fun _ => k9, hi 0⟩
    rw [if_neg c0, if_neg c1, if_neg c2, if_neg c3, if_neg c4, if_neg c5, if_neg c6, if_neg c7, if_neg c8, if_neg c9]
    by_cases m0 : q < 0
    · rw [if_pos m0]; exact bad2
    · rw [if_neg m0]
      by_cases m9 : q ≤ 9
      · obtain ⟨j, hj, rfl⟩ := nI_of2 (n := 9) (by decide) m0 m9
        rcases (show j = 0 ∨ j = 1 ∨ j = 2 ∨ j = 3 ∨ j = 4 ∨ j = 5 ∨ j = 6 ∨ j = 7 ∨ j = 8 ∨ j = 9 by omega) with rfl | rfl | rfl | rfl | rfl | rfl | rfl | rfl | rfl | rfl
        · exact absurd (by decide) c0
        · exact absurd (by decide) c1
        · exact absurd (by decide) c2
        · exact absurd (by decide) c3
        · exact absurd (by decide) c4
        · exact absurd (by decide) c5
        · exact absurd (by decide) c6
        · exact absurd (by decide) c7
        · exact absurd (by decide) c8
        · exact absurd (by decide) c9
      · rw [if_neg m9]; exact bad2
  · rw [if_neg n0, if_pos (ht.mpr n0)]
    exact ⟨show (1 : Int32) = hc [1, 2] 1 from by decide, fun z => absurd z (show ¬ (1 : Nat) = 0 by decide), hi 1⟩
theorem V_time (h : Inv b S M) : (F_X2_time S).2 = (F_X3_time M).2 ∧ Inv b (F_X2_time S).1 (F_X3_time M).1 := by
  have hi := Inv_mP0 (v := 0) h
  obtain ⟨N, L, T, -, -, -, -, -, -, hR⟩ := h
  exact ⟨hR.1.2.2.2.1, hi⟩
theorem V_running (h : Inv b S M) : (F_X2_running S).2 = (F_X3_running M).2 ∧ Inv b (F_X2_running S).1 (F_X3_running M).1 := by
  have hi := Inv_mP0 (v := 0) h
  obtain ⟨N, L, T, -, -, -, -, -, -, hR⟩ := h
  unfold F_X2_running F_X3_running
  dsimp only
  rcases hR.2.2.2.1 with ⟨hn, hm⟩ | ⟨r, r16, hn, hm⟩
  · rw [if_pos hn]; exact ⟨hm.symm, hi⟩
  · rw [if_neg (by rw [hn]; exact Option.some_ne_none r)]
    have hI : cI S = r := by unfold cI; rw [hn]; rfl
    rw [hI]
    exact ⟨((hR.2.2.2.2.2 r r16).1).trans hm.symm, hi⟩
theorem V_period {p : Int32} (h : Inv b S M) : Vr b [2, 3] (F_X2_period S p) (F_X3_period M p) 0 := by
  have hi := fun v => Inv_mP0 (v := v) h
  obtain ⟨N, L, T, hT, hC, hM, h9, hti, hu, hR⟩ := h
  have bad : Vr b [2, 3] (S, 0, 2) (mP M 0 1) 0 := ⟨show (1 : Int32) = hc [2, 3] 2 from by decide, fun _ => rfl, hi 1⟩
  unfold F_X2_period F_X3_period
  dsimp only
  rw [hR.1.2.2.2.1, h9]
  by_cases n0 : p < 0
  · rw [if_pos n0, if_pos n0]; exact bad
  · rw [if_neg n0, if_neg n0]
    by_cases n1 : p ≤ 10000
    · rw [if_pos n1, if_pos n1]
      by_cases n2 : nI T ≤ 0
      · rw [if_pos n2, if_pos ((t0_iff (by omega)).mpr n2)]
        obtain ⟨j, hj, hp⟩ := nI_of2 (n := 10000) (by decide) n0 n1
        obtain ⟨⟨g1, g2, g3, g4, g5⟩, ha, hl, hn, hq, ht⟩ := hR
        exact ⟨rfl, fun _ => rfl, N, L, T, hT, okC_sO hC (by decide), okM_mP (okM_mP hM (by decide)) (by decide), h9, hti, hu, ⟨g1, g2, rfl, g4, ⟨j, hj, hp⟩⟩, ha, hl, hn, hq, ht⟩
      · rw [if_neg n2, if_neg (fun z => n2 ((t0_iff (by omega)).mp z))]
        exact ⟨show (2 : Int32) = hc [2, 3] 3 from by decide, fun _ => rfl, hi 2⟩
    · rw [if_neg n1, if_neg n1]; exact bad
end RV
