section RV2
variable {S : Cs} {M : Ms} {N L b : Nat}
theorem V_level {p q r : Int32} (h : Inv b S M) : Vr b [1, 2, 3] (F_X2_level S p q r) (F_X3_level M p q r) 0 := by
  have hi := fun v => Inv_mP0 (v := v) h
  obtain ⟨N, L, T, hT, hC, hM, h9, hti, hu, hR⟩ := h
  have b1 : Vr b [1, 2, 3] (S, 0, 1) (mP M 0 1) 0 := ⟨show (1 : Int32) = hc [1, 2, 3] 1 from by decide, fun _ => rfl, hi 1⟩
  have b2 : Vr b [1, 2, 3] (S, 0, 2) (mP M 0 2) 0 := ⟨show (2 : Int32) = hc [1, 2, 3] 2 from by decide, fun _ => rfl, hi 2⟩
  have hl := isL_iff (p := p) hR.1.1
  unfold F_X2_level F_X3_level
  dsimp only
  rw [isLevel_fst, hR.1.2.2.2.1, h9]
  by_cases n0 : p < 0
  · rw [if_pos n0, if_pos (hl.mpr (Or.inl n0))]; exact b1
  · rw [if_neg n0]
    by_cases n1 : p < mO M 1
    · rw [if_pos n1, if_neg (fun z => (hl.mp z).elim n0 (fun z => z n1))]
      by_cases m1 : q < 1
      · rw [if_pos m1, if_pos m1]; exact b2
      · rw [if_neg m1, if_neg m1]
        by_cases m2 : q ≤ 100
        · rw [if_pos m2, if_neg (show ¬ 100 < q from Int32.not_lt.mpr m2)]
          by_cases m3 : r < 1
          · rw [if_pos m3, if_pos m3]; exact b2
          · rw [if_neg m3, if_neg m3]
            by_cases m4 : r ≤ 1000
            · rw [if_pos m4, if_pos m4]
              by_cases n2 : nI T ≤ 0
              · rw [if_pos n2, if_pos ((t0_iff (by omega)).mpr n2)]
                have hx := okM_l1 hM n0 n1
                obtain ⟨hg, ha, hlr, hn, hq, ht⟩ := hR
                refine ⟨rfl, fun _ => rfl, N, L, T, hT, okC_sL (okC_sL hC (by decide)) (by decide), okM_mQ (okM_mQ (okM_mP hM (by decide)) (by decide)) (by decide), h9, hti, hu, hg, ha, fun l hl6 => ?_, hn, fun l hl6 => hq l hl6, fun u hu16 => ?_⟩
                · show cL (sL (sL S p.toNatClampNeg 0 q) p.toNatClampNeg 1 r) l 0 = mA (mQ (mQ (mP M 0 0) 2 p.toNatClampNeg q) 3 p.toNatClampNeg r) 2 l ∧ cL (sL (sL S p.toNatClampNeg 0 q) p.toNatClampNeg 1 r) l 1 = mA (mQ (mQ (mP M 0 0) 2 p.toNatClampNeg q) 3 p.toNatClampNeg r) 3 l
                  simp only [cL_sL, mA_mQ, mA_mP]
                  by_cases e : l = p.toNatClampNeg
                  · simp [e]
                  · simp [e]; exact hlr l hl6
                · rw [mV_row (by decide), mV_row (by decide)]; exact ht u hu16
              · rw [if_neg n2, if_neg (fun z => n2 ((t0_iff (by omega)).mp z))]
                exact ⟨show (3 : Int32) = hc [1, 2, 3] 3 from by decide, fun _ => rfl, hi 3⟩
            · rw [if_neg m4, if_neg m4]; exact b2
        · rw [if_neg m2, if_pos (show 100 < q from Int32.not_le.mp m2)]; exact b2
    · rw [if_neg n1, if_pos (hl.mpr (Or.inr n1))]; exact b1
/-- at the time 0 all are to come -/
theorem all0 {T : Nat} (hM : okM N L b M) (hti : tiM N T M) (h0 : T = 0) {u : Nat} (hu : u < 16) : mA M 11 u = 0 := by
  by_cases e : u < N
  · obtain ⟨ar, -, -, h3⟩ := hti u e
    exact h3 (by omega)
  · rcases (okM_u hM hu).2.2.2 with q | ⟨-, q⟩ | ⟨-, q, -⟩
    · exact q
    · exact absurd q e
    · exact absurd q e
theorem V_process {p : Int32} (h : Inv b S M) : Vr b [2, 3] (F_X2_process S p) (F_X3_process M p).1 (F_X3_process M p).2 := by
  have hi := fun v => Inv_mP0 (v := v) h
  obtain ⟨N, L, T, hT, hC, hM, h9, hti, hu, hR⟩ := h
  have bad : Vr b [2, 3] (S, 0, 2) (mP M 0 1) 0 := ⟨show (1 : Int32) = hc [2, 3] 2 from by decide, fun _ => rfl, hi 1⟩
  have hN16 := hM.2.2.1
  unfold F_X2_process F_X3_process
  dsimp only
  rw [hR.1.2.2.2.1, h9, hR.1.2.1]
  by_cases n0 : p < 0
  · rw [if_pos n0, if_pos n0]; exact bad
  · rw [if_neg n0, if_neg n0]
    by_cases n1 : p ≤ 20000
    · rw [if_pos n1, if_pos n1]
      by_cases n2 : nI T ≤ 0
      · have T0 := t0_z (by omega) n2
        rw [if_pos n2, if_pos ((t0_iff (by omega)).mpr n2)]
        show Vr b [2, 3] (if mO M 5 < 16 then _ else _) (if mO M 5 = 16 then _ else _ : Ms × Int32).1 (if mO M 5 = 16 then _ else _ : Ms × Int32).2
        by_cases n3 : N = 16
        · rw [if_neg (by rw [hM.1, n3]; decide), if_pos (by rw [hM.1, n3]; decide)]
          exact ⟨rfl, fun _ => rfl, hi 0⟩
        · rw [if_pos (by rw [hM.1]; exact nI_lt (a := N) (b := 16) (by omega) (by omega)), if_neg (by rw [hM.1]; exact fun z => n3 ((nI_eq (a := N) (b := 16) (by omega) (by omega)).mp z))]
          obtain ⟨j, hj, hp⟩ := nI_of2 (n := 20000) (by decide) n0 n1
          have hcl : (mO M 5).toNatClampNeg = N := okM_N hM
          have s0 : ∀ u, u < 16 → mA M 11 u = 0 := fun u hu16 => all0 hM hti T0 hu16
          have e5 : mO M 5 + 1 = nI (N + 1) := by rw [hM.1, nI_1]
          have e4 : cO S 4 + 1 = nI (N + 1) := by rw [hR.1.2.1]; exact e5
          refine ⟨rfl, fun _ => ?_, N + 1, L, T, hT, ?_, ?_, h9, ?_, hu, ?_⟩
          · show cO S 4 + 1 - 1 = mO M 5 + 1 - 1; rw [hR.1.2.1]
          · show okC (N + 1) L b (sO (F_X1_tellArrival S (mO M 5).toNatClampNeg p) 4 (cO S 4 + 1))
            have hC2 : okC N L b (F_X1_tellArrival S (mO M 5).toNatClampNeg p) := okC_sT3 (okC_sT hC (by decide)) ⟨0, by omega, by decide⟩
            obtain ⟨d1, d2, d3, d4, d5, d6, d7, d8, d9, d10, d11⟩ := hC2
            refine ⟨by rw [cO_sO, if_pos rfl]; exact e4, d2, by omega, d4, d5, d6, d7, d8, d9, fun i hi2 => ?_, d11⟩
            have := d10 i hi2
            omega
          · show okM (N + 1) L b (mP (mQ (mQ (mP M 0 0) 6 (mO M 5).toNatClampNeg p) 7 (mO M 5).toNatClampNeg 0) 5 (mO M 5 + 1))
            obtain ⟨d1, d2, d3, d4, d5, d6, d7, d8, d9⟩ := hM
            refine ⟨by rw [mO_mP, if_pos rfl]; exact e5, d2, by omega, d4, d5, d6, fun u hu16 => ?_, ?_, ?_⟩
            · obtain ⟨x1, x2, x3, x4⟩ := d7 u hu16
              refine ⟨x1, ?_, x3, Or.inl (s0 u hu16)⟩
              show ub 12 (mA (mQ (mQ (mP M 0 0) 6 (mO M 5).toNatClampNeg p) 7 (mO M 5).toNatClampNeg 0) 7 u)
              rw [mA_mQ]
              by_cases e : (7 : Nat) = 7 ∧ u = (mO M 5).toNatClampNeg
              · rw [if_pos e]; exact ⟨0, by omega, by decide⟩
              · rw [if_neg e]; exact x2
            · rcases d8 with z | ⟨r, z1, z2, z3⟩
              · exact Or.inl z
              · exact Or.inr ⟨r, by omega, z2, z3⟩
            · exact ⟨d9.1, fun l k hl hk => by
                obtain ⟨q, q1, q2, q3⟩ := d9.2.1 l k hl hk
                exact ⟨q, by omega, q2, q3⟩, d9.2.2⟩
          · intro u hu2
            show ∃ ar, mA (mQ (mQ (mP M 0 0) 6 (mO M 5).toNatClampNeg p) 7 (mO M 5).toNatClampNeg 0) 6 u = nI ar ∧ ar ≤ 20000 ∧ (T ≤ ar → mA M 11 u = 0)
            rw [mA_ne _ _ _ _ (by decide), mA_mQ, hcl]
            by_cases e : (6 : Nat) = 6 ∧ u = N
            · rw [if_pos e]; exact ⟨j, hp, hj, fun _ => s0 u (by omega)⟩
            · rw [if_neg e]
              obtain ⟨ar, y1, y2, y3⟩ := hti u (by omega)
              exact ⟨ar, y1, y2, y3⟩
          · show Rel (nI T) (sO (F_X1_tellArrival S (mO M 5).toNatClampNeg p) 4 (cO S 4 + 1)) (mP (mQ (mQ (mP M 0 0) 6 (mO M 5).toNatClampNeg p) 7 (mO M 5).toNatClampNeg 0) 5 (mO M 5 + 1))
            rw [hcl]
            have hX := hR.x N
            obtain ⟨t0, t1, t3, tb, t4, t5, t10, tc, tf, tz, ta, tl, tu, tq⟩ := hR.2.2.2.2.2 N (by omega)
            obtain ⟨⟨g1, g2, g3, g4, g5⟩, ha, hlr, hn, hq, ht⟩ := hR
            have hX2 : RelX (nI T) N (F_X1_tellArrival S N p) (mQ (mQ (mP M 0 0) 6 N p) 7 N 0) := X_mQ (X_mQ (M := mP M 0 0) (X_sT (X_sT hX)) (by decide)) (by decide)
            refine RelX.rel (u := N) ⟨⟨g1, by show cO S 4 + 1 = mO M 5 + 1; rw [g2], g3, g4, g5⟩, hX2.2.1, hX2.2.2.1, hX2.2.2.2⟩ ha hn ?_
            have hm : ∀ b j, mV (mQ (mQ (mP M 0 0) 6 N p) 7 N 0) N b j = if b = 7 then 0 else if b = 6 then p else mV M N b j := fun b j => by rw [mV_at (by decide), mV_at (by decide)]; rfl
            show tR (nI T) N (cT (sT (sT S N 1 p) N 3 0) N) (cB S N) (mV (mQ (mQ (mP M 0 0) 6 N p) 7 N 0) N)
            unfold tR
            simp only [hm, cT_at]
            exact ⟨t0, rfl, rfl, tb, t4, t5, t10, tc, tf, tz, ta, tl, tu, tq⟩
      · rw [if_neg n2, if_neg (fun z => n2 ((t0_iff (by omega)).mp z))]
        exact ⟨show (2 : Int32) = hc [2, 3] 3 from by decide, fun z => absurd z (show ¬ (3 : Nat) = 0 by decide), hi 2⟩
    · rw [if_neg n1, if_neg n1]; exact bad
theorem V_burst {p q : Int32} (h : Inv b S M) : Vr b [1, 2, 3] (F_X2_burst S p q) (F_X3_burst M p q).1 (F_X3_burst M p q).2 := by
  have hi := fun v => Inv_mP0 (v := v) h
  obtain ⟨N, L, T, hT, hC, hM, h9, hti, hu, hR⟩ := h
  have b2 : Vr b [1, 2, 3] (S, 0, 2) (mP M 0 2) 0 := ⟨show (2 : Int32) = hc [1, 2, 3] 2 from by decide, fun _ => rfl, hi 2⟩
  have hT' := isT_iff (p := p) hR.1.2.1
  unfold F_X2_burst F_X3_burst
  dsimp only
  rw [isTask_fst, noP_fst, hR.1.2.2.2.1, h9]
  by_cases n0 : (F_X3_noProcess M p).2 = 0
  · rw [if_pos n0, if_neg (fun z => hT'.mp z n0)]
    have hx := noP_ix hM n0
    by_cases m1 : q < 1
    · rw [if_pos m1, if_pos m1]; exact b2
    · rw [if_neg m1, if_neg m1]
      by_cases m2 : q ≤ 5000
      · rw [if_pos m2, if_pos m2]
        by_cases n2 : nI T ≤ 0
        · have T0 := t0_z (by omega) n2
          rw [if_pos n2, if_pos ((t0_iff (by omega)).mpr n2)]
          generalize hu0 : p.toNatClampNeg = u at *
          have u16 := hx.2.2
          obtain ⟨t0, t1, t3, tb, t4, t5, t10, tc, tf, tz, ta, tl, tu, tq⟩ := hR.2.2.2.2.2 u u16
          have t3' := t3
          rw [mV_p 0 (by decide)] at t3'
          obtain ⟨c, hc12, hce⟩ := (okM_u hM u16).2.1
          have s0 : ∀ u, u < 16 → mA M 11 u = 0 := fun u hu16 => all0 hM hti T0 hu16
          show Vr b [1, 2, 3] ((F_X1_tellBurst S u q).1, (F_X1_tellBurst S u q).2, 0) (if mA M 7 u = 12 then _ else _ : Ms × Int32).1 (if mA M 7 u = 12 then _ else _ : Ms × Int32).2
          unfold F_X1_tellBurst
          rw [t3', hce]
          by_cases c2 : c = 12
          · rw [if_neg (by rw [c2]; decide), if_pos (by rw [c2]; decide)]
            exact ⟨rfl, fun _ => rfl, hi 0⟩
          · rw [if_pos (show nI c < 12 from nI_lt (a := c) (b := 12) (by omega) (by omega)), if_neg (show ¬ nI c = 12 from fun z => c2 ((nI_eq (a := c) (b := 12) (by omega) (by omega)).mp z))]
            dsimp only
            rw [nI_clamp (by omega)]
            have e3 : cT (sB S u c q) u 3 = nI c := t3'.trans hce
            have e7 : mA (mQ (mP M 0 0) 8 (12 * u + (mA (mP M 0 0) 7 u).toNatClampNeg) q) 7 u = nI c := hce
            have e7b : (mA (mP M 0 0) 7 u).toNatClampNeg = c := by show (mA M 7 u).toNatClampNeg = c; rw [hce, nI_clamp (by omega)]
            rw [e7b] at e7
            rw [e3, e7b, e7, nI_1]
            refine ⟨rfl, fun _ => ?_, N, L, T, hT, ?_, ?_, h9, hti, hu, ?_⟩
            · show cT (sT (sB S u c q) u 3 (nI (c + 1))) u 3 = mA (mQ (mQ (mP M 0 0) 8 (12 * u + c) q) 7 u (nI (c + 1))) 7 u
              rw [cT_at, if_pos rfl, mA_eq]
            · exact okC_sT3 (S := sB S u c q) (okC_sB hC) ⟨c + 1, by omega, rfl⟩
            · show okM N L b (mQ (mQ (mP M 0 0) 8 (12 * u + c) q) 7 u (nI (c + 1)))
              obtain ⟨d1, d2, d3, d4, d5, d6, d7, d8, d9⟩ := okM_mQ (a := 8) (k := 12 * u + c) (v := q) (okM_mP (j := 0) (v := 0) hM (by decide)) (by decide)
              refine ⟨d1, d2, d3, d4, d5, d6, fun i hi16 => ?_, d8, d9⟩
              obtain ⟨x1, x2, x3, x4⟩ := d7 i hi16
              refine ⟨x1, ?_, x3, Or.inl (s0 i hi16)⟩
              show ub 12 (mA (mQ (mQ (mP M 0 0) 8 (12 * u + c) q) 7 u (nI (c + 1))) 7 i)
              rw [mA_mQ]
              by_cases e : (7 : Nat) = 7 ∧ i = u
              · rw [if_pos e]; exact ⟨c + 1, by omega, rfl⟩
              · rw [if_neg e]; exact x2
            · show Rel (nI T) (sT (sB S u c q) u 3 (nI (c + 1))) (mQ (mQ (mP M 0 0) 8 (12 * u + c) q) 7 u (nI (c + 1)))
              obtain ⟨hg, ha, hlr, hn, hq, ht⟩ := hR
              refine ⟨hg, ha, hlr, hn, hq, fun i hi16 => ?_⟩
              by_cases e : i = u
              · subst e
                have hm : ∀ b j, mV (mQ (mQ (mP M 0 0) 8 (12 * i + c) q) 7 i (nI (c + 1))) i b j = if b = 7 then nI (c + 1) else if b = 8 ∧ j % 12 = c then q else mV M i b j := fun b j => by
                  rw [mV_at (by decide)]
                  by_cases e7 : b = 7
                  · rw [if_pos e7, if_pos e7]
                  · rw [if_neg e7, if_neg e7]
                    by_cases e8 : b = 8
                    · subst e8
                      show mA (mQ (mP M 0 0) 8 (12 * i + c) q) 8 (12 * i + j % 12) = _
                      by_cases e9 : j % 12 = c
                      · rw [if_pos ⟨rfl, e9⟩, e9, mA_eq]
                      · rw [if_neg (fun z => e9 z.2), mA_nk _ _ _ _ (by omega)]; rfl
                    · rw [if_neg (fun z => e8 z.1)]
                      unfold mV
                      rw [if_neg e8, if_neg e8, mA_ne _ _ _ _ (by decide), mA_ne _ _ _ _ e8]
                      rfl
                have hcb : ∀ k, k < 12 → cB (sB S i c q) i k = if k % 12 = c then q else mV M i 8 k := fun k hk => by
                  rw [cB_sB, Nat.mod_eq_of_lt hk]
                  by_cases e9 : k = c
                  · rw [if_pos ⟨e9, rfl⟩, if_pos e9]
                  · rw [if_neg (fun z => e9 z.1), if_neg e9]; exact tb k hk
                show tR (nI T) i (cT (sT (sB S i c q) i 3 (nI (c + 1))) i) (cB (sB S i c q) i) _
                unfold tR
                simp only [hm, cT_at]
                refine ⟨t0, t1, rfl, fun k hk => ?_, t4, t5, t10, tc, tf, tz, ta, tl, tu, tq⟩
                rw [hcb k hk]
                by_cases e9 : k % 12 = c
                · rw [if_pos e9]; exact (if_pos ⟨trivial, e9⟩).symm
                · rw [if_neg e9]; exact (if_neg (fun z => e9 z.2)).symm
              · rw [mV_ne (by decide) e, mV_t (by omega) e, cT_ne e]
                have : cB (sT (sB S u c q) u 3 (nI (c + 1))) i = cB S i := by funext k; show cB (sB S u c q) i k = _; rw [cB_sB, if_neg (fun z => e z.2)]
                rw [this]
                exact ht i hi16
        · rw [if_neg n2, if_neg (fun z => n2 ((t0_iff (by omega)).mp z))]
          exact ⟨show (3 : Int32) = hc [1, 2, 3] 3 from by decide, fun z => absurd z (show ¬ (3 : Nat) = 0 by decide), hi 3⟩
      · rw [if_neg m2, if_neg m2]; exact b2
  · rw [if_neg n0, if_pos (hT'.mpr n0)]
    exact ⟨show (1 : Int32) = hc [1, 2, 3] 1 from by decide, fun _ => rfl, hi 1⟩
end RV2
