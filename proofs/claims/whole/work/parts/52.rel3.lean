theorem n40 : ¬ (4 : Int32) = 0 := by decide
theorem n4a : ¬ ((4 : Int32) = 1 ∨ (4 : Int32) = 2 ∨ (4 : Int32) = 3) := by decide
theorem n4b : ¬ ((4 : Int32) = 1 ∨ (4 : Int32) = 2) := by decide
theorem n43 : ¬ (4 : Int32) = 3 := by decide
theorem n42 : ¬ (4 : Int32) = 2 := by decide
theorem n10 : ¬ (1 : Int32) = 0 := by decide
theorem n13 : ¬ (1 : Int32) = 3 := by decide
theorem n12 : ¬ (1 : Int32) = 2 := by decide
theorem n20 : ¬ (2 : Int32) = 0 := by decide
theorem n23 : ¬ (2 : Int32) = 3 := by decide
theorem n30 : ¬ (3 : Int32) = 0 := by decide
theorem n3b : ¬ ((3 : Int32) = 1 ∨ (3 : Int32) = 2) := by decide
theorem n32 : ¬ (3 : Int32) = 2 := by decide
section RS
variable {tau : Int32} {S : Cs} {M : Ms} {N L b : Nat}
theorem burst_y {u a c : Nat} (h6 : cT S u 6 = nI a) (h3 : cT S u 3 = nI c) (hc : c < 2 ^ 31) (hac : a < c) : F_X1_beginBurst S u = (sT (sT S u 7 (cB S u a)) u 6 (nI (a + 1)), 1) := by
  unfold F_X1_beginBurst
  rw [if_pos (by rw [h6, h3]; exact nI_lt hac hc)]
  dsimp only
  rw [cT_at, if_neg (by decide), h6, nI_clamp (by omega), nI_1]
theorem burst_n {u a c : Nat} (h6 : cT S u 6 = nI a) (h3 : cT S u 3 = nI c) (ha : a < 2 ^ 31) (hac : c ≤ a) : F_X1_beginBurst S u = (S, 0) := by
  unfold F_X1_beginBurst
  rw [if_neg (by rw [h6, h3]; exact nI_nlt hac ha)]
theorem goOn_y {u a c : Nat} (h6 : cT S u 6 = nI a) (h3 : cT S u 3 = nI c) (hc : c < 2 ^ 31) (hac : a < c) : F_X2_goOnOrEnd S u = F_X2_standAtEnd (sT (sT S u 7 (cB S u a)) u 6 (nI (a + 1))) u := by
  unfold F_X2_goOnOrEnd
  rw [burst_y h6 h3 hc hac]
  exact if_neg (show ¬ (1 : Int32) = 0 from by decide)
theorem goOn_n {u a c : Nat} (h6 : cT S u 6 = nI a) (h3 : cT S u 3 = nI c) (ha : a < 2 ^ 31) (hac : c ≤ a) : F_X2_goOnOrEnd S u = F_X2_endTask S u (cO S 6) := by
  unfold F_X2_goOnOrEnd
  rw [burst_n h6 h3 ha hac]
  exact if_pos rfl
theorem R_arrive {T t : Nat} {x : Int32} (h : Rel tau S M) (ho : okM N L b M) (hti : tiC N T t M) (ht : t < N) (hx : x = nI T) (hT : mO M 9 = x) (hT2 : T < 2 ^ 31 := by omega) : Rel tau (B_X2_letArrive_2 t S) (B_X3_come_2 x t M) := by
  have hN := ho.2.2.1
  have h16 : t < 16 := by omega
  have hu := h.2.2.2.2.2 t h16
  have hX := h.x t
  obtain ⟨t0, t1, t3, tb, t4, t5, t10, tc, tf, tz, ta, tl, tu, tq⟩ := hu
  have t1' := t1
  have t3' := t3
  have t4' := t4
  rw [mV_p 0 (by decide)] at t1' t3' t4'
  have hnow : cO S 6 = x := by rw [h.1.2.2.2.1]; exact hT
  unfold B_X2_letArrive_2 B_X3_come_2
  dsimp only
  by_cases c1 : mA M 6 t = x
  · have hs := ti_at hti ht hx c1 hT2
    have s0 : cT S t 4 = 0 := t4'.trans hs
    obtain ⟨z6, z5, z10⟩ := tz s0
    rw [if_pos s0, if_pos (t1'.trans (c1.trans hnow.symm)), if_pos c1]
    obtain ⟨c, hc12, hc⟩ := (okM_u ho h16).2.1
    have e6 : cT (sT S t 9 (cL S 0 1)) t 6 = nI 0 := by rw [cT_at, if_neg (by decide), z6]; decide
    have e3 : cT (sT S t 9 (cL S 0 1)) t 3 = nI c := by rw [cT_at, if_neg (by decide), t3', hc]
    by_cases c0 : c = 0
    · rw [goOn_n e6 e3 (by omega) (by omega), if_pos (by rw [hc, c0]; decide)]
      show Rel tau (F_X2_endTask (sT S t 9 (cL S 0 1)) t (cO S 6)) (F_X3_end M (nI t) x)
      rw [hnow]
      refine RelX.rel (X_end (X_sT hX) h16) (aR_end (S := sT S t 9 (cL S 0 1)) (aR_same h.2.1 (fun _ _ => rfl) (fun _ => rfl) (fun _ => rfl) (fun _ => rfl))) (nR_same h.2.2.2.1 rfl rfl) ?_
      obtain ⟨v1, v2⟩ := end_T (S := sT S t 9 (cL S 0 1)) (u := t) (w := x)
      have hcc : ∀ j, cT (F_X2_endTask (sT S t 9 (cL S 0 1)) t x) t j = if j = 15 then x else if j = 4 then 4 else if j = 9 then cL S 0 1 else cT S t j := fun j => by rw [v1, cT_at]
      have hm := mV_end_at (M := M) (u := t) (y := nI t) (w := x) (nI_clamp (by omega))
      rw [v2]
      unfold tR
      simp only [hcc, hm]
      exact ⟨t0, t1, t3, tb, rfl, t5, t10, ⟨tc.1, tc.2.1, tc.2.2.1, tc.2.2.2.1, rfl, tc.2.2.2.2.2⟩, tf, fun q => absurd q n40, fun q => absurd q n4a, fun q => absurd q n4b, fun q => absurd q n43, fun q => q.elim (fun q => absurd q n42) (fun q => absurd z10 q)⟩
    · have hc0 : 0 < c := by omega
      rw [goOn_y e6 e3 (by omega) hc0, if_neg (by rw [hc]; exact nI_ne0 hc0 (by omega))]
      have hx0 : ix (0 : Int32) 0 6 := ix_lit (by decide) (by omega) (by omega)
      have m13 : mA M 13 t = 0 := (okM_u ho h16).2.2.1 hs
      have hl0 := (h.2.2.1 0 (by omega)).2
      have tb0 := tb 0 (by omega)
      rw [mV_8 (by omega)] at tb0
      have w5 : cT (sT (sT (sT S t 9 (cL S 0 1)) t 7 (cB (sT S t 9 (cL S 0 1)) t 0)) t 6 (nI (0 + 1))) t 5 = 0 := by rw [cT_at, cT_at, cT_at, if_neg (by decide), if_neg (by decide), if_neg (by decide)]; exact z5
      have w0 : cT (sT (sT (sT S t 9 (cL S 0 1)) t 7 (cB (sT S t 9 (cL S 0 1)) t 0)) t 6 (nI (0 + 1))) t 0 = nI t := by rw [cT_at, cT_at, cT_at, if_neg (by decide), if_neg (by decide), if_neg (by decide)]; exact t0
      have hz := okM_15 ho ht (ne1 hs) hx0
      have hXm : RelX tau t (sT (sT (sT S t 9 (cL S 0 1)) t 7 (cB (sT S t 9 (cL S 0 1)) t 0)) t 6 (nI (0 + 1))) (mQ (mQ (mQ M 12 t 0) 16 t (mA (mQ M 12 t 0) 3 0)) 14 t (mA (mQ (mQ M 12 t 0) 16 t (mA (mQ M 12 t 0) 3 0)) 8 (12 * t))) := X_mQ (X_mQ (X_mQ (X_sT (X_sT (X_sT hX))) (by decide)) (by decide)) (by decide)
      obtain ⟨v1, v2, v3, v4, v5⟩ := stand_T hx0 w5 w0
      refine RelX.rel (X_stand hXm h16 (okM_q ho).1 hx0 w5 w0 hz) (aR_same h.2.1 (fun j _ => v3 j) v4 (fun k => by rw [toEnd_o 22 k (by decide)]; rfl) (fun k => by rw [toEnd_o 23 k (by decide)]; rfl)) (nR_same h.2.2.2.1 v5 rfl) ?_
      have hm := mV_toEnd_at (M := mQ (mQ (mQ M 12 t 0) 16 t (mA (mQ M 12 t 0) 3 0)) 14 t (mA (mQ (mQ M 12 t 0) 16 t (mA (mQ M 12 t 0) 3 0)) 8 (12 * t))) (x := 0) (u := t) (y := nI t) (nI_clamp (by omega))
      have hm2 : ∀ b j, mV (mQ (mQ (mQ M 12 t 0) 16 t (mA (mQ M 12 t 0) 3 0)) 14 t (mA (mQ (mQ M 12 t 0) 16 t (mA (mQ M 12 t 0) 3 0)) 8 (12 * t))) t b j = if b = 14 then mA M 8 (12 * t) else if b = 16 then mA M 3 0 else if b = 12 then 0 else mV M t b j := fun b j => by rw [mV_at (by decide), mV_at (by decide), mV_at (by decide)]; rfl
      rw [v2]
      unfold tR
      simp only [hm, hm2, v1, cT_at]
      exact ⟨t0, t1, t3, tb, rfl, z5, t10, tc, tf, fun q => absurd q n10, fun _ => ⟨by rw [mV_p 0 (by decide), m13]; rfl, hl0⟩, fun _ => tb0, fun q => absurd q n13, fun q => q.elim (fun q => absurd q n12) (fun q => absurd z10 q)⟩
  · rw [if_neg c1]
    by_cases s0 : cT S t 4 = 0
    · rw [if_pos s0, if_neg (fun q => c1 (t1'.symm.trans (q.trans hnow)))]; exact h
    · rw [if_neg s0]; exact h
end RS
