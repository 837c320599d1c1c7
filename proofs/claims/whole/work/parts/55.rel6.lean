section RS4
variable {tau : Int32} {S : Cs} {M : Ms} {N L b : Nat}
theorem block_y {u a c : Nat} (h6 : cT S u 6 = nI a) (h3 : cT S u 3 = nI c) (hc : c < 2 ^ 31) (hac : a < c) : F_X2_blockOrEnd S u = sT (sT (sT S u 7 (cB S u a)) u 6 (nI (a + 1))) u 4 3 := by
  unfold F_X2_blockOrEnd
  rw [burst_y h6 h3 hc hac]
  exact if_neg (show ¬ (1 : Int32) = 0 from by decide)
theorem block_n {u a c : Nat} (h6 : cT S u 6 = nI a) (h3 : cT S u 3 = nI c) (ha : a < 2 ^ 31) (hac : c ≤ a) : F_X2_blockOrEnd S u = F_X2_endTask S u (cO S 6 + 1) := by
  unfold F_X2_blockOrEnd
  rw [burst_n h6 h3 ha hac]
  exact if_pos rfl
def u5 (S : Cs) (r : Nat) : Cs := if cT S r 7 = 0 then sN (F_X2_blockOrEnd S r) none else if 0 < cT S r 9 then (if cT S r 8 = 0 then sN (F_X2_standAtEnd S r) none else S) else sN (F_X2_sendDown S r) none
theorem R_w5 {x : Int32} (h : Rel (x + 1) S M) (ho : okM N L b M) (hr : ¬ mO M 10 < 0) (hT : mO M 9 = x) : Rel (x + 1) (u5 S (cI S)) (w5 M (mO M 10) x) := by
  obtain ⟨r, rN, r16, rn, rI, r10, rc, s2, s2'⟩ := h.run ho hr
  have hN16 := ho.2.2.1
  have hX := h.x r
  obtain ⟨t0, t1, t3, tb, t4, t5, t10, tc, tf, tz, ta, tl, tu, tq⟩ := h.2.2.2.2.2 r r16
  have l7 := tl (Or.inr s2')
  have q8 := tq (Or.inl s2')
  obtain ⟨a6, a9⟩ := ta (Or.inr (Or.inl s2'))
  have l7' := l7
  have q8' := q8
  have a9' := a9
  have a6' := a6
  have t3' := t3
  have t5' := t5
  rw [mV_p 0 (by decide)] at l7' q8' a9' a6' t3' t5'
  obtain ⟨-, a, c, h13, h7, hac, hc12⟩ := okM_ab ho r16 (Or.inr (Or.inl s2))
  have e6 : cT S r 6 = nI (a + 1) := by rw [a6', h13, nI_1]
  have e3 : cT S r 3 = nI c := t3'.trans h7
  have hnow : cO S 6 = x := by rw [h.1.2.2.2.1]; exact hT
  have hlx := okM_lx ho r16
  have hz15 := okM_15 ho rN (ne21 s2) hlx
  have hq16 := (okM_q ho).1
  have hX0 : RelX (x + 1) r S (mP M 10 (-1)) := X_mP hX
  rw [rI]
  unfold u5 w5
  dsimp only
  rw [rc, r10]
  by_cases c7 : cT S r 7 = 0
  · rw [if_pos c7, if_pos (l7'.symm.trans c7), mA_eq, mA_ne _ _ _ _ (by decide), mA_mP, h13, nI_1]
    rw [show mA M 7 r = nI c from h7]
    by_cases cc : a + 1 = c
    · rw [block_n e6 e3 (by omega) (by omega), if_pos (by rw [cc]), hnow]
      refine RelX.rel (X_sN (X_end (X_mQ hX0 (by decide)) r16)) (aR_end (M := mQ (mP M 10 (-1)) 13 r (nI (a + 1))) (aR_same h.2.1 (fun _ _ => rfl) (fun _ => rfl) (fun _ => rfl) (fun _ => rfl))) (Or.inl ⟨rfl, rfl⟩) ?_
      obtain ⟨v1, v2⟩ := end_T (S := S) (u := r) (w := x + 1)
      have hm := mV_end_at (M := mQ (mP M 10 (-1)) 13 r (nI (a + 1))) (u := r) (y := nI r) (w := x + 1) (nI_clamp (by omega))
      have hm2 : ∀ b j, mV (mQ (mP M 10 (-1)) 13 r (nI (a + 1))) r b j = if b = 13 then nI (a + 1) else mV M r b j := fun b j => mV_at (M := mP M 10 (-1)) (by decide) b j
      show tR (x + 1) r (cT (F_X2_endTask S r (x + 1)) r) (cB (F_X2_endTask S r (x + 1)) r) _
      rw [v2]
      unfold tR
      simp only [v1, hm, hm2]
      exact ⟨t0, t1, t3, tb, rfl, t5, t10, ⟨tc.1, tc.2.1, tc.2.2.1, tc.2.2.2.1, rfl, tc.2.2.2.2.2⟩, tf, fun q => absurd q n40, fun q => absurd q n4a, fun q => absurd q n4b, fun q => absurd q n43, fun q => q8⟩
    · have hlt : a + 1 < c := by omega
      rw [block_y e6 e3 (by omega) hlt, if_neg (fun q => cc ((nI_eq (by omega) (by omega)).mp q)), nI_clamp (by omega)]
      have tba := tb (a + 1) (by omega)
      rw [mV_8 (by omega)] at tba
      have hXm : RelX (x + 1) r (sN (sT (sT (sT S r 7 (cB S r (a + 1))) r 6 (nI (a + 1 + 1))) r 4 3) none) (mQ (mQ (mQ (mP M 10 (-1)) 13 r (nI (a + 1))) 11 r 3) 18 r (x + 1 + mA (mQ (mP M 10 (-1)) 13 r (nI (a + 1))) 8 (12 * r + (a + 1)))) := X_sN (X_mQ (X_mQ (X_mQ (X_sT (X_sT (X_sT hX0))) (by decide)) (by decide)) (by decide))
      refine RelX.rel hXm (aR_same h.2.1 (fun _ _ => rfl) (fun _ => rfl) (fun _ => rfl) (fun _ => rfl)) (Or.inl ⟨rfl, rfl⟩) ?_
      have hm : ∀ b j, mV (mQ (mQ (mQ (mP M 10 (-1)) 13 r (nI (a + 1))) 11 r 3) 18 r (x + 1 + mA (mQ (mP M 10 (-1)) 13 r (nI (a + 1))) 8 (12 * r + (a + 1)))) r b j = if b = 18 then x + 1 + mA M 8 (12 * r + (a + 1)) else if b = 11 then 3 else if b = 13 then nI (a + 1) else mV M r b j := fun b j => by
        rw [mV_at (by decide), mV_at (by decide), mV_at (by decide)]; rfl
      show tR (x + 1) r (cT (sT (sT (sT S r 7 (cB S r (a + 1))) r 6 (nI (a + 1 + 1))) r 4 3) r) (cB S r) _
      unfold tR
      simp only [hm, cT_at]
      exact ⟨t0, t1, t3, tb, rfl, t5, t10, tc, tf, fun q => absurd q n30, fun _ => ⟨by show nI (a + 1 + 1) = nI (a + 1) + 1; rw [nI_1], a9⟩, fun q => absurd q n3b, fun _ => by show x + 1 + mA M 8 (12 * r + (a + 1)) = x + 1 + cB S r (a + 1); rw [tba], fun q => q8⟩
  · rw [if_neg c7, if_neg (fun q => c7 (l7'.trans q))]
    by_cases c9 : 0 < cT S r 9
    · rw [if_pos c9, if_pos (show 0 < mA M 16 r from by rw [← a9']; exact c9)]
      by_cases c8 : cT S r 8 = 0
      · rw [if_pos c8, if_pos (q8'.symm.trans c8)]
        refine R_stand (M := mP M 10 (-1)) hX0 (aR_same h.2.1 (fun _ _ => rfl) (fun _ => rfl) (fun _ => rfl) (fun _ => rfl)) r16 hq16 hlx t5' t0 hz15 rfl (fun cc mm hc hm => ?_)
        unfold tR
        simp only [hc, hm]
        exact ⟨t0, t1, t3, tb, rfl, t5, t10, tc, tf, fun q => absurd q n10, fun _ => ⟨a6, a9⟩, fun _ => l7, fun q => absurd q n13, fun _ => q8⟩
      · rw [if_neg c8, if_neg (fun q => c8 (q8'.trans q))]
        exact h
    · rw [if_neg c9, if_neg (show ¬ 0 < mA M 16 r from fun q => c9 (by rw [a9']; exact q))]
      unfold F_X2_sendDown
      dsimp only
      rw [h.1.1, t5']
      by_cases cd : mO M 1 - 1 ≤ mA M 12 r
      · rw [if_pos cd, if_pos cd]
        have hsh := (h.2.2.1 (mA M 12 r).toNatClampNeg hlx.2.2).2
        refine R_stand (S := sT S r 9 (cL S (mA M 12 r).toNatClampNeg 1)) (M := mQ (mP M 10 (-1)) 16 r (mA M 3 (mA M 12 r).toNatClampNeg)) (X_mQ (X_sT hX0) (by decide)) (aR_same h.2.1 (fun _ _ => rfl) (fun _ => rfl) (fun _ => rfl) (fun _ => rfl)) r16 hq16 hlx (by rw [cT_at, if_neg (by decide)]; exact t5') (by rw [cT_at, if_neg (by decide)]; exact t0) hz15 rfl (fun cc mm hc hm => ?_)
        have hm2 : ∀ b j, mV (mQ (mP M 10 (-1)) 16 r (mA M 3 (mA M 12 r).toNatClampNeg)) r b j = if b = 16 then mA M 3 (mA M 12 r).toNatClampNeg else mV M r b j := fun b j => mV_at (M := mP M 10 (-1)) (by decide) b j
        show tR (x + 1) r cc (cB S r) mm
        unfold tR
        simp only [hc, hm, hm2, cT_at]
        exact ⟨t0, t1, t3, tb, rfl, t5, t10, tc, tf, fun q => absurd q n10, fun _ => ⟨a6, hsh⟩, fun _ => l7, fun q => absurd q n13, fun _ => q8⟩
      · rw [if_neg cd, if_neg cd]
        obtain ⟨v, hv, hv2⟩ := okM_dn ho r16 cd
        have hL6 := ho.2.2.2.2.1
        have hlx2 : ix (mA M 12 r + 1) (mA M 12 r + 1).toNatClampNeg 6 := lvx ⟨v, by omega, hv2⟩
        have hsh := (h.2.2.1 (mA M 12 r + 1).toNatClampNeg hlx2.2.2).2
        have hz2 := okM_15 ho rN (ne21 s2) hlx2
        have k8 := tc.2.2.2.2.2.2.1
        rw [mV_19 (by decide)] at k8
        have hS5 : sT (sT (sT S r 5 (mA M 12 r + 1)) r 17 (cT (sT S r 5 (mA M 12 r + 1)) r 17 + 1)) r 9 (cL (sT (sT S r 5 (mA M 12 r + 1)) r 17 (cT (sT S r 5 (mA M 12 r + 1)) r 17 + 1)) (cT (sT (sT S r 5 (mA M 12 r + 1)) r 17 (cT (sT S r 5 (mA M 12 r + 1)) r 17 + 1)) r 5).toNatClampNeg 1) = sT (sT (sT S r 5 (mA M 12 r + 1)) r 17 (cT S r 17 + 1)) r 9 (cL S (mA M 12 r + 1).toNatClampNeg 1) := by
          simp only [cT_at]
          rfl
        have hM5 : mA (mQ (mQ (mP M 10 (-1)) 12 r (mA M 12 r + 1)) 19 (10 * r + 8) (mA M 19 (10 * r + 8) + 1)) 12 r = mA M 12 r + 1 := mA_eq (mP M 10 (-1)) 12 _ _
        rw [hS5, hM5]
        show Rel (x + 1) _ (F_X3_toEnd (mQ (mQ (mQ (mP M 10 (-1)) 12 r (mA M 12 r + 1)) 19 (10 * r + 8) (mA M 19 (10 * r + 8) + 1)) 16 r (mA M 3 (mA M 12 r + 1).toNatClampNeg)) (mA M 12 r + 1) (nI r))
        refine R_stand (S := sT (sT (sT S r 5 (mA M 12 r + 1)) r 17 (cT S r 17 + 1)) r 9 (cL S (mA M 12 r + 1).toNatClampNeg 1)) (M := mQ (mQ (mQ (mP M 10 (-1)) 12 r (mA M 12 r + 1)) 19 (10 * r + 8) (mA M 19 (10 * r + 8) + 1)) 16 r (mA M 3 (mA M 12 r + 1).toNatClampNeg)) (X_mQ (X_c (X_mQ (X_sT (X_sT (X_sT hX0))) (by decide)) (by decide)) (by decide)) (aR_same h.2.1 (fun _ _ => rfl) (fun _ => rfl) (fun _ => rfl) (fun _ => rfl)) r16 hq16 hlx2 (by simp only [cT_at]; rfl) (by simp only [cT_at]; exact t0) hz2 rfl (fun cc mm hc hm => ?_)
        have hm2 : ∀ b j, mV (mQ (mQ (mQ (mP M 10 (-1)) 12 r (mA M 12 r + 1)) 19 (10 * r + 8) (mA M 19 (10 * r + 8) + 1)) 16 r (mA M 3 (mA M 12 r + 1).toNatClampNeg)) r b j = if b = 16 then mA M 3 (mA M 12 r + 1).toNatClampNeg else if b = 19 ∧ j % 10 = 8 then mA M 19 (10 * r + 8) + 1 else if b = 12 then mA M 12 r + 1 else mV M r b j := fun b j => by
          rw [mV_at (by decide), mV_cat (by decide), mV_at (by decide)]; rfl
        show tR (x + 1) r cc (cB S r) mm
        unfold tR
        simp only [hc, hm, hm2, cT_at]
        exact ⟨t0, t1, t3, tb, rfl, rfl, t10, ⟨tc.1, tc.2.1, tc.2.2.1, tc.2.2.2.1, tc.2.2.2.2.1, tc.2.2.2.2.2.1, by show cT S r 17 + 1 = mA M 19 (10 * r + 8) + 1; rw [k8], tc.2.2.2.2.2.2.2⟩, tf, fun q => absurd q n10, fun _ => ⟨a6, hsh⟩, fun _ => l7, fun q => absurd q n13, fun _ => q8⟩
theorem R_work {x : Int32} (h : Rel (x + 1) S M) (ho : okM N L b M) (hr : ¬ mO M 10 < 0) (hT : mO M 9 = x) : Rel (x + 1) (F_X2_useTick S (cI S)) (F_X3_work M x) := by
  rw [work_eq]
  exact R_w5 (S := u4 S (cI S)) (R_w4 h ho hr) (w4_ok ho).1 hr hT
end RS4
