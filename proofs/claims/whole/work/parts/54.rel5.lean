section RS3
variable {tau : Int32} {S : Cs} {M : Ms} {N L b : Nat}
/-- who runs, on both sides -/
theorem Rel.run (h : Rel tau S M) (ho : okM N L b M) (hr : ¬ mO M 10 < 0) : ∃ r, r < N ∧ r < 16 ∧ cN S = some r ∧ cI S = r ∧ mO M 10 = nI r ∧ (mO M 10).toNatClampNeg = r ∧ mA M 11 r = 2 ∧ cT S r 4 = 2 := by
  have hN := okM_rN ho hr
  have hs := okM_rs ho hr
  have hN16 := ho.2.2.1
  rcases h.2.2.2.1 with ⟨-, q⟩ | ⟨r, r16, r1, r2⟩
  · rw [q] at hr; exact absurd (by decide) hr
  · have e : (mO M 10).toNatClampNeg = r := by rw [r2, nI_clamp (by omega)]
    rw [e] at hN hs
    refine ⟨r, hN, r16, r1, by unfold cI; rw [r1]; rfl, r2, e, hs, ?_⟩
    have t4 := (h.2.2.2.2.2 r r16).2.2.2.2.1
    rw [mV_p 0 (by decide)] at t4
    exact t4.trans hs
def u4 (S : Cs) (r : Nat) : Cs :=
  let S1 := sT S r 11 (cT S r 11 + 1)
  let S2 := sT S1 r 7 (cT S1 r 7 - 1)
  let S3 := sT S2 r 8 (cT S2 r 8 - 1)
  sT S3 r 9 (cT S3 r 9 - 1)
theorem use_eq (S : Cs) (r : Nat) : F_X2_useTick S r = if cT (u4 S r) r 7 = 0 then sN (F_X2_blockOrEnd (u4 S r) r) none else if 0 < cT (u4 S r) r 9 then (if cT (u4 S r) r 8 = 0 then sN (F_X2_standAtEnd (u4 S r) r) none else u4 S r) else sN (F_X2_sendDown (u4 S r) r) none := rfl
theorem R_w4 (h : Rel tau S M) (ho : okM N L b M) (hr : ¬ mO M 10 < 0) : Rel tau (u4 S (cI S)) (w4 M) := by
  obtain ⟨r, rN, r16, rn, rI, r10, rc, s2, s2'⟩ := h.run ho hr
  rw [rI]
  have hX := h.x r
  obtain ⟨t0, t1, t3, tb, t4, t5, t10, tc, tf, tz, ta, tl, tu, tq⟩ := h.2.2.2.2.2 r r16
  have l7 := tl (Or.inr s2')
  have q8 := tq (Or.inl s2')
  have a9 := (ta (Or.inr (Or.inl s2'))).2
  rw [mV_p 0 (by decide)] at l7 q8 a9
  have k2 := tc.1
  rw [mV_19 (by decide)] at k2
  have hw : w4 M = mQ (mQ (mQ (mQ M 19 (10 * r + 2) (mA M 19 (10 * r + 2) + 1)) 14 r (mA M 14 r - 1)) 15 r (mA M 15 r - 1)) 16 r (mA M 16 r - 1) := by
    unfold w4
    dsimp only
    rw [rc]
    rfl
  have hv : u4 S r = sT (sT (sT (sT S r 11 (cT S r 11 + 1)) r 7 (cT S r 7 - 1)) r 8 (cT S r 8 - 1)) r 9 (cT S r 9 - 1) := by
    unfold u4
    dsimp only
    simp only [cT_at]
    rfl
  rw [hw, hv]
  refine RelX.rel (X_mQ (X_mQ (X_mQ (X_c (X_sT (X_sT (X_sT (X_sT hX)))) (by decide)) (by decide)) (by decide)) (by decide)) (aR_same h.2.1 (fun _ _ => rfl) (fun _ => rfl) (fun _ => rfl) (fun _ => rfl)) (nR_same h.2.2.2.1 rfl rfl) ?_
  have hm : ∀ b j, mV (mQ (mQ (mQ (mQ M 19 (10 * r + 2) (mA M 19 (10 * r + 2) + 1)) 14 r (mA M 14 r - 1)) 15 r (mA M 15 r - 1)) 16 r (mA M 16 r - 1)) r b j = if b = 16 then mA M 16 r - 1 else if b = 15 then mA M 15 r - 1 else if b = 14 then mA M 14 r - 1 else if b = 19 ∧ j % 10 = 2 then mA M 19 (10 * r + 2) + 1 else mV M r b j := fun b j => by
    rw [mV_at (by decide), mV_at (by decide), mV_at (by decide), mV_cat (by decide)]
  show tR tau r _ (cB S r) _
  unfold tR
  simp only [hm, cT_at]
  exact ⟨t0, t1, t3, tb, t4, t5, t10, ⟨by show cT S r 11 + 1 = mA M 19 (10 * r + 2) + 1; rw [k2], tc.2⟩, tf, tz, fun q => ⟨(ta q).1, by show cT S r 9 - 1 = mA M 16 r - 1; rw [a9]⟩, fun _ => by show cT S r 7 - 1 = mA M 14 r - 1; rw [l7], fun q => absurd (s2'.symm.trans q) n23, fun _ => by show cT S r 8 - 1 = mA M 15 r - 1; rw [q8]⟩
/-- what runs goes to the end of its queue -/
theorem R_stand {u : Nat} (hX : RelX tau u S M) (ha : aR S M) (uN : u < 16) (hq : ∀ l, l < 6 → ub 16 (mA M 21 l)) {x : Int32} (hx : ix x x.toNatClampNeg 6) (h5 : cT S u 5 = x) (h0 : cT S u 0 = nI u) (hz : ub 15 (mA M 21 x.toNatClampNeg)) (h10 : mO M 10 = -1) (ht : ∀ (c : Nat → Int32) (m : Nat → Nat → Int32), (∀ j, c j = if j = 4 then 1 else cT S u j) → (∀ b j, m b j = if b = 11 then 1 else mV M u b j) → tR tau u c (cB S u) m) : Rel tau (sN (F_X2_standAtEnd S u) none) (F_X3_toEnd M x (nI u)) := by
  obtain ⟨v1, v2, v3, v4, v5⟩ := stand_T hx h5 h0
  refine RelX.rel (X_sN (X_stand hX uN hq hx h5 h0 hz)) (aR_same ha (fun j _ => v3 j) v4 (fun k => toEnd_o 22 k (by decide)) (fun k => toEnd_o 23 k (by decide))) (Or.inl ⟨rfl, by rw [toEnd_O]; exact h10⟩) ?_
  show tR tau u (cT (F_X2_standAtEnd S u) u) (cB (F_X2_standAtEnd S u) u) _
  rw [v2]
  exact ht _ _ v1 (mV_toEnd_at (nI_clamp (by omega)))
end RS3
