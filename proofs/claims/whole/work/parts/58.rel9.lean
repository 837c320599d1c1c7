section RS7
variable {tau : Int32} {S : Cs} {M : Ms} {N L b : Nat}
/-- makeWay, and the switch if nobody runs then -/
def cch (S : Cs) : Cs := if cN (F_X2_makeWay S) = none then F_X2_switchToFirst (F_X2_makeWay S) else F_X2_makeWay S
def mkw (S : Cs) (r : Nat) : Cs := sN (F_X0_addFirst (sT (sT (sT S r 4 1) r 10 1) r 18 (cT S r 18 + 1)) (cT S r 5).toNatClampNeg (cT S r 0)) none
theorem mkw_eq {r : Nat} (hn : cN S = some r) (h1 : (F_X2_isOneReadyAbove S (cT S r 5)).2 = 1) : F_X2_makeWay S = mkw S r := by
  have hI : cI S = r := by unfold cI; rw [hn]; rfl
  have hI2 : ∀ j v k w l z, cI (sT (sT (sT S j v z) k w l) 0 0 0) = r := fun _ _ _ _ _ _ => hI
  unfold F_X2_makeWay
  rw [if_neg (by rw [hn]; exact Option.some_ne_none r), hI]
  dsimp only
  rw [isOne_fst, h1, if_neg (by decide), hI]
  show sN (F_X0_addFirst (sT (sT (sT S r 4 1) (cI S) 10 1) (cI S) 18 (cT (sT (sT S r 4 1) (cI S) 10 1) (cI S) 18 + 1)) (cT (sT (sT (sT S r 4 1) (cI S) 10 1) (cI S) 18 (cT (sT (sT S r 4 1) (cI S) 10 1) (cI S) 18 + 1)) (cI S) 5).toNatClampNeg (cT (sT (sT (sT S r 4 1) (cI S) 10 1) (cI S) 18 (cT (sT (sT S r 4 1) (cI S) 10 1) (cI S) 18 + 1)) (cI S) 0)) none = _
  rw [hI]
  simp only [cT_at]
  rfl
theorem R_front (h : Rel tau S M) (ho : okM N L b M) (hr : ¬ mO M 10 < 0) {r : Nat} (hn : cN S = some r) (r16 : r < 16) (r10 : mO M 10 = nI r) : Rel tau (mkw S r) (frt M) := by
  have rc : (mO M 10).toNatClampNeg = r := by rw [r10, nI_clamp (by omega)]
  have s2 := okM_rs ho hr
  have rN := okM_rN ho hr
  rw [rc] at s2 rN
  have hX := h.x r
  obtain ⟨t0, t1, t3, tb, t4, t5, t10, tc, tf, tz, ta, tl, tu, tq⟩ := h.2.2.2.2.2 r r16
  have t4' := t4
  have t5' := t5
  rw [mV_p 0 (by decide)] at t4' t5'
  have s2' : cT S r 4 = 2 := t4'.trans s2
  obtain ⟨a6, a9⟩ := ta (Or.inr (Or.inl s2'))
  have l7 := tl (Or.inr s2')
  have q8 := tq (Or.inl s2')
  have k9 := tc.2.2.2.2.2.2.2
  rw [mV_19 (by decide)] at k9
  have hlx := okM_lx ho r16
  have hz := okM_15 ho rN (ne21 s2) hlx
  have hf : frt M = mP (F_X3_toFront (mQ (mQ M 17 r 1) 19 (10 * r + 9) (mA M 19 (10 * r + 9) + 1)) (mA M 12 r) (nI r)) 10 (-1) := by unfold frt; rw [rc, r10]
  rw [hf]
  unfold mkw
  rw [t5', t0]
  obtain ⟨n1, n2, n3, n4, n5, n6⟩ := nq_addFirst (S := sT (sT (sT S r 4 1) r 10 1) r 18 (cT S r 18 + 1)) (l := (mA M 12 r).toNatClampNeg) (v := nI r)
  have hX1 : RelX tau r (sT (sT (sT S r 4 1) r 10 1) r 18 (cT S r 18 + 1)) (mQ (mQ M 17 r 1) 19 (10 * r + 9) (mA M 19 (10 * r + 9) + 1)) := X_c (X_mQ (X_sT (X_sT (X_sT hX))) (by decide)) (by decide)
  have hX2 : RelX tau r (F_X0_addFirst (sT (sT (sT S r 4 1) r 10 1) r 18 (cT S r 18 + 1)) (mA M 12 r).toNatClampNeg (nI r)) (F_X3_toFront (mQ (mQ M 17 r 1) 19 (10 * r + 9) (mA M 19 (10 * r + 9) + 1)) (mA M 12 r) (nI r)) :=
    X_nq hX1 nq_addFirst (fun j => toFront_O j) (fun l => ⟨toFront_o 2 l (by decide), toFront_o 3 l (by decide)⟩) (qR_front hX1.2.2.1 (okM_q ho).1 hlx hz) (fun i hne => mV_toFront_ne (nI_clamp (by omega)) hne)
  refine RelX.rel (X_r hX2) (aR_same h.2.1 (fun j _ => by show cO (F_X0_addFirst _ _ _) j = _; rw [n1]; rfl) (fun k => by show cW (F_X0_addFirst _ _ _) k = _; rw [n4]; rfl) (fun k => by show mA (F_X3_toFront _ _ _) 22 k = _; rw [toFront_o 22 k (by decide)]; rfl) (fun k => by show mA (F_X3_toFront _ _ _) 23 k = _; rw [toFront_o 23 k (by decide)]; rfl)) (Or.inl ⟨rfl, rfl⟩) ?_
  have hm := mV_toFront_at (M := mQ (mQ M 17 r 1) 19 (10 * r + 9) (mA M 19 (10 * r + 9) + 1)) (x := mA M 12 r) (y := nI r) (u := r) (nI_clamp (by omega))
  have hm2 : ∀ b j, mV (mQ (mQ M 17 r 1) 19 (10 * r + 9) (mA M 19 (10 * r + 9) + 1)) r b j = if b = 19 ∧ j % 10 = 9 then mA M 19 (10 * r + 9) + 1 else if b = 17 then 1 else mV M r b j := fun b j => by rw [mV_cat (by decide), mV_at (by decide)]
  show tR tau r (cT (F_X0_addFirst _ _ _) r) (cB (F_X0_addFirst _ _ _) r) (mV (F_X3_toFront _ _ _) r)
  rw [n2, n3]
  show tR tau r _ (cB S r) _
  unfold tR
  simp only [hm, hm2, cT_at]
  exact ⟨t0, t1, t3, tb, rfl, t5, rfl, ⟨tc.1, tc.2.1, tc.2.2.1, tc.2.2.2.1, tc.2.2.2.2.1, tc.2.2.2.2.2.1, tc.2.2.2.2.2.2.1, by show cT S r 18 + 1 = mA M 19 (10 * r + 9) + 1; rw [k9]⟩, tf, fun q => absurd q n10, fun _ => ⟨a6, a9⟩, fun _ => l7, fun q => absurd q n13, fun _ => q8⟩
theorem frt_z (ho : okM N L b M) (hr : ¬ mO M 10 < 0) {j : Nat} (hj : j < 6) (hne : j ≠ (mA M 12 (mO M 10).toNatClampNeg).toNatClampNeg) : sZ (frt M) j = sZ M j := by
  have hx := okM_lx ho (okM_rx ho hr).2.2
  show (mA (F_X3_toFront _ _ _) 21 j).toNatClampNeg = _
  rw [toFront_21 hx (by exact (okM_q ho).1 _ hx.2.2), if_neg hne]
  rfl
theorem R_choose {x : Int32} (h : Rel tau S M) (ho : okM N L b M) (hT : mO M 9 = x) (hx0 : ¬ x < 0) : Rel tau (cch S) (F_X3_choose M x) := by
  have hL6 := ho.2.2.2.2.1
  have hN16 := ho.2.2.1
  have hq16 := (okM_q ho).1
  have hqR := h.2.2.2.2.1
  have hp := fl2 ho
  rw [choose_eq]
  rcases h.2.2.2.1 with ⟨hn, hm⟩ | ⟨r, r16, hn, r10⟩
  · have e : F_X2_makeWay S = S := by unfold F_X2_makeWay; rw [if_pos hn]
    unfold cch
    rw [e, if_pos hn, if_pos (by rw [hm]; decide)]
    exact R_first h ho hn hm hT hx0 hp
  · have hr : ¬ mO M 10 < 0 := by rw [r10]; exact nI_pos (by omega)
    have rc : (mO M 10).toNatClampNeg = r := by rw [r10, nI_clamp (by omega)]
    have t5 := (h.2.2.2.2.2 r r16).2.2.2.2.2.1
    rw [mV_p 0 (by decide)] at t5
    obtain ⟨v, hv, hv2⟩ := (okM_u ho r16).1
    have hne : ¬ cN S = none := by rw [hn]; exact Option.some_ne_none r
    rw [if_neg hr, rc]
    have hone : F_X2_isOneReadyAbove S (cT S r 5) = L_X2_isOneReadyAbove_2 (cT S r 5) v 0 S := by
      unfold F_X2_isOneReadyAbove
      rw [t5, hv2, nI_clamp (by omega)]
    have stay : (∀ i, i < v → sZ M i = 0) → cch S = S := fun hz => by
      have h0 : (F_X2_isOneReadyAbove S (cT S r 5)).2 = 0 := by
        rw [hone]
        exact (isOne_sp _ v 0 S).1 (fun i _ hi => ((qR_le hqR hq16 (by omega)).1 (hz i (by omega))).2)
      have e : F_X2_makeWay S = S := by
        have hI : cI S = r := by unfold cI; rw [hn]; rfl
        unfold F_X2_makeWay
        rw [if_neg hne, hI]
        dsimp only
        rw [h0, if_pos rfl, isOne_fst]
      unfold cch
      rw [e, if_neg hne]
    have mstay : ∀ p8 : Int32, G_X3_choose_80 M x p8 = M := fun p8 => by
      unfold G_X3_choose_80
      exact if_pos (by rw [r10]; exact nI_pos' (by omega))
    rcases hp with ⟨hp, hz⟩ | ⟨j, hjL, hp, hj0, hz⟩
    · rw [hp, if_pos (by decide), mstay, stay (fun i hi => hz i (by omega))]
      exact h
    · rw [hp, if_neg (nI_pos (by omega)), hv2]
      by_cases c : v ≤ j
      · rw [if_pos (nI_le c (by omega)), mstay, stay (fun i hi => hz i (by omega))]
        exact h
      · rw [if_neg (nI_ge (by omega) (by omega))]
        have h1 : (F_X2_isOneReadyAbove S (cT S r 5)).2 = 1 := by
          rw [hone]
          exact (isOne_sp _ v 0 S).2 ⟨j, by omega, by omega, (qR_le hqR hq16 (by omega)).2 hj0⟩
        have e := mkw_eq hn h1
        have hF := R_front h ho hr hn r16 r10
        obtain ⟨f1, f2⟩ := frt_ok ho hr
        have hlv : (mA M 12 (mO M 10).toNatClampNeg).toNatClampNeg = v := by rw [rc, hv2, nI_clamp (by omega)]
        unfold cch
        rw [e, if_pos (show cN (mkw S r) = none from rfl)]
        exact R_first hF f1 rfl rfl (by rw [f2.2.2]; exact hT) hx0 (Or.inr ⟨j, hjL, rfl, by rw [frt_z ho hr (by omega) (by omega)]; exact hj0, fun i hi => by rw [frt_z ho hr (by omega) (by omega)]; exact hz i hi⟩)
end RS7
