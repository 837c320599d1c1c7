/-- all of process u's and of what is counted apart -/
def RelX (tau : Int32) (u : Nat) (S : Cs) (M : Ms) : Prop := gR S M ∧ lR S M ∧ qR S M ∧ ∀ i, i < 16 → i ≠ u → tR tau i (cT S i) (cB S i) (mV M i)
section RX
variable {tau : Int32} {u : Nat} {S : Cs} {M : Ms}
theorem Rel.x (h : Rel tau S M) (u : Nat) : RelX tau u S M := ⟨h.1, h.2.2.1, h.2.2.2.2.1, fun i hi _ => h.2.2.2.2.2 i hi⟩
theorem RelX.rel (h : RelX tau u S M) (ha : aR S M) (hn : nR S M) (ht : tR tau u (cT S u) (cB S u) (mV M u)) : Rel tau S M := ⟨h.1, ha, h.2.1, hn, h.2.2.1, fun i hi => by
  by_cases e : i = u
  · subst e; exact ht
  · exact h.2.2.2 i hi e⟩
theorem cT_ne {i j : Nat} {v : Int32} (h : i ≠ u) : cT (sT S u j v) i = cT S i := by funext k; rw [cT_sT, if_neg (fun q => h q.2)]
theorem cT_at {j : Nat} {v : Int32} (k : Nat) : cT (sT S u j v) u k = if k = j then v else cT S u k := by
  rw [cT_sT]
  by_cases e : k = j
  · rw [if_pos ⟨e, rfl⟩, if_pos e]
  · rw [if_neg (fun q => e q.1), if_neg e]
theorem X_sT (h : RelX tau u S M) {j : Nat} {v : Int32} : RelX tau u (sT S u j v) M := ⟨h.1, h.2.1, h.2.2.1, fun i hi hne => by rw [cT_ne hne]; exact h.2.2.2 i hi hne⟩
theorem X_mQ (h : RelX tau u S M) {a : Nat} {v : Int32} (ha : a ≠ 8 ∧ a ≠ 19 ∧ a ≠ 2 ∧ a ≠ 3 ∧ a < 20) : RelX tau u S (mQ M a u v) := by
  refine ⟨h.1, fun l hl => ?_, fun l hl => ?_, fun i hi hne => by rw [mV_ne ⟨ha.1, ha.2.1⟩ hne]; exact h.2.2.2 i hi hne⟩
  · rw [mA_ne _ _ _ _ (Ne.symm ha.2.2.1), mA_ne _ _ _ _ (Ne.symm ha.2.2.2.1)]; exact h.2.1 l hl
  · unfold sZ
    rw [mA_ne _ _ _ _ (by omega : (21 : Nat) ≠ a)]
    refine ⟨(h.2.2.1 l hl).1, fun k hk => ?_⟩
    rw [mA_ne _ _ _ _ (by omega : (20 : Nat) ≠ a)]
    exact (h.2.2.1 l hl).2 k hk
theorem X_c (h : RelX tau u S M) {c : Nat} {v : Int32} (hc : c < 10) : RelX tau u S (mQ M 19 (10 * u + c) v) := ⟨h.1, h.2.1, h.2.2.1, fun i hi hne => by rw [mV_c hc hne]; exact h.2.2.2 i hi hne⟩
theorem X_a (h : RelX tau u S M) {a k : Nat} {v : Int32} (ha : a = 22 ∨ a = 23) : RelX tau u S (mQ M a k v) := by
  refine ⟨h.1, fun l hl => ?_, fun l hl => ?_, fun i hi hne => by rw [mV_row (by omega)]; exact h.2.2.2 i hi hne⟩
  · rw [mA_ne _ _ _ _ (by omega), mA_ne _ _ _ _ (by omega)]; exact h.2.1 l hl
  · unfold sZ
    rw [mA_ne _ _ _ _ (by omega : (21 : Nat) ≠ a)]
    refine ⟨(h.2.2.1 l hl).1, fun k2 hk => ?_⟩
    rw [mA_ne _ _ _ _ (by omega : (20 : Nat) ≠ a)]
    exact (h.2.2.1 l hl).2 k2 hk
theorem X_sO (h : RelX tau u S M) {j : Nat} {v : Int32} (hj : 8 ≤ j) : RelX tau u (sO S j v) M := by
  obtain ⟨⟨g1, g2, g3, g4, g5⟩, h2, h3, h4⟩ := h
  have e : ∀ k, k < 8 → cO (sO S j v) k = cO S k := fun k hk => by rw [cO_sO, if_neg (by omega)]
  exact ⟨⟨by rw [e 3 (by omega)]; exact g1, by rw [e 4 (by omega)]; exact g2, by rw [e 5 (by omega)]; exact g3, by rw [e 6 (by omega)]; exact g4, by rw [e 5 (by omega)]; exact g5⟩, h2, h3, h4⟩
theorem X_r (h : RelX tau u S M) {o : Option Nat} {v : Int32} : RelX tau u (sN S o) (mP M 10 v) := h
theorem X_sW (h : RelX tau u S M) {k : Nat} {v : Int32} : RelX tau u (sW S k v) M := h
theorem X_sN (h : RelX tau u S M) {o : Option Nat} : RelX tau u (sN S o) M := h
theorem X_mP (h : RelX tau u S M) {v : Int32} : RelX tau u S (mP M 10 v) := h
theorem X_nq {S' : Cs} (h : RelX tau u S M) {M' : Ms} (hn : nq S S') (hO : ∀ j, mO M' j = mO M j) (hl : ∀ l, mA M' 2 l = mA M 2 l ∧ mA M' 3 l = mA M 3 l) (hq : qR S' M') (hv : ∀ i, i ≠ u → mV M' i = mV M i) : RelX tau u S' M' := by
  obtain ⟨n1, n2, n3, n4, n5, n6⟩ := hn
  obtain ⟨⟨g1, g2, g3, g4, g5⟩, h2, h3, h4⟩ := h
  refine ⟨⟨by rw [n1, hO]; exact g1, by rw [n1, hO]; exact g2, by rw [n1, hO]; exact g3, by rw [n1, hO]; exact g4, by rw [n1]; exact g5⟩, fun l hl6 => ?_, hq, fun i hi hne => by rw [n2, n3, hv i hne]; exact h4 i hi hne⟩
  rw [n6 l 0 (by decide), n6 l 1 (by decide), (hl l).1, (hl l).2]
  exact h2 l hl6
/-! the model's moves, by process -/
theorem mV_toEnd_ne {x y : Int32} {i : Nat} (hy : y.toNatClampNeg = u) (hne : i ≠ u) : mV (F_X3_toEnd M x y) i = mV M i := by
  unfold F_X3_toEnd
  dsimp only
  rw [hy, mV_ne (by decide) hne, mV_row (by decide), mV_row (by decide)]
theorem mV_toEnd_at {x y : Int32} (hy : y.toNatClampNeg = u) (b j : Nat) : mV (F_X3_toEnd M x y) u b j = if b = 11 then 1 else mV M u b j := by
  unfold F_X3_toEnd
  dsimp only
  rw [hy, mV_at (by decide), mV_row (by decide), mV_row (by decide)]
theorem mV_sh {x y : Int32} (n : Nat) (Z : Ms) (i : Nat) : mV (itd (B_X3_toFront_7 x y) n Z) i = mV Z i := itd_ind (P := fun Z2 => mV Z2 i = mV Z i) n Z rfl (fun k Z2 _ h => by unfold B_X3_toFront_7; dsimp only; rw [mV_row (by decide)]; exact h)
theorem mV_toFront_ne {x y : Int32} {i : Nat} (hy : y.toNatClampNeg = u) (hne : i ≠ u) : mV (F_X3_toFront M x y) i = mV M i := by
  unfold F_X3_toFront
  dsimp only
  rw [hy, mV_ne (by decide) hne, mV_row (by decide), mV_row (by decide), mV_sh]
theorem mV_toFront_at {x y : Int32} (hy : y.toNatClampNeg = u) (b j : Nat) : mV (F_X3_toFront M x y) u b j = if b = 11 then 1 else mV M u b j := by
  unfold F_X3_toFront
  dsimp only
  rw [hy, mV_at (by decide), mV_row (by decide), mV_row (by decide), mV_sh]
theorem mV_take {x : Int32} (i : Nat) : mV (F_X3_takeFirst M x).1 i = mV M i := by
  unfold F_X3_takeFirst
  dsimp only
  rw [itr_ind (P := fun Z2 => mV Z2 i = mV (mQ M 21 x.toNatClampNeg (mA M 21 x.toNatClampNeg - 1)) i) _ _ _ rfl (fun k Z2 _ _ h => by unfold B_X3_takeFirst_22; dsimp only; rw [mV_row (by decide)]; exact h), mV_row (by decide)]
theorem mV_end_ne {y w : Int32} {i : Nat} (hy : y.toNatClampNeg = u) (hne : i ≠ u) : mV (F_X3_end M y w) i = mV M i := by
  unfold F_X3_end
  dsimp only
  rw [hy, mV_row (by decide), mV_c (by decide) hne, mV_ne (by decide) hne]
theorem mV_end_at {y w : Int32} (hy : y.toNatClampNeg = u) (b j : Nat) : mV (F_X3_end M y w) u b j = if b = 19 ∧ j % 10 = 6 then w else if b = 11 then 4 else mV M u b j := by
  unfold F_X3_end
  dsimp only
  rw [hy, mV_row (by decide), mV_cat (by decide), mV_at (by decide)]
/-! to the end of a queue; ended -/
theorem stand_eq {l : Nat} {x : Int32} (hx : ix x l 6) (h5 : cT S u 5 = x) (h0 : cT S u 0 = nI u) : F_X2_standAtEnd S u = F_X0_addLast (sT S u 4 1) l (nI u) := by
  unfold F_X2_standAtEnd
  dsimp only
  rw [cT_at, cT_at, if_neg (by decide), if_neg (by decide), h5, h0, hx.2.1]
theorem X_stand (h : RelX tau u S M) (hu : u < 16) (hq16 : ∀ l, l < 6 → ub 16 (mA M 21 l)) {l : Nat} {x : Int32} (hx : ix x l 6) (h5 : cT S u 5 = x) (h0 : cT S u 0 = nI u) (hz : ub 15 (mA M 21 l)) : RelX tau u (F_X2_standAtEnd S u) (F_X3_toEnd M x (nI u)) := by
  rw [stand_eq hx h5 h0]
  have h1 : RelX tau u (sT S u 4 1) M := X_sT h
  exact X_nq h1 nq_addLast (fun j => toEnd_O j) (fun l => ⟨toEnd_o 2 l (by decide), toEnd_o 3 l (by decide)⟩) (qR_end h1.2.2.1 hq16 hx hz) (fun i hne => mV_toEnd_ne (nI_clamp (by omega)) hne)
theorem stand_T {l : Nat} {x : Int32} (hx : ix x l 6) (h5 : cT S u 5 = x) (h0 : cT S u 0 = nI u) : (∀ j, cT (F_X2_standAtEnd S u) u j = if j = 4 then 1 else cT S u j) ∧ cB (F_X2_standAtEnd S u) u = cB S u ∧ (∀ j, cO (F_X2_standAtEnd S u) j = cO S j) ∧ (∀ k, cW (F_X2_standAtEnd S u) k = cW S k) ∧ cN (F_X2_standAtEnd S u) = cN S := by
  rw [stand_eq hx h5 h0]
  obtain ⟨n1, n2, n3, n4, n5, n6⟩ := nq_addLast (S := sT S u 4 1) (l := l) (v := nI u)
  refine ⟨fun j => by rw [n2, cT_at], by rw [n3]; rfl, fun j => by rw [n1]; rfl, fun k => by rw [n4]; rfl, by rw [n5]; rfl⟩
theorem X_end (h : RelX tau u S M) (hu : u < 16) {w : Int32} : RelX tau u (F_X2_endTask S u w) (F_X3_end M (nI u) w) := by
  unfold F_X2_endTask F_X3_end
  dsimp only
  rw [nI_clamp (by omega)]
  exact X_a (X_c (X_mQ (X_sO (X_sT (X_sT h)) (by decide)) (by decide)) (by decide)) (by decide)
theorem end_T {w : Int32} : (∀ j, cT (F_X2_endTask S u w) u j = if j = 15 then w else if j = 4 then 4 else cT S u j) ∧ cB (F_X2_endTask S u w) u = cB S u := by
  unfold F_X2_endTask
  dsimp only
  refine ⟨fun j => ?_, rfl⟩
  rw [cT_sO, cT_at, cT_at]
theorem aR_end (h : aR S M) {w y : Int32} : aR (F_X2_endTask S u w) (F_X3_end M y w) := by
  obtain ⟨a1, a2, a3, a4, a5⟩ := h
  unfold F_X2_endTask F_X3_end
  dsimp only
  refine ⟨?_, ?_, ?_, ?_, fun k hk => ?_⟩
  · rw [cO_sO, if_neg (by decide), mA_nk _ _ _ _ (by decide), mA_ne _ _ _ _ (by decide), mA_ne _ _ _ _ (by decide)]; exact a1
  · rw [cO_sO, if_neg (by decide), mA_nk _ _ _ _ (by decide), mA_ne _ _ _ _ (by decide), mA_ne _ _ _ _ (by decide)]; exact a2
  · rw [cO_sO, if_neg (by decide), mA_nk _ _ _ _ (by decide), mA_ne _ _ _ _ (by decide), mA_ne _ _ _ _ (by decide)]; exact a3
  · rw [cO_sO, if_pos rfl, mA_eq, mA_ne _ _ _ _ (by decide), mA_ne _ _ _ _ (by decide)]
    show cO S 11 + 1 = _
    rw [a4]
  · rw [mA_ne _ _ _ _ (by decide), mA_ne _ _ _ _ (by decide), mA_ne _ _ _ _ (by decide)]; exact a5 k hk
/-- what is counted of all stays, if its places do -/
theorem aR_same {S' : Cs} {M' : Ms} (h : aR S M) (h8 : ∀ j, 8 ≤ j → cO S' j = cO S j) (hw : ∀ k, cW S' k = cW S k) (h22 : ∀ k, mA M' 22 k = mA M 22 k) (h23 : ∀ k, mA M' 23 k = mA M 23 k) : aR S' M' := by
  obtain ⟨a1, a2, a3, a4, a5⟩ := h
  exact ⟨by rw [h8 8 (by omega), h22]; exact a1, by rw [h8 9 (by omega), h22]; exact a2, by rw [h8 10 (by omega), h22]; exact a3, by rw [h8 11 (by omega), h22]; exact a4, fun k hk => by rw [hw, h23]; exact a5 k hk⟩
theorem nR_same {S' : Cs} {M' : Ms} (h : nR S M) (hn : cN S' = cN S) (hO : mO M' 10 = mO M 10) : nR S' M' := by
  unfold nR
  rw [hn, hO]; exact h
end RX
