/-- what every step of a tick keeps: nothing that is to come moves, and these words -/
def kp (M M2 : Ms) : Prop := keep0 M M2 ∧ mO M2 0 = mO M 0 ∧ mO M2 9 = mO M 9
theorem kp.rf {M : Ms} : kp M M := ⟨keep0.rf, rfl, rfl⟩
theorem kp.tr {M M2 M3 : Ms} (h : kp M M2) (h2 : kp M2 M3) : kp M M3 := ⟨h.1.tr h2.1, h2.2.1.trans h.2.1, h2.2.2.trans h.2.2⟩
theorem kp.q {M : Ms} {a k : Nat} {v : Int32} (ha : a ≠ 6 ∧ a ≠ 11) : kp M (mQ M a k v) := ⟨keep0.q ha, rfl, rfl⟩
theorem kp.q' {M M2 : Ms} (h : kp M M2) {a k : Nat} {v : Int32} (ha : a ≠ 6 ∧ a ≠ 11) : kp M (mQ M2 a k v) := h.tr (kp.q ha)
theorem kp.p {M : Ms} {j : Nat} {v : Int32} (h : j ≠ 0 ∧ j ≠ 9) : kp M (mP M j v) := ⟨keep0.p, by rw [mO_mP, if_neg (Ne.symm h.1)], by rw [mO_mP, if_neg (Ne.symm h.2)]⟩
theorem nez {x : Int32} {c : Int32} (h : x = c) (hc : ¬ c = 0 := by decide) : ¬ x = 0 := by rw [h]; exact hc
section OM5
variable {N L b : Nat} {S M0 : Ms}
theorem okM_take (h : okM N L b S) {l : Nat} {x : Int32} (hx : ix x l 6) (h0 : 0 < sZ S l) : okM N L b (F_X3_takeFirst S x).1 ∧ ∃ q, q < N ∧ (F_X3_takeFirst S x).2 = nI q ∧ mA S 11 q = 1 ∧ notin (F_X3_takeFirst S x).1 q := by
  obtain ⟨g9, gq⟩ := qOK_takeFirst (okM_q h) h.2.2.1 hx h0
  refine ⟨?_, gq⟩
  obtain ⟨g1, g2, g3, g4, g5, g6, g7, g8, -⟩ := h
  refine ⟨by rw [take_O]; exact g1, by rw [take_O]; exact g2, g3, g4, g5, by rw [take_o 22 0 (by decide)]; exact g6, fun u hu => uOK_same (g7 u hu) (take_o 12 u (by decide)) (take_o 7 u (by decide)) (take_o 11 u (by decide)) (take_o 13 u (by decide)), ?_, g9⟩
  rw [take_O]
  rcases g8 with q | ⟨r, q1, q2, q3⟩
  · exact Or.inl q
  · exact Or.inr ⟨r, q1, q2, by rw [take_o 11 r (by decide)]; exact q3⟩
theorem kp_take {x : Int32} : kp S (F_X3_takeFirst S x).1 := ⟨keep0.take, take_O 0, take_O 9⟩
theorem sz_n {t n : Nat} (hn : mA S 21 t = nI (n + 1)) (h16 : n + 1 ≤ 16) : sZ S t = n + 1 := by show (mA S 21 t).toNatClampNeg = _; rw [hn, nI_clamp (by omega)]
theorem tk_ix (h : okM N L b S) {t n : Nat} (ht : t < 6) (hn : mA S 21 t = nI (n + 1)) (h16 : n + 1 ≤ 16) : ix (F_X3_takeFirst S (nI t)).2 (F_X3_takeFirst S (nI t)).2.toNatClampNeg 16 := by
  have hN := h.2.2.1
  obtain ⟨-, q, q1, q2, -⟩ := okM_take h (ix_nI ht (by omega)) (by rw [sz_n hn h16]; omega)
  rw [q2, nI_clamp (by omega)]; exact ix_nI (by omega) (by omega)
theorem tk_15 (h : okM N L b S) {t n : Nat} {x : Int32} (ht : t < 6) (hn : mA S 21 t = nI (n + 1)) (h16 : n + 1 ≤ 16) (hx : ix x x.toNatClampNeg 6) : ub 15 (mA (F_X3_takeFirst S (nI t)).1 21 x.toNatClampNeg) := by
  obtain ⟨h1, q, q1, q2, q3, q4⟩ := okM_take h (ix_nI ht (by omega)) (by rw [sz_n hn h16]; omega)
  exact qOK_15 (okM_q h1) h.2.2.1 q1 hx.2.2 q4
theorem up20 (h : okM N L b S) {t n : Nat} (ht : t < 6) (h1 : 1 ≤ t) (hn : mA S 21 t = nI (n + 1)) (h16 : n + 1 ≤ 16) : okM N L b (B_X3_allUp_20 t n S) ∧ kp S (B_X3_allUp_20 t n S) ∧ mA (B_X3_allUp_20 t n S) 21 t = nI n ∧ mO (B_X3_allUp_20 t n S) 10 = mO S 10 := by
  have hN := h.2.2.1
  have hxt : ix (nI t) t 6 := ix_nI ht (by omega)
  have hz := sz_n hn h16
  have hx0 : ix (0 : Int32) 0 6 := ix_lit (by decide) (by omega) (by omega)
  obtain ⟨g1, q, q1, q2, q3, q4⟩ := okM_take h hxt (by rw [hz]; omega)
  have q3' : mA (F_X3_takeFirst S (nI t)).1 11 q = 1 := by rw [take_o 11 q (by decide)]; exact q3
  have hy : ix (F_X3_takeFirst S (nI t)).2 q 16 := by rw [q2]; exact ix_nI (by omega) (by omega)
  unfold B_X3_allUp_20
  dsimp only
  refine ⟨okM_toEnd g1 hx0 hy q1 q4 (okM_ab g1 (by omega) (Or.inl q3')).2 (Or.inr (by rw [q3']; decide)), kp_take.tr ⟨keep0.toEnd hy (nez q3'), rfl, rfl⟩, ?_, by rw [toEnd_O, take_O]⟩
  rw [toEnd_21 hx0 ((okM_q g1).1 0 (by omega)), if_neg (by omega), take_21 hxt ((okM_q h).1 t ht) (by rw [hz]; omega), if_pos rfl, hz]
  rfl
theorem up_cnt (h : okM N L b S) {t n : Nat} (ht : t < 6) (h1 : 1 ≤ t) (hn : mA S 21 t = nI (n + 1)) (h16 : n + 1 ≤ 16) : mA (B_X3_allUp_20 t n S) 21 t = nI n := (up20 h ht h1 hn h16).2.2.1
theorem up20s {t : Nat} (ht : t < 6) (h1 : 1 ≤ t) : ∀ (n : Nat) (Z : Ms), mA Z 21 t = nI n → n ≤ 16 → okM N L b Z → okM N L b (itd (B_X3_allUp_20 t) n Z) ∧ kp Z (itd (B_X3_allUp_20 t) n Z) ∧ mO (itd (B_X3_allUp_20 t) n Z) 10 = mO Z 10 := by
  intro n
  induction n with
  | zero => intro Z _ _ h; exact ⟨h, kp.rf, rfl⟩
  | succ n ih =>
    intro Z hn h16 h
    obtain ⟨g1, g2, g3, g4⟩ := up20 h ht h1 hn h16
    obtain ⟨k1, k2, k3⟩ := ih _ g3 (by omega) g1
    exact ⟨k1, g2.tr k2, k3.trans g4⟩
theorem up12 (h : okM N L b S) {t : Nat} (ht : t < 6) (h1 : 1 ≤ t) : okM N L b (itd (B_X3_allUp_20 t) (mA S 21 t).toNatClampNeg S) ∧ kp S (itd (B_X3_allUp_20 t) (mA S 21 t).toNatClampNeg S) ∧ mO (itd (B_X3_allUp_20 t) (mA S 21 t).toNatClampNeg S) 10 = mO S 10 := by
  have hz := (okM_q h).1 t ht
  exact up20s ht h1 _ S (ub_nI hz (by omega)) (ub_le hz (by omega)) h
theorem up12s (h : okM N L b S) (n : Nat) (hn : n ≤ 5) : okM N L b (itr B_X3_allUp_12 n 1 S) ∧ kp S (itr B_X3_allUp_12 n 1 S) ∧ mO (itr B_X3_allUp_12 n 1 S) 10 = mO S 10 :=
  itr_ind (P := fun Z => okM N L b Z ∧ kp S Z ∧ mO Z 10 = mO S 10) n 1 S ⟨h, kp.rf, rfl⟩ (fun k Z h1 h2 hZ => by
    obtain ⟨g1, g2, g3⟩ := up12 hZ.1 (t := k) (by omega) h1
    exact ⟨g1, hZ.2.1.tr g2, g3.trans hZ.2.2⟩)
theorem up50 (h : okM N L b S) (t : Nat) : okM N L b (B_X3_allUp_50 t S) ∧ kp S (B_X3_allUp_50 t S) ∧ mO (B_X3_allUp_50 t S) 10 = mO S 10 := by
  unfold B_X3_allUp_50
  dsimp only
  have g6 : okM N L b (mQ S 12 t 0) := okM_mQ12 h ⟨0, h.2.2.2.1, by decide⟩
  have g7 : ∀ v, okM N L b (mQ (mQ S 12 t 0) 16 t v) := fun v => okM_mQ g6 (by decide)
  have k7 : ∀ v, kp S (mQ (mQ S 12 t 0) 16 t v) := fun v => (kp.q (by decide)).tr (kp.q (by decide))
  repeat' split
  · exact ⟨h, kp.rf, rfl⟩
  · exact ⟨h, kp.rf, rfl⟩
  · exact ⟨g7 _, k7 _, rfl⟩
  · exact ⟨g7 _, k7 _, rfl⟩
  · exact ⟨okM_mQ (g7 _) (by decide), (k7 _).tr (kp.q (by decide)), rfl⟩
theorem up50s (h : okM N L b S) (n : Nat) : okM N L b (itr B_X3_allUp_50 n 0 S) ∧ kp S (itr B_X3_allUp_50 n 0 S) ∧ mO (itr B_X3_allUp_50 n 0 S) 10 = mO S 10 :=
  itr_ind (P := fun Z => okM N L b Z ∧ kp S Z ∧ mO Z 10 = mO S 10) n 0 S ⟨h, kp.rf, rfl⟩ (fun k Z _ _ hZ => by
    obtain ⟨g1, g2, g3⟩ := up50 hZ.1 k
    exact ⟨g1, hZ.2.1.tr g2, g3.trans hZ.2.2⟩)
theorem ok_allUp (h : okM N L b S) : okM N L b (F_X3_allUp S) ∧ kp S (F_X3_allUp S) := by
  unfold F_X3_allUp
  dsimp only
  have h1 : okM N L b (mQ S 22 2 (mA S 22 2 + 1)) := okM_mQ22 h (by decide)
  have hL := h.2.2.2.2.1
  obtain ⟨a1, a2, -⟩ := up12s h1 ((mO (mQ S 22 2 (mA S 22 2 + 1)) 1).toNatClampNeg - 1) (by rw [okM_L h1]; omega)
  obtain ⟨b1, b2, -⟩ := up50s a1 ((mO (itr B_X3_allUp_12 ((mO (mQ S 22 2 (mA S 22 2 + 1)) 1).toNatClampNeg - 1) 1 (mQ S 22 2 (mA S 22 2 + 1))) 5).toNatClampNeg)
  have kk := (kp.q (M := S) (a := 22) (k := 2) (v := mA S 22 2 + 1) (by decide)).tr (a2.tr b2)
  split
  · exact ⟨b1, kk⟩
  · exact ⟨okM_mQ b1 (by decide), kk.tr (kp.q (by decide))⟩
theorem kp_B_come {t T : Nat} {x : Int32} (j : Nat) : mO (B_X3_come_2 x t S) j = mO S j := by
  unfold B_X3_come_2
  dsimp only
  repeat' split
  all_goals rfl
theorem come_s (h : okM N L b S) {T : Nat} {x : Int32} (hT : x = nI T) (hti : tiM N T S) (hTb : T ≤ 200000) : okM N L b (F_X3_come S x) ∧ tiM N (T + 1) (F_X3_come S x) ∧ (∀ j, mO (F_X3_come S x) j = mO S j) := by
  unfold F_X3_come
  dsimp only
  rw [okM_N h]
  have key : ∀ (n t : Nat) (Z : Ms), t + n = N → okM N L b Z ∧ tiC N T t Z → okM N L b (itr (B_X3_come_2 x) n t Z) ∧ tiC N T N (itr (B_X3_come_2 x) n t Z) := by
    intro n
    induction n with
    | zero => intro t Z e hZ; have e' : t = N := by omega
              subst e'; exact hZ
    | succ n ih =>
      intro t Z e hZ
      exact ih (t + 1) _ (by omega) (come_inv hZ (by omega) hT)
  obtain ⟨k1, k2⟩ := key N 0 S (by omega) ⟨h, ti_0 hti⟩
  refine ⟨k1, fun u hu => ?_, fun j => itr_O (fun n Z j => kp_B_come (T := 0) j) _ _ _ _⟩
  obtain ⟨ar, a1, a2, -, a4⟩ := k2 u hu
  exact ⟨ar, a1, a2, a4⟩
theorem kp_B_comeBack {t : Nat} {x : Int32} (h : okM N L b S) (ht : t < 16) : kp S (B_X3_comeBack_2 x t S) ∧ mO (B_X3_comeBack_2 x t S) 10 = mO S 10 := by
  have hy : ix (nI t) t 16 := ix_nI (by omega) (by omega)
  unfold B_X3_comeBack_2
  dsimp only
  split
  · next c1 =>
    have c1' : ∀ v, ¬ mA (mQ S 13 t v) 11 t = 0 := fun v => nez c1
    split
    · split
      · exact ⟨(kp.q (by decide)).tr ⟨keep0.fin (nI_clamp (by omega)) (c1' _), rfl, rfl⟩, rfl⟩
      · exact ⟨(kp.q (by decide)).tr ((kp.q (by decide)).tr ⟨keep0.toEnd hy (c1' 0), rfl, rfl⟩), rfl⟩
    · exact ⟨kp.rf, rfl⟩
  · exact ⟨kp.rf, rfl⟩
theorem comeBack_s (h : okM N L b S) {x : Int32} : okM N L b (F_X3_comeBack S x) ∧ kp S (F_X3_comeBack S x) ∧ mO (F_X3_comeBack S x) 10 = mO S 10 := by
  unfold F_X3_comeBack
  dsimp only
  rw [okM_N h]
  have hN := h.2.2.1
  exact itr_ind (P := fun Z => okM N L b Z ∧ kp S Z ∧ mO Z 10 = mO S 10) N 0 S ⟨h, kp.rf, rfl⟩ (fun k Z _ h2 hZ => by
    obtain ⟨g2, g3⟩ := kp_B_comeBack (x := x) hZ.1 (t := k) (by omega)
    exact ⟨ok_B_comeBack hZ.1 (by omega), hZ.2.1.tr g2, g3.trans hZ.2.2⟩)
theorem count_s (h : okM N L b S) : okM N L b (F_X3_count S) ∧ kp S (F_X3_count S) ∧ mO (F_X3_count S) 10 = mO S 10 := by
  unfold F_X3_count
  dsimp only
  refine itr_ind (P := fun Z => okM N L b Z ∧ kp S Z ∧ mO Z 10 = mO S 10) _ 0 S ⟨h, kp.rf, rfl⟩ (fun k Z _ h2 hZ => ⟨ok_B_count hZ.1, hZ.2.1.tr ?_, ?_⟩)
  · unfold B_X3_count_2
    dsimp only
    repeat' split
    · exact kp.q (by decide)
    · exact kp.q (by decide)
    · exact kp.rf
  · rw [← hZ.2.2]
    unfold B_X3_count_2
    dsimp only
    repeat' split
    all_goals rfl
theorem fl_fst : ∀ (n t : Nat) (Z : Ms), (L_X3_firstLevel_2 n t Z).1 = Z := by
  intro n
  induction n with
  | zero => intro t Z; rfl
  | succ n ih => intro t Z; unfold L_X3_firstLevel_2; split; exact ih _ _; rfl
theorem fl1 (M : Ms) : (F_X3_firstLevel M).1 = M := fl_fst _ _ _
theorem fl_snd : ∀ (n t : Nat) (Z : Ms), t + n ≤ 6 → (∀ l, l < 6 → ub 16 (mA Z 21 l)) → (L_X3_firstLevel_2 n t Z).2 = -1 ∧ (∀ j, t ≤ j → j < t + n → sZ Z j = 0) ∨ ∃ j, t ≤ j ∧ j < t + n ∧ (L_X3_firstLevel_2 n t Z).2 = nI j ∧ 0 < sZ Z j ∧ ∀ i, t ≤ i → i < j → sZ Z i = 0 := by
  intro n
  induction n with
  | zero => intro t Z _ _; exact Or.inl ⟨rfl, fun j _ _ => by omega⟩
  | succ n ih =>
    intro t Z h6 hz
    have hzt := hz t (by omega)
    have e := ub_nI hzt (by omega)
    have le := ub_le hzt (by omega)
    unfold L_X3_firstLevel_2
    by_cases c : mA Z 21 t ≤ 0
    · rw [if_pos c]
      have h0 : sZ Z t = 0 := by
        rcases Nat.eq_zero_or_pos (sZ Z t) with q | q
        · exact q
        · rw [e] at c; exact absurd c (nI_nle q (by omega))
      rcases ih (t + 1) Z (by omega) hz with ⟨h1, h2⟩ | ⟨j, h1, h2, h3, h4, h5⟩
      · refine Or.inl ⟨h1, fun j a1 a2 => ?_⟩
        by_cases e2 : j = t
        · rw [e2]; exact h0
        · exact h2 j (by omega) (by omega)
      · refine Or.inr ⟨j, by omega, by omega, h3, h4, fun i a1 a2 => ?_⟩
        by_cases e2 : i = t
        · rw [e2]; exact h0
        · exact h5 i (by omega) a2
    · rw [if_neg c]
      refine Or.inr ⟨t, by omega, by omega, rfl, ?_, fun i a1 a2 => by omega⟩
      rcases Nat.eq_zero_or_pos (sZ Z t) with q | q
      · exact absurd (by rw [e, show (mA Z 21 t).toNatClampNeg = 0 from q]; decide) c
      · exact q
theorem fl2 (h : okM N L b S) : (F_X3_firstLevel S).2 = -1 ∧ (∀ j, j < L → sZ S j = 0) ∨ ∃ j, j < L ∧ (F_X3_firstLevel S).2 = nI j ∧ 0 < sZ S j ∧ ∀ i, i < j → sZ S i = 0 := by
  have hL := h.2.2.2.2.1
  unfold F_X3_firstLevel
  rw [okM_L h]
  rcases fl_snd L 0 S (by omega) (okM_q h).1 with ⟨h1, h2⟩ | ⟨j, h1, h2, h3, h4, h5⟩
  · exact Or.inl ⟨h1, fun j q => h2 j (by omega) (by omega)⟩
  · exact Or.inr ⟨j, by omega, h3, h4, fun i q => h5 i (by omega) q⟩
theorem ok_X3_firstLevel (h : okM N L b S) : okM N L b (F_X3_firstLevel S).1 := by rw [fl1]; exact h
theorem szne {M : Ms} {l : Nat} (h : 0 < sZ M l) : ¬ mA M 21 l = 0 := fun q => by
  have : (mA M 21 l).toNatClampNeg = 0 := by rw [q]; decide
  have h' : 0 < (mA M 21 l).toNatClampNeg := h
  omega
theorem fl_h8 (h : okM N L b S) (h0 : 0 ≤ (F_X3_firstLevel S).2) : ix (F_X3_firstLevel S).2 (F_X3_firstLevel S).2.toNatClampNeg 6 ∧ ¬ mA (F_X3_firstLevel S).1 21 (F_X3_firstLevel S).2.toNatClampNeg = 0 := by
  have hL := h.2.2.2.2.1
  rw [fl1]
  rcases fl2 h with ⟨q, -⟩ | ⟨j, j1, j2, j3, -⟩
  · rw [q] at h0; exact absurd h0 (by decide)
  · rw [j2, nI_clamp (by omega)]; exact ⟨ix_nI (by omega) (by omega), szne j3⟩
theorem front_n {x y p8 : Int32} {l l8 : Nat} (hx : ix x l 6) (hz : ub 16 (mA S 21 l)) (h8 : ix p8 l8 6) (hlt : ¬ x ≤ p8) : mA (F_X3_toFront S x y) 21 p8.toNatClampNeg = mA S 21 p8.toNatClampNeg := by
  have e1 := hx.nI
  have e2 := h8.nI
  rw [toFront_21 hx hz, if_neg]
  rw [h8.2.1]
  intro q
  apply hlt
  rw [e1, e2, q]
  exact Int32.le_refl _
theorem ch_9 {Y : Ms} {p8 : Int32} (h : okM N L b Y) (h8 : 0 ≤ p8 → ix p8 p8.toNatClampNeg 6 ∧ ¬ mA Y 21 p8.toNatClampNeg = 0) (hc : 0 ≤ p8) : ix (F_X3_takeFirst Y p8).2 (F_X3_takeFirst Y p8).2.toNatClampNeg 16 ∧ (∃ v, v < 6 ∧ mA (mP (F_X3_takeFirst Y p8).1 10 (F_X3_takeFirst Y p8).2) 12 (F_X3_takeFirst Y p8).2.toNatClampNeg = nI v) ∧ ub b (mA (mP (F_X3_takeFirst Y p8).1 10 (F_X3_takeFirst Y p8).2) 22 0) := by
  obtain ⟨h1, h2⟩ := h8 hc
  have hN := h.2.2.1
  have hL := h.2.2.2.2.1
  have hz := (okM_q h).1 _ h1.2.2
  have h0 : 0 < sZ Y p8.toNatClampNeg := by
    rcases Nat.eq_zero_or_pos (sZ Y p8.toNatClampNeg) with q | q
    · exact absurd (by rw [ub_nI hz (by omega), show (mA Y 21 p8.toNatClampNeg).toNatClampNeg = 0 from q]; decide) h2
    · exact q
  obtain ⟨g1, q, q1, q2, q3, q4⟩ := okM_take h h1 h0
  obtain ⟨v, v1, v2⟩ := (okM_u g1 (u := q) (by omega)).1
  rw [q2, nI_clamp (by omega)]
  exact ⟨ix_nI (by omega) (by omega), ⟨v, by omega, v2⟩, g1.2.2.2.2.2.1⟩
end OM5
