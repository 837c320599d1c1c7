section OM6
variable {N L b : Nat} {S M2 : Ms}
theorem qOK_st (h : qOK N S) (hN : N ≤ 16) {u : Nat} (hn : notin S u) (h20 : ∀ k, mA M2 20 k = mA S 20 k) (h21 : ∀ k, mA M2 21 k = mA S 21 k) (h11 : ∀ i, i ≠ u → mA M2 11 i = mA S 11 i) : qOK N M2 := by
  have h21' : ∀ l, sZ M2 l = sZ S l := fun l => by unfold sZ; rw [h21]
  refine ⟨fun l hl => by rw [h21]; exact h.1 l hl, fun l k hl hk => ?_, fun l k l2 k2 hl hl2 hk hk2 e => ?_⟩
  · rw [h21'] at hk
    obtain ⟨q, q1, q2, q3⟩ := h.2.1 l k hl hk
    have hne : q ≠ u := fun e => hn l k hl hk (by rw [q2, e])
    exact ⟨q, q1, by rw [h20]; exact q2, by rw [h11 q hne]; exact q3⟩
  · rw [h20, h20] at e
    rw [h21'] at hk hk2
    exact h.2.2 l k l2 k2 hl hl2 hk hk2 e
theorem okM_mono (h : okM N L b S) {b2 : Nat} (hb : b ≤ b2) : okM N L b2 S := by
  obtain ⟨g1, g2, g3, g4, g5, ⟨z, g6, g6'⟩, g7, g8, g9⟩ := h
  exact ⟨g1, g2, g3, g4, g5, ⟨z, by omega, g6'⟩, g7, g8, g9⟩
theorem okM_220 (h : okM N L b S) : okM N L (b + 1) (mQ S 22 0 (mA S 22 0 + 1)) := by
  obtain ⟨g1, g2, g3, g4, g5, ⟨z, g6, g6'⟩, g7, g8, g9⟩ := h
  exact ⟨g1, g2, g3, g4, g5, ⟨z + 1, by omega, by rw [mA_eq, g6', nI_1]⟩, g7, g8, g9⟩
theorem ch208 (h : okM N L b S) (x y : Int32) : okM N L (b + 1) (G_X3_choose_208 S x y) ∧ kp S (G_X3_choose_208 S x y) ∧ mO (G_X3_choose_208 S x y) 10 = mO S 10 := by
  unfold G_X3_choose_208
  dsimp only
  split
  · exact ⟨okM_220 h, kp.q (by decide), rfl⟩
  · exact ⟨okM_220 (okM_mQ h (by decide)), (kp.q (by decide)).tr (kp.q (by decide)), rfl⟩
theorem ch145 (h : okM N L b S) (x y : Int32) : okM N L (b + 1) (G_X3_choose_145 S x y) ∧ kp S (G_X3_choose_145 S x y) ∧ mO (G_X3_choose_145 S x y) 10 = mO S 10 := by
  have g : ∀ c d e f, okM N L b (mQ (mQ (mQ S 17 y.toNatClampNeg 0) 19 c d) 19 e f) := fun c d e f => okM_mQ (okM_mQ (okM_mQ h (by decide)) (by decide)) (by decide)
  have k : ∀ c d e f, kp S (mQ (mQ (mQ S 17 y.toNatClampNeg 0) 19 c d) 19 e f) := fun c d e f => (kp.q (by decide)).tr ((kp.q (by decide)).tr (kp.q (by decide)))
  unfold G_X3_choose_145
  dsimp only
  split
  · obtain ⟨a1, a2, a3⟩ := ch208 (g _ _ _ _) x y
    exact ⟨a1, (k _ _ _ _).tr a2, a3⟩
  · obtain ⟨a1, a2, a3⟩ := ch208 (g _ _ _ _) x y
    exact ⟨a1, (k _ _ _ _).tr a2, a3⟩
theorem sz_pos (h : okM N L b S) {l : Nat} (hl : l < 6) (h2 : ¬ mA S 21 l = 0) : 0 < sZ S l := by
  have hz := (okM_q h).1 l hl
  rcases Nat.eq_zero_or_pos (sZ S l) with q | q
  · exact absurd (by rw [ub_nI hz (by omega), show (mA S 21 l).toNatClampNeg = 0 from q]; decide) h2
  · exact q
theorem ch103 (h : okM N L b S) (x : Int32) {p8 : Int32} (h1 : ix p8 p8.toNatClampNeg 6) (h2 : ¬ mA S 21 p8.toNatClampNeg = 0) : okM N L (b + 1) (G_X3_choose_103 (mP (F_X3_takeFirst S p8).1 10 (F_X3_takeFirst S p8).2) x (F_X3_takeFirst S p8).2) ∧ kp S (G_X3_choose_103 (mP (F_X3_takeFirst S p8).1 10 (F_X3_takeFirst S p8).2) x (F_X3_takeFirst S p8).2) := by
  have hN := h.2.2.1
  obtain ⟨g1, q, q1, q2, q3, q4⟩ := okM_take h h1 (sz_pos h h1.2.2 h2)
  have q3' : mA (F_X3_takeFirst S p8).1 11 q = 1 := by rw [take_o 11 q (by decide)]; exact q3
  have kt : kp S (F_X3_takeFirst S p8).1 := kp_take
  rw [q2]
  generalize (F_X3_takeFirst S p8).1 = T at *
  have hab := (okM_ab g1 (u := q) (by omega) (Or.inl q3')).2
  have g := okM_u g1 (u := q) (by omega)
  have hq : (nI q).toNatClampNeg = q := nI_clamp (by omega)
  have o8 : okM N L b (mQ (mP T 10 (nI q)) 11 q 2) := by
    refine okM_one g1 (u := q) rfl rfl g1.2.2.2.2.2.1 ?_ (fun i _ hne => ⟨rfl, rfl, by rw [mA_nk _ _ _ _ hne]; rfl, rfl⟩) (Or.inr ⟨q, q1, rfl, mA_eq _ _ _ _⟩) (qOK_st (okM_q g1) hN q4 (fun _ => rfl) (fun _ => rfl) (fun i hne => by rw [mA_nk _ _ _ _ hne]; rfl))
    refine ⟨g.1, g.2.1, fun z => ?_, Or.inr (Or.inr ⟨Or.inr (Or.inl (mA_eq _ _ _ _)), q1, hab⟩)⟩
    rw [mA_eq] at z; exact absurd z (by decide)
  have k8 : kp S (mQ (mP T 10 (nI q)) 11 q 2) := kt.tr ((kp.p (by decide)).tr ⟨keep0.s11 (by have z : mA T 11 q = 1 := q3'; exact nez z), rfl, rfl⟩)
  unfold G_X3_choose_103
  dsimp only
  rw [hq]
  split
  · obtain ⟨a1, a2, -⟩ := ch145 (S := mQ (mQ (mP T 10 (nI q)) 11 q 2) 15 q _) (okM_mQ o8 (by decide)) x (nI q)
    exact ⟨a1, k8.tr ((kp.q (by decide)).tr a2)⟩
  · obtain ⟨a1, a2, -⟩ := ch145 (S := mQ (mQ (mP T 10 (nI q)) 11 q 2) 15 q _) (okM_mQ o8 (by decide)) x (nI q)
    exact ⟨a1, k8.tr ((kp.q (by decide)).tr a2)⟩
theorem ch80 (h : okM N L b S) (x : Int32) {p8 : Int32} (h8 : 0 ≤ p8 → ix p8 p8.toNatClampNeg 6 ∧ ¬ mA S 21 p8.toNatClampNeg = 0) : okM N L (b + 1) (G_X3_choose_80 S x p8) ∧ kp S (G_X3_choose_80 S x p8) := by
  unfold G_X3_choose_80
  dsimp only
  split
  · exact ⟨okM_mono h (by omega), kp.rf⟩
  · split
    · next c => exact ch103 h x (h8 c).1 (h8 c).2
    · exact ⟨okM_mono h (by omega), kp.rf⟩
/-- the state after what runs was put to the front -/
def frt (S : Ms) : Ms := mP (F_X3_toFront (mQ (mQ S 17 (mO S 10).toNatClampNeg 1) 19 (10 * (mO S 10).toNatClampNeg + 9) (mA S 19 (10 * (mO S 10).toNatClampNeg + 9) + 1)) (mA S 12 (mO S 10).toNatClampNeg) (mO S 10)) 10 (-1)
theorem frt_ok (h : okM N L b S) (hr : ¬ mO S 10 < 0) : okM N L b (frt S) ∧ kp S (frt S) := by
  have h2 : okM N L b (mQ (mQ S 17 (mO S 10).toNatClampNeg 1) 19 (10 * (mO S 10).toNatClampNeg + 9) (mA S 19 (10 * (mO S 10).toNatClampNeg + 9) + 1)) := okM_mQ (okM_mQ h (by decide)) (by decide)
  refine ⟨okM_front h2 hr, ?_⟩
  refine (kp.q (a := 17) (by decide)).tr ((kp.q (a := 19) (by decide)).tr (kp.tr (M2 := F_X3_toFront _ _ _) ⟨keep0.toFront (okM_rx h hr) (nez (okM_rs h hr)), toFront_O 0, toFront_O 9⟩ (kp.p (by decide))))
theorem frt_h8 (h : okM N L b S) (hr : ¬ mO S 10 < 0) {p8 : Int32} (h8 : 0 ≤ p8 → ix p8 p8.toNatClampNeg 6 ∧ ¬ mA S 21 p8.toNatClampNeg = 0) (hl : ¬ mA S 12 (mO S 10).toNatClampNeg ≤ p8) (h0 : 0 ≤ p8) : ix p8 p8.toNatClampNeg 6 ∧ ¬ mA (frt S) 21 p8.toNatClampNeg = 0 := by
  refine ⟨(h8 h0).1, ?_⟩
  have h2 : okM N L b (mQ (mQ S 17 (mO S 10).toNatClampNeg 1) 19 (10 * (mO S 10).toNatClampNeg + 9) (mA S 19 (10 * (mO S 10).toNatClampNeg + 9) + 1)) := okM_mQ (okM_mQ h (by decide)) (by decide)
  have hx := okM_lx h (okM_rx h hr).2.2
  have e := front_n (S := mQ (mQ S 17 (mO S 10).toNatClampNeg 1) 19 (10 * (mO S 10).toNatClampNeg + 9) (mA S 19 (10 * (mO S 10).toNatClampNeg + 9) + 1)) (y := mO S 10) hx ((okM_q h).1 _ hx.2.2) (h8 h0).1 hl
  intro q
  exact (h8 h0).2 (e.symm.trans q)
theorem fl_h8p (h : okM N L b S) (c9 : ¬ mO (F_X3_firstLevel S).1 10 < 0) (c26 : ¬ mA (F_X3_firstLevel S).1 12 (mO (F_X3_firstLevel S).1 10).toNatClampNeg ≤ (F_X3_firstLevel S).2) (h0 : 0 ≤ (F_X3_firstLevel S).2) : ix (F_X3_firstLevel S).2 (F_X3_firstLevel S).2.toNatClampNeg 6 ∧ ¬ mA (frt (F_X3_firstLevel S).1) 21 (F_X3_firstLevel S).2.toNatClampNeg = 0 := by
  have h8 := fl_h8 h
  rw [fl1] at c9 c26 h8 ⊢
  exact frt_h8 h c9 h8 c26 h0
theorem choose_eq (S : Ms) (x : Int32) : F_X3_choose S x = if mO S 10 < 0 then G_X3_choose_80 S x (F_X3_firstLevel S).2 else if (F_X3_firstLevel S).2 < 0 then G_X3_choose_80 S x (F_X3_firstLevel S).2 else if mA S 12 (mO S 10).toNatClampNeg ≤ (F_X3_firstLevel S).2 then G_X3_choose_80 S x (F_X3_firstLevel S).2 else G_X3_choose_80 (frt S) x (F_X3_firstLevel S).2 := by
  unfold F_X3_choose
  dsimp only
  rw [fl1]
  rfl
theorem choose_s (h : okM N L b S) (x : Int32) : okM N L (b + 1) (F_X3_choose S x) ∧ kp S (F_X3_choose S x) := by
  have h8 := fl_h8 h
  rw [fl1] at h8
  rw [choose_eq]
  split
  · exact ch80 h x h8
  · next c9 =>
    split
    · exact ch80 h x h8
    · split
      · exact ch80 h x h8
      · next c26 =>
        obtain ⟨f1, f2⟩ := frt_ok h c9
        obtain ⟨a1, a2⟩ := ch80 f1 x (fun h0 => frt_h8 h c9 h8 c26 h0)
        exact ⟨a1, f2.tr a2⟩
/-- the tick's counting down -/
def w4 (S : Ms) : Ms :=
  let r := (mO S 10).toNatClampNeg
  let S1 := mQ S 19 (10 * r + 2) (mA S 19 (10 * r + 2) + 1)
  let S2 := mQ S1 14 r (mA S1 14 r - 1)
  let S3 := mQ S2 15 r (mA S2 15 r - 1)
  mQ S3 16 r (mA S3 16 r - 1)
/-- and what comes of it -/
def w5 (Y : Ms) (r : Int32) (x : Int32) : Ms :=
  if mA Y 14 r.toNatClampNeg = 0 then
    let S15 := mQ (mP Y 10 (-1)) 13 r.toNatClampNeg (mA Y 13 r.toNatClampNeg + 1)
    if mA S15 13 r.toNatClampNeg = mA S15 7 r.toNatClampNeg then F_X3_end S15 r (x + 1)
    else mQ (mQ S15 11 r.toNatClampNeg 3) 18 r.toNatClampNeg ((x + 1) + mA S15 8 (12 * r.toNatClampNeg + (mA S15 13 r.toNatClampNeg).toNatClampNeg))
  else if 0 < mA Y 16 r.toNatClampNeg then
    if mA Y 15 r.toNatClampNeg = 0 then F_X3_toEnd (mP Y 10 (-1)) (mA Y 12 r.toNatClampNeg) r else Y
  else
    if mO Y 1 - 1 ≤ mA Y 12 r.toNatClampNeg then F_X3_toEnd (mQ (mP Y 10 (-1)) 16 r.toNatClampNeg (mA Y 3 (mA Y 12 r.toNatClampNeg).toNatClampNeg)) (mA Y 12 r.toNatClampNeg) r
    else
      let S11 := mQ (mQ (mP Y 10 (-1)) 12 r.toNatClampNeg (mA Y 12 r.toNatClampNeg + 1)) 19 (10 * r.toNatClampNeg + 8) (mA Y 19 (10 * r.toNatClampNeg + 8) + 1)
      F_X3_toEnd (mQ S11 16 r.toNatClampNeg (mA S11 3 (mA S11 12 r.toNatClampNeg).toNatClampNeg)) (mA S11 12 r.toNatClampNeg) r
theorem work_eq (S : Ms) (x : Int32) : F_X3_work S x = w5 (w4 S) (mO S 10) x := rfl
theorem w4_ok (h : okM N L b S) : okM N L b (w4 S) ∧ kp S (w4 S) := ⟨okM_mQ (okM_mQ (okM_mQ (okM_mQ h (by decide)) (by decide)) (by decide)) (by decide), (kp.q (by decide)).tr ((kp.q (by decide)).tr ((kp.q (by decide)).tr (kp.q (by decide))))⟩
theorem okM_tE (h : okM N L b S) (hr : mO S 10 = -1) {r : Int32} (h16 : ix r r.toNatClampNeg 16) (hN : r.toNatClampNeg < N) (hs : mA S 11 r.toNatClampNeg = 2) {x : Int32} (hx : ix x x.toNatClampNeg 6) : okM N L b (F_X3_toEnd S x r) ∧ kp S (F_X3_toEnd S x r) :=
  ⟨okM_toEnd h hx h16 hN (notin_of (okM_q h) h.2.2.1 h16.2.2 (ne21 hs)) (okM_ab h h16.2.2 (Or.inr (Or.inl hs))).2 (Or.inl hr), ⟨keep0.toEnd h16 (nez hs), rfl, rfl⟩⟩
theorem w5_ok (h : okM N L b S) (hr : ¬ mO S 10 < 0) (x : Int32) : okM N L b (w5 S (mO S 10) x) ∧ kp S (w5 S (mO S 10) x) := by
  have h16 := okM_rx h hr
  have hN := okM_rN h hr
  have hst := okM_rs h hr
  have h0 : okM N L b (mP S 10 (-1)) := okM_r0 h
  have kr : kp S (mP S 10 (-1)) := kp.p (by decide)
  unfold w5
  dsimp only
  split
  · split
    · refine ⟨okM_atEnd h0 hN rfl (ne21 hst) (Or.inl rfl), kr.tr ((kp.q (by decide)).tr ⟨keep0.fin rfl (by have z : mA S 11 (mO S 10).toNatClampNeg = 2 := hst; exact nez z), rfl, rfl⟩)⟩
    · next c => exact ⟨okM_mQ (okM_blk h0 h16.2.2 hst c rfl) (by decide), kr.tr ((kp.q (by decide)).tr (kp.tr (M2 := mQ _ 11 _ 3) ⟨keep0.s11 (by have z : mA S 11 (mO S 10).toNatClampNeg = 2 := hst; exact nez z), rfl, rfl⟩ (kp.q (by decide))))⟩
  · split
    · split
      · obtain ⟨a1, a2⟩ := okM_tE h0 rfl h16 hN hst (okM_lx h h16.2.2)
        exact ⟨a1, kr.tr a2⟩
      · exact ⟨h, kp.rf⟩
    · split
      · have h1 : okM N L b (mQ (mP S 10 (-1)) 16 (mO S 10).toNatClampNeg (mA S 3 (mA S 12 (mO S 10).toNatClampNeg).toNatClampNeg)) := okM_mQ h0 (by decide)
        obtain ⟨a1, a2⟩ := okM_tE h1 rfl h16 hN hst (okM_lx h h16.2.2)
        exact ⟨a1, kr.tr ((kp.q (by decide)).tr a2)⟩
      · next c =>
        have h1 : okM N L b (mQ (mP S 10 (-1)) 12 (mO S 10).toNatClampNeg (mA S 12 (mO S 10).toNatClampNeg + 1)) := okM_mQ12 h0 (okM_dn h h16.2.2 c)
        have h2 : okM N L b (mQ (mQ (mP S 10 (-1)) 12 (mO S 10).toNatClampNeg (mA S 12 (mO S 10).toNatClampNeg + 1)) 19 (10 * (mO S 10).toNatClampNeg + 8) (mA S 19 (10 * (mO S 10).toNatClampNeg + 8) + 1)) := okM_mQ h1 (by decide)
        have h3 := okM_mQ (k := (mO S 10).toNatClampNeg) (v := mA S 3 (mA S 12 (mO S 10).toNatClampNeg + 1).toNatClampNeg) h2 (a := 16) (by decide)
        have hx := okM_lx h1 h16.2.2
        rw [mA_eq] at hx
        obtain ⟨a1, a2⟩ := okM_tE h3 rfl h16 hN hst hx
        have kk := kr.tr ((kp.q (a := 12) (by decide)).tr ((kp.q (a := 19) (by decide)).tr ((kp.q (a := 16) (by decide)).tr a2)))
        rw [show mA (mQ (mQ (mP S 10 (-1)) 12 (mO S 10).toNatClampNeg (mA S 12 (mO S 10).toNatClampNeg + 1)) 19 (10 * (mO S 10).toNatClampNeg + 8) (mA S 19 (10 * (mO S 10).toNatClampNeg + 8) + 1)) 12 (mO S 10).toNatClampNeg = mA S 12 (mO S 10).toNatClampNeg + 1 from mA_eq (mP S 10 (-1)) 12 _ _]
        exact ⟨a1, kk⟩
theorem work_s (h : okM N L b S) (hr : ¬ mO S 10 < 0) (x : Int32) : okM N L b (F_X3_work S x) ∧ kp S (F_X3_work S x) := by
  rw [work_eq]
  obtain ⟨a1, a2⟩ := w4_ok h
  obtain ⟨b1, b2⟩ := w5_ok a1 hr x
  exact ⟨b1, a2.tr b2⟩
/-! a run's states: N processes, L levels, b switches at most, the time T -/
def okR0 (N L b T : Nat) (M : Ms) : Prop := okM N L b M ∧ mO M 9 = nI T ∧ tiM N T M
def okR (N L b T : Nat) (M : Ms) : Prop := okM N L b M ∧ mO M 0 = 0 ∧ mO M 9 = nI T ∧ tiM N T M
/-- those of now have come -/
def okR1 (N L b T : Nat) (M : Ms) : Prop := okM N L b M ∧ mO M 0 = 0 ∧ mO M 9 = nI T ∧ tiM N (T + 1) M
theorem okR_mP {T : Nat} (h : okR0 N L b T S) : okR N L (b + 0) (T + 0) (mP S 0 0) := ⟨okM_mP h.1 (by decide), rfl, h.2.1, h.2.2⟩
theorem okR1_kp {T b2 : Nat} (h : okR1 N L b T S) (ho : okM N L b2 M2) (k : kp S M2) : okR1 N L b2 T M2 := ⟨ho, k.2.1.trans h.2.1, k.2.2.trans h.2.2.1, k.1.ti h.1.2.2.1 h.2.2.2⟩
theorem okR1_mQ {T : Nat} (h : okR1 N L b T S) {k : Nat} {v : Int32} (hk : k ≠ 0) : okR1 N L b T (mQ S 22 k v) := okR1_kp h (okM_mQ22 h.1 hk) (kp.q (by decide))
theorem okR1_time {T : Nat} (h : okR1 N L b T S) {v : Int32} (hv : v = mO S 9 + 1) : okR N L b (T + 1) (mP S 9 v) := ⟨okM_mP h.1 (by decide), h.2.1, by rw [mO_mP, if_pos rfl, hv, h.2.2.1, nI_1], h.2.2.2⟩
theorem R_allUp {T : Nat} (h : okR N L b T S) : okR N L b T (F_X3_allUp S) := by
  obtain ⟨a1, a2⟩ := ok_allUp h.1
  exact ⟨a1, a2.2.1.trans h.2.1, a2.2.2.trans h.2.2.1, a2.1.ti h.1.2.2.1 h.2.2.2⟩
theorem R_come {T : Nat} {x : Int32} (h : okR N L b T S) (hx : x = nI T) (hT : T ≤ 200000) : okR1 N L b T (F_X3_come S x) := by
  obtain ⟨a1, a2, a3⟩ := come_s h.1 hx h.2.2.2 hT
  exact ⟨a1, (a3 0).trans h.2.1, (a3 9).trans h.2.2.1, a2⟩
theorem R1_comeBack {T : Nat} {x : Int32} (h : okR1 N L b T S) : okR1 N L b T (F_X3_comeBack S x) := okR1_kp h (comeBack_s h.1).1 (comeBack_s h.1).2.1
theorem R1_choose {T : Nat} {x : Int32} (h : okR1 N L b T S) : okR1 N L (b + 1) T (F_X3_choose S x) := okR1_kp h (choose_s h.1 x).1 (choose_s h.1 x).2
theorem R1_count {T : Nat} (h : okR1 N L b T S) : okR1 N L b T (F_X3_count S) := okR1_kp h (count_s h.1).1 (count_s h.1).2.1
theorem R1_work {T : Nat} {x : Int32} (h : okR1 N L b T S) (hr : ¬ mO S 10 < 0) : okR1 N L b T (F_X3_work S x) := okR1_kp h (work_s h.1 hr x).1 (work_s h.1 hr x).2
end OM6
