theorem ixc {x : Int32} {k n : Nat} (h : ix x k n) : ix x x.toNatClampNeg n := by rw [h.2.1]; exact h
theorem lvx {x : Int32} (h : ∃ v, v < 6 ∧ x = nI v) : ix x x.toNatClampNeg 6 := by
  obtain ⟨v, h1, rfl⟩ := h
  rw [nI_clamp (by omega)]; exact ix_nI h1 (by omega)
theorem ten {x C : Int32} {c : Nat} (hx : ix x x.toNatClampNeg 16) (hc : C = nI c := by decide) (h : c < 10 := by omega) : ix (10 * x + C) (10 * x.toNatClampNeg + c) 160 := by
  have := hx.2.2
  exact ix_lin (by decide) hx.nI hc (by omega) (by omega)
theorem ne1 {x : Int32} (h : x = 0) : ¬ x = 1 := by rw [h]; decide
theorem ne2 {x : Int32} (h : x = 0) : ¬ x = 2 := by rw [h]; decide
theorem ne31 {x : Int32} (h : x = 3) : ¬ x = 1 := by rw [h]; decide
theorem ne32 {x : Int32} (h : x = 3) : ¬ x = 2 := by rw [h]; decide
theorem ne21 {x : Int32} (h : x = 2) : ¬ x = 1 := by rw [h]; decide
theorem pos_ne {x : Int32} (h : ¬ x ≤ 0) : ¬ x = 0 := fun q => h (by rw [q]; decide)
theorem wst3 (X : Ms) (k : Nat) : mA (mQ X 11 k 3) 11 k = 1 ∨ mA (mQ X 11 k 3) 11 k = 2 ∨ mA (mQ X 11 k 3) 11 k = 3 := Or.inr (Or.inr (mA_eq X 11 k 3))
/-- those whose arrival is to come are still to come -/
def tiM (N T : Nat) (M : Ms) : Prop := ∀ u, u < N → ∃ ar, mA M 6 u = nI ar ∧ ar ≤ 20000 ∧ (T ≤ ar → mA M 11 u = 0)
def tiC (N T t : Nat) (M : Ms) : Prop := ∀ u, u < N → ∃ ar, mA M 6 u = nI ar ∧ ar ≤ 20000 ∧ (t ≤ u → T ≤ ar → mA M 11 u = 0) ∧ (T + 1 ≤ ar → mA M 11 u = 0)
theorem ti_0 {N T : Nat} {M : Ms} (h : tiM N T M) : tiC N T 0 M := fun u hu => by
  obtain ⟨ar, h1, h2, h3⟩ := h u hu
  exact ⟨ar, h1, h2, fun _ => h3, fun q => h3 (by omega)⟩
theorem ti_at {N T t : Nat} {M : Ms} {x : Int32} (h : tiC N T t M) (ht : t < N) (hT : x = nI T) (hc : mA M 6 t = x) (hT2 : T < 2 ^ 31 := by omega) : mA M 11 t = 0 := by
  obtain ⟨ar, h1, h2, h3, -⟩ := h t ht
  rw [h1, hT] at hc
  have := (nI_eq (by omega) hT2).mp hc
  exact h3 (Nat.le_refl t) (by omega)
/-- nothing that is to come moves -/
def keep0 (M M2 : Ms) : Prop := (∀ k, mA M2 6 k = mA M 6 k) ∧ ∀ u, u < 16 → mA M 11 u = 0 → mA M2 11 u = 0
theorem keep0.rf {M : Ms} : keep0 M M := ⟨fun _ => rfl, fun _ _ h => h⟩
theorem keep0.tr {M M2 M3 : Ms} (h : keep0 M M2) (h2 : keep0 M2 M3) : keep0 M M3 := ⟨fun k => (h2.1 k).trans (h.1 k), fun u hu q => h2.2 u hu (h.2 u hu q)⟩
theorem keep0.ti {N T : Nat} {M M2 : Ms} (h : keep0 M M2) (hN : N ≤ 16) (ht : tiM N T M) : tiM N T M2 := fun u hu => by
  obtain ⟨ar, h1, h2, h3⟩ := ht u hu
  exact ⟨ar, by rw [h.1]; exact h1, h2, fun q => h.2 u (by omega) (h3 q)⟩
theorem keep0.q {M : Ms} {a k : Nat} {v : Int32} (ha : a ≠ 6 ∧ a ≠ 11) : keep0 M (mQ M a k v) := ⟨fun k2 => mA_ne M k v k2 (Ne.symm ha.1), fun u _ h => by rw [mA_ne M k v u (Ne.symm ha.2)]; exact h⟩
theorem keep0.p {M : Ms} {j : Nat} {v : Int32} : keep0 M (mP M j v) := ⟨fun _ => rfl, fun _ _ h => h⟩
theorem keep0.s11 {M : Ms} {k : Nat} {v : Int32} (h : ¬ mA M 11 k = 0) : keep0 M (mQ M 11 k v) := ⟨fun k2 => mA_ne M k v k2 (by decide), fun u _ q => by rw [mA_nk M 11 v 11 (fun e => h (by rw [← e]; exact q))]; exact q⟩
theorem keep0.toEnd {M : Ms} {x y : Int32} {u : Nat} (hy : ix y u 16) (h : ¬ mA M 11 u = 0) : keep0 M (F_X3_toEnd M x y) := ⟨fun k => toEnd_o 6 k (by decide), fun i _ q => by rw [toEnd_11 hy, if_neg (fun e => h (by rw [← e]; exact q))]; exact q⟩
theorem keep0.toFront {M : Ms} {x y : Int32} {u : Nat} (hy : ix y u 16) (h : ¬ mA M 11 u = 0) : keep0 M (F_X3_toFront M x y) := ⟨fun k => toFront_o 6 k (by decide), fun i _ q => by rw [toFront_11 hy, if_neg (fun e => h (by rw [← e]; exact q))]; exact q⟩
theorem keep0.take {M : Ms} {x : Int32} : keep0 M (F_X3_takeFirst M x).1 := ⟨fun k => take_o 6 k (by decide), fun i _ q => by rw [take_o 11 i (by decide)]; exact q⟩
theorem end_11 {M : Ms} {y w : Int32} {u : Nat} (hy : y.toNatClampNeg = u) (i : Nat) : mA (F_X3_end M y w) 11 i = if i = u then 4 else mA M 11 i := by
  unfold F_X3_end
  dsimp only
  rw [mA_ne _ _ _ _ (by decide), mA_ne _ _ _ _ (by decide), mA_mQ, hy]
  by_cases e : i = u
  · rw [if_pos ⟨rfl, e⟩, if_pos e]
  · rw [if_neg (fun q => e q.2), if_neg e]
theorem end_o {M : Ms} {y w : Int32} (a i : Nat) (ha : a ≠ 11 ∧ a ≠ 19 ∧ a ≠ 22) : mA (F_X3_end M y w) a i = mA M a i := by
  unfold F_X3_end
  dsimp only
  rw [mA_ne _ _ _ _ ha.2.2, mA_ne _ _ _ _ ha.2.1, mA_ne _ _ _ _ ha.1]
theorem end_22 {M : Ms} {y w : Int32} (i : Nat) (hi : i ≠ 3) : mA (F_X3_end M y w) 22 i = mA M 22 i := by
  unfold F_X3_end
  dsimp only
  rw [mA_nk _ _ _ _ hi, mA_ne _ _ _ _ (by decide), mA_ne _ _ _ _ (by decide)]
theorem keep0.fin {M : Ms} {y w : Int32} {u : Nat} (hy : y.toNatClampNeg = u) (h : ¬ mA M 11 u = 0) : keep0 M (F_X3_end M y w) := ⟨fun k => end_o 6 k (by decide), fun i _ q => by rw [end_11 hy, if_neg (fun e => h (by rw [← e]; exact q))]; exact q⟩
section OM4
variable {N L b : Nat} {S M2 : Ms}
theorem uOK_same {u : Nat} (h : uOK N L S u) (h12 : mA M2 12 u = mA S 12 u) (h7 : mA M2 7 u = mA S 7 u) (h11 : mA M2 11 u = mA S 11 u) (h13 : mA M2 13 u = mA S 13 u) : uOK N L M2 u := by
  unfold uOK; rw [h12, h7, h11, h13]; exact h
theorem okM_ab (h : okM N L b S) {u : Nat} (hu : u < 16) (hs : mA S 11 u = 1 ∨ mA S 11 u = 2 ∨ mA S 11 u = 3) : u < N ∧ ∃ a c, mA S 13 u = nI a ∧ mA S 7 u = nI c ∧ a < c ∧ c ≤ 12 := by
  rcases (okM_u h hu).2.2.2 with q | ⟨q, -⟩ | q
  · rw [q] at hs; exact absurd hs (by decide)
  · rw [q] at hs; exact absurd hs (by decide)
  · exact q.2
theorem okM_rcase (h : okM N L b S) (hr : ¬ mO S 10 < 0) : ∃ r, r < N ∧ mO S 10 = nI r ∧ mA S 11 r = 2 := by
  rcases okM_run h with q | q
  · rw [q] at hr; exact absurd (by decide) hr
  · exact q
theorem okM_rx (h : okM N L b S) (hr : ¬ mO S 10 < 0) : ix (mO S 10) (mO S 10).toNatClampNeg 16 := by
  obtain ⟨r, h1, h2, -⟩ := okM_rcase h hr
  have := h.2.2.1
  rw [h2, nI_clamp (by omega)]; exact ix_nI (by omega) (by omega)
theorem okM_rN (h : okM N L b S) (hr : ¬ mO S 10 < 0) : (mO S 10).toNatClampNeg < N := by
  obtain ⟨r, h1, h2, -⟩ := okM_rcase h hr
  have := h.2.2.1
  rw [h2, nI_clamp (by omega)]; exact h1
theorem okM_rs (h : okM N L b S) (hr : ¬ mO S 10 < 0) : mA S 11 (mO S 10).toNatClampNeg = 2 := by
  obtain ⟨r, h1, h2, h3⟩ := okM_rcase h hr
  have := h.2.2.1
  rw [h2, nI_clamp (by omega)]; exact h3
theorem okM_r10 (h : okM N L b S) (hr : ¬ mO S 10 < 0) : ix (10 * mO S 10 + 9) (10 * (mO S 10).toNatClampNeg + 9) 160 := ten (okM_rx h hr)
theorem okM_lx (h : okM N L b S) {u : Nat} (hu : u < 16) : ix (mA S 12 u) (mA S 12 u).toNatClampNeg 6 := by
  obtain ⟨v, h1, h2⟩ := (okM_u h hu).1
  have := h.2.2.2.2.1
  exact lvx ⟨v, by omega, h2⟩
theorem okM_ixl (h : okM N L b S) {u : Nat} (hu : u < 16) : ix (mA S 12 u) (mA S 12 u).toNatClampNeg 6 := okM_lx h hu
theorem okM_15 (h : okM N L b S) {u : Nat} {x : Int32} (hu : u < N) (hs : ¬ mA S 11 u = 1) (hx : ix x x.toNatClampNeg 6) : ub 15 (mA S 21 x.toNatClampNeg) := by
  have hN := h.2.2.1
  exact qOK_15 (okM_q h) hN hu hx.2.2 (notin_of (okM_q h) hN (by omega) hs)
theorem okM_15r (h : okM N L b S) {x : Int32} (hr : ¬ mO S 10 < 0) (hx : ix x x.toNatClampNeg 6) : ub 15 (mA S 21 x.toNatClampNeg) := okM_15 h (okM_rN h hr) (ne21 (okM_rs h hr)) hx
theorem okM_tab (h : okM N L b S) {u : Nat} (hu : u < 16) (hs : mA S 11 u = 1 ∨ mA S 11 u = 2 ∨ mA S 11 u = 3) : (mA S 13 u).toNatClampNeg < 12 ∧ mA S 13 u = nI (mA S 13 u).toNatClampNeg := by
  obtain ⟨-, a, c, h1, h2, h3, h4⟩ := okM_ab h hu hs
  rw [h1, nI_clamp (by omega)]
  exact ⟨by omega, rfl⟩
theorem okM_tx (h : okM N L b S) {t : Nat} (hu : t < 16) (hs : mA S 11 t = 1 ∨ mA S 11 t = 2 ∨ mA S 11 t = 3) : ix (12 * nI t + mA S 13 t) (12 * t + (mA S 13 t).toNatClampNeg) 192 := by
  obtain ⟨h1, h2⟩ := okM_tab h hu hs
  exact ix_lin (by decide) rfl h2 (by omega) (by omega)
theorem okM_txx (h : okM N L b S) {x : Int32} (hx : ix x x.toNatClampNeg 16) (hs : mA S 11 x.toNatClampNeg = 1 ∨ mA S 11 x.toNatClampNeg = 2 ∨ mA S 11 x.toNatClampNeg = 3) : ix (12 * x + mA S 13 x.toNatClampNeg) (12 * x.toNatClampNeg + (mA S 13 x.toNatClampNeg).toNatClampNeg) 192 := by
  obtain ⟨h1, h2⟩ := okM_tab h hx.2.2 hs
  have := hx.2.2
  exact ix_lin (by decide) hx.nI h2 (by omega) (by omega)
/-- okM anew: nothing of the queues, the processes but one -/
theorem okM_one (h : okM N L b S) {b2 u : Nat} (h5 : mO M2 5 = mO S 5) (h1 : mO M2 1 = mO S 1) (h22 : ub b2 (mA M2 22 0)) (hu : uOK N L M2 u) (ho : ∀ i, i < 16 → i ≠ u → mA M2 12 i = mA S 12 i ∧ mA M2 7 i = mA S 7 i ∧ mA M2 11 i = mA S 11 i ∧ mA M2 13 i = mA S 13 i)
    (hr : mO M2 10 = -1 ∨ ∃ r, r < N ∧ mO M2 10 = nI r ∧ mA M2 11 r = 2) (hq : qOK N M2) : okM N L b2 M2 := by
  obtain ⟨g1, g2, g3, g4, g5, g6, g7, g8, g9⟩ := h
  refine ⟨by rw [h5]; exact g1, by rw [h1]; exact g2, g3, g4, g5, h22, fun i hi => ?_, hr, hq⟩
  by_cases e : i = u
  · rw [e]; exact hu
  · obtain ⟨a1, a2, a3, a4⟩ := ho i hi e
    exact uOK_same (g7 i hi) a1 a2 a3 a4
theorem qOK_same (h : qOK N S) (h20 : ∀ k, mA M2 20 k = mA S 20 k) (h21 : ∀ k, mA M2 21 k = mA S 21 k) (h11 : ∀ u, mA S 11 u = 1 → mA M2 11 u = 1) : qOK N M2 := by
  unfold qOK sZ at h ⊢
  simp only [h20, h21]
  refine ⟨h.1, fun l k hl hk => ?_, h.2.2⟩
  obtain ⟨q, q1, q2, q3⟩ := h.2.1 l k hl hk
  exact ⟨q, q1, q2, h11 q q3⟩
theorem okM_mQ12 (h : okM N L b S) {u : Nat} {x : Int32} (hx : ∃ v, v < L ∧ x = nI v) : okM N L b (mQ S 12 u x) := by
  obtain ⟨g1, g2, g3, g4, g5, g6, g7, g8, g9⟩ := h
  refine ⟨g1, g2, g3, g4, g5, g6, fun i hi => ?_, g8, g9⟩
  obtain ⟨a1, a2, a3, a4⟩ := g7 i hi
  refine ⟨?_, a2, a3, a4⟩
  rw [mA_mQ]
  by_cases e : 12 = 12 ∧ i = u
  · rw [if_pos e]; exact hx
  · rw [if_neg e]; exact a1
theorem okM_mQ22 (h : okM N L b S) {k : Nat} {v : Int32} (hk : k ≠ 0) : okM N L b (mQ S 22 k v) := by
  obtain ⟨g1, g2, g3, g4, g5, g6, g7, g8, g9⟩ := h
  exact ⟨g1, g2, g3, g4, g5, by rw [mA_nk _ _ _ _ (Ne.symm hk)]; exact g6, g7, g8, g9⟩
theorem okM_r0 (h : okM N L b S) : okM N L b (mP S 10 (-1)) := by
  obtain ⟨g1, g2, g3, g4, g5, g6, g7, g8, g9⟩ := h
  exact ⟨g1, g2, g3, g4, g5, g6, g7, Or.inl rfl, g9⟩
theorem okM_run_ne (h : okM N L b S) {u : Nat} (h2 : mO S 10 = -1 ∨ ¬ mA S 11 u = 2) (h11 : ∀ i, i < 16 → i ≠ u → mA M2 11 i = mA S 11 i) (h10 : mO M2 10 = mO S 10) : mO M2 10 = -1 ∨ ∃ r, r < N ∧ mO M2 10 = nI r ∧ mA M2 11 r = 2 := by
  have hN := h.2.2.1
  rcases okM_run h with q | ⟨r, q1, q2, q3⟩
  · exact Or.inl (h10.trans q)
  · rcases h2 with e | e
    · exact Or.inl (h10.trans e)
    · exact Or.inr ⟨r, q1, h10.trans q2, by rw [h11 r (by omega) (fun z => e (by rw [← z]; exact q3))]; exact q3⟩
theorem okM_end (h : okM N L b S) {u : Nat} {y w : Int32} (hu : u < N) (hy : y.toNatClampNeg = u) (h1 : ¬ mA S 11 u = 1) (h2 : mO S 10 = -1 ∨ ¬ mA S 11 u = 2) : okM N L b (F_X3_end S y w) := by
  have hN := h.2.2.1
  have g := okM_u h (u := u) (by omega)
  refine okM_one h (u := u) rfl rfl (by rw [end_22 0 (by decide)]; exact h.2.2.2.2.2.1) ?_ (fun i _ hne => ⟨end_o 12 i (by decide), end_o 7 i (by decide), by rw [end_11 hy, if_neg hne], end_o 13 i (by decide)⟩) (okM_run_ne h h2 (fun i _ hne => by rw [end_11 hy, if_neg hne]) rfl) (qOK_same (okM_q h) (fun k => end_o 20 k (by decide)) (fun k => end_o 21 k (by decide)) (fun i hi => by rw [end_11 hy, if_neg (fun e => h1 (by rw [← e]; exact hi))]; exact hi))
  unfold uOK
  rw [end_o 12 u (by decide), end_o 7 u (by decide), end_11 hy, if_pos rfl, end_o 13 u (by decide)]
  exact ⟨g.1, g.2.1, fun q => absurd q (by decide), Or.inr (Or.inl ⟨rfl, hu⟩)⟩
theorem okM_toEnd (h : okM N L b S) {l u : Nat} {x y : Int32} (hx : ix x l 6) (hy : ix y u 16) (hu : u < N) (hn : notin S u) (hab : ∃ a c, mA S 13 u = nI a ∧ mA S 7 u = nI c ∧ a < c ∧ c ≤ 12) (h2 : mO S 10 = -1 ∨ ¬ mA S 11 u = 2) : okM N L b (F_X3_toEnd S x y) := by
  have hN := h.2.2.1
  have g := okM_u h hy.2.2
  refine okM_one h (u := u) rfl rfl (by rw [toEnd_o 22 0 (by decide)]; exact h.2.2.2.2.2.1) ?_ (fun i _ hne => ⟨toEnd_o 12 i (by decide), toEnd_o 7 i (by decide), by rw [toEnd_11 hy, if_neg hne], toEnd_o 13 i (by decide)⟩) (okM_run_ne h h2 (fun i _ hne => by rw [toEnd_11 hy, if_neg hne]) rfl) (qOK_toEnd (okM_q h) hN hx hy hu hn)
  unfold uOK
  rw [toEnd_o 12 u (by decide), toEnd_o 7 u (by decide), toEnd_11 hy, if_pos rfl, toEnd_o 13 u (by decide)]
  exact ⟨g.1, g.2.1, fun q => absurd q (by decide), Or.inr (Or.inr ⟨Or.inl rfl, hu, hab⟩)⟩
theorem okM_at (h : okM N L b S) {u : Nat} (hu : u < 16) (hs : mA S 11 u = 1 ∨ mA S 11 u = 2 ∨ mA S 11 u = 3) (hc : ¬ mA (mQ S 13 u (mA S 13 u + 1)) 13 u = mA (mQ S 13 u (mA S 13 u + 1)) 7 u) : okM N L b (mQ S 13 u (mA S 13 u + 1)) := by
  obtain ⟨huN, a, c, h1, h2, h3, h4⟩ := okM_ab h hu hs
  have g := okM_u h hu
  rw [mA_eq, mA_ne _ _ _ _ (by decide), h1, h2, nI_1] at hc
  have hne : a + 1 ≠ c := fun e => hc (by rw [e])
  refine okM_one h (u := u) rfl rfl h.2.2.2.2.2.1 ?_ (fun i _ hne => ⟨rfl, rfl, rfl, mA_nk _ _ _ _ hne⟩) (by have q := okM_run h; exact q) (qOK_same (S := S) (okM_q h) (fun _ => rfl) (fun _ => rfl) (fun _ q => q))
  refine ⟨g.1, g.2.1, fun q => ?_, Or.inr (Or.inr ⟨hs, huN, a + 1, c, ?_, h2, by omega, h4⟩)⟩
  · have q' : mA S 11 u = 0 := q
    rw [q'] at hs; exact absurd hs (by decide)
  · rw [mA_eq, h1, nI_1]
theorem okM_atEnd (h : okM N L b S) {u : Nat} {y w v : Int32} (hu : u < N) (hy : y.toNatClampNeg = u) (h1 : ¬ mA S 11 u = 1) (h2 : mO S 10 = -1 ∨ ¬ mA S 11 u = 2) : okM N L b (F_X3_end (mQ S 13 u v) y w) := by
  have hN := h.2.2.1
  have g := okM_u h (u := u) (by omega)
  refine okM_one h (u := u) rfl rfl (by rw [end_22 0 (by decide)]; exact h.2.2.2.2.2.1) ?_ (fun i _ hne => ⟨by rw [end_o 12 i (by decide)]; rfl, by rw [end_o 7 i (by decide)]; rfl, by rw [end_11 hy, if_neg hne]; rfl, by rw [end_o 13 i (by decide)]; exact mA_nk _ _ _ _ hne⟩) (okM_run_ne h h2 (fun i _ hne => by rw [end_11 hy, if_neg hne]; rfl) rfl) (qOK_same (okM_q h) (fun k => by rw [end_o 20 k (by decide)]; rfl) (fun k => by rw [end_o 21 k (by decide)]; rfl) (fun i hi => by rw [end_11 hy, if_neg (fun e => h1 (by rw [← e]; exact hi))]; exact hi))
  unfold uOK
  rw [end_o 12 u (by decide), end_o 7 u (by decide), end_11 hy, if_pos rfl]
  exact ⟨g.1, g.2.1, fun q => absurd q (by decide), Or.inr (Or.inl ⟨rfl, hu⟩)⟩
theorem okM_blk (h : okM N L b S) {u : Nat} (hu : u < 16) (hs : mA S 11 u = 2) (hc : ¬ mA (mQ S 13 u (mA S 13 u + 1)) 13 u = mA (mQ S 13 u (mA S 13 u + 1)) 7 u) (hr : mO S 10 = -1) : okM N L b (mQ (mQ S 13 u (mA S 13 u + 1)) 11 u 3) := by
  have h1 := okM_at h hu (Or.inr (Or.inl hs)) hc
  obtain ⟨huN, hab⟩ := okM_ab h1 hu (Or.inr (Or.inl hs))
  have g := okM_u h1 hu
  refine okM_one h1 (u := u) rfl rfl h1.2.2.2.2.2.1 ⟨g.1, g.2.1, fun q => ?_, Or.inr (Or.inr ⟨Or.inr (Or.inr (mA_eq _ _ _ _)), huN, hab⟩)⟩ (fun i _ hne => ⟨rfl, rfl, mA_nk _ _ _ _ hne, rfl⟩) (Or.inl hr) (qOK_same (okM_q h1) (fun _ => rfl) (fun _ => rfl) (fun i hi => by
    rw [mA_nk _ _ _ _ (fun e => ?_)]; exact hi
    have hi' : mA S 11 i = 1 := hi
    rw [e, hs] at hi'
    exact absurd hi' (by decide)))
  rw [mA_eq] at q; exact absurd q (by decide)
theorem okM_dn (h : okM N L b S) {u : Nat} (hu : u < 16) (hc : ¬ mO S 1 - 1 ≤ mA S 12 u) : ∃ v, v < L ∧ mA S 12 u + 1 = nI v := by
  obtain ⟨v, h1, h2⟩ := (okM_u h hu).1
  have h6 := h.2.2.2.2.1
  have hl := h.2.2.2.1
  obtain ⟨k, rfl⟩ : ∃ k, L = k + 1 := ⟨L - 1, by omega⟩
  rw [h2, h.2.1, nI_pred] at hc
  rw [h2, nI_1]
  refine ⟨v + 1, ?_, rfl⟩
  rcases Nat.lt_or_ge v k with q | q
  · omega
  · exact absurd (nI_le q (by omega)) hc
theorem okM_front (h : okM N L b S) (hr : ¬ mO S 10 < 0) : okM N L b (mP (F_X3_toFront S (mA S 12 (mO S 10).toNatClampNeg) (mO S 10)) 10 (-1)) := by
  have hN := h.2.2.1
  have hx := okM_rx h hr
  have huN := okM_rN h hr
  have hst := okM_rs h hr
  have g := okM_u h hx.2.2
  obtain ⟨-, hab⟩ := okM_ab h hx.2.2 (Or.inr (Or.inl hst))
  have hn := notin_of (okM_q h) hN hx.2.2 (ne21 hst)
  refine okM_one h (u := (mO S 10).toNatClampNeg) (toFront_O 5) (toFront_O 1) (by rw [mA_mP, toFront_o 22 0 (by decide)]; exact h.2.2.2.2.2.1) ?_ (fun i _ hne => ⟨toFront_o 12 i (by decide), toFront_o 7 i (by decide), by rw [mA_mP, toFront_11 hx, if_neg hne], toFront_o 13 i (by decide)⟩) (Or.inl rfl) (qOK_same (qOK_toFront (okM_q h) hN (okM_lx h hx.2.2) hx huN hn) (fun _ => rfl) (fun _ => rfl) (fun _ q => q))
  unfold uOK
  rw [mA_mP, mA_mP, mA_mP, mA_mP, toFront_o 12 _ (by decide), toFront_o 7 _ (by decide), toFront_11 hx, if_pos rfl, toFront_o 13 _ (by decide)]
  exact ⟨g.1, g.2.1, fun q => absurd q (by decide), Or.inr (Or.inr ⟨Or.inl rfl, huN, hab⟩)⟩
theorem come_inv {T t : Nat} {x : Int32} (h : okM N L b S ∧ tiC N T t S) (ht : t < N) (hT : x = nI T) (hT2 : T < 2 ^ 31 := by omega) : okM N L b (B_X3_come_2 x t S) ∧ tiC N T (t + 1) (B_X3_come_2 x t S) := by
  obtain ⟨h, hti⟩ := h
  have hN := h.2.2.1
  -- where nothing is done
  have stay : ¬ mA S 6 t = x → okM N L b S ∧ tiC N T (t + 1) S := fun hc => ⟨h, fun u hu => by
    obtain ⟨ar, a1, a2, a3, a4⟩ := hti u hu
    exact ⟨ar, a1, a2, fun q => a3 (by omega), a4⟩⟩
  -- where t's state is another then
  have move : ∀ M2 : Ms, mA S 6 t = x → (∀ k, mA M2 6 k = mA S 6 k) → (∀ i, i ≠ t → mA M2 11 i = mA S 11 i) → tiC N T (t + 1) M2 := fun M2 hc e6 e11 u hu => by
    obtain ⟨ar, a1, a2, a3, a4⟩ := hti u hu
    refine ⟨ar, by rw [e6]; exact a1, a2, fun q r => by rw [e11 u (by omega)]; exact a3 (by omega) r, fun q => ?_⟩
    by_cases e : u = t
    · rw [e, hc, hT] at a1
      have := (nI_eq (by omega) (by omega)).mp a1
      omega
    · rw [e11 u e]; exact a4 q
  unfold B_X3_come_2
  dsimp only
  by_cases c1 : mA S 6 t = x
  · have hs := ti_at hti ht hT c1 hT2
    rw [if_pos c1]
    by_cases c2 : mA S 7 t = 0
    · rw [if_pos c2]
      exact ⟨okM_end h ht (nI_clamp (by omega)) (ne1 hs) (Or.inr (ne2 hs)), move _ c1 (fun k => end_o 6 k (by decide)) (fun i hi => by rw [end_11 (nI_clamp (by omega)), if_neg hi])⟩
    · rw [if_neg c2]
      have g := okM_u h (u := t) (by omega)
      have h3 : okM N L b (mQ (mQ (mQ S 12 t 0) 16 t (mA (mQ S 12 t 0) 3 0)) 14 t (mA (mQ (mQ S 12 t 0) 16 t (mA (mQ S 12 t 0) 3 0)) 8 (12 * t))) := okM_mQ (okM_mQ (okM_mQ12 h ⟨0, h.2.2.2.1, by decide⟩) (by decide)) (by decide)
      have hy : ix (nI t) t 16 := ix_nI (by omega) (by omega)
      have hx : ix (0 : Int32) 0 6 := ix_lit (by decide) (by omega) (by omega)
      refine ⟨okM_toEnd h3 hx hy ht (notin_of (okM_q h3) hN (by omega) (ne1 hs)) ?_ (Or.inr (ne2 hs)), move _ c1 (fun k => by rw [toEnd_o 6 k (by decide)]; rfl) (fun i hi => by rw [toEnd_11 hy, if_neg hi]; rfl)⟩
      obtain ⟨c, c3, c4⟩ := g.2.1
      refine ⟨0, c, by rw [nI_0]; exact g.2.2.1 hs, c4, ?_, c3⟩
      rcases Nat.eq_zero_or_pos c with q | q
      · rw [q, nI_0] at c4; exact absurd c4 c2
      · exact q
  · rw [if_neg c1]
    exact stay c1
theorem ok_B_comeBack {t : Nat} {x : Int32} (h : okM N L b S) (ht : t < N) : okM N L b (B_X3_comeBack_2 x t S) := by
  have hN := h.2.2.1
  unfold B_X3_comeBack_2
  dsimp only
  by_cases c1 : mA S 11 t = 3
  · rw [if_pos c1]
    by_cases c2 : mA S 18 t = x
    · rw [if_pos c2]
      split
      · exact okM_atEnd h ht (nI_clamp (by omega)) (ne31 c1) (Or.inr (ne32 c1))
      · next c3 =>
        have h1 := okM_at h (u := t) (by omega) (Or.inr (Or.inr c1)) c3
        have h2 : ∀ v, okM N L b (mQ (mQ S 13 t (mA S 13 t + 1)) 14 t v) := fun v => okM_mQ h1 (by decide)
        have hy : ix (nI t) t 16 := ix_nI (by omega) (by omega)
        exact okM_toEnd (h2 _) (okM_lx (h2 _) (by omega)) hy ht (notin_of (okM_q (h2 _)) hN (by omega) (ne31 c1)) (okM_ab (h2 _) (by omega) (Or.inr (Or.inr c1))).2 (Or.inr (ne32 c1))
    · rw [if_neg c2]; exact h
  · rw [if_neg c1]; exact h
theorem nx_16 (h : okM N L b S) {t n : Nat} (ht : t < 6) (hn : mA S 21 t = nI (n + 1)) (h31 : n + 1 < 2 ^ 31 := by omega) : n + 1 ≤ 16 := by
  have h1 := qOK_sz (okM_q h) ht
  have h2 : sZ S t = n + 1 := by show (mA S 21 t).toNatClampNeg = _; rw [hn, nI_clamp h31]
  omega
end OM4
