section RS2
variable {tau : Int32} {S : Cs} {M : Ms} {N L b : Nat}
theorem itr_sim {α β : Type} {P : Nat → α → β → Prop} {f : Nat → α → α} {g : Nat → β → β} : ∀ (n t : Nat) (a : α) (b : β), P t a b → (∀ k a b, t ≤ k → k < t + n → P k a b → P (k + 1) (f k a) (g k b)) → P (t + n) (itr f n t a) (itr g n t b) := by
  intro n
  induction n with
  | zero => intro t a b h _; exact h
  | succ n ih =>
    intro t a b h hs
    have := ih (t + 1) (f t a) (g t b) (hs t a b (Nat.le_refl t) (by omega) h) (fun k a b h1 h2 => hs k a b (by omega) (by omega))
    rw [show t + (n + 1) = t + 1 + n by omega]
    exact this
theorem Rel.nN (h : Rel tau S M) (ho : okM N L b M) : (cO S 4).toNatClampNeg = N := by rw [h.1.2.1]; exact okM_N ho
theorem Rel.nL (h : Rel tau S M) (ho : okM N L b M) : (cO S 3).toNatClampNeg = L := by rw [h.1.1]; exact okM_L ho
theorem R_come_all {T : Nat} {x : Int32} (h : Rel tau S M) (ho : okM N L b M) (hti : tiM N T M) (hx : x = nI T) (hT : mO M 9 = x) (hT2 : T ≤ 200000) : Rel tau (F_X2_letArrive S) (F_X3_come M x) := by
  unfold F_X2_letArrive F_X3_come
  dsimp only
  rw [h.nN ho, okM_N ho]
  refine (itr_sim (P := fun t S M => Rel tau S M ∧ (okM N L b M ∧ tiC N T t M) ∧ mO M 9 = x) N 0 S M ⟨h, ⟨ho, ti_0 hti⟩, hT⟩ (fun k S M _ hk hP => ?_)).1
  exact ⟨R_arrive hP.1 hP.2.1.1 hP.2.1.2 (by omega) hx hP.2.2, come_inv hP.2.1 (by omega) hx, by rw [kp_B_come (T := 0)]; exact hP.2.2⟩
theorem add_r0 {a c : Int32} (h : a = a + c) : c = 0 := by
  have : a + c - a = 0 := by rw [← h]; exact Int32.sub_self a
  rw [Int32.add_comm, Int32.add_sub_cancel] at this
  exact this
theorem R_back {t : Nat} {x : Int32} (h : Rel x S M) (ho : okM N L b M) (ht : t < N) (hT : mO M 9 = x) : Rel x (B_X2_letComeBack_2 t S) (B_X3_comeBack_2 x t M) := by
  have hN := ho.2.2.1
  have h16 : t < 16 := by omega
  have hX := h.x t
  obtain ⟨t0, t1, t3, tb, t4, t5, t10, tc, tf, tz, ta, tl, tu, tq⟩ := h.2.2.2.2.2 t h16
  have t3' := t3
  have t4' := t4
  have t5' := t5
  rw [mV_p 0 (by decide)] at t3' t4' t5'
  have hnow : cO S 6 = x := by rw [h.1.2.2.2.1]; exact hT
  unfold B_X2_letComeBack_2 B_X3_comeBack_2
  dsimp only
  by_cases s3 : mA M 11 t = 3
  · have s3' : cT S t 4 = 3 := t4'.trans s3
    have hu := tu s3'
    rw [mV_p 0 (by decide)] at hu
    obtain ⟨a6, a9⟩ := ta (Or.inr (Or.inr s3'))
    obtain ⟨-, a, c, h13, h7, hac, hc12⟩ := okM_ab ho h16 (Or.inr (Or.inr s3))
    have e6 : cT S t 6 = nI (a + 1) := by rw [a6, mV_p 0 (by decide), h13, nI_1]
    have e3 : cT S t 3 = nI c := t3'.trans h7
    rw [if_pos s3', if_pos s3]
    by_cases c7 : cT S t 7 = 0
    · rw [if_pos c7, if_pos (by rw [hu, c7, Int32.add_zero])]
      rw [mA_eq, mA_ne _ _ _ _ (by decide), h13, h7, nI_1]
      by_cases cc : a + 1 = c
      · rw [if_pos (by rw [cc]), goOn_n e6 e3 (by omega) (by omega), hnow]
        refine RelX.rel (X_end (X_mQ hX (by decide)) h16) (aR_end (M := mQ M 13 t (nI (a + 1))) (aR_same h.2.1 (fun _ _ => rfl) (fun _ => rfl) (fun _ => rfl) (fun _ => rfl))) (nR_same h.2.2.2.1 rfl rfl) ?_
        obtain ⟨v1, v2⟩ := end_T (S := S) (u := t) (w := x)
        have hm := mV_end_at (M := mQ M 13 t (nI (a + 1))) (u := t) (y := nI t) (w := x) (nI_clamp (by omega))
        have hm2 : ∀ b j, mV (mQ M 13 t (nI (a + 1))) t b j = if b = 13 then nI (a + 1) else mV M t b j := fun b j => mV_at (by decide) b j
        rw [v2]
        unfold tR
        simp only [v1, hm, hm2]
        exact ⟨t0, t1, t3, tb, rfl, t5, t10, ⟨tc.1, tc.2.1, tc.2.2.1, tc.2.2.2.1, rfl, tc.2.2.2.2.2⟩, tf, fun q => absurd q n40, fun q => absurd q n4a, fun q => absurd q n4b, fun q => absurd q n43, fun q => q.elim (fun q => absurd q n42) (fun q => tq (Or.inr q))⟩
      · have hlt : a + 1 < c := by omega
        rw [if_neg (fun q => cc ((nI_eq (by omega) (by omega)).mp q)), goOn_y e6 e3 (by omega) hlt]
        have hx0 := okM_lx ho h16
        have w5 : cT (sT (sT S t 7 (cB S t (a + 1))) t 6 (nI (a + 1 + 1))) t 5 = mA M 12 t := by rw [cT_at, cT_at, if_neg (by decide), if_neg (by decide)]; exact t5'
        have w0 : cT (sT (sT S t 7 (cB S t (a + 1))) t 6 (nI (a + 1 + 1))) t 0 = nI t := by rw [cT_at, cT_at, if_neg (by decide), if_neg (by decide)]; exact t0
        have hz := okM_15 ho ht (ne31 s3) hx0
        have tba := tb (a + 1) (by omega)
        rw [mV_8 (by omega)] at tba
        obtain ⟨M2, hM2⟩ : ∃ z, z = mQ (mQ M 13 t (nI (a + 1))) 14 t (mA (mQ M 13 t (nI (a + 1))) 8 (12 * t + (nI (a + 1)).toNatClampNeg)) := ⟨_, rfl⟩
        rw [← hM2]
        have hXm : RelX x t (sT (sT S t 7 (cB S t (a + 1))) t 6 (nI (a + 1 + 1))) M2 := by rw [hM2]; exact X_mQ (X_mQ (X_sT (X_sT hX)) (by decide)) (by decide)
        have e12 : mA M2 12 t = mA M 12 t := by rw [hM2]; rfl
        have e21 : ∀ l, mA M2 21 l = mA M 21 l := fun l => by rw [hM2]; rfl
        rw [e12]
        obtain ⟨v1, v2, v3, v4, v5⟩ := stand_T hx0 w5 w0
        refine RelX.rel (X_stand hXm h16 (fun l hl => by rw [e21]; exact (okM_q ho).1 l hl) hx0 w5 w0 (by rw [e21]; exact hz)) (aR_same h.2.1 (fun j _ => v3 j) v4 (fun k => by rw [toEnd_o 22 k (by decide), hM2]; rfl) (fun k => by rw [toEnd_o 23 k (by decide), hM2]; rfl)) (nR_same h.2.2.2.1 v5 (by rw [toEnd_O, hM2]; rfl)) ?_
        have hm := mV_toEnd_at (M := M2) (x := mA M 12 t) (u := t) (y := nI t) (nI_clamp (by omega))
        have hm2 : ∀ b j, mV M2 t b j = if b = 14 then mA M 8 (12 * t + (a + 1)) else if b = 13 then nI (a + 1) else mV M t b j := fun b j => by rw [hM2, mV_at (by decide), mV_at (by decide), nI_clamp (by omega)]; rfl
        rw [v2]
        unfold tR
        simp only [hm, hm2, v1, cT_at]
        exact ⟨t0, t1, t3, tb, rfl, t5, t10, tc, tf, fun q => absurd q n10, fun _ => ⟨by show nI (a + 1 + 1) = nI (a + 1) + 1; rw [nI_1], a9⟩, fun _ => tba, fun q => absurd q n13, fun q => q.elim (fun q => absurd q n12) (fun q => tq (Or.inr q))⟩
    · rw [if_neg c7, if_neg (fun q => c7 (add_r0 (q.symm.trans hu)))]; exact h
  · rw [if_neg s3, if_neg (fun q => s3 (t4'.symm.trans q))]; exact h
theorem R_back_all {x : Int32} (h : Rel x S M) (ho : okM N L b M) (hT : mO M 9 = x) : Rel x (F_X2_letComeBack S) (F_X3_comeBack M x) := by
  unfold F_X2_letComeBack F_X3_comeBack
  dsimp only
  rw [h.nN ho, okM_N ho]
  have hN := ho.2.2.1
  refine (itr_sim (P := fun _ S M => Rel x S M ∧ okM N L b M ∧ mO M 9 = x) N 0 S M ⟨h, ho, hT⟩ (fun k S M _ hk hP => ?_)).1
  exact ⟨R_back hP.1 hP.2.1 (by omega) hP.2.2, ok_B_comeBack hP.2.1 (by omega), ((kp_B_comeBack hP.2.1 (by omega)).1.2.2).trans hP.2.2⟩
/-- while those that wait are counted: the first t have been -/
def RelP (tau : Int32) (t : Nat) (S : Cs) (M : Ms) : Prop := gR S M ∧ aR S M ∧ lR S M ∧ nR S M ∧ qR S M ∧ ∀ u, u < 16 → tR (if u < t then tau + 1 else tau) u (cT S u) (cB S u) (mV M u)
theorem R_count_1 {t : Nat} (h : RelP tau t S M) (ht : t < 16) : RelP tau (t + 1) (B_X2_countWaiting_2 t S) (B_X3_count_2 t M) := by
  obtain ⟨hg, ha, hl, hn, hq, hu⟩ := h
  have hut := hu t ht
  rw [if_neg (by omega)] at hut
  obtain ⟨t0, t1, t3, tb, t4, t5, t10, tc, tf, tz, ta, tl, tu, tq⟩ := hut
  have t4' := t4
  rw [mV_p 0 (by decide)] at t4'
  have others : ∀ u, u < 16 → u ≠ t → tR (if u < t + 1 then tau + 1 else tau) u (cT S u) (cB S u) (mV M u) := fun u hu16 hne => by
    have := hu u hu16
    by_cases e : u < t
    · rw [if_pos e] at this; rw [if_pos (by omega)]; exact this
    · rw [if_neg e] at this; rw [if_neg (by omega)]; exact this
  have fin : ∀ (S' : Cs) (M' : Ms), gR S' M' → aR S' M' → lR S' M' → nR S' M' → qR S' M' → (∀ u, u ≠ t → cT S' u = cT S u ∧ cB S' u = cB S u ∧ mV M' u = mV M u) → tR (tau + 1) t (cT S' t) (cB S' t) (mV M' t) → RelP tau (t + 1) S' M' := fun S' M' g1 g2 g3 g4 g5 g6 g7 => ⟨g1, g2, g3, g4, g5, fun u hu16 => by
    by_cases e : u = t
    · subst e; rw [if_pos (by omega)]; exact g7
    · obtain ⟨e1, e2, e3⟩ := g6 u e
      rw [e1, e2, e3]; exact others u hu16 e⟩
  unfold B_X2_countWaiting_2 B_X3_count_2
  dsimp only
  by_cases s1 : mA M 11 t = 1
  · have s1' : cT S t 4 = 1 := t4'.trans s1
    rw [if_pos s1, if_pos s1']
    refine fin _ _ hg ha hl hn hq (fun u hne => ⟨cT_ne hne, rfl, mV_c (by decide) hne⟩) ?_
    have hm := mV_cat (M := M) (u := t) (c := 3) (v := mA M 19 (10 * t + 3) + 1) (by decide)
    have k3 : cT S t 12 + 1 = mA M 19 (10 * t + 3) + 1 := by rw [tc.2.1, mV_19 (by decide)]
    unfold tR
    simp only [hm, cT_at]
    exact ⟨t0, t1, t3, tb, t4, t5, t10, ⟨tc.1, k3, tc.2.2⟩, tf, tz, ta, tl, fun q => absurd (s1'.symm.trans q) n13, tq⟩
  · have s1' : ¬ cT S t 4 = 1 := fun q => s1 (t4'.symm.trans q)
    rw [if_neg s1, if_neg s1']
    by_cases s3 : mA M 11 t = 3
    · have s3' : cT S t 4 = 3 := t4'.trans s3
      rw [if_pos s3, if_pos s3']
      refine fin _ _ hg ha hl hn hq (fun u hne => ⟨(cT_ne hne).trans (cT_ne hne), rfl, mV_c (by decide) hne⟩) ?_
      have hm := mV_cat (M := M) (u := t) (c := 4) (v := mA M 19 (10 * t + 4) + 1) (by decide)
      have k4 : cT S t 13 + 1 = mA M 19 (10 * t + 4) + 1 := by rw [tc.2.2.1, mV_19 (by decide)]
      have hu3 : mV M t 18 0 = tau + 1 + (cT S t 7 - 1) := by
        rw [tu s3', Int32.add_assoc, Int32.add_comm 1 (cT S t 7 - 1), Int32.sub_add_cancel]
      unfold tR
      simp only [hm, cT_at]
      exact ⟨t0, t1, t3, tb, t4, t5, t10, ⟨tc.1, tc.2.1, k4, tc.2.2.2⟩, tf, tz, ta, fun q => absurd (s3'.symm.trans (q.elim (fun z => absurd z s1') id)) n32, fun _ => hu3, tq⟩
    · have s3' : ¬ cT S t 4 = 3 := fun q => s3 (t4'.symm.trans q)
      rw [if_neg s3, if_neg s3']
      exact fin _ _ hg ha hl hn hq (fun u hne => ⟨rfl, rfl, rfl⟩) ⟨t0, t1, t3, tb, t4, t5, t10, tc, tf, tz, ta, tl, fun q => absurd q s3', tq⟩
theorem R_count_all (h : Rel tau S M) (ho : okM N L b M) : Rel (tau + 1) (F_X2_countWaiting S) (F_X3_count M) := by
  have ho2 := (count_s ho).1
  have hN := ho.2.2.1
  unfold F_X2_countWaiting
  unfold F_X3_count at ho2 ⊢
  dsimp only at ho2 ⊢
  rw [okM_N ho] at ho2
  rw [h.nN ho, okM_N ho]
  have h0 : RelP tau 0 S M := ⟨h.1, h.2.1, h.2.2.1, h.2.2.2.1, h.2.2.2.2.1, fun u hu => by rw [if_neg (by omega)]; exact h.2.2.2.2.2 u hu⟩
  have h1 := itr_sim (P := fun t S M => RelP tau t S M) N 0 S M h0 (fun k S M _ hk hP => R_count_1 hP (by omega))
  rw [show 0 + N = N by omega] at h1
  obtain ⟨hg, ha, hl, hn, hq, hu⟩ := h1
  refine ⟨hg, ha, hl, hn, hq, fun u hu16 => ?_⟩
  have := hu u hu16
  by_cases e : u < N
  · rw [if_pos e] at this; exact this
  · rw [if_neg e] at this
    obtain ⟨t0, t1, t3, tb, t4, t5, t10, tc, tf, tz, ta, tl, tu, tq⟩ := this
    refine ⟨t0, t1, t3, tb, t4, t5, t10, tc, tf, tz, ta, tl, fun q => ?_, tq⟩
    rw [t4, mV_p 0 (by decide)] at q
    exact absurd (okM_ab ho2 hu16 (Or.inr (Or.inr q))).1 e
end RS2
