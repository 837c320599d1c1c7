section RS10
variable {tau : Int32} {S : Cs} {M M2 : Ms} {N L b : Nat}
/-- only what runs is in the state of running -/
def uR (M : Ms) : Prop := ∀ u, u < 16 → mA M 11 u = 2 → mO M 10 = nI u
theorem uR_sh (h : uR M) (h11 : ∀ i, mA M2 11 i = 2 → mA M 11 i = 2) (h10 : mO M2 10 = mO M 10) : uR M2 := fun u hu q => by rw [h10]; exact h u hu (h11 u q)
theorem uR_toEnd (h : uR M) {x y : Int32} {u : Nat} (hy : ix y u 16) : uR (F_X3_toEnd M x y) := uR_sh h (fun i q => by
  rw [toEnd_11 hy] at q
  by_cases e : i = u
  · rw [if_pos e] at q; exact absurd q (by decide)
  · rw [if_neg e] at q; exact q) rfl
theorem uR_end (h : uR M) {y w : Int32} {u : Nat} (hy : y.toNatClampNeg = u) : uR (F_X3_end M y w) := uR_sh h (fun i q => by
  rw [end_11 hy] at q
  by_cases e : i = u
  · rw [if_pos e] at q; exact absurd q (by decide)
  · rw [if_neg e] at q; exact q) rfl
theorem uR_come {x : Int32} (h : uR M) (ho : okM N L b M) : uR (F_X3_come M x) := by
  unfold F_X3_come
  dsimp only
  rw [okM_N ho]
  have hN := ho.2.2.1
  refine itr_ind (P := uR) N 0 M h (fun k Z _ hk hZ => ?_)
  have hy : ix (nI k) k 16 := ix_nI (by omega) (by omega)
  unfold B_X3_come_2
  dsimp only
  repeat' split
  · exact uR_end hZ (nI_clamp (by omega))
  · exact uR_toEnd (M := mQ (mQ (mQ Z 12 k 0) 16 k _) 14 k _) hZ hy
  · exact hZ
theorem uR_back {x : Int32} (h : uR M) (ho : okM N L b M) : uR (F_X3_comeBack M x) := by
  unfold F_X3_comeBack
  dsimp only
  rw [okM_N ho]
  have hN := ho.2.2.1
  refine itr_ind (P := uR) N 0 M h (fun k Z _ hk hZ => ?_)
  have hy : ix (nI k) k 16 := ix_nI (by omega) (by omega)
  unfold B_X3_comeBack_2
  dsimp only
  repeat' split
  · exact uR_end (M := mQ Z 13 k _) hZ (nI_clamp (by omega))
  · exact uR_toEnd (M := mQ (mQ Z 13 k _) 14 k _) hZ hy
  · exact hZ
  · exact hZ
theorem uR_count (h : uR M) : uR (F_X3_count M) := by
  unfold F_X3_count
  dsimp only
  refine itr_ind (P := uR) _ 0 M h (fun k Z _ hk hZ => ?_)
  unfold B_X3_count_2
  dsimp only
  repeat' split
  all_goals exact hZ
theorem uR_208 (h : uR M) (x y : Int32) : uR (G_X3_choose_208 M x y) := by
  unfold G_X3_choose_208
  dsimp only
  repeat' split
  all_goals exact h
theorem uR_80 {x p8 : Int32} (h : uR M) (ho : okM N L b M) (h8 : 0 ≤ p8 → ix p8 p8.toNatClampNeg 6 ∧ ¬ mA M 21 p8.toNatClampNeg = 0) : uR (G_X3_choose_80 M x p8) := by
  unfold G_X3_choose_80
  dsimp only
  by_cases c1 : 0 ≤ mO M 10
  · rw [if_pos c1]; exact h
  · rw [if_neg c1]
    by_cases c2 : 0 ≤ p8
    · rw [if_pos c2]
      have hN := ho.2.2.1
      obtain ⟨g1, q, q1, q2, q3, q4⟩ := okM_take ho (h8 c2).1 (sz_pos ho (h8 c2).1.2.2 (h8 c2).2)
      rw [q2, g103 _ q x (nI q) (nI_clamp (by omega))]
      refine uR_208 (fun u hu z => ?_) x (nI q)
      show nI q = nI u
      by_cases e : u = q
      · rw [e]
      · have z2 : mA (F_X3_takeFirst M p8).1 11 u = 2 := by
          have : mA (bM (mP (F_X3_takeFirst M p8).1 10 (nI q)) q x) 11 u = mA (F_X3_takeFirst M p8).1 11 u := by
            unfold bM
            rw [mA_ne _ _ _ _ (by decide), mA_ne _ _ _ _ (by decide), mA_ne _ _ _ _ (by decide), mA_ne _ _ _ _ (by decide), mA_nk _ _ _ _ e]
            rfl
          rw [← this]; exact z
        rw [take_o 11 u (by decide)] at z2
        have := h u hu z2
        rw [this] at c1
        exact absurd (nI_pos' (by omega)) c1
    · rw [if_neg c2]; exact h
theorem uR_frt (h : uR M) (ho : okM N L b M) (hr : ¬ mO M 10 < 0) : uR (frt M) := by
  intro u hu z
  have hrx := okM_rx ho hr
  have z' : mA (F_X3_toFront (mQ (mQ M 17 (mO M 10).toNatClampNeg 1) 19 (10 * (mO M 10).toNatClampNeg + 9) (mA M 19 (10 * (mO M 10).toNatClampNeg + 9) + 1)) (mA M 12 (mO M 10).toNatClampNeg) (mO M 10)) 11 u = 2 := z
  rw [toFront_11 hrx] at z'
  by_cases e : u = (mO M 10).toNatClampNeg
  · rw [if_pos e] at z'; exact absurd z' (by decide)
  · rw [if_neg e] at z'
    have := h u hu z'
    rw [this, nI_clamp (by omega)] at e
    exact absurd rfl e
theorem uR_choose {x : Int32} (h : uR M) (ho : okM N L b M) : uR (F_X3_choose M x) := by
  have h8 := fl_h8 ho
  rw [fl1] at h8
  rw [choose_eq]
  split
  · exact uR_80 h ho h8
  · next c9 =>
    split
    · exact uR_80 h ho h8
    · split
      · exact uR_80 h ho h8
      · next c26 => exact uR_80 (uR_frt h ho c9) (frt_ok ho c9).1 (fun h0 => frt_h8 ho c9 h8 c26 h0)
theorem uR_off (h : uR M) {r : Nat} (r10 : mO M 10 = nI r) (r16 : r < 16) (ho : ∀ i, i ≠ r → mA M2 11 i = mA M 11 i) (hr : ¬ mA M2 11 r = 2) : uR M2 := fun u hu q => by
  by_cases e : u = r
  · rw [e] at q; exact absurd q hr
  · rw [ho u e] at q
    have := h u hu q
    rw [r10] at this
    exact absurd ((nI_eq (by omega) (by omega)).mp this).symm e
theorem uR_work {x : Int32} (h : uR M) (ho : okM N L b M) (hr : ¬ mO M 10 < 0) : uR (F_X3_work M x) := by
  have hrx := okM_rx ho hr
  have r10 : mO (w4 M) 10 = nI (mO M 10).toNatClampNeg := hrx.nI
  have h4 : uR (w4 M) := h
  rw [work_eq]
  unfold w5
  dsimp only
  repeat' split
  · refine uR_off h4 r10 hrx.2.2 (fun i hne => by rw [end_11 rfl, if_neg hne]; rfl) (by rw [end_11 rfl, if_pos rfl]; decide)
  · refine uR_off h4 r10 hrx.2.2 (fun i hne => by rw [mA_ne _ _ _ _ (by decide), mA_nk _ _ _ _ hne]; rfl) (by rw [mA_ne _ _ _ _ (by decide), mA_eq]; decide)
  · refine uR_off h4 r10 hrx.2.2 (fun i hne => by rw [toEnd_11 hrx, if_neg hne]; rfl) (by rw [toEnd_11 hrx, if_pos rfl]; decide)
  · exact h4
  · refine uR_off h4 r10 hrx.2.2 (fun i hne => by rw [toEnd_11 hrx, if_neg hne]; rfl) (by rw [toEnd_11 hrx, if_pos rfl]; decide)
  · refine uR_off h4 r10 hrx.2.2 (fun i hne => by rw [toEnd_11 hrx, if_neg hne]; rfl) (by rw [toEnd_11 hrx, if_pos rfl]; decide)
/-- all come up, on both sides -/
theorem R_up (h : Rel tau S M) (ho : okM N L b M) (hu : uR M) : Rel tau (F_X2_bringAllUp S) (F_X3_allUp M) ∧ uR (F_X3_allUp M) := by
  have hN := ho.2.2.1
  have hL6 := ho.2.2.2.2.1
  obtain ⟨S1, hS1⟩ : ∃ z, z = sO S 10 (cO S 10 + 1) := ⟨_, rfl⟩
  obtain ⟨M1, hM1⟩ : ∃ z, z = mQ M 22 2 (mA M 22 2 + 1) := ⟨_, rfl⟩
  have o1 : okM N L b M1 := by rw [hM1]; exact okM_mQ22 ho (by decide)
  have n1 : (cO S1 4).toNatClampNeg = N := by rw [hS1]; exact h.nN ho
  have hqR : qR S1 M1 := by rw [hS1, hM1]; exact h.2.2.2.2.1
  have hlR : lR S1 M1 := by rw [hS1, hM1]; exact h.2.2.1
  have hv1 : ∀ i, mV M1 i = mV M i := fun i => by rw [hM1]; exact mV_row (by decide)
  have hT1 : ∀ u, u < 16 → tR tau u (cT S1 u) (cB S1 u) (mV M1 u) := fun u hu16 => by rw [hv1, hS1]; exact h.2.2.2.2.2 u hu16
  have hL1 : (mO M1 1).toNatClampNeg = L := okM_L o1
  unfold F_X2_bringAllUp F_X3_allUp
  dsimp only
  rw [← hS1, ← hM1, n1, hL1]
  -- the model's queues
  obtain ⟨-, -, o5, v5, a5, O5⟩ := R_upq hqR o1 (L - 1) (by omega)
  generalize hM5 : itr B_X3_allUp_12 (L - 1) 1 M1 = M5 at *
  have n5 : (mO M5 5).toNatClampNeg = N := okM_N o5
  rw [n5]
  -- the processes
  have sim := itr_sim (P := fun t S' M' => (∀ u, u < 16 → tU tau u t (mA M1 2 0) (cT S' u) (cB S' u) (mV M' u)) ∧ (cL S' = cL S1 ∧ cQ S' = cQ S1 ∧ cO S' = cO S1 ∧ cW S' = cW S1 ∧ cN S' = cN S1) ∧ (∀ j, mO M' j = mO M5 j) ∧ ∀ a k, a ≠ 12 → a ≠ 15 → a ≠ 16 → mA M' a k = mA M5 a k) (f := B_X2_bringAllUp_19) (g := B_X3_allUp_50) N 0 S1 M5 ⟨fun u hu16 => tU_0 (by rw [v5]; exact hT1 u hu16), ⟨rfl, rfl, rfl, rfl, rfl⟩, fun _ => rfl, fun _ _ _ _ _ => rfl⟩ (fun k S' M' _ hk hP => by
    obtain ⟨p1, ⟨p2, p3, p4, p5, p6⟩, p7, p8⟩ := hP
    have e2 : mA M' 2 0 = mA M1 2 0 := (p8 2 0 (by decide) (by decide) (by decide)).trans (a5 2 0 (by decide) (by decide) (by decide))
    have hl' : lR S' M' := fun l hl => by
      rw [p2, p8 2 l (by decide) (by decide) (by decide), p8 3 l (by decide) (by decide) (by decide), a5 2 l (by decide) (by decide) (by decide), a5 3 l (by decide) (by decide) (by decide)]
      exact hlR l hl
    obtain ⟨-, -, c2, c3, c4, c5, c6⟩ := up19_ne (S := S') (t := k) (u := k + 1) (by omega)
    obtain ⟨-, m2, m3⟩ := up50_ne (M := M') (t := k) (u := k + 1) (by omega)
    refine ⟨fun u hu16 => ?_, ⟨c2.trans p2, c3.trans p3, c4.trans p4, c5.trans p5, c6.trans p6⟩, fun j => (m2 j).trans (p7 j), fun a k2 h1 h2 h3 => (m3 a k2 h1 h2 h3).trans (p8 a k2 h1 h2 h3)⟩
    by_cases e : u = k
    · subst e
      have := up_task hl' hu16 (by rw [e2]; exact p1 u hu16)
      rw [e2] at this
      exact this
    · obtain ⟨d1, d2, -⟩ := up19_ne (S := S') (t := k) (u := u) e
      rw [d1, d2, (up50_ne (M := M') (t := k) (u := u) e).1]
      exact tU_up (p1 u hu16) e)
  rw [show 0 + N = N by omega] at sim
  generalize hS3 : itr B_X2_bringAllUp_19 N 0 S1 = S3 at *
  generalize hM9 : itr B_X3_allUp_50 N 0 M5 = M9 at *
  obtain ⟨p1, ⟨p2, p3, p4, p5, p6⟩, p7, p8⟩ := sim
  have o9 : okM N L b M9 := by rw [← hM9]; exact (up50s o5 N).1
  have l3 : (cO S3 3).toNatClampNeg = L := by rw [p4, hS1]; exact h.nL ho
  rw [l3]
  have hq3 : qR S3 M1 := fun l hl => by rw [p2, p3]; exact hqR l hl
  obtain ⟨q6, nq6, -, -, -, -⟩ := R_upq hq3 o1 (L - 1) (by omega)
  rw [hM5] at q6
  generalize hS6 : itr B_X2_bringAllUp_77 (L - 1) 1 S3 = S6 at *
  obtain ⟨s1, s2, s3, s4, s5, s6⟩ := nq6
  have q9 : qR S6 M9 := fun l hl => by
    unfold sZ
    rw [p8 21 l (by decide) (by decide) (by decide)]
    refine ⟨(q6 l hl).1, fun k hk => ?_⟩
    rw [p8 20 _ (by decide) (by decide) (by decide)]
    exact (q6 l hl).2 k hk
  have l9 : lR S6 M9 := fun l hl => by
    rw [s6 l 0 (by decide), s6 l 1 (by decide), p2, p8 2 l (by decide) (by decide) (by decide), p8 3 l (by decide) (by decide) (by decide), a5 2 l (by decide) (by decide) (by decide), a5 3 l (by decide) (by decide) (by decide)]
    exact hlR l hl
  have O9 : ∀ j, mO M9 j = mO M j := fun j => (p7 j).trans ((O5 j).trans (by rw [hM1]; rfl))
  have g9 : gR S6 M9 := by
    obtain ⟨g1, g2, g3, g4, g5⟩ := h.1
    refine ⟨?_, ?_, ?_, ?_, ?_⟩
    · rw [s1, p4, hS1, O9]; exact g1
    · rw [s1, p4, hS1, O9]; exact g2
    · rw [s1, p4, hS1, O9]; exact g3
    · rw [s1, p4, hS1, O9]; exact g4
    · rw [s1, p4, hS1]; exact g5
  have e22 : ∀ k, mA M9 22 k = mA M1 22 k := fun k => (p8 22 k (by decide) (by decide) (by decide)).trans (a5 22 k (by decide) (by decide) (by decide))
  have e23 : ∀ k, mA M9 23 k = mA M1 23 k := fun k => (p8 23 k (by decide) (by decide) (by decide)).trans (a5 23 k (by decide) (by decide) (by decide))
  have A9 : aR S6 M9 := by
    obtain ⟨b1, b2, b3, b4, b5⟩ := h.2.1
    refine ⟨?_, ?_, ?_, ?_, fun k hk => ?_⟩
    · rw [s1, p4, e22, hS1, hM1]; exact b1
    · rw [s1, p4, e22, hS1, hM1]; exact b2
    · rw [s1, p4, e22, hS1, hM1, mA_eq]; show cO S 10 + 1 = _; rw [b3]
    · rw [s1, p4, e22, hS1, hM1]; exact b4
    · rw [s4, p5, e23, hS1, hM1]; exact b5 k hk
  have n9 : nR S6 M9 := nR_same h.2.2.2.1 (by rw [s5, p6, hS1]; rfl) (O9 10)
  have st9 : ∀ u, mA M9 11 u = 2 → mA M 11 u = 2 := fun u q => by
    rw [p8 11 u (by decide) (by decide) (by decide)] at q
    have := congrFun (congrFun (v5 u) 11) 0
    rw [mV_p 0 (by decide), hv1, mV_p 0 (by decide)] at this
    rw [← this]; exact q
  have u9 : uR M9 := uR_sh hu st9 (O9 10)
  have q0 : mA M9 2 0 = mA M1 2 0 := (p8 2 0 (by decide) (by decide) (by decide)).trans (a5 2 0 (by decide) (by decide) (by decide))
  have keep : ∀ u, u < 16 → ¬ cT S6 u 4 = 2 → tR tau u (cT S6 u) (cB S6 u) (mV M9 u) := fun u hu16 hne => by
    rw [s2] at hne
    rw [s2, s3]
    obtain ⟨⟨t0, t1, t3, tb, t4, t5, t10, tc, tf, tz, ta, tl, tu, tq⟩, k1, k2⟩ := p1 u hu16
    exact ⟨t0, t1, t3, tb, t4, t5, t10, tc, tf, tz, ta, tl, tu, fun z => z.elim (fun z => absurd z hne) (fun z => k1 hne z)⟩
  have st6 : ∀ u, u < 16 → cT S6 u 4 = mA M9 11 u := fun u hu16 => by
    rw [s2]
    exact (show cT S3 u 4 = mV M9 u 11 0 from (p1 u hu16).1.2.2.2.2.1).trans (mV_p 0 (by decide))
  by_cases c : mO M9 10 < 0
  · rw [if_pos c]
    refine ⟨⟨g9, A9, l9, n9, q9, fun u hu16 => keep u hu16 (fun z => ?_)⟩, u9⟩
    rw [st6 u hu16] at z
    have := u9 u hu16 z
    rw [this] at c
    exact nI_pos (by omega) c
  · rw [if_neg c]
    have hrx := okM_rx o9 c
    have hrs := okM_rs o9 c
    have hrN := okM_rN o9 c
    generalize hr : (mO M9 10).toNatClampNeg = r at *
    refine ⟨RelX.rel (u := r) ⟨g9, fun l hl => l9 l hl, fun l hl => q9 l hl, fun i hi hne => ?_⟩ A9 n9 ?_, u9⟩
    · rw [mV_ne (by decide) hne]
      refine keep i hi (fun z => ?_)
      rw [st6 i hi] at z
      have := u9 i hi z
      rw [this, nI_clamp (by omega)] at hr
      exact hne hr
    · have hm : ∀ b j, mV (mQ M9 15 r (mA M9 2 0)) r b j = if b = 15 then mA M9 2 0 else mV M9 r b j := mV_at (by decide)
      have s2r : cT S3 r 4 = 2 := by have := st6 r hrx.2.2; rw [s2] at this; exact this.trans hrs
      obtain ⟨tR1, k1, k2⟩ := p1 r hrx.2.2
      have k3 := k2 s2r
      rw [if_pos hrN] at k3
      rw [s2, s3]
      have : mV (mQ M9 15 r (mA M9 2 0)) r = fun a k => if a = 15 then cT S3 r 8 else mV M9 r a k := by
        funext a k
        rw [hm, k3, q0]
      rw [this]
      exact tR1
end RS10
