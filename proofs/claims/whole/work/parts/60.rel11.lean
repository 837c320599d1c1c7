section RS9
variable {tau : Int32} {S : Cs} {M : Ms} {N L b : Nat}
/-- while all come up: what runs has its new quantum in the class, not yet in the model -/
def tU (tau : Int32) (u t : Nat) (q0 : Int32) (c cb : Nat → Int32) (m : Nat → Nat → Int32) : Prop := tR tau u c cb (fun a k => if a = 15 then c 8 else m a k) ∧ (¬ c 4 = 2 → ¬ c 10 = 0 → c 8 = m 15 0) ∧ (c 4 = 2 → c 8 = if u < t then q0 else m 15 0)
theorem tU_0 {u : Nat} {q0 : Int32} {c cb : Nat → Int32} {m : Nat → Nat → Int32} (h : tR tau u c cb m) : tU tau u 0 q0 c cb m := by
  obtain ⟨t0, t1, t3, tb, t4, t5, t10, tc, tf, tz, ta, tl, tu, tq⟩ := h
  exact ⟨⟨t0, t1, t3, tb, t4, t5, t10, tc, tf, tz, ta, tl, tu, fun _ => rfl⟩, fun _ k => tq (Or.inr k), fun k => by rw [if_neg (by omega)]; exact tq (Or.inl k)⟩
theorem tU_up {u t : Nat} {q0 : Int32} {c cb : Nat → Int32} {m : Nat → Nat → Int32} (h : tU tau u t q0 c cb m) (hne : u ≠ t) : tU tau u (t + 1) q0 c cb m := ⟨h.1, h.2.1, fun k => by
  have := h.2.2 k
  by_cases e : u < t
  · rw [if_pos e] at this; rw [if_pos (by omega)]; exact this
  · rw [if_neg e] at this; rw [if_neg (by omega)]; exact this⟩
theorem min_eq {q0 x : Int32} : (if q0 < x then q0 else x) = if x ≤ q0 then x else q0 := by
  by_cases e : x ≤ q0
  · rw [if_pos e, if_neg (Int32.not_lt.mpr e)]
  · rw [if_neg e, if_pos (Int32.not_le.mp e)]
theorem up_task {t : Nat} (hl : lR S M) (ht : t < 16) (h : tU tau t t (mA M 2 0) (cT S t) (cB S t) (mV M t)) : tU tau t (t + 1) (mA M 2 0) (cT (B_X2_bringAllUp_19 t S) t) (cB (B_X2_bringAllUp_19 t S) t) (mV (B_X3_allUp_50 t M) t) := by
  obtain ⟨⟨t0, t1, t3, tb, t4, t5, t10, tc, tf, tz, ta, tl, tu, tq⟩, hk, h2⟩ := h
  have t4' : cT S t 4 = mA M 11 t := (show cT S t 4 = mV M t 11 0 from t4).trans (mV_p 0 (by decide))
  have t10' : cT S t 10 = mA M 17 t := (show cT S t 10 = mV M t 17 0 from t10).trans (mV_p 0 (by decide))
  have hq := (hl 0 (by omega)).1
  have hsh := (hl 0 (by omega)).2
  rw [if_neg (by omega)] at h2
  unfold B_X2_bringAllUp_19 B_X3_allUp_50
  dsimp only
  by_cases s0 : mA M 11 t = 0
  · rw [if_pos s0, if_pos (t4'.trans s0)]
    exact ⟨⟨t0, t1, t3, tb, t4, t5, t10, tc, tf, tz, ta, tl, tu, tq⟩, hk, fun k => absurd ((t4'.trans s0).symm.trans k) (by decide)⟩
  · rw [if_neg s0, if_neg (fun z => s0 (t4'.symm.trans z))]
    by_cases s4 : mA M 11 t = 4
    · rw [if_pos s4, if_pos (t4'.trans s4)]
      exact ⟨⟨t0, t1, t3, tb, t4, t5, t10, tc, tf, tz, ta, tl, tu, tq⟩, hk, fun k => absurd ((t4'.trans s4).symm.trans k) (by decide)⟩
    · rw [if_neg s4, if_neg (fun z => s4 (t4'.symm.trans z))]
      have hv : F_X1_comeUp S t (cL S 0 0) (cL S 0 1) = sT (sT (sT S t 5 0) t 9 (cL S 0 1)) t 8 (if cT S t 4 = 2 then cL S 0 0 else if cL S 0 0 < cT S t 8 then cL S 0 0 else cT S t 8) := by
        unfold F_X1_comeUp
        dsimp only
        have e4 : cT (sT (sT S t 5 0) t 9 (cL S 0 1)) t 4 = cT S t 4 := by simp only [cT_at]; rfl
        have e8 : cT (sT (sT S t 5 0) t 9 (cL S 0 1)) t 8 = cT S t 8 := by simp only [cT_at]; rfl
        rw [e4, e8]
        by_cases k : cT S t 4 = 2
        · rw [if_pos k, if_pos k]
        · rw [if_neg k, if_neg k]
      have hw : (if mA (mQ (mQ M 12 t 0) 16 t (mA (mQ M 12 t 0) 3 0)) 17 t = 0 then mQ (mQ M 12 t 0) 16 t (mA (mQ M 12 t 0) 3 0) else if mA (mQ (mQ M 12 t 0) 16 t (mA (mQ M 12 t 0) 3 0)) 15 t ≤ mA (mQ (mQ M 12 t 0) 16 t (mA (mQ M 12 t 0) 3 0)) 2 0 then mQ (mQ M 12 t 0) 16 t (mA (mQ M 12 t 0) 3 0) else mQ (mQ (mQ M 12 t 0) 16 t (mA (mQ M 12 t 0) 3 0)) 15 t (mA (mQ (mQ M 12 t 0) 16 t (mA (mQ M 12 t 0) 3 0)) 2 0)) = mQ (mQ (mQ M 12 t 0) 16 t (mA M 3 0)) 15 t (if mA M 17 t = 0 then mA M 15 t else if mA M 15 t ≤ mA M 2 0 then mA M 15 t else mA M 2 0) := by
        have same : mQ (mQ (mQ M 12 t 0) 16 t (mA M 3 0)) 15 t (mA M 15 t) = mQ (mQ M 12 t 0) 16 t (mA M 3 0) := by
          unfold mQ
          refine Prod.ext rfl ?_
          funext a k
          dsimp only
          by_cases e : a = 15 ∧ k = t
          · obtain ⟨rfl, rfl⟩ := e
            rw [if_pos ⟨rfl, rfl⟩, if_neg (fun z => absurd z.1 (by decide)), if_neg (fun z => absurd z.1 (by decide))]; rfl
          · rw [if_neg e]
        have e17 : mA (mQ (mQ M 12 t 0) 16 t (mA (mQ M 12 t 0) 3 0)) 17 t = mA M 17 t := rfl
        have e15 : mA (mQ (mQ M 12 t 0) 16 t (mA (mQ M 12 t 0) 3 0)) 15 t = mA M 15 t := rfl
        have e2 : mA (mQ (mQ M 12 t 0) 16 t (mA (mQ M 12 t 0) 3 0)) 2 0 = mA M 2 0 := rfl
        have e3 : mA (mQ M 12 t 0) 3 0 = mA M 3 0 := rfl
        rw [e17, e15, e2, e3]
        by_cases k : mA M 17 t = 0
        · rw [if_pos k, if_pos k, same]
        · rw [if_neg k, if_neg k]
          by_cases k2 : mA M 15 t ≤ mA M 2 0
          · rw [if_pos k2, if_pos k2, same]
          · rw [if_neg k2, if_neg k2]
      rw [hv, hw]
      have hm : ∀ b j, mV (mQ (mQ (mQ M 12 t 0) 16 t (mA M 3 0)) 15 t (if mA M 17 t = 0 then mA M 15 t else if mA M 15 t ≤ mA M 2 0 then mA M 15 t else mA M 2 0)) t b j = if b = 15 then (if mA M 17 t = 0 then mA M 15 t else if mA M 15 t ≤ mA M 2 0 then mA M 15 t else mA M 2 0) else if b = 16 then mA M 3 0 else if b = 12 then 0 else mV M t b j := fun b j => by rw [mV_at (by decide), mV_at (by decide), mV_at (by decide)]
      show tU tau t (t + 1) (mA M 2 0) _ (cB S t) _
      unfold tU tR
      simp only [hm, cT_at]
      refine ⟨⟨t0, t1, t3, tb, t4, rfl, t10, tc, tf, fun q => absurd (t4'.symm.trans q) s0, fun q => ⟨(ta q).1, hsh⟩, tl, tu, fun _ => rfl⟩, fun n2 n0 => ?_, fun k2 => ?_⟩
      · have n2' : ¬ cT S t 4 = 2 := n2
        have n0' : ¬ cT S t 10 = 0 := n0
        have k8 := hk n2' n0'
        rw [mV_p 0 (by decide)] at k8
        show (if cT S t 4 = 2 then cL S 0 0 else if cL S 0 0 < cT S t 8 then cL S 0 0 else cT S t 8) = if mA M 17 t = 0 then mA M 15 t else if mA M 15 t ≤ mA M 2 0 then mA M 15 t else mA M 2 0
        rw [if_neg n2', k8, hq, if_neg (show ¬ mA M 17 t = 0 from by rw [← t10']; exact n0'), min_eq]
      · have k2' : cT S t 4 = 2 := k2
        rw [if_pos (show t < t + 1 by omega)]
        show (if cT S t 4 = 2 then cL S 0 0 else if cL S 0 0 < cT S t 8 then cL S 0 0 else cT S t 8) = mA M 2 0
        rw [if_pos k2', hq]
theorem up19_ne {t u : Nat} (hne : u ≠ t) : cT (B_X2_bringAllUp_19 t S) u = cT S u ∧ cB (B_X2_bringAllUp_19 t S) u = cB S u ∧ cL (B_X2_bringAllUp_19 t S) = cL S ∧ cQ (B_X2_bringAllUp_19 t S) = cQ S ∧ cO (B_X2_bringAllUp_19 t S) = cO S ∧ cW (B_X2_bringAllUp_19 t S) = cW S ∧ cN (B_X2_bringAllUp_19 t S) = cN S := by
  unfold B_X2_bringAllUp_19 F_X1_comeUp
  dsimp only
  split
  · exact ⟨rfl, rfl, rfl, rfl, rfl, rfl, rfl⟩
  · split
    · exact ⟨rfl, rfl, rfl, rfl, rfl, rfl, rfl⟩
    · split
      · exact ⟨by rw [cT_ne hne, cT_ne hne, cT_ne hne], rfl, rfl, rfl, rfl, rfl, rfl⟩
      · exact ⟨by rw [cT_ne hne, cT_ne hne, cT_ne hne], rfl, rfl, rfl, rfl, rfl, rfl⟩
theorem up50_ne {t u : Nat} (hne : u ≠ t) : mV (B_X3_allUp_50 t M) u = mV M u ∧ (∀ j, mO (B_X3_allUp_50 t M) j = mO M j) ∧ ∀ a k, a ≠ 12 → a ≠ 15 → a ≠ 16 → mA (B_X3_allUp_50 t M) a k = mA M a k := by
  unfold B_X3_allUp_50
  dsimp only
  split
  · exact ⟨rfl, fun _ => rfl, fun _ _ _ _ _ => rfl⟩
  · split
    · exact ⟨rfl, fun _ => rfl, fun _ _ _ _ _ => rfl⟩
    · have e : ∀ v a k, a ≠ 12 → a ≠ 15 → a ≠ 16 → mA (mQ (mQ M 12 t 0) 16 t v) a k = mA M a k := fun v a k h1 h2 h3 => by rw [mA_ne _ _ _ _ h3, mA_ne _ _ _ _ h1]
      split
      · exact ⟨by rw [mV_ne (by decide) hne, mV_ne (by decide) hne], fun _ => rfl, e _⟩
      · split
        · exact ⟨by rw [mV_ne (by decide) hne, mV_ne (by decide) hne], fun _ => rfl, e _⟩
        · exact ⟨by rw [mV_ne (by decide) hne, mV_ne (by decide) hne, mV_ne (by decide) hne], fun _ => rfl, fun a k h1 h2 h3 => by rw [mA_ne _ _ _ _ h2]; exact e _ a k h1 h2 h3⟩
end RS9
