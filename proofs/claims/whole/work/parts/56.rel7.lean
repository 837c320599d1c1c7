section RS5
variable {tau : Int32} {S : Cs} {M : Ms} {N L b : Nat}
/-! choosing: who is above, the first queue, the switch -/
theorem isOne_sp (p : Int32) : ∀ (n t : Nat) (Z : Cs), ((∀ i, t ≤ i → i < t + n → cL Z i 3 ≤ 0) → (L_X2_isOneReadyAbove_2 p n t Z).2 = 0) ∧ ((∃ i, t ≤ i ∧ i < t + n ∧ ¬ cL Z i 3 ≤ 0) → (L_X2_isOneReadyAbove_2 p n t Z).2 = 1) := by
  intro n
  induction n with
  | zero => intro t Z; exact ⟨fun _ => rfl, fun ⟨i, h1, h2, _⟩ => by omega⟩
  | succ n ih =>
    intro t Z
    unfold L_X2_isOneReadyAbove_2
    by_cases c : cL Z t 3 ≤ 0
    · rw [if_pos c]
      refine ⟨fun h => (ih (t + 1) Z).1 (fun i h1 h2 => h i (by omega) (by omega)), fun ⟨i, h1, h2, h3⟩ => (ih (t + 1) Z).2 ⟨i, ?_, by omega, h3⟩⟩
      by_cases e : i = t
      · rw [e] at h3; exact absurd c h3
      · omega
    · rw [if_neg c]
      exact ⟨fun h => absurd (h t (Nat.le_refl t) (by omega)) c, fun _ => rfl⟩
theorem qR_le (h : qR S M) (hq : ∀ l, l < 6 → ub 16 (mA M 21 l)) {l : Nat} (hl : l < 6) : (sZ M l = 0 → cL S l 3 = 0 ∧ cL S l 3 ≤ 0) ∧ (0 < sZ M l → ¬ cL S l 3 ≤ 0) := by
  have e := ub_nI (hq l hl) (by omega)
  have le := ub_le (hq l hl) (by omega)
  rw [(h l hl).1]
  refine ⟨fun h0 => ?_, fun h0 => ?_⟩
  · rw [e, show (mA M 21 l).toNatClampNeg = 0 from h0]; exact ⟨by decide, by decide⟩
  · rw [e]; exact nI_nle h0 (by omega)
theorem sw_skip {n t : Nat} {Z : Cs} (h : cL Z t 3 = 0) : L_X2_switchToFirst_2 (n + 1) t Z = L_X2_switchToFirst_2 n (t + 1) Z := by
  show (if (F_X2_isTask (F_X0_takeFirst Z t).1 (F_X0_takeFirst Z t).2).2 = 0 then L_X2_switchToFirst_2 n (t + 1) (F_X2_isTask (F_X0_takeFirst Z t).1 (F_X0_takeFirst Z t).2).1 else F_X2_switchTo (F_X2_isTask (F_X0_takeFirst Z t).1 (F_X0_takeFirst Z t).2).1 (F_X0_takeFirst Z t).2.toNatClampNeg) = _
  rw [takeC0 h]
  have e : F_X2_isTask Z (-1) = (Z, 0) := by unfold F_X2_isTask; rw [if_pos (by decide)]
  show (if (F_X2_isTask Z (-1)).2 = 0 then L_X2_switchToFirst_2 n (t + 1) (F_X2_isTask Z (-1)).1 else F_X2_switchTo (F_X2_isTask Z (-1)).1 (-1 : Int32).toNatClampNeg) = _
  rw [e]
  exact if_pos rfl
theorem sw_skips {Z : Cs} {j : Nat} : ∀ (n t : Nat), (∀ i, t ≤ i → i < j → cL Z i 3 = 0) → t ≤ j → j ≤ t + n → L_X2_switchToFirst_2 n t Z = L_X2_switchToFirst_2 (t + n - j) j Z := by
  intro n
  induction n with
  | zero => intro t _ h1 h2; rw [show j = t by omega, show t + 0 - t = 0 by omega]
  | succ n ih =>
    intro t h h1 h2
    by_cases e : t = j
    · rw [e, show j + (n + 1) - j = n + 1 by omega]
    · rw [sw_skip (h t (Nat.le_refl t) (by omega)), ih (t + 1) (fun i a b => h i (by omega) b) (by omega) (by omega), show t + 1 + n - j = t + (n + 1) - j by omega]
theorem isT_y {x : Int32} {q : Nat} (hx : x = nI q) (hN : cO S 4 = nI N) (h16 : N ≤ 16) (hq : q < N) : F_X2_isTask S x = (S, 1) := by
  unfold F_X2_isTask
  rw [hx, if_neg (nI_pos (by omega)), hN, if_neg (nI_ge hq (by omega))]
theorem sw_hit {n j q : Nat} {Z : Cs} (hq : (F_X0_takeFirst Z j).2 = nI q) (hN : cO Z 4 = nI N) (h16 : N ≤ 16) (hqN : q < N) : L_X2_switchToFirst_2 (n + 1) j Z = F_X2_switchTo (F_X0_takeFirst Z j).1 q := by
  show (if (F_X2_isTask (F_X0_takeFirst Z j).1 (F_X0_takeFirst Z j).2).2 = 0 then L_X2_switchToFirst_2 n (j + 1) (F_X2_isTask (F_X0_takeFirst Z j).1 (F_X0_takeFirst Z j).2).1 else F_X2_switchTo (F_X2_isTask (F_X0_takeFirst Z j).1 (F_X0_takeFirst Z j).2).1 (F_X0_takeFirst Z j).2.toNatClampNeg) = _
  rw [isT_y (N := N) hq (by rw [(nq_take (S := Z) (l := j)).1]; exact hN) h16 hqN, hq, nI_clamp (by omega)]
  exact if_neg (show ¬ (1 : Int32) = 0 from by decide)
/-! the switch itself -/
theorem bru_T {u : Nat} {x q : Int32} : (∀ j, cT (F_X1_beginRunning S u x q) u j = if j = 14 then (if cT S u 14 = -1 then x else cT S u 14) else if j = 16 then cT S u 16 + 1 else if j = 10 then 0 else if j = 8 then (if cT S u 10 = 0 then q else cT S u 8) else if j = 4 then 2 else cT S u j) := by
  intro j
  unfold F_X1_beginRunning
  dsimp only
  have e10 : cT (sT S u 4 2) u 10 = cT S u 10 := by rw [cT_at, if_neg (by decide)]
  rw [e10]
  by_cases k : cT S u 10 = 0
  · rw [if_pos k, if_pos k]
    have e14 : cT (sT (sT (sT (sT S u 4 2) u 8 q) u 10 0) u 16 (cT (sT (sT (sT S u 4 2) u 8 q) u 10 0) u 16 + 1)) u 14 = cT S u 14 := by simp only [cT_at]; rfl
    rw [e14]
    by_cases f : cT S u 14 = -1
    · rw [if_pos f, if_pos f]; simp only [cT_at]; rfl
    · rw [if_neg f, if_neg f]; simp only [cT_at]
      by_cases e : j = 14
      · rw [if_pos e, e]; rfl
      · rw [if_neg e]; rfl
  · rw [if_neg k, if_neg k]
    have e14 : cT (sT (sT (sT S u 4 2) u 10 0) u 16 (cT (sT (sT S u 4 2) u 10 0) u 16 + 1)) u 14 = cT S u 14 := by simp only [cT_at]; rfl
    rw [e14]
    have e8 : ∀ z : Int32, (if j = 16 then cT S u 16 + 1 else if j = 10 then 0 else if j = 4 then 2 else cT S u j) = (if j = 16 then cT S u 16 + 1 else if j = 10 then (0 : Int32) else if j = 8 then cT S u 8 else if j = 4 then 2 else cT S u j) := fun _ => by
      by_cases e : j = 8
      · rw [e]; rfl
      · rw [if_neg e]
    by_cases f : cT S u 14 = -1
    · rw [if_pos f, if_pos f]; simp only [cT_at]; rw [← e8 0]; rfl
    · rw [if_neg f, if_neg f]; simp only [cT_at]
      by_cases e : j = 14
      · rw [if_pos e, e]; rfl
      · rw [if_neg e, ← e8 0]; rfl
theorem bru_o {u : Nat} {x q : Int32} : RelX tau u S M → RelX tau u (F_X1_beginRunning S u x q) M := by
  intro h
  unfold F_X1_beginRunning
  dsimp only
  split
  · split
    · exact X_sT (X_sT (X_sT (X_sT (X_sT h))))
    · exact X_sT (X_sT (X_sT (X_sT h)))
  · split
    · exact X_sT (X_sT (X_sT (X_sT h)))
    · exact X_sT (X_sT (X_sT h))
theorem bru_c {u : Nat} {x q : Int32} : (∀ j, cO (F_X1_beginRunning S u x q) j = cO S j) ∧ (∀ k, cW (F_X1_beginRunning S u x q) k = cW S k) ∧ cB (F_X1_beginRunning S u x q) = cB S := by
  unfold F_X1_beginRunning
  dsimp only
  split
  · split
    · exact ⟨fun _ => rfl, fun _ => rfl, rfl⟩
    · exact ⟨fun _ => rfl, fun _ => rfl, rfl⟩
  · split
    · exact ⟨fun _ => rfl, fun _ => rfl, rfl⟩
    · exact ⟨fun _ => rfl, fun _ => rfl, rfl⟩
/-- the model's state ahead of the switch's counting -/
def bM (Y : Ms) (u : Nat) (x : Int32) : Ms := mQ (mQ (mQ (mQ (mQ Y 11 u 2) 15 u (if mA Y 17 u = 0 then mA Y 2 (mA Y 12 u).toNatClampNeg else mA Y 15 u)) 17 u 0) 19 (10 * u + 7) (mA Y 19 (10 * u + 7) + 1)) 19 (10 * u + 5) (if 0 ≤ mA Y 19 (10 * u + 5) then mA Y 19 (10 * u + 5) else x)
theorem g145 (Y : Ms) (u : Nat) (x y : Int32) (hy : y.toNatClampNeg = u) : G_X3_choose_145 Y x y = G_X3_choose_208 (mQ (mQ (mQ Y 17 u 0) 19 (10 * u + 7) (mA Y 19 (10 * u + 7) + 1)) 19 (10 * u + 5) (if 0 ≤ mA Y 19 (10 * u + 5) then mA Y 19 (10 * u + 5) else x)) x y := by
  unfold G_X3_choose_145
  dsimp only
  rw [hy]
  have e5 : mA (mQ (mQ Y 17 u 0) 19 (10 * u + 7) (mA (mQ Y 17 u 0) 19 (10 * u + 7) + 1)) 19 (10 * u + 5) = mA Y 19 (10 * u + 5) := by rw [mA_nk _ _ _ _ (by omega), mA_ne _ _ _ _ (by decide)]
  rw [e5]
  by_cases c : 0 ≤ mA Y 19 (10 * u + 5)
  · rw [if_pos c, if_pos c]; rfl
  · rw [if_neg c, if_neg c]; rfl
theorem g103 (Y : Ms) (u : Nat) (x y : Int32) (hy : y.toNatClampNeg = u) : G_X3_choose_103 Y x y = G_X3_choose_208 (bM Y u x) x y := by
  unfold G_X3_choose_103
  dsimp only
  rw [hy, g145 _ u x y hy, g145 _ u x y hy]
  have e17 : mA (mQ Y 11 u 2) 17 u = mA Y 17 u := mA_ne _ _ _ _ (by decide)
  rw [e17]
  unfold bM
  by_cases c : mA Y 17 u = 0
  · rw [if_pos c, if_pos c]; rfl
  · rw [if_neg c, if_neg c]; rfl
end RS5
