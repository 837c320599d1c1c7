/-! class and model side by side -/
/-- what the model holds of process u: a row's place, or of rows by process a stretch -/
def mV (M : Ms) (u a k : Nat) : Int32 := if a = 8 then mA M 8 (12 * u + k % 12) else if a = 19 then mA M 19 (10 * u + k % 10) else if a = 2 ∨ a = 3 ∨ 20 ≤ a then 0 else mA M a u
theorem mV_p {M : Ms} {u a : Nat} (k : Nat) (h : a ≠ 8 ∧ a ≠ 19 ∧ a ≠ 2 ∧ a ≠ 3 ∧ a < 20) : mV M u a k = mA M a u := by unfold mV; rw [if_neg h.1, if_neg h.2.1, if_neg (by omega)]
theorem mV_8 {M : Ms} {u k : Nat} (hk : k < 12) : mV M u 8 k = mA M 8 (12 * u + k) := by unfold mV; rw [if_pos rfl, Nat.mod_eq_of_lt hk]
theorem mV_19 {M : Ms} {u k : Nat} (hk : k < 10) : mV M u 19 k = mA M 19 (10 * u + k) := by unfold mV; rw [if_neg (by decide), if_pos rfl, Nat.mod_eq_of_lt hk]
theorem mV_mP {M : Ms} {j : Nat} {v : Int32} (u : Nat) : mV (mP M j v) u = mV M u := rfl
theorem mV_ne {M : Ms} {a k u : Nat} {v : Int32} (h : a ≠ 8 ∧ a ≠ 19) (hk : u ≠ k) : mV (mQ M a k v) u = mV M u := by
  funext b j
  unfold mV
  rw [mA_ne _ _ _ _ (Ne.symm h.1), mA_ne _ _ _ _ (Ne.symm h.2), mA_nk _ _ _ _ hk]
theorem mV_row {M : Ms} {a k u : Nat} {v : Int32} (h : a = 2 ∨ a = 3 ∨ 20 ≤ a) : mV (mQ M a k v) u = mV M u := by
  funext b j
  unfold mV
  rw [mA_ne _ _ _ _ (by omega), mA_ne _ _ _ _ (by omega)]
  by_cases b2 : b = 2 ∨ b = 3 ∨ 20 ≤ b
  · rw [if_pos b2, if_pos b2]
  · rw [if_neg b2, if_neg b2, mA_ne _ _ _ _ (fun q => b2 (by omega))]
theorem mV_c {M : Ms} {u0 c u : Nat} {v : Int32} (hc : c < 10) (hu : u ≠ u0) : mV (mQ M 19 (10 * u0 + c) v) u = mV M u := by
  funext b j
  unfold mV
  rw [mA_ne _ _ _ _ (by decide), mA_nk _ _ _ _ (by have := Nat.mod_lt j (show 0 < 10 by omega); omega)]
  by_cases b19 : b = 19
  · rw [if_pos b19, if_pos b19]
  · rw [if_neg b19, if_neg b19, mA_ne _ _ _ _ b19]
theorem mV_t {M : Ms} {u0 c u : Nat} {v : Int32} (hc : c < 12) (hu : u ≠ u0) : mV (mQ M 8 (12 * u0 + c) v) u = mV M u := by
  funext b j
  unfold mV
  rw [mA_nk _ _ _ _ (by have := Nat.mod_lt j (show 0 < 12 by omega); omega), mA_ne _ _ _ _ (by decide)]
  by_cases b8 : b = 8
  · rw [if_pos b8, if_pos b8]
  · rw [if_neg b8, if_neg b8, mA_ne _ _ _ _ b8]
/-- at the place itself -/
theorem mV_at {M : Ms} {a u : Nat} {v : Int32} (h : a ≠ 8 ∧ a ≠ 19 ∧ a ≠ 2 ∧ a ≠ 3 ∧ a < 20) (b j : Nat) : mV (mQ M a u v) u b j = if b = a then v else mV M u b j := by
  by_cases e : b = a
  · subst e; rw [if_pos rfl, mV_p j h]; exact mA_eq _ _ _ _
  · rw [if_neg e]
    unfold mV
    rw [mA_ne _ _ _ _ (Ne.symm h.1), mA_ne _ _ _ _ (Ne.symm h.2.1), mA_ne _ _ _ _ e]
theorem mV_cat {M : Ms} {c u : Nat} {v : Int32} (hc : c < 10) (b j : Nat) : mV (mQ M 19 (10 * u + c) v) u b j = if b = 19 ∧ j % 10 = c then v else mV M u b j := by
  by_cases e : b = 19
  · subst e
    by_cases e2 : j % 10 = c
    · rw [if_pos ⟨rfl, e2⟩]
      show mA (mQ M 19 (10 * u + c) v) 19 (10 * u + j % 10) = v
      rw [e2]; exact mA_eq _ _ _ _
    · rw [if_neg (fun q => e2 q.2)]
      show mA (mQ M 19 (10 * u + c) v) 19 (10 * u + j % 10) = mA M 19 (10 * u + j % 10)
      exact mA_nk _ _ _ _ (by omega)
  · rw [if_neg (fun q => e q.1)]
    unfold mV
    rw [mA_ne _ _ _ _ (by decide : (8 : Nat) ≠ 19), mA_ne _ _ _ _ e, if_neg e, if_neg e]
/-- a process, on both sides: c, cb the class's words of it, m the model's; tau: till when a blocked one's rest counts -/
def tR (tau : Int32) (u : Nat) (c cb : Nat → Int32) (m : Nat → Nat → Int32) : Prop :=
  c 0 = nI u ∧ c 1 = m 6 0 ∧ c 3 = m 7 0 ∧ (∀ k, k < 12 → cb k = m 8 k) ∧ c 4 = m 11 0 ∧ c 5 = m 12 0 ∧ c 10 = m 17 0 ∧
  (c 11 = m 19 2 ∧ c 12 = m 19 3 ∧ c 13 = m 19 4 ∧ c 14 = m 19 5 ∧ c 15 = m 19 6 ∧ c 16 = m 19 7 ∧ c 17 = m 19 8 ∧ c 18 = m 19 9) ∧
  (c 14 = -1 ∨ ¬ c 14 < 0) ∧ (c 4 = 0 → c 6 = 0 ∧ c 5 = 0 ∧ c 10 = 0) ∧ (c 4 = 1 ∨ c 4 = 2 ∨ c 4 = 3 → c 6 = m 13 0 + 1 ∧ c 9 = m 16 0) ∧ (c 4 = 1 ∨ c 4 = 2 → c 7 = m 14 0) ∧ (c 4 = 3 → m 18 0 = tau + c 7) ∧ (c 4 = 2 ∨ ¬ c 10 = 0 → c 8 = m 15 0)
/-- the queues -/
def qR (S : Cs) (M : Ms) : Prop := ∀ l, l < 6 → cL S l 3 = mA M 21 l ∧ ∀ k, k < sZ M l → cQ S l k = mA M 20 (16 * l + k)
/-- the levels' quanta and shares -/
def lR (S : Cs) (M : Ms) : Prop := ∀ l, l < 6 → cL S l 0 = mA M 2 l ∧ cL S l 1 = mA M 3 l
/-- who runs -/
def nR (S : Cs) (M : Ms) : Prop := cN S = none ∧ mO M 10 = -1 ∨ ∃ r, r < 16 ∧ cN S = some r ∧ mO M 10 = nI r
/-- how many levels, processes; the period; the time -/
def gR (S : Cs) (M : Ms) : Prop := cO S 3 = mO M 1 ∧ cO S 4 = mO M 5 ∧ cO S 5 = mO M 4 ∧ cO S 6 = mO M 9 ∧ ub 10000 (cO S 5)
/-- what is counted of all -/
def aR (S : Cs) (M : Ms) : Prop := cO S 8 = mA M 22 0 ∧ cO S 9 = mA M 22 1 ∧ cO S 10 = mA M 22 2 ∧ cO S 11 = mA M 22 3 ∧ ∀ k, k < 400 → cW S k = mA M 23 k
def Rel (tau : Int32) (S : Cs) (M : Ms) : Prop := gR S M ∧ aR S M ∧ lR S M ∧ nR S M ∧ qR S M ∧ ∀ u, u < 16 → tR tau u (cT S u) (cB S u) (mV M u)
/-- all but the queues is as it was -/
def nq (S S' : Cs) : Prop := cO S' = cO S ∧ cT S' = cT S ∧ cB S' = cB S ∧ cW S' = cW S ∧ cN S' = cN S ∧ ∀ l j, j ≠ 3 → cL S' l j = cL S l j
theorem nq.rf {S : Cs} : nq S S := ⟨rfl, rfl, rfl, rfl, rfl, fun _ _ _ => rfl⟩
theorem nq.tr {S S2 S3 : Cs} (h : nq S S2) (h2 : nq S2 S3) : nq S S3 := ⟨h2.1.trans h.1, h2.2.1.trans h.2.1, h2.2.2.1.trans h.2.2.1, h2.2.2.2.1.trans h.2.2.2.1, h2.2.2.2.2.1.trans h.2.2.2.2.1, fun l j hj => (h2.2.2.2.2.2 l j hj).trans (h.2.2.2.2.2 l j hj)⟩
theorem nq_sQ {S : Cs} {l k : Nat} {v : Int32} : nq S (sQ S l k v) := ⟨rfl, rfl, rfl, rfl, rfl, fun _ _ _ => rfl⟩
theorem nq_sL3 {S : Cs} {l : Nat} {v : Int32} : nq S (sL S l 3 v) := ⟨rfl, rfl, rfl, rfl, rfl, fun l2 j hj => by rw [cL_sL, if_neg (fun h => hj h.1)]⟩
theorem nq_addLast {S : Cs} {l : Nat} {v : Int32} : nq S (F_X0_addLast S l v) := by
  unfold F_X0_addLast
  split
  · exact nq.rf
  · exact nq_sQ.tr nq_sL3
theorem nq_addFirst {S : Cs} {l : Nat} {v : Int32} : nq S (F_X0_addFirst S l v) := by
  unfold F_X0_addFirst
  split
  · exact nq.rf
  · exact (itd_ind (P := nq S) _ _ nq.rf (fun k Z _ h => h.tr nq_sQ)).tr (nq_sQ.tr nq_sL3)
theorem nq_take {S : Cs} {l : Nat} : nq S (F_X0_takeFirst S l).1 := by
  unfold F_X0_takeFirst
  split
  · exact nq.rf
  · exact nq_sL3.tr (itr_ind (P := nq (sL S l 3 (cL S l 3 - 1))) _ _ _ nq.rf (fun k Z _ _ h => h.tr nq_sQ))
/-! the class's queues, place by place -/
theorem n16 {x : Int32} (h : ub 15 x) : ¬ 16 ≤ x := by
  obtain ⟨z, h1, rfl⟩ := h
  exact nI_ge (a := z) (b := 16) (by omega) (by omega)
theorem addLast_3 {S : Cs} {l : Nat} {v : Int32} (h : ub 15 (cL S l 3)) (l2 : Nat) : cL (F_X0_addLast S l v) l2 3 = if l2 = l then cL S l 3 + 1 else cL S l2 3 := by
  unfold F_X0_addLast
  rw [if_neg (n16 h)]
  dsimp only
  rw [cL_sL]
  by_cases e : l2 = l
  · rw [if_pos ⟨rfl, e⟩, if_pos e]; rfl
  · rw [if_neg (fun q => e q.2), if_neg e]; rfl
theorem addLast_Q {S : Cs} {l : Nat} {v : Int32} (h : ub 15 (cL S l 3)) (l2 k : Nat) : cQ (F_X0_addLast S l v) l2 k = if l2 = l ∧ k = (cL S l 3).toNatClampNeg then v else cQ S l2 k := by
  unfold F_X0_addLast
  rw [if_neg (n16 h)]
  dsimp only
  rw [cQ_sL, cQ_sQ]
  by_cases e : l2 = l ∧ k = (cL S l 3).toNatClampNeg
  · rw [if_pos e, if_pos ⟨e.2, e.1⟩]
  · rw [if_neg e, if_neg (fun q => e ⟨q.2, q.1⟩)]
theorem addF_sh (i : Nat) (v : Int32) : ∀ (n : Nat) (Z : Cs) (l k : Nat), cQ (itd (B_X0_addFirst_14 i v) n Z) l k = (if l = i ∧ 0 < k ∧ k ≤ n then cQ Z i (k - 1) else cQ Z l k) ∧ cL (itd (B_X0_addFirst_14 i v) n Z) = cL Z := by
  intro n
  induction n with
  | zero => intro Z l k; exact ⟨by rw [if_neg (by omega)]; rfl, rfl⟩
  | succ n ih =>
    intro Z l k
    obtain ⟨h1, h2⟩ := ih (B_X0_addFirst_14 i v n Z) l k
    refine ⟨?_, h2⟩
    show cQ (itd (B_X0_addFirst_14 i v) n (B_X0_addFirst_14 i v n Z)) l k = _
    rw [h1]
    unfold B_X0_addFirst_14
    dsimp only
    rw [cQ_sQ, cQ_sQ]
    by_cases hl : l = i
    · subst hl
      by_cases c1 : 0 < k ∧ k ≤ n
      · rw [if_pos ⟨rfl, c1⟩, if_neg (by omega), if_pos ⟨rfl, by omega⟩]
      · rw [if_neg (fun q => c1 q.2)]
        by_cases c2 : k = n + 1
        · rw [if_pos ⟨c2, rfl⟩, if_pos ⟨rfl, by omega⟩, c2]; rfl
        · rw [if_neg (fun q => c2 q.1), if_neg (by omega)]
    · rw [if_neg (fun q => hl q.1), if_neg (fun q => hl q.2), if_neg (fun q => hl q.1)]
theorem addFirst_3 {S : Cs} {l : Nat} {v : Int32} (h : ub 15 (cL S l 3)) (l2 : Nat) : cL (F_X0_addFirst S l v) l2 3 = if l2 = l then cL S l 3 + 1 else cL S l2 3 := by
  unfold F_X0_addFirst
  rw [if_neg (n16 h)]
  dsimp only
  rw [cL_sL, cL_sQ, cL_sQ, (addF_sh l v _ S 0 0).2]
  by_cases e : l2 = l
  · rw [if_pos ⟨rfl, e⟩, if_pos e]
  · rw [if_neg (fun q => e q.2), if_neg e]
theorem addFirst_Q {S : Cs} {l : Nat} {v : Int32} (h : ub 15 (cL S l 3)) (l2 k : Nat) : cQ (F_X0_addFirst S l v) l2 k = if l2 = l then (if k = 0 then v else if k ≤ (cL S l 3).toNatClampNeg then cQ S l (k - 1) else cQ S l2 k) else cQ S l2 k := by
  unfold F_X0_addFirst
  rw [if_neg (n16 h)]
  dsimp only
  rw [cQ_sL, cQ_sQ, (addF_sh l v _ S l2 k).1]
  by_cases e : l2 = l
  · subst e
    rw [if_pos rfl]
    by_cases k0 : k = 0
    · rw [if_pos ⟨k0, rfl⟩, if_pos k0]
    · rw [if_neg (fun q => k0 q.1), if_neg k0]
      by_cases k1 : k ≤ (cL S l2 3).toNatClampNeg
      · rw [if_pos ⟨rfl, by omega, k1⟩, if_pos k1]
      · rw [if_neg (fun q => k1 q.2.2), if_neg k1]
  · rw [if_neg (fun q => e q.2), if_neg (fun q => e q.1), if_neg e]
theorem take_sh (i : Nat) : ∀ (n t : Nat) (Z : Cs) (l k : Nat), cQ (itr (B_X0_takeFirst_28 i) n t Z) l k = (if l = i ∧ t ≤ k ∧ k < t + n then cQ Z i (k + 1) else cQ Z l k) ∧ cL (itr (B_X0_takeFirst_28 i) n t Z) = cL Z := by
  intro n
  induction n with
  | zero => intro t Z l k; exact ⟨by rw [if_neg (by omega)]; rfl, rfl⟩
  | succ n ih =>
    intro t Z l k
    obtain ⟨h1, h2⟩ := ih (t + 1) (B_X0_takeFirst_28 i t Z) l k
    refine ⟨?_, h2⟩
    show cQ (itr (B_X0_takeFirst_28 i) n (t + 1) (B_X0_takeFirst_28 i t Z)) l k = _
    rw [h1]
    unfold B_X0_takeFirst_28
    dsimp only
    rw [cQ_sQ, cQ_sQ]
    by_cases hl : l = i
    · subst hl
      by_cases c1 : t + 1 ≤ k ∧ k < t + 1 + n
      · rw [if_pos ⟨rfl, c1⟩, if_neg (by omega), if_pos ⟨rfl, by omega⟩]
      · rw [if_neg (fun q => c1 q.2)]
        by_cases c2 : k = t
        · rw [if_pos ⟨c2, rfl⟩, if_pos ⟨rfl, by omega⟩, c2]
        · rw [if_neg (fun q => c2 q.1), if_neg (by omega)]
    · rw [if_neg (fun q => hl q.1), if_neg (fun q => hl q.2), if_neg (fun q => hl q.1)]
theorem takeC {S : Cs} {l : Nat} (h : ub 16 (cL S l 3)) (h0 : 0 < (cL S l 3).toNatClampNeg) : (F_X0_takeFirst S l).2 = cQ S l 0 ∧ (∀ l2, cL (F_X0_takeFirst S l).1 l2 3 = if l2 = l then nI ((cL S l 3).toNatClampNeg - 1) else cL S l2 3) ∧ ∀ l2 k, cQ (F_X0_takeFirst S l).1 l2 k = if l2 = l ∧ k + 1 < (cL S l 3).toNatClampNeg then cQ S l (k + 1) else cQ S l2 k := by
  have e := ub_nI h (by omega)
  have le := ub_le h (by omega)
  have hne : ¬ cL S l 3 = 0 := fun q => by rw [q] at h0; exact absurd h0 (by decide)
  obtain ⟨z, hz⟩ : ∃ z, (cL S l 3).toNatClampNeg = z + 1 := ⟨(cL S l 3).toNatClampNeg - 1, by omega⟩
  have e1 : cL S l 3 - 1 = nI z := by rw [e, hz, nI_pred]
  have e2 : cL (sL S l 3 (cL S l 3 - 1)) l 3 = nI z := by rw [cL_sL, if_pos ⟨rfl, rfl⟩, e1]
  unfold F_X0_takeFirst
  rw [if_neg hne]
  dsimp only
  rw [e2, nI_clamp (by omega), hz]
  refine ⟨rfl, fun l2 => ?_, fun l2 k => ?_⟩
  · rw [(take_sh l z 0 _ 0 0).2, cL_sL]
    by_cases el : l2 = l
    · rw [if_pos ⟨rfl, el⟩, if_pos el, e1]; rfl
    · rw [if_neg (fun q => el q.2), if_neg el]
  · rw [(take_sh l z 0 _ l2 k).1, cQ_sL, cQ_sL]
    by_cases c : l2 = l ∧ k + 1 < z + 1
    · rw [if_pos c, if_pos ⟨c.1, by omega⟩]
    · rw [if_neg c, if_neg (fun q => c ⟨q.1, by omega⟩)]
theorem takeC0 {S : Cs} {l : Nat} (h : cL S l 3 = 0) : F_X0_takeFirst S l = (S, -1) := by unfold F_X0_takeFirst; rw [if_pos h]
/-! the queues of both -/
section QR
variable {S : Cs} {M : Ms} {N l : Nat} {x y : Int32}
theorem qR_z (h : qR S M) (hl : l < 6) : (cL S l 3).toNatClampNeg = sZ M l := by rw [(h l hl).1]
theorem qR_end (h : qR S M) (hq : ∀ l, l < 6 → ub 16 (mA M 21 l)) (hx : ix x l 6) (hz : ub 15 (mA M 21 l)) : qR (F_X0_addLast S l y) (F_X3_toEnd M x y) := by
  intro i hi
  have hz15 := ub_le hz (by omega)
  have hzl := (h l hx.2.2).1
  refine ⟨?_, fun k hk => ?_⟩
  · rw [addLast_3 (by rw [hzl]; exact hz), toEnd_21 hx (hq l hx.2.2)]
    by_cases e : i = l
    · rw [if_pos e, if_pos e, hzl, ub_sz (hq l hx.2.2)]
    · rw [if_neg e, if_neg e]; exact (h i hi).1
  · have hk2 : k < if i = l then sZ M l + 1 else sZ M i := by
      have hs : sZ (F_X3_toEnd M x y) i = if i = l then sZ M l + 1 else sZ M i := by
        unfold sZ
        rw [toEnd_21 hx (hq l hx.2.2)]
        by_cases e : i = l
        · rw [if_pos e, if_pos e, nI_clamp (by unfold sZ; omega)]
        · rw [if_neg e, if_neg e]
      rw [← hs]; exact hk
    have hi16 := ub_le (hq i hi) (by omega)
    have hk16 : k < 16 := by
      by_cases e : i = l
      · rw [if_pos e] at hk2; unfold sZ at hk2; omega
      · rw [if_neg e] at hk2; unfold sZ at hk2; omega
    rw [addLast_Q (by rw [hzl]; exact hz), toEnd_20 hx i k hi hk16 hz15, qR_z h hx.2.2]
    by_cases e : i = l ∧ k = sZ M l
    · rw [if_pos e, if_pos e]
    · rw [if_neg e, if_neg e]
      refine (h i hi).2 k ?_
      by_cases e2 : i = l
      · rw [if_pos e2] at hk2
        subst e2
        have : k ≠ sZ M i := fun q => e ⟨rfl, q⟩
        omega
      · rw [if_neg e2] at hk2; exact hk2
theorem qR_front (h : qR S M) (hq : ∀ l, l < 6 → ub 16 (mA M 21 l)) (hx : ix x l 6) (hz : ub 15 (mA M 21 l)) : qR (F_X0_addFirst S l y) (F_X3_toFront M x y) := by
  intro i hi
  have hz15 := ub_le hz (by omega)
  have hzl := (h l hx.2.2).1
  refine ⟨?_, fun k hk => ?_⟩
  · rw [addFirst_3 (by rw [hzl]; exact hz), toFront_21 hx (hq l hx.2.2)]
    by_cases e : i = l
    · rw [if_pos e, if_pos e, hzl, ub_sz (hq l hx.2.2)]
    · rw [if_neg e, if_neg e]; exact (h i hi).1
  · have hk2 : k < if i = l then sZ M l + 1 else sZ M i := by
      have hs : sZ (F_X3_toFront M x y) i = if i = l then sZ M l + 1 else sZ M i := by
        unfold sZ
        rw [toFront_21 hx (hq l hx.2.2)]
        by_cases e : i = l
        · rw [if_pos e, if_pos e, nI_clamp (by unfold sZ; omega)]
        · rw [if_neg e, if_neg e]
      rw [← hs]; exact hk
    have hi16 := ub_le (hq i hi) (by omega)
    have hk16 : k < 16 := by
      by_cases e : i = l
      · rw [if_pos e] at hk2; unfold sZ at hk2; omega
      · rw [if_neg e] at hk2; unfold sZ at hk2; omega
    rw [addFirst_Q (by rw [hzl]; exact hz), toFront_20 hx i k hi hk16 hz15, qR_z h hx.2.2]
    by_cases e : i = l
    · subst e
      rw [if_pos rfl, if_pos rfl]
      by_cases k0 : k = 0
      · rw [if_pos k0, if_pos k0]
      · rw [if_neg k0, if_neg k0]
        rw [if_pos rfl] at hk2
        rw [if_pos (by omega), if_pos (by omega)]
        exact (h i hi).2 (k - 1) (by omega)
    · rw [if_neg e, if_neg e]
      rw [if_neg e] at hk2
      exact (h i hi).2 k hk2
theorem qR_take (h : qR S M) (hq : ∀ l, l < 6 → ub 16 (mA M 21 l)) (hx : ix x l 6) (h0 : 0 < sZ M l) : qR (F_X0_takeFirst S l).1 (F_X3_takeFirst M x).1 ∧ (F_X0_takeFirst S l).2 = mA M 20 (16 * l) := by
  have hzl := (h l hx.2.2).1
  have hz := qR_z h hx.2.2
  obtain ⟨t1, t2, t3⟩ := takeC (S := S) (l := l) (by rw [hzl]; exact hq l hx.2.2) (by rw [hz]; exact h0)
  refine ⟨fun i hi => ⟨?_, fun k hk => ?_⟩, by rw [t1]; exact (h l hx.2.2).2 0 h0⟩
  · rw [t2, take_21 hx (hq l hx.2.2) h0, hz]
    by_cases e : i = l
    · rw [if_pos e, if_pos e]
    · rw [if_neg e, if_neg e]; exact (h i hi).1
  · have hl16 := ub_le (hq l hx.2.2) (by omega)
    have hi16 := ub_le (hq i hi) (by omega)
    have hk2 : k < if i = l then sZ M l - 1 else sZ M i := by
      have hs : sZ (F_X3_takeFirst M x).1 i = if i = l then sZ M l - 1 else sZ M i := by
        unfold sZ
        rw [take_21 hx (hq l hx.2.2) h0]
        by_cases e : i = l
        · rw [if_pos e, if_pos e, nI_clamp (by unfold sZ; omega)]
        · rw [if_neg e, if_neg e]
      rw [← hs]; exact hk
    have hk16 : k < 16 := by
      by_cases e : i = l
      · rw [if_pos e] at hk2; unfold sZ at hk2; omega
      · rw [if_neg e] at hk2; unfold sZ at hk2; omega
    rw [t3, take_20 hx (hq l hx.2.2) h0 i k hi hk16, hz]
    by_cases e : i = l ∧ k + 1 < sZ M l
    · rw [if_pos e, if_pos e]
      obtain ⟨rfl, e2⟩ := e
      exact (h i hi).2 (k + 1) e2
    · rw [if_neg e, if_neg e]
      by_cases e2 : i = l
      · rw [if_pos e2] at hk2
        exact absurd ⟨e2, by omega⟩ e
      · rw [if_neg e2] at hk2; exact (h i hi).2 k hk2
end QR
