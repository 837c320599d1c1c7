def F_X0_clear (S : Cs) (i : Nat) : Cs :=
  let S1 : Cs := sL S i 3 0
  S1
def F_X0_at (S : Cs) (i : Nat) (p1 : Int32) : Cs × Int32 :=
  if p1 < 0 then
    (S, (-1))
  else
    if (cL S i 3) ≤ p1 then
      (S, (-1))
    else
      (S, cQ S i ((p1).toNatClampNeg))
def F_X0_addLast (S : Cs) (i : Nat) (p1 : Int32) : Cs :=
  if 16 ≤ (cL S i 3) then
    S
  else
    let S1 : Cs := sQ S i (((cL S i 3)).toNatClampNeg) p1
    let S2 : Cs := sL S1 i 3 ((cL S1 i 3) + 1)
    S2
def B_X0_addFirst_14 (i : Nat) (p1 : Int32) (n : Nat) (Z : Cs) : Cs :=
  let S1 : Cs := sQ Z i (n + 1) (cQ Z i n)
  S1
def F_X0_addFirst (S : Cs) (i : Nat) (p1 : Int32) : Cs :=
  if 16 ≤ (cL S i 3) then
    S
  else
    let S2 : Cs := itd (B_X0_addFirst_14 i p1) ((cL S i 3).toNatClampNeg) S
    let S3 : Cs := sQ S2 i 0 p1
    let S4 : Cs := sL S3 i 3 ((cL S3 i 3) + 1)
    S4
def B_X0_takeFirst_28 (i : Nat)  (t : Nat) (Z : Cs) : Cs :=
  let S2 : Cs := sQ Z i t (cQ Z i (t + 1))
  S2
def F_X0_takeFirst (S : Cs) (i : Nat) : Cs × Int32 :=
  if (cL S i 3) = 0 then
    (S, (-1))
  else
    let S1 : Cs := sL S i 3 ((cL S i 3) - 1)
    let S3 : Cs := itr (B_X0_takeFirst_28 i) ((cL S1 i 3).toNatClampNeg) 0 S1
    (S3, cQ S i 0)
def B_X0_addAllOf_2 (i j : Nat)  (t : Nat) (Z : Cs) : Cs :=
  let S1 : Cs := F_X0_addLast Z i (cQ Z j t)
  S1
def F_X0_addAllOf (S : Cs) (i j : Nat) : Cs :=
  let S2 : Cs := itr (B_X0_addAllOf_2 i j) ((cL S j 3).toNatClampNeg) 0 S
  S2
def F_X1_startOver (S : Cs) (i : Nat) : Cs :=
  let S1 : Cs := sT S i 4 0
  let S2 : Cs := sT S1 i 5 0
  let S3 : Cs := sT S2 i 6 0
  let S4 : Cs := sT S3 i 7 0
  let S5 : Cs := sT S4 i 8 0
  let S6 : Cs := sT S5 i 9 0
  let S7 : Cs := sT S6 i 10 0
  let S8 : Cs := sT S7 i 11 0
  let S9 : Cs := sT S8 i 12 0
  let S10 : Cs := sT S9 i 13 0
  let S11 : Cs := sT S10 i 14 ((-1))
  let S12 : Cs := sT S11 i 15 ((-1))
  let S13 : Cs := sT S12 i 16 0
  let S14 : Cs := sT S13 i 17 0
  let S15 : Cs := sT S14 i 18 0
  S15
def F_X1_tellArrival (S : Cs) (i : Nat) (p1 : Int32) : Cs :=
  let S1 : Cs := sT S i 1 p1
  let S2 : Cs := sT S1 i 3 0
  S2
def F_X1_tellBurst (S : Cs) (i : Nat) (p1 : Int32) : Cs × Int32 :=
  if (cT S i 3) < 12 then
    let S1 : Cs := sB S i (((cT S i 3)).toNatClampNeg) p1
    let S2 : Cs := sT S1 i 3 ((cT S1 i 3) + 1)
    (S2, cT S2 i 3)
  else
    (S, (-1))
def F_X1_beginBurst (S : Cs) (i : Nat) : Cs × Int32 :=
  if (cT S i 6) < (cT S i 3) then
    let S1 : Cs := sT S i 7 (cB S i (((cT S i 6)).toNatClampNeg))
    let S2 : Cs := sT S1 i 6 ((cT S1 i 6) + 1)
    (S2, 1)
  else
    (S, 0)
def F_X1_beginRunning (S : Cs) (i : Nat) (p1 : Int32) (p2 : Int32) : Cs :=
  let S1 : Cs := sT S i 4 2
  if (cT S1 i 10) = 0 then
    let S5 : Cs := sT S1 i 8 p2
    let S6 : Cs := sT S5 i 10 0
    let S7 : Cs := sT S6 i 16 ((cT S6 i 16) + 1)
    if (cT S7 i 14) = ((-1)) then
      let S8 : Cs := sT S7 i 14 p1
      S8
    else
      S7
  else
    let S2 : Cs := sT S1 i 10 0
    let S3 : Cs := sT S2 i 16 ((cT S2 i 16) + 1)
    if (cT S3 i 14) = ((-1)) then
      let S4 : Cs := sT S3 i 14 p1
      S4
    else
      S3
def F_X1_comeUp (S : Cs) (i : Nat) (p1 : Int32) (p2 : Int32) : Cs :=
  let S1 : Cs := sT S i 5 0
  let S2 : Cs := sT S1 i 9 p2
  if (cT S2 i 4) = 2 then
    let S4 : Cs := sT S2 i 8 p1
    S4
  else
    let S3 : Cs := sT S2 i 8 (if p1 < (cT S2 i 8) then p1 else cT S2 i 8)
    S3
theorem ub_dec {n : Nat} {x : Int32} (h : ub (n + 1) x) (h0 : ¬ x = 0) : ub n (x - 1) := by
  obtain ⟨z, h1, rfl⟩ := h
  cases z with
  | zero => exact absurd nI_0 h0
  | succ z => exact ⟨z, by omega, nI_pred z⟩
theorem ub_inc {n k : Nat} {x y : Int32} (h : ub n x) (hn : n < 2 ^ 31) (hy : y = nI k) (hk : k < 2 ^ 31) (hc : ¬ y ≤ x) : ub k (x + 1) := by
  have h1 := (ix_nge h hn hy hk hc).2.2
  rw [ub_nI h hn, nI_1]
  exact ⟨_, h1, rfl⟩
theorem addLast_L {Z : Cs} {i : Nat} {r : Int32} (h : ub 16 (cL Z i 3)) : ub 16 (cL (F_X0_addLast Z i r) i 3) := by
  unfold F_X0_addLast
  by_cases hc : 16 ≤ cL Z i 3
  · rw [if_pos hc]; exact h
  · rw [if_neg hc]
    simp only [cL_sL, cL_sQ, and_self, if_true]
    exact ub_inc h (by omega) (by decide) (by omega) hc
theorem addLast_Lo {Z : Cs} {i i2 j2 : Nat} {r : Int32} (h : i2 ≠ i) : cL (F_X0_addLast Z i r) i2 j2 = cL Z i2 j2 := by
  unfold F_X0_addLast
  by_cases hc : 16 ≤ cL Z i 3
  · rw [if_pos hc]
  · rw [if_neg hc]
    simp [cL_sL, cL_sQ, h]
theorem aa_inv {Z : Cs} {i j t n : Nat} (hij : j ≠ i) (hI : cL Z j 3 = nI n ∧ ub 16 (cL Z i 3)) : cL (B_X0_addAllOf_2 i j t Z) j 3 = nI n ∧ ub 16 (cL (B_X0_addAllOf_2 i j t Z) i 3) :=
  ⟨by unfold B_X0_addAllOf_2; rw [addLast_Lo hij]; exact hI.1, addLast_L hI.2⟩
