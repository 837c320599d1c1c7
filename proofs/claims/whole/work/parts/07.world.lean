/-! THE CLASS: its state is numbers by places. O: the object's fields; L, T: a level's, a task's fields; Q, B: a level's queue, a task's bursts; Wk: the kept switches; N: which task is on the processor. Cells: 0 the object, 1 the array of levels, 2 of tasks, 3 the kept switches, 4+2i level i, 5+2i its queue, 16+2i task i, 17+2i its bursts -/
abbrev Cs : Type := (Nat → Int32) × (Nat → Nat → Int32) × (Nat → Nat → Int32) × (Nat → Nat → Int32) × (Nat → Nat → Int32) × (Nat → Int32) × Option Nat
def u2 (f : Nat → Nat → Int32) (i j : Nat) (v : Int32) : Nat → Nat → Int32 := fun a b => if b = j ∧ a = i then v else f a b
def cO (S : Cs) (j : Nat) : Int32 := S.1 j
def cL (S : Cs) (i j : Nat) : Int32 := S.2.1 i j
def cQ (S : Cs) (i j : Nat) : Int32 := S.2.2.1 i j
def cT (S : Cs) (i j : Nat) : Int32 := S.2.2.2.1 i j
def cB (S : Cs) (i j : Nat) : Int32 := S.2.2.2.2.1 i j
def cW (S : Cs) (j : Nat) : Int32 := S.2.2.2.2.2.1 j
def cN (S : Cs) : Option Nat := S.2.2.2.2.2.2
def sO (S : Cs) (j : Nat) (v : Int32) : Cs := (upd S.1 j v, S.2)
def sL (S : Cs) (i j : Nat) (v : Int32) : Cs := (S.1, u2 S.2.1 i j v, S.2.2)
def sQ (S : Cs) (i j : Nat) (v : Int32) : Cs := (S.1, S.2.1, u2 S.2.2.1 i j v, S.2.2.2)
def sT (S : Cs) (i j : Nat) (v : Int32) : Cs := (S.1, S.2.1, S.2.2.1, u2 S.2.2.2.1 i j v, S.2.2.2.2)
def sB (S : Cs) (i j : Nat) (v : Int32) : Cs := (S.1, S.2.1, S.2.2.1, S.2.2.2.1, u2 S.2.2.2.2.1 i j v, S.2.2.2.2.2)
def sW (S : Cs) (j : Nat) (v : Int32) : Cs := (S.1, S.2.1, S.2.2.1, S.2.2.2.1, S.2.2.2.2.1, upd S.2.2.2.2.2.1 j v, S.2.2.2.2.2.2)
def sN (S : Cs) (o : Option Nat) : Cs := (S.1, S.2.1, S.2.2.1, S.2.2.2.1, S.2.2.2.2.1, S.2.2.2.2.2.1, o)
/-- the task on the processor -/
def cI (S : Cs) : Nat := (cN S).getD 0
theorem cO_sO (S : Cs) (j : Nat) (v : Int32) (j2 : Nat) : cO (sO S j v) j2 = if j2 = j then v else cO S j2 := rfl
theorem cO_sL (S : Cs) (i j : Nat) (v : Int32) (j2 : Nat) : cO (sL S i j v) j2 = cO S j2 := rfl
theorem cO_sQ (S : Cs) (i j : Nat) (v : Int32) (j2 : Nat) : cO (sQ S i j v) j2 = cO S j2 := rfl
theorem cO_sT (S : Cs) (i j : Nat) (v : Int32) (j2 : Nat) : cO (sT S i j v) j2 = cO S j2 := rfl
theorem cO_sB (S : Cs) (i j : Nat) (v : Int32) (j2 : Nat) : cO (sB S i j v) j2 = cO S j2 := rfl
theorem cO_sW (S : Cs) (j : Nat) (v : Int32) (j2 : Nat) : cO (sW S j v) j2 = cO S j2 := rfl
theorem cO_sN (S : Cs) (o : Option Nat) (j2 : Nat) : cO (sN S o) j2 = cO S j2 := rfl
theorem cL_sO (S : Cs) (j : Nat) (v : Int32) (i2 j2 : Nat) : cL (sO S j v) i2 j2 = cL S i2 j2 := rfl
theorem cL_sL (S : Cs) (i j : Nat) (v : Int32) (i2 j2 : Nat) : cL (sL S i j v) i2 j2 = if j2 = j ∧ i2 = i then v else cL S i2 j2 := rfl
theorem cL_sQ (S : Cs) (i j : Nat) (v : Int32) (i2 j2 : Nat) : cL (sQ S i j v) i2 j2 = cL S i2 j2 := rfl
theorem cL_sT (S : Cs) (i j : Nat) (v : Int32) (i2 j2 : Nat) : cL (sT S i j v) i2 j2 = cL S i2 j2 := rfl
theorem cL_sB (S : Cs) (i j : Nat) (v : Int32) (i2 j2 : Nat) : cL (sB S i j v) i2 j2 = cL S i2 j2 := rfl
theorem cL_sW (S : Cs) (j : Nat) (v : Int32) (i2 j2 : Nat) : cL (sW S j v) i2 j2 = cL S i2 j2 := rfl
theorem cL_sN (S : Cs) (o : Option Nat) (i2 j2 : Nat) : cL (sN S o) i2 j2 = cL S i2 j2 := rfl
theorem cQ_sO (S : Cs) (j : Nat) (v : Int32) (i2 j2 : Nat) : cQ (sO S j v) i2 j2 = cQ S i2 j2 := rfl
theorem cQ_sL (S : Cs) (i j : Nat) (v : Int32) (i2 j2 : Nat) : cQ (sL S i j v) i2 j2 = cQ S i2 j2 := rfl
theorem cQ_sQ (S : Cs) (i j : Nat) (v : Int32) (i2 j2 : Nat) : cQ (sQ S i j v) i2 j2 = if j2 = j ∧ i2 = i then v else cQ S i2 j2 := rfl
theorem cQ_sT (S : Cs) (i j : Nat) (v : Int32) (i2 j2 : Nat) : cQ (sT S i j v) i2 j2 = cQ S i2 j2 := rfl
theorem cQ_sB (S : Cs) (i j : Nat) (v : Int32) (i2 j2 : Nat) : cQ (sB S i j v) i2 j2 = cQ S i2 j2 := rfl
theorem cQ_sW (S : Cs) (j : Nat) (v : Int32) (i2 j2 : Nat) : cQ (sW S j v) i2 j2 = cQ S i2 j2 := rfl
theorem cQ_sN (S : Cs) (o : Option Nat) (i2 j2 : Nat) : cQ (sN S o) i2 j2 = cQ S i2 j2 := rfl
theorem cT_sO (S : Cs) (j : Nat) (v : Int32) (i2 j2 : Nat) : cT (sO S j v) i2 j2 = cT S i2 j2 := rfl
theorem cT_sL (S : Cs) (i j : Nat) (v : Int32) (i2 j2 : Nat) : cT (sL S i j v) i2 j2 = cT S i2 j2 := rfl
theorem cT_sQ (S : Cs) (i j : Nat) (v : Int32) (i2 j2 : Nat) : cT (sQ S i j v) i2 j2 = cT S i2 j2 := rfl
theorem cT_sT (S : Cs) (i j : Nat) (v : Int32) (i2 j2 : Nat) : cT (sT S i j v) i2 j2 = if j2 = j ∧ i2 = i then v else cT S i2 j2 := rfl
theorem cT_sB (S : Cs) (i j : Nat) (v : Int32) (i2 j2 : Nat) : cT (sB S i j v) i2 j2 = cT S i2 j2 := rfl
theorem cT_sW (S : Cs) (j : Nat) (v : Int32) (i2 j2 : Nat) : cT (sW S j v) i2 j2 = cT S i2 j2 := rfl
theorem cT_sN (S : Cs) (o : Option Nat) (i2 j2 : Nat) : cT (sN S o) i2 j2 = cT S i2 j2 := rfl
theorem cB_sO (S : Cs) (j : Nat) (v : Int32) (i2 j2 : Nat) : cB (sO S j v) i2 j2 = cB S i2 j2 := rfl
theorem cB_sL (S : Cs) (i j : Nat) (v : Int32) (i2 j2 : Nat) : cB (sL S i j v) i2 j2 = cB S i2 j2 := rfl
theorem cB_sQ (S : Cs) (i j : Nat) (v : Int32) (i2 j2 : Nat) : cB (sQ S i j v) i2 j2 = cB S i2 j2 := rfl
theorem cB_sT (S : Cs) (i j : Nat) (v : Int32) (i2 j2 : Nat) : cB (sT S i j v) i2 j2 = cB S i2 j2 := rfl
theorem cB_sB (S : Cs) (i j : Nat) (v : Int32) (i2 j2 : Nat) : cB (sB S i j v) i2 j2 = if j2 = j ∧ i2 = i then v else cB S i2 j2 := rfl
theorem cB_sW (S : Cs) (j : Nat) (v : Int32) (i2 j2 : Nat) : cB (sW S j v) i2 j2 = cB S i2 j2 := rfl
theorem cB_sN (S : Cs) (o : Option Nat) (i2 j2 : Nat) : cB (sN S o) i2 j2 = cB S i2 j2 := rfl
theorem cW_sO (S : Cs) (j : Nat) (v : Int32) (j2 : Nat) : cW (sO S j v) j2 = cW S j2 := rfl
theorem cW_sL (S : Cs) (i j : Nat) (v : Int32) (j2 : Nat) : cW (sL S i j v) j2 = cW S j2 := rfl
theorem cW_sQ (S : Cs) (i j : Nat) (v : Int32) (j2 : Nat) : cW (sQ S i j v) j2 = cW S j2 := rfl
theorem cW_sT (S : Cs) (i j : Nat) (v : Int32) (j2 : Nat) : cW (sT S i j v) j2 = cW S j2 := rfl
theorem cW_sB (S : Cs) (i j : Nat) (v : Int32) (j2 : Nat) : cW (sB S i j v) j2 = cW S j2 := rfl
theorem cW_sW (S : Cs) (j : Nat) (v : Int32) (j2 : Nat) : cW (sW S j v) j2 = if j2 = j then v else cW S j2 := rfl
theorem cW_sN (S : Cs) (o : Option Nat) (j2 : Nat) : cW (sN S o) j2 = cW S j2 := rfl
theorem cN_sO (S : Cs) (j : Nat) (v : Int32) : cN (sO S j v) = cN S := rfl
theorem cN_sL (S : Cs) (i j : Nat) (v : Int32) : cN (sL S i j v) = cN S := rfl
theorem cN_sQ (S : Cs) (i j : Nat) (v : Int32) : cN (sQ S i j v) = cN S := rfl
theorem cN_sT (S : Cs) (i j : Nat) (v : Int32) : cN (sT S i j v) = cN S := rfl
theorem cN_sB (S : Cs) (i j : Nat) (v : Int32) : cN (sB S i j v) = cN S := rfl
theorem cN_sW (S : Cs) (j : Nat) (v : Int32) : cN (sW S j v) = cN S := rfl
theorem cN_sN (S : Cs) (o : Option Nat) : cN (sN S o) = o := rfl
def cOf (ad : Nat → Nat) (S : Cs) : List Value := [.ref (ad 1), .ref (ad 2), .ref (ad 3), .int (cO S 3), .int (cO S 4), .int (cO S 5), .int (cO S 6), va_rf ((cN S).map (fun i => ad (16 + 2 * i))), .int (cO S 8), .int (cO S 9), .int (cO S 10), .int (cO S 11)]
def cLf (ad : Nat → Nat) (S : Cs) (i : Nat) : List Value := [.int (cL S i 0), .int (cL S i 1), .ref (ad (5 + 2 * i)), .int (cL S i 3)]
def cTf (ad : Nat → Nat) (S : Cs) (i : Nat) : List Value := [.int (cT S i 0), .int (cT S i 1), .ref (ad (17 + 2 * i)), .int (cT S i 3), .int (cT S i 4), .int (cT S i 5), .int (cT S i 6), .int (cT S i 7), .int (cT S i 8), .int (cT S i 9), .int (cT S i 10), .int (cT S i 11), .int (cT S i 12), .int (cT S i 13), .int (cT S i 14), .int (cT S i 15), .int (cT S i 16), .int (cT S i 17), .int (cT S i 18)]
def cE (cy : Nat → ClassId) (ad : Nat → Nat) (S : Cs) (k : Nat) : va_E :=
  if k = 0 then .inr (2, cOf ad S)
  else if k = 1 then .inl (cy 2, 6, .inr (.inr (.inr (.inr (fun j => some (ad (4 + 2 * j)))))))
  else if k = 2 then .inl (cy 3, 16, .inr (.inr (.inr (.inr (fun j => some (ad (16 + 2 * j)))))))
  else if k = 3 then .inl (cy 0, 400, .inl (fun j => cW S j))
  else if k < 16 then (if k % 2 = 0 then .inr (0, cLf ad S ((k - 4) / 2)) else .inl (cy 0, 16, .inl (fun j => cQ S ((k - 5) / 2) j)))
  else (if k % 2 = 0 then .inr (1, cTf ad S ((k - 16) / 2)) else .inl (cy 0, 12, .inl (fun j => cB S ((k - 17) / 2) j)))
def cwl (cy : Nat → ClassId) (ad : Nat → Nat) (S : Cs) : va_W := gw 48 ad (cE cy ad S)
theorem cwl_set (cy : Nat → ClassId) (ad : Nat → Nat) (S : Cs) (k : Nat) (e : va_E) : (cwl cy ad S).set k (ad k, e) = gw 48 ad (va_up (cE cy ad S) k e) := gw_set k e
theorem cE_O (cy : Nat → ClassId) (ad : Nat → Nat) (S : Cs) : cE cy ad S 0 = .inr (2, cOf ad S) := rfl
theorem cE_lr (cy : Nat → ClassId) (ad : Nat → Nat) (S : Cs) : cE cy ad S 1 = .inl (cy 2, 6, .inr (.inr (.inr (.inr (fun j => some (ad (4 + 2 * j))))))) := rfl
theorem cE_ta (cy : Nat → ClassId) (ad : Nat → Nat) (S : Cs) : cE cy ad S 2 = .inl (cy 3, 16, .inr (.inr (.inr (.inr (fun j => some (ad (16 + 2 * j))))))) := rfl
theorem cE_W (cy : Nat → ClassId) (ad : Nat → Nat) (S : Cs) : cE cy ad S 3 = .inl (cy 0, 400, .inl (fun j => cW S j)) := rfl
theorem cE_L (cy : Nat → ClassId) (ad : Nat → Nat) (S : Cs) {i : Nat} (hi : i < 6) : cE cy ad S (4 + 2 * i) = .inr (0, cLf ad S i) := by
  unfold cE
  rw [if_neg (by omega), if_neg (by omega), if_neg (by omega), if_neg (by omega), if_pos (by omega), if_pos (by omega), show (4 + 2 * i - 4) / 2 = i by omega]
theorem cE_Q (cy : Nat → ClassId) (ad : Nat → Nat) (S : Cs) {i : Nat} (hi : i < 6) : cE cy ad S (5 + 2 * i) = .inl (cy 0, 16, .inl (fun j => cQ S i j)) := by
  unfold cE
  rw [if_neg (by omega), if_neg (by omega), if_neg (by omega), if_neg (by omega), if_pos (by omega), if_neg (by omega), show (5 + 2 * i - 5) / 2 = i by omega]
theorem cE_T (cy : Nat → ClassId) (ad : Nat → Nat) (S : Cs) (i : Nat) : cE cy ad S (16 + 2 * i) = .inr (1, cTf ad S i) := by
  unfold cE
  rw [if_neg (by omega), if_neg (by omega), if_neg (by omega), if_neg (by omega), if_neg (by omega), if_pos (by omega), show (16 + 2 * i - 16) / 2 = i by omega]
theorem cE_B (cy : Nat → ClassId) (ad : Nat → Nat) (S : Cs) (i : Nat) : cE cy ad S (17 + 2 * i) = .inl (cy 0, 12, .inl (fun j => cB S i j)) := by
  unfold cE
  rw [if_neg (by omega), if_neg (by omega), if_neg (by omega), if_neg (by omega), if_neg (by omega), if_neg (by omega), show (17 + 2 * i - 17) / 2 = i by omega]
theorem cE_ext (cy : Nat → ClassId) (ad : Nat → Nat) {S S' : Cs} {k : Nat} (hO : k = 0 → cOf ad S = cOf ad S') (hW : k = 3 → ∀ j, cW S j = cW S' j) (hL : ∀ i, k = 4 + 2 * i → i < 6 → cLf ad S i = cLf ad S' i) (hQ : ∀ i, k = 5 + 2 * i → i < 6 → ∀ j, cQ S i j = cQ S' i j) (hT : ∀ i, k = 16 + 2 * i → cTf ad S i = cTf ad S' i) (hB : ∀ i, k = 17 + 2 * i → ∀ j, cB S i j = cB S' i j) : cE cy ad S k = cE cy ad S' k := by
  unfold cE
  by_cases h0 : k = 0
  · simp only [h0, if_true]; rw [hO h0]
  · by_cases h1 : k = 1
    · simp [h1]
    · by_cases h2 : k = 2
      · simp [h2]
      · by_cases h3 : k = 3
        · have hf : (fun j => cW S j) = (fun j => cW S' j) := funext (hW h3)
          subst h3; simp [hf]
        · simp only [h0, h1, h2, h3, if_false]
          by_cases h4 : k < 16
          · simp only [h4, if_true]
            by_cases h5 : k % 2 = 0
            · simp only [h5, if_true]; rw [hL ((k - 4) / 2) (by omega) (by omega)]
            · simp only [h5, if_false]; simp only [hQ ((k - 5) / 2) (by omega) (by omega)]
          · simp only [h4, if_false]
            by_cases h5 : k % 2 = 0
            · simp only [h5, if_true]; rw [hT ((k - 16) / 2) (by omega)]
            · simp only [h5, if_false]; simp only [hB ((k - 17) / 2) (by omega)]
theorem cE_pO (cy : Nat → ClassId) (ad : Nat → Nat) (S : Cs) (j : Nat) (v : Int32) : va_up (cE cy ad S) 0 (.inr (2, cOf ad (sO S j v))) = cE cy ad (sO S j v) := by
  funext k
  by_cases h : k = 0
  · subst h; simp [va_up, cE_O]
  · simp only [va_up, h, if_false]
    exact cE_ext cy ad (fun e => absurd e h) (fun _ _ => rfl) (fun _ _ _ => rfl) (fun _ _ _ _ => rfl) (fun _ _ => rfl) (fun _ _ _ => rfl)
theorem cE_pN (cy : Nat → ClassId) (ad : Nat → Nat) (S : Cs) (o : Option Nat) : va_up (cE cy ad S) 0 (.inr (2, cOf ad (sN S o))) = cE cy ad (sN S o) := by
  funext k
  by_cases h : k = 0
  · subst h; simp [va_up, cE_O]
  · simp only [va_up, h, if_false]
    exact cE_ext cy ad (fun e => absurd e h) (fun _ _ => rfl) (fun _ _ _ => rfl) (fun _ _ _ _ => rfl) (fun _ _ => rfl) (fun _ _ _ => rfl)
theorem cLf_ne (ad : Nat → Nat) (S : Cs) {i i2 : Nat} (j : Nat) (v : Int32) (h : i2 ≠ i) : cLf ad S i2 = cLf ad (sL S i j v) i2 := by
  simp [cLf, cL_sL, h]
theorem cTf_ne (ad : Nat → Nat) (S : Cs) {i i2 : Nat} (j : Nat) (v : Int32) (h : i2 ≠ i) : cTf ad S i2 = cTf ad (sT S i j v) i2 := by
  simp [cTf, cT_sT, h]
theorem cE_pL (cy : Nat → ClassId) (ad : Nat → Nat) (S : Cs) {i : Nat} (hi : i < 6) (j : Nat) (v : Int32) : va_up (cE cy ad S) (4 + 2 * i) (.inr (0, cLf ad (sL S i j v) i)) = cE cy ad (sL S i j v) := by
  funext k
  by_cases h : k = 4 + 2 * i
  · subst h; simp [va_up, cE_L cy ad _ hi]
  · simp only [va_up, h, if_false]
    exact cE_ext cy ad (fun _ => rfl) (fun _ _ => rfl) (fun i2 h2 _ => cLf_ne ad S j v (by omega)) (fun _ _ _ _ => rfl) (fun _ _ => rfl) (fun _ _ _ => rfl)
theorem cE_pT (cy : Nat → ClassId) (ad : Nat → Nat) (S : Cs) (i j : Nat) (v : Int32) : va_up (cE cy ad S) (16 + 2 * i) (.inr (1, cTf ad (sT S i j v) i)) = cE cy ad (sT S i j v) := by
  funext k
  by_cases h : k = 16 + 2 * i
  · subst h; simp [va_up, cE_T]
  · simp only [va_up, h, if_false]
    exact cE_ext cy ad (fun _ => rfl) (fun _ _ => rfl) (fun _ _ _ => rfl) (fun _ _ _ _ => rfl) (fun i2 h2 => cTf_ne ad S j v (by omega)) (fun _ _ _ => rfl)
theorem cE_pQ (cy : Nat → ClassId) (ad : Nat → Nat) (S : Cs) {i : Nat} (hi : i < 6) (j : Nat) (v : Int32) : va_up (cE cy ad S) (5 + 2 * i) (.inl (cy 0, 16, .inl (upd (fun q => cQ S i q) j v))) = cE cy ad (sQ S i j v) := by
  funext k
  by_cases h : k = 5 + 2 * i
  · subst h
    simp only [va_up, if_true, cE_Q cy ad _ hi]
    congr 4
    funext q
    simp [upd, cQ_sQ]
  · simp only [va_up, h, if_false]
    refine cE_ext cy ad (fun _ => rfl) (fun _ _ => rfl) (fun _ _ _ => rfl) (fun i2 h2 _ q => ?_) (fun _ _ => rfl) (fun _ _ _ => rfl)
    have : i2 ≠ i := by omega
    simp [cQ_sQ, this]
theorem cE_pB (cy : Nat → ClassId) (ad : Nat → Nat) (S : Cs) (i j : Nat) (v : Int32) : va_up (cE cy ad S) (17 + 2 * i) (.inl (cy 0, 12, .inl (upd (fun q => cB S i q) j v))) = cE cy ad (sB S i j v) := by
  funext k
  by_cases h : k = 17 + 2 * i
  · subst h
    simp only [va_up, if_true, cE_B]
    congr 4
    funext q
    simp [upd, cB_sB]
  · simp only [va_up, h, if_false]
    refine cE_ext cy ad (fun _ => rfl) (fun _ _ => rfl) (fun _ _ _ => rfl) (fun _ _ _ _ => rfl) (fun _ _ => rfl) (fun i2 h2 q => ?_)
    have : i2 ≠ i := by omega
    simp [cB_sB, this]
theorem cE_pW (cy : Nat → ClassId) (ad : Nat → Nat) (S : Cs) (j : Nat) (v : Int32) : va_up (cE cy ad S) 3 (.inl (cy 0, 400, .inl (upd (fun q => cW S q) j v))) = cE cy ad (sW S j v) := by
  funext k
  by_cases h : k = 3
  · subst h
    simp only [va_up, if_true, cE_W]
    congr 4
  · simp only [va_up, h, if_false]
    exact cE_ext cy ad (fun _ => rfl) (fun e => absurd e h) (fun _ _ _ => rfl) (fun _ _ _ _ => rfl) (fun _ _ => rfl) (fun _ _ _ => rfl)
theorem cTf_0 (ad : Nat → Nat) (S : Cs) (i : Nat) (v : Int32) : (cTf ad S i).set 0 (.int v) = cTf ad (sT S i 0 v) i := by simp [cTf, cT_sT]
theorem cTf_1 (ad : Nat → Nat) (S : Cs) (i : Nat) (v : Int32) : (cTf ad S i).set 1 (.int v) = cTf ad (sT S i 1 v) i := by simp [cTf, cT_sT]
theorem cTf_3 (ad : Nat → Nat) (S : Cs) (i : Nat) (v : Int32) : (cTf ad S i).set 3 (.int v) = cTf ad (sT S i 3 v) i := by simp [cTf, cT_sT]
theorem cTf_4 (ad : Nat → Nat) (S : Cs) (i : Nat) (v : Int32) : (cTf ad S i).set 4 (.int v) = cTf ad (sT S i 4 v) i := by simp [cTf, cT_sT]
theorem cTf_5 (ad : Nat → Nat) (S : Cs) (i : Nat) (v : Int32) : (cTf ad S i).set 5 (.int v) = cTf ad (sT S i 5 v) i := by simp [cTf, cT_sT]
theorem cTf_6 (ad : Nat → Nat) (S : Cs) (i : Nat) (v : Int32) : (cTf ad S i).set 6 (.int v) = cTf ad (sT S i 6 v) i := by simp [cTf, cT_sT]
theorem cTf_7 (ad : Nat → Nat) (S : Cs) (i : Nat) (v : Int32) : (cTf ad S i).set 7 (.int v) = cTf ad (sT S i 7 v) i := by simp [cTf, cT_sT]
theorem cTf_8 (ad : Nat → Nat) (S : Cs) (i : Nat) (v : Int32) : (cTf ad S i).set 8 (.int v) = cTf ad (sT S i 8 v) i := by simp [cTf, cT_sT]
theorem cTf_9 (ad : Nat → Nat) (S : Cs) (i : Nat) (v : Int32) : (cTf ad S i).set 9 (.int v) = cTf ad (sT S i 9 v) i := by simp [cTf, cT_sT]
theorem cTf_10 (ad : Nat → Nat) (S : Cs) (i : Nat) (v : Int32) : (cTf ad S i).set 10 (.int v) = cTf ad (sT S i 10 v) i := by simp [cTf, cT_sT]
theorem cTf_11 (ad : Nat → Nat) (S : Cs) (i : Nat) (v : Int32) : (cTf ad S i).set 11 (.int v) = cTf ad (sT S i 11 v) i := by simp [cTf, cT_sT]
theorem cTf_12 (ad : Nat → Nat) (S : Cs) (i : Nat) (v : Int32) : (cTf ad S i).set 12 (.int v) = cTf ad (sT S i 12 v) i := by simp [cTf, cT_sT]
theorem cTf_13 (ad : Nat → Nat) (S : Cs) (i : Nat) (v : Int32) : (cTf ad S i).set 13 (.int v) = cTf ad (sT S i 13 v) i := by simp [cTf, cT_sT]
theorem cTf_14 (ad : Nat → Nat) (S : Cs) (i : Nat) (v : Int32) : (cTf ad S i).set 14 (.int v) = cTf ad (sT S i 14 v) i := by simp [cTf, cT_sT]
theorem cTf_15 (ad : Nat → Nat) (S : Cs) (i : Nat) (v : Int32) : (cTf ad S i).set 15 (.int v) = cTf ad (sT S i 15 v) i := by simp [cTf, cT_sT]
theorem cTf_16 (ad : Nat → Nat) (S : Cs) (i : Nat) (v : Int32) : (cTf ad S i).set 16 (.int v) = cTf ad (sT S i 16 v) i := by simp [cTf, cT_sT]
theorem cTf_17 (ad : Nat → Nat) (S : Cs) (i : Nat) (v : Int32) : (cTf ad S i).set 17 (.int v) = cTf ad (sT S i 17 v) i := by simp [cTf, cT_sT]
theorem cTf_18 (ad : Nat → Nat) (S : Cs) (i : Nat) (v : Int32) : (cTf ad S i).set 18 (.int v) = cTf ad (sT S i 18 v) i := by simp [cTf, cT_sT]
theorem cLf_0 (ad : Nat → Nat) (S : Cs) (i : Nat) (v : Int32) : (cLf ad S i).set 0 (.int v) = cLf ad (sL S i 0 v) i := by simp [cLf, cL_sL]
theorem cLf_1 (ad : Nat → Nat) (S : Cs) (i : Nat) (v : Int32) : (cLf ad S i).set 1 (.int v) = cLf ad (sL S i 1 v) i := by simp [cLf, cL_sL]
theorem cLf_3 (ad : Nat → Nat) (S : Cs) (i : Nat) (v : Int32) : (cLf ad S i).set 3 (.int v) = cLf ad (sL S i 3 v) i := by simp [cLf, cL_sL]
theorem cOf_3 (ad : Nat → Nat) (S : Cs) (v : Int32) : (cOf ad S).set 3 (.int v) = cOf ad (sO S 3 v) := by simp [cOf, cO_sO, cN_sO]
theorem cOf_4 (ad : Nat → Nat) (S : Cs) (v : Int32) : (cOf ad S).set 4 (.int v) = cOf ad (sO S 4 v) := by simp [cOf, cO_sO, cN_sO]
theorem cOf_5 (ad : Nat → Nat) (S : Cs) (v : Int32) : (cOf ad S).set 5 (.int v) = cOf ad (sO S 5 v) := by simp [cOf, cO_sO, cN_sO]
theorem cOf_6 (ad : Nat → Nat) (S : Cs) (v : Int32) : (cOf ad S).set 6 (.int v) = cOf ad (sO S 6 v) := by simp [cOf, cO_sO, cN_sO]
theorem cOf_8 (ad : Nat → Nat) (S : Cs) (v : Int32) : (cOf ad S).set 8 (.int v) = cOf ad (sO S 8 v) := by simp [cOf, cO_sO, cN_sO]
theorem cOf_9 (ad : Nat → Nat) (S : Cs) (v : Int32) : (cOf ad S).set 9 (.int v) = cOf ad (sO S 9 v) := by simp [cOf, cO_sO, cN_sO]
theorem cOf_10 (ad : Nat → Nat) (S : Cs) (v : Int32) : (cOf ad S).set 10 (.int v) = cOf ad (sO S 10 v) := by simp [cOf, cO_sO, cN_sO]
theorem cOf_11 (ad : Nat → Nat) (S : Cs) (v : Int32) : (cOf ad S).set 11 (.int v) = cOf ad (sO S 11 v) := by simp [cOf, cO_sO, cN_sO]
theorem cOf_n (ad : Nat → Nat) (S : Cs) : (cOf ad S).set 7 .null = cOf ad (sN S none) := rfl
theorem cOf_s (ad : Nat → Nat) (S : Cs) (i : Nat) : (cOf ad S).set 7 (.ref (ad (16 + 2 * i))) = cOf ad (sN S (some i)) := rfl
