section RS12
variable {tau : Int32} {S : Cs} {M : Ms} {N L b : Nat}
theorem itr_view {α β : Type} {f : Nat → α → α} {view : α → Nat → β} {g : Nat → β → β} (h1 : ∀ k Z, view (f k Z) k = g k (view Z k)) (h2 : ∀ k Z u, u ≠ k → view (f k Z) u = view Z u) : ∀ (n t : Nat) (Z : α) (u : Nat), view (itr f n t Z) u = if t ≤ u ∧ u < t + n then g u (view Z u) else view Z u := by
  intro n
  induction n with
  | zero => intro t Z u; rw [if_neg (by omega)]; rfl
  | succ n ih =>
    intro t Z u
    show view (itr f n (t + 1) (f t Z)) u = _
    rw [ih]
    by_cases e : u = t
    · subst e
      rw [if_neg (by omega), if_pos (by omega), h1]
    · rw [h2 t Z u e]
      by_cases c : t + 1 ≤ u ∧ u < t + 1 + n
      · rw [if_pos c, if_pos (by omega)]
      · rw [if_neg c, if_neg (by omega)]
/-- what a new start leaves: the levels, the periods, what was told of the processes, the kept switches -/
def bR (S : Cs) (M : Ms) : Prop := (cO S 3 = mO M 1 ∧ cO S 4 = mO M 5 ∧ cO S 5 = mO M 4 ∧ ub 10000 (cO S 5)) ∧ lR S M ∧ (∀ k, k < 400 → cW S k = mA M 23 k) ∧ ∀ u, u < 16 → cT S u 0 = nI u ∧ cT S u 1 = mA M 6 u ∧ cT S u 3 = mA M 7 u ∧ ∀ k, k < 12 → cB S u k = mA M 8 (12 * u + k)
theorem Rel.base (h : Rel tau S M) : bR S M := by
  obtain ⟨⟨g1, g2, g3, g4, g5⟩, ⟨a1, a2, a3, a4, a5⟩, hl, hn, hq, ht⟩ := h
  refine ⟨⟨g1, g2, g3, g5⟩, hl, a5, fun u hu => ?_⟩
  obtain ⟨t0, t1, t3, tb, -⟩ := ht u hu
  rw [mV_p 0 (by decide)] at t1 t3
  exact ⟨t0, t1, t3, fun k hk => (tb k hk).trans (mV_8 hk)⟩
def soT (c : Nat → Int32) (j : Nat) : Int32 := if j ≤ 3 then c j else if j = 14 ∨ j = 15 then -1 else if j ≤ 18 then 0 else c j
theorem so_T (u : Nat) : cT (F_X1_startOver S u) u = soT (cT S u) := by
  funext j
  unfold F_X1_startOver soT
  dsimp only
  simp only [cT_at]
  by_cases h : j ≤ 18
  · rcases (show j = 0 ∨ j = 1 ∨ j = 2 ∨ j = 3 ∨ j = 4 ∨ j = 5 ∨ j = 6 ∨ j = 7 ∨ j = 8 ∨ j = 9 ∨ j = 10 ∨ j = 11 ∨ j = 12 ∨ j = 13 ∨ j = 14 ∨ j = 15 ∨ j = 16 ∨ j = 17 ∨ j = 18 by omega) with rfl | rfl | rfl | rfl | rfl | rfl | rfl | rfl | rfl | rfl | rfl | rfl | rfl | rfl | rfl | rfl | rfl | rfl | rfl <;> rfl
  · rw [if_neg (by omega), if_neg (by omega), if_neg (by omega), if_neg (by omega), if_neg (by omega), if_neg (by omega), if_neg (by omega), if_neg (by omega), if_neg (by omega), if_neg (by omega), if_neg (by omega), if_neg (by omega), if_neg (by omega), if_neg (by omega), if_neg (by omega), if_neg (by omega), if_neg (by omega), if_neg (by omega)]
theorem so_ne {u i : Nat} (h : i ≠ u) : cT (F_X1_startOver S u) i = cT S i := by
  unfold F_X1_startOver
  dsimp only
  simp only [cT_ne h]
theorem sTo {i j : Nat} {v : Int32} : cO (sT S i j v) = cO S := rfl
theorem sTn {i j : Nat} {v : Int32} : cN (sT S i j v) = cN S := rfl
theorem sTb {i j : Nat} {v : Int32} : cB (sT S i j v) = cB S := rfl
theorem sTw {i j : Nat} {v : Int32} : cW (sT S i j v) = cW S := rfl
theorem sTl {i j : Nat} {v : Int32} : cL (sT S i j v) = cL S := rfl
theorem so_c (u : Nat) : cO (F_X1_startOver S u) = cO S ∧ cN (F_X1_startOver S u) = cN S ∧ cB (F_X1_startOver S u) = cB S ∧ cW (F_X1_startOver S u) = cW S ∧ cL (F_X1_startOver S u) = cL S := by
  unfold F_X1_startOver
  dsimp only
  simp only [sTo, sTn, sTb, sTw, sTl, and_self]
/-- the class, begun anew, place by place -/
theorem startC : (∀ j, cO (F_X2_startOver S) j = if j = 11 ∨ j = 10 ∨ j = 9 ∨ j = 8 ∨ j = 6 then 0 else cO S j) ∧ cN (F_X2_startOver S) = none ∧ cB (F_X2_startOver S) = cB S ∧ cW (F_X2_startOver S) = cW S ∧ (∀ u, u < 16 → cT (F_X2_startOver S) u = soT (cT S u)) ∧ ∀ l, l < 6 → cL (F_X2_startOver S) l = fun j => if j = 3 then 0 else cL S l j := by
  unfold F_X2_startOver
  dsimp only
  obtain ⟨S6, hS6⟩ : ∃ z, z = sO (sO (sO (sO (sN (sO S 6 0) none) 8 0) 9 0) 10 0) 11 0 := ⟨_, rfl⟩
  rw [← hS6]
  obtain ⟨S8, hS8⟩ : ∃ z, z = itr B_X2_startOver_32 6 0 S6 := ⟨_, rfl⟩
  rw [← hS8]
  have f8 : cO S8 = cO S6 ∧ cN S8 = cN S6 ∧ cB S8 = cB S6 ∧ cW S8 = cW S6 ∧ cT S8 = cT S6 := by
    rw [hS8]
    exact itr_ind (P := fun Z => cO Z = cO S6 ∧ cN Z = cN S6 ∧ cB Z = cB S6 ∧ cW Z = cW S6 ∧ cT Z = cT S6) 6 0 S6 ⟨rfl, rfl, rfl, rfl, rfl⟩ (fun k Z _ _ h => by unfold B_X2_startOver_32 F_X0_clear; exact h)
  have f9 : cO (itr B_X2_startOver_55 16 0 S8) = cO S8 ∧ cN (itr B_X2_startOver_55 16 0 S8) = cN S8 ∧ cB (itr B_X2_startOver_55 16 0 S8) = cB S8 ∧ cW (itr B_X2_startOver_55 16 0 S8) = cW S8 ∧ cL (itr B_X2_startOver_55 16 0 S8) = cL S8 :=
    itr_ind (P := fun Z => cO Z = cO S8 ∧ cN Z = cN S8 ∧ cB Z = cB S8 ∧ cW Z = cW S8 ∧ cL Z = cL S8) 16 0 S8 ⟨rfl, rfl, rfl, rfl, rfl⟩ (fun k Z _ _ h => by
      obtain ⟨d1, d2, d3, d4, d5⟩ := so_c (S := Z) k
      unfold B_X2_startOver_55
      dsimp only
      rw [d1, d2, d3, d4, d5]; exact h)
  obtain ⟨a1, a2, a3, a4, a5⟩ := f8
  obtain ⟨b1, b2, b3, b4, b5⟩ := f9
  refine ⟨fun j => ?_, by rw [b2, a2, hS6]; rfl, by rw [b3, a3, hS6]; rfl, by rw [b4, a4, hS6]; rfl, fun u hu => ?_, fun l hl => ?_⟩
  · rw [b1, a1, hS6]
    simp only [cO_sO, cO_sN]
    by_cases h : j = 11 ∨ j = 10 ∨ j = 9 ∨ j = 8 ∨ j = 6
    · rw [if_pos h]
      rcases h with rfl | rfl | rfl | rfl | rfl <;> rfl
    · rw [if_neg h, if_neg (by omega), if_neg (by omega), if_neg (by omega), if_neg (by omega), if_neg (by omega)]
  · have := itr_view (f := B_X2_startOver_55) (view := cT) (g := fun _ c => soT c) (fun k Z => so_T k) (fun k Z u h => so_ne h) 16 0 S8 u
    rw [this, if_pos (by omega), a5, hS6]
    rfl
  · rw [b5, hS8]
    have := itr_view (f := B_X2_startOver_32) (view := cL) (g := fun _ c => fun j => if j = 3 then (0 : Int32) else c j) (fun k Z => by
      funext j
      show cL (sL Z k 3 0) k j = _
      rw [cL_sL]
      by_cases e : j = 3
      · rw [if_pos ⟨e, rfl⟩, if_pos e]
      · rw [if_neg (fun z => e z.1), if_neg e]) (fun k Z u h => by
      funext j
      show cL (sL Z k 3 0) u j = _
      rw [cL_sL, if_neg (fun z => h z.2)]) 6 0 S6 l
    rw [this, if_pos (by omega), hS6]
    rfl
def beM (m : Nat → Nat → Int32) (a k : Nat) : Int32 := if a = 11 ∨ a = 12 ∨ a = 13 ∨ a = 17 then 0 else if a = 19 then (if k % 10 = 5 ∨ k % 10 = 6 then -1 else 0) else m a k
theorem be_89 {t : Nat} : ∀ (n s : Nat) (Z : Ms), s + n ≤ 10 → (∀ b j, mV (itr (B_X3_begin_89 t) n s Z) t b j = if b = 19 ∧ s ≤ j % 10 ∧ j % 10 < s + n then (if j % 10 = 5 ∨ j % 10 = 6 then -1 else 0) else mV Z t b j) ∧ (∀ u, u ≠ t → mV (itr (B_X3_begin_89 t) n s Z) u = mV Z u) ∧ (∀ a k, a ≠ 19 → mA (itr (B_X3_begin_89 t) n s Z) a k = mA Z a k) ∧ ∀ j, mO (itr (B_X3_begin_89 t) n s Z) j = mO Z j := by
  intro n
  induction n with
  | zero => intro s Z _; exact ⟨fun b j => by rw [if_neg (by omega)]; rfl, fun _ _ => rfl, fun _ _ _ => rfl, fun _ => rfl⟩
  | succ n ih =>
    intro s Z hs
    obtain ⟨h1, h2, h3, h4⟩ := ih (s + 1) (B_X3_begin_89 t s Z) (by omega)
    have e : B_X3_begin_89 t s Z = mQ Z 19 (10 * t + s) (if s = 5 ∨ s = 6 then -1 else 0) := by
      unfold B_X3_begin_89
      dsimp only
      by_cases c5 : s = 5
      · subst c5; rw [if_pos (by decide)]; rfl
      · rw [if_neg (show ¬ nI s = 5 from fun z => c5 ((nI_eq (a := s) (b := 5) (by omega) (by omega)).mp z))]
        by_cases c6 : s = 6
        · subst c6; rw [if_pos (by decide)]; rfl
        · rw [if_neg (show ¬ nI s = 6 from fun z => c6 ((nI_eq (a := s) (b := 6) (by omega) (by omega)).mp z)), if_neg (show ¬ (s = 5 ∨ s = 6) by omega)]
    refine ⟨fun b j => ?_, fun u hu => ?_, fun a k ha => ?_, fun j => ?_⟩
    · show mV (itr (B_X3_begin_89 t) n (s + 1) (B_X3_begin_89 t s Z)) t b j = _
      rw [h1, e, mV_cat (by omega)]
      by_cases c : b = 19 ∧ s + 1 ≤ j % 10 ∧ j % 10 < s + 1 + n
      · rw [if_pos c, if_pos (show b = 19 ∧ s ≤ j % 10 ∧ j % 10 < s + (n + 1) by omega)]
      · rw [if_neg c]
        by_cases c2 : b = 19 ∧ j % 10 = s
        · rw [if_pos c2, if_pos (show b = 19 ∧ s ≤ j % 10 ∧ j % 10 < s + (n + 1) by omega), c2.2]
        · rw [if_neg c2, if_neg (show ¬ (b = 19 ∧ s ≤ j % 10 ∧ j % 10 < s + (n + 1)) by omega)]
    · show mV (itr (B_X3_begin_89 t) n (s + 1) (B_X3_begin_89 t s Z)) u = _
      rw [h2 u hu, e, mV_c (by omega) hu]
    · show mA (itr (B_X3_begin_89 t) n (s + 1) (B_X3_begin_89 t s Z)) a k = _
      rw [h3 a k ha, e, mA_ne _ _ _ _ ha]
    · show mO (itr (B_X3_begin_89 t) n (s + 1) (B_X3_begin_89 t s Z)) j = _
      rw [h4, e]; rfl
theorem be_53 {t : Nat} (Z : Ms) : mV (B_X3_begin_53 t Z) t = beM (mV Z t) ∧ (∀ u, u ≠ t → mV (B_X3_begin_53 t Z) u = mV Z u) ∧ (∀ a k, a = 2 ∨ a = 3 ∨ 20 ≤ a → mA (B_X3_begin_53 t Z) a k = mA Z a k) ∧ ∀ j, mO (B_X3_begin_53 t Z) j = mO Z j := by
  unfold B_X3_begin_53
  dsimp only
  obtain ⟨h1, h2, h3, h4⟩ := be_89 (t := t) 10 0 (mQ (mQ (mQ (mQ Z 11 t 0) 12 t 0) 13 t 0) 17 t 0) (by omega)
  refine ⟨?_, fun u hu => ?_, fun a k ha => ?_, fun j => by rw [h4]; rfl⟩
  · funext b j
    rw [h1, mV_at (by decide), mV_at (by decide), mV_at (by decide), mV_at (by decide)]
    unfold beM
    by_cases c : b = 19
    · subst c
      rw [if_pos ⟨rfl, by omega, by omega⟩, if_neg (show ¬ ((19 : Nat) = 11 ∨ (19 : Nat) = 12 ∨ (19 : Nat) = 13 ∨ (19 : Nat) = 17) by decide)]
      exact (if_pos rfl).symm
    · rw [if_neg (fun z => c z.1)]
      by_cases d : b = 11 ∨ b = 12 ∨ b = 13 ∨ b = 17
      · rw [if_pos d]
        rcases d with rfl | rfl | rfl | rfl <;> rfl
      · rw [if_neg d, if_neg c, if_neg (by omega), if_neg (by omega), if_neg (by omega), if_neg (by omega)]
  · rw [h2 u hu, mV_ne (by decide) hu, mV_ne (by decide) hu, mV_ne (by decide) hu, mV_ne (by decide) hu]
  · rw [h3 a k (by omega), mA_ne _ _ _ _ (by omega), mA_ne _ _ _ _ (by omega), mA_ne _ _ _ _ (by omega), mA_ne _ _ _ _ (by omega)]
/-- the model, begun anew -/
theorem startM : (∀ j, mO (F_X3_begin M) j = if j = 10 then -1 else if j = 9 then 0 else mO M j) ∧ (∀ k, k < 4 → mA (F_X3_begin M) 22 k = 0) ∧ (∀ l, l < 6 → mA (F_X3_begin M) 21 l = 0) ∧ (∀ a k, a = 2 ∨ a = 3 ∨ a = 23 → mA (F_X3_begin M) a k = mA M a k) ∧ ∀ u, u < 16 → mV (F_X3_begin M) u = beM (mV M u) := by
  unfold F_X3_begin
  dsimp only
  obtain ⟨M4, hM4⟩ : ∃ z, z = itr B_X3_begin_12 4 0 (mP (mP M 9 0) 10 (-1)) := ⟨_, rfl⟩
  rw [← hM4]
  obtain ⟨M6, hM6⟩ : ∃ z, z = itr B_X3_begin_32 6 0 M4 := ⟨_, rfl⟩
  rw [← hM6]
  have f4 : (∀ j, mO M4 j = mO (mP (mP M 9 0) 10 (-1)) j) ∧ (∀ a k, a ≠ 22 → mA M4 a k = mA M a k) ∧ ∀ u, mV M4 u = mV M u := by
    rw [hM4]
    exact itr_ind (P := fun Z => (∀ j, mO Z j = mO (mP (mP M 9 0) 10 (-1)) j) ∧ (∀ a k, a ≠ 22 → mA Z a k = mA M a k) ∧ ∀ u, mV Z u = mV M u) 4 0 _ ⟨fun _ => rfl, fun _ _ _ => rfl, fun _ => rfl⟩ (fun k Z _ _ h => ⟨h.1, fun a k2 ha => by show mA (mQ Z 22 k 0) a k2 = _; rw [mA_ne _ _ _ _ ha]; exact h.2.1 a k2 ha, fun u => by show mV (mQ Z 22 k 0) u = _; rw [mV_row (by decide)]; exact h.2.2 u⟩)
  have g4 : ∀ k, k < 4 → mA M4 22 k = 0 := fun k hk => by
    rw [hM4]
    rcases (show k = 0 ∨ k = 1 ∨ k = 2 ∨ k = 3 by omega) with rfl | rfl | rfl | rfl <;> rfl
  have f6 : (∀ j, mO M6 j = mO M4 j) ∧ (∀ a k, a ≠ 21 → mA M6 a k = mA M4 a k) ∧ ∀ u, mV M6 u = mV M4 u := by
    rw [hM6]
    exact itr_ind (P := fun Z => (∀ j, mO Z j = mO M4 j) ∧ (∀ a k, a ≠ 21 → mA Z a k = mA M4 a k) ∧ ∀ u, mV Z u = mV M4 u) 6 0 M4 ⟨fun _ => rfl, fun _ _ _ => rfl, fun _ => rfl⟩ (fun k Z _ _ h => ⟨h.1, fun a k2 ha => by show mA (mQ Z 21 k 0) a k2 = _; rw [mA_ne _ _ _ _ ha]; exact h.2.1 a k2 ha, fun u => by show mV (mQ Z 21 k 0) u = _; rw [mV_row (by decide)]; exact h.2.2 u⟩)
  have g6 : ∀ k, k < 6 → mA M6 21 k = 0 := fun k hk => by
    rw [hM6]
    rcases (show k = 0 ∨ k = 1 ∨ k = 2 ∨ k = 3 ∨ k = 4 ∨ k = 5 by omega) with rfl | rfl | rfl | rfl | rfl | rfl <;> rfl
  have f9 : (∀ j, mO (itr B_X3_begin_53 16 0 M6) j = mO M6 j) ∧ ∀ a k, a = 2 ∨ a = 3 ∨ 20 ≤ a → mA (itr B_X3_begin_53 16 0 M6) a k = mA M6 a k :=
    itr_ind (P := fun Z => (∀ j, mO Z j = mO M6 j) ∧ ∀ a k, a = 2 ∨ a = 3 ∨ 20 ≤ a → mA Z a k = mA M6 a k) 16 0 M6 ⟨fun _ => rfl, fun _ _ _ => rfl⟩ (fun k Z _ _ h => ⟨fun j => ((be_53 (t := k) Z).2.2.2 j).trans (h.1 j), fun a k2 ha => ((be_53 (t := k) Z).2.2.1 a k2 ha).trans (h.2 a k2 ha)⟩)
  refine ⟨fun j => ?_, fun k hk => ?_, fun l hl => ?_, fun a k ha => ?_, fun u hu => ?_⟩
  · rw [f9.1, f6.1, f4.1, mO_mP, mO_mP]
  · rw [f9.2 22 k (by omega), f6.2.1 22 k (by decide)]; exact g4 k hk
  · rw [f9.2 21 l (by omega)]; exact g6 l hl
  · rw [f9.2 a k (by omega), f6.2.1 a k (by omega), f4.2.1 a k (by omega)]
  · have := itr_view (f := B_X3_begin_53) (view := mV) (g := fun _ m => beM m) (fun k Z => (be_53 (t := k) Z).1) (fun k Z u h => (be_53 (t := k) Z).2.1 u h) 16 0 M6 u
    rw [this, if_pos (by omega), f6.2.2, f4.2.2]
theorem R_begin (h : bR S M) : Rel (nI 0) (F_X2_startOver S) (F_X3_begin M) := by
  obtain ⟨⟨g1, g2, g3, g5⟩, hl, hw, ht⟩ := h
  obtain ⟨c1, c2, c3, c4, c5, c6⟩ := startC (S := S)
  obtain ⟨m1, m2, m3, m4, m5⟩ := startM (M := M)
  refine ⟨⟨?_, ?_, ?_, ?_, ?_⟩, ⟨?_, ?_, ?_, ?_, fun k hk => ?_⟩, fun l hl6 => ?_, Or.inl ⟨c2, m1 10⟩, fun l hl6 => ⟨?_, fun k hk => ?_⟩, fun u hu => ?_⟩
  · rw [c1, m1]; exact g1
  · rw [c1, m1]; exact g2
  · rw [c1, m1]; exact g3
  · rw [c1, m1]; rfl
  · rw [c1]; exact g5
  · rw [c1, m2 0 (by decide)]; rfl
  · rw [c1, m2 1 (by decide)]; rfl
  · rw [c1, m2 2 (by decide)]; rfl
  · rw [c1, m2 3 (by decide)]; rfl
  · rw [c4, m4 23 k (by decide)]; exact hw k hk
  · rw [c6 l hl6, m4 2 l (by decide), m4 3 l (by decide)]; exact hl l hl6
  · rw [c6 l hl6, m3 l hl6]; rfl
  · have : sZ (F_X3_begin M) l = 0 := by show (mA (F_X3_begin M) 21 l).toNatClampNeg = 0; rw [m3 l hl6]; decide
    omega
  · obtain ⟨t0, t1, t3, tb⟩ := ht u hu
    rw [c5 u hu, c3, m5 u hu]
    exact ⟨t0, t1.trans (mV_p (M := M) 0 (by decide)).symm, t3.trans (mV_p (M := M) 0 (by decide)).symm, fun k hk => (tb k hk).trans (mV_8 hk).symm, rfl, rfl, rfl, ⟨rfl, rfl, rfl, rfl, rfl, rfl, rfl, rfl⟩, Or.inl rfl, fun _ => ⟨rfl, rfl, rfl⟩, fun q => absurd q (show ¬ ((0 : Int32) = 1 ∨ (0 : Int32) = 2 ∨ (0 : Int32) = 3) from by decide), fun q => absurd q (show ¬ ((0 : Int32) = 1 ∨ (0 : Int32) = 2) from by decide), fun q => absurd q (show ¬ (0 : Int32) = 3 from by decide), fun q => q.elim (fun q => absurd q (show ¬ (0 : Int32) = 2 from by decide)) (fun q => absurd rfl q)⟩
end RS12
