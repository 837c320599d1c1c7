def cs0 : Cs := (fun j => if j = 3 then 1 else 0, fun _ j => if j = 0 ∨ j = 1 then 1 else 0, fun _ _ => 0, fun i j => if j = 0 then nI i else if j = 14 ∨ j = 15 then -1 else 0, fun _ _ => 0, fun _ => 0, none)
/-- the first i of the things at the cells a, a + 2 .. -/
def cR (ad : Nat → Nat) (a i : Nat) (j : Nat) : Option Nat := if j < i then some (ad (a + 2 * j)) else none
theorem cR_0 (ad : Nat → Nat) (a : Nat) : cR ad a 0 = fun _ => none := by funext j; simp [cR]
/-- while the object is made: i levels and k tasks are there -/
def cG (cy : Nat → ClassId) (ad : Nat → Nat) (i k c : Nat) : va_E :=
  if c = 1 then .inl (cy 2, 6, .inr (.inr (.inr (.inr (cR ad 4 i)))))
  else if c = 2 then .inl (cy 3, 16, .inr (.inr (.inr (.inr (cR ad 16 k)))))
  else cE cy ad cs0 c
theorem cR_ext {ad ad' : Nat → Nat} {a i n : Nat} (hn : i = 0 ∨ a + 2 * i ≤ n) (h : ∀ c, c < n → ad c = ad' c) : cR ad a i = cR ad' a i := by
  funext j
  unfold cR
  by_cases hj : j < i
  · rw [if_pos hj, if_pos hj, h _ (by omega)]
  · rw [if_neg hj, if_neg hj]
theorem cE_ad {cy : Nat → ClassId} {ad ad' : Nat → Nat} {n : Nat} (h4 : 4 ≤ n) (h2 : n % 2 = 0) (h : ∀ c, c < n → ad c = ad' c) {c : Nat} (hc : c < n) (h1 : c ≠ 1) (h2' : c ≠ 2) : cE cy ad cs0 c = cE cy ad' cs0 c := by
  by_cases c0 : c = 0
  · subst c0
    rw [cE_O, cE_O]
    unfold cOf
    rw [h 1 (by omega), h 2 (by omega), h 3 (by omega)]
    rfl
  by_cases c3 : c = 3
  · subst c3; rfl
  by_cases c16 : c < 16
  · by_cases ev : c % 2 = 0
    · obtain ⟨i, rfl⟩ : ∃ i, c = 4 + 2 * i := ⟨(c - 4) / 2, by omega⟩
      rw [cE_L cy ad cs0 (by omega), cE_L cy ad' cs0 (by omega)]
      unfold cLf
      rw [h (5 + 2 * i) (by omega)]
    · obtain ⟨i, rfl⟩ : ∃ i, c = 5 + 2 * i := ⟨(c - 5) / 2, by omega⟩
      rw [cE_Q cy ad cs0 (by omega), cE_Q cy ad' cs0 (by omega)]
  · by_cases ev : c % 2 = 0
    · obtain ⟨i, rfl⟩ : ∃ i, c = 16 + 2 * i := ⟨(c - 16) / 2, by omega⟩
      rw [cE_T, cE_T]
      unfold cTf
      rw [h (17 + 2 * i) (by omega)]
    · obtain ⟨i, rfl⟩ : ∃ i, c = 17 + 2 * i := ⟨(c - 17) / 2, by omega⟩
      rw [cE_B, cE_B]
theorem gw_congr {n : Nat} {ad ad' : Nat → Nat} {E E' : Nat → va_E} (h : ∀ c, c < n → ad c = ad' c ∧ E c = E' c) : gw n ad E = gw n ad' E' := by
  unfold gw
  apply List.map_congr_left
  intro k hk
  have := h k (List.mem_range.mp hk)
  rw [this.1, this.2]
/-- behind a constructor's call: the cells before, and the two that it made -/
theorem gw_join {D : va_G} {cl : List vw_C} {n : Nat} {ad : Nat → Nat} {E : Nat → va_E} {q1 q2 : Nat} {e0 e1 e2 : va_E} {H H1 : Heap} {A0 : Nat → Prop} (hP : va_P D cl (gw n ad E ++ [(q1, e0)]) H) (hD : va_D A0 (gw n ad E ++ [(q1, e0)])) (hk : ∀ q : Nat, q < H.size → ¬ va_A [(q1, e0)] H.size q → H1[q]? = H[q]?) (hF : ∀ q, va_A [(q1, e0)] H.size q → A0 q)
    (hP1 : va_P D cl [(q1, e1), (q2, e2)] H1) (hD1 : va_D (va_A [(q1, e0)] H.size) [(q1, e1), (q2, e2)]) : va_P D cl (gw (n + 1 + 1) (va_up (va_up ad n q1) (n + 1) q2) (va_up (va_up E n e1) (n + 1) e2)) H1 ∧ gw_ap (n + 1 + 1) (va_up (va_up ad n q1) (n + 1) q2) A0 := by
  have hl : (gw n ad E).length = n := gw_len n ad E
  have at1 : (gw n ad E ++ [(q1, e0)])[n]? = some (q1, e0) := by rw [List.getElem?_append_right (by omega), hl]; simp
  have atc : ∀ k, k < n → (gw n ad E ++ [(q1, e0)])[k]? = some (ad k, E k) := fun k hk => by rw [List.getElem?_append_left (by omega)]; exact gw_get hk
  have ne1 : ∀ k, k < n → ad k ≠ q1 := fun k hk e => by
    have := hD.1 k n _ _ (atc k hk) at1 e
    omega
  have lt : ∀ k, k < n → ad k < H.size := fun k hk => vx_lt hP (atc k hk)
  have nA : ∀ k, k < n → ¬ va_A [(q1, e0)] H.size (ad k) := fun k hkn hA => by
    rcases hA with ⟨j, e, h⟩ | h
    · have hj : j < 1 := (List.getElem?_eq_some_iff.mp h).1
      rw [show j = 0 by omega] at h
      have h' := Option.some.inj h
      exact ne1 k hkn (congrArg Prod.fst h').symm
    · exact absurd (lt k hkn) (by omega)
  have hold : va_P D cl (gw n ad E) H1 := by
    intro k q hq
    obtain ⟨h1, rfl⟩ := gw_some hq
    exact (hP k _ (atc k h1)).kept (hk _ (lt k h1) (nA k h1))
  have hall := hold.app hP1
  have hq2 : va_A [(q1, e0)] H.size q2 := hD1.2 1 _ rfl
  have hq12 : q1 ≠ q2 := fun e => by
    have := hD1.1 0 1 _ _ rfl rfl e
    omega
  refine ⟨?_, fun i j hi hj e => ?_, fun k hk9 => ?_⟩
  · rw [show [(q1, e1), (q2, e2)] = [(q1, e1)] ++ [(q2, e2)] from rfl, ← List.append_assoc, gw_push, gw_push] at hall
    exact hall
  · simp only [va_up] at e
    by_cases i1 : i = n + 1
    · by_cases j1 : j = n + 1
      · omega
      · rw [if_pos i1, if_neg j1] at e
        by_cases j2 : j = n
        · rw [if_pos j2] at e; exact absurd e.symm hq12
        · rw [if_neg j2] at e; exact absurd (e ▸ hq2) (nA j (by omega))
    · rw [if_neg i1] at e
      by_cases i2 : i = n
      · rw [if_pos i2] at e
        by_cases j1 : j = n + 1
        · rw [if_pos j1] at e; exact absurd e hq12
        · rw [if_neg j1] at e
          by_cases j2 : j = n
          · omega
          · rw [if_neg j2] at e; exact absurd e.symm (ne1 j (by omega))
      · rw [if_neg i2] at e
        by_cases j1 : j = n + 1
        · rw [if_pos j1] at e; exact absurd (e ▸ hq2) (nA i (by omega))
        · rw [if_neg j1] at e
          by_cases j2 : j = n
          · rw [if_pos j2] at e; exact absurd e (ne1 i (by omega))
          · rw [if_neg j2] at e
            exact hD.1 i j _ _ (atc i (by omega)) (atc j (by omega)) e
  · simp only [va_up]
    by_cases i1 : k = n + 1
    · rw [if_pos i1]; exact hF _ hq2
    · rw [if_neg i1]
      by_cases i2 : k = n
      · rw [if_pos i2]; exact hF _ (Or.inl ⟨0, _, rfl⟩)
      · rw [if_neg i2]; exact hD.2 k _ (atc k (by omega))
theorem vp_cell_ext {cA : ClassId} {n : Nat} {f g : Nat → Option Nat} (h : ∀ j, j < n → f j = g j) : vp_cell cA (n, .inr (.inr (.inr (.inr f)))) = vp_cell cA (n, .inr (.inr (.inr (.inr g)))) := by
  rw [vp_cell_q, vp_cell_q]
  have e : (fun j : Fin n => va_rf (f j)) = fun j : Fin n => va_rf (g j) := funext fun j => by rw [h j.1 j.2]
  unfold arrV
  rw [e]
/-- all are there -/
theorem cG_all {D : va_G} {cy : Nat → ClassId} {ad : Nat → Nat} {H : Heap} (h : va_P D vwCl (gw 48 ad (cG cy ad 6 16)) H) : va_P D vwCl (cwl cy ad cs0) H := by
  intro k q hq
  obtain ⟨h1, rfl⟩ := gw_some hq
  have h2 := h k _ (gw_get h1)
  unfold cG at h2
  by_cases c1 : k = 1
  · subst c1
    rw [if_pos rfl] at h2
    rw [cE_lr]
    have h3 : H[ad 1]? = some (vp_cell (cy 2) (6, .inr (.inr (.inr (.inr (cR ad 4 6)))))) := h2
    show H[ad 1]? = some (vp_cell (cy 2) (6, _))
    rw [h3, vp_cell_ext (g := fun j => some (ad (4 + 2 * j))) (fun j hj => by unfold cR; rw [if_pos hj])]
  · rw [if_neg c1] at h2
    by_cases c2 : k = 2
    · subst c2
      rw [if_pos rfl] at h2
      rw [cE_ta]
      have h3 : H[ad 2]? = some (vp_cell (cy 3) (16, .inr (.inr (.inr (.inr (cR ad 16 16)))))) := h2
      show H[ad 2]? = some (vp_cell (cy 3) (16, _))
      rw [h3, vp_cell_ext (g := fun j => some (ad (16 + 2 * j))) (fun j hj => by unfold cR; rw [if_pos hj])]
    · rw [if_neg c2] at h2
      exact h2
/-- one level more, one task more -/
theorem cG_lev {cy : Nat → ClassId} {ad : Nat → Nat} {i q1 q2 : Nat} (hi : i < 6) : gw (4 + 2 * i + 1 + 1) (va_up (va_up ad (4 + 2 * i) q1) (4 + 2 * i + 1) q2) (va_up (va_up (va_up (cG cy ad i 0) (4 + 2 * i) (.inr (0, [.int 1, .int 1, .ref q2, .int 0]))) (4 + 2 * i + 1) (.inl (cy 0, 16, .inl (fun _ => 0)))) 1 (.inl (cy 2, 6, .inr (.inr (.inr (.inr (va_up (cR ad 4 i) i (some q1)))))))) = gw (4 + 2 * (i + 1)) (va_up (va_up ad (4 + 2 * i) q1) (4 + 2 * i + 1) q2) (cG cy (va_up (va_up ad (4 + 2 * i) q1) (4 + 2 * i + 1) q2) (i + 1) 0) := by
  rw [show 4 + 2 * (i + 1) = 4 + 2 * i + 1 + 1 by omega]
  have hlow : ∀ c, c < 4 + 2 * i → ad c = va_up (va_up ad (4 + 2 * i) q1) (4 + 2 * i + 1) q2 c := fun c hc => by rw [va_up_ne _ _ (by omega), va_up_ne _ _ (by omega)]
  have hq1 : va_up (va_up ad (4 + 2 * i) q1) (4 + 2 * i + 1) q2 (4 + 2 * i) = q1 := by rw [va_up_ne _ _ (by omega), va_up_self]
  have hq2 : va_up (va_up ad (4 + 2 * i) q1) (4 + 2 * i + 1) q2 (5 + 2 * i) = q2 := by rw [show 5 + 2 * i = 4 + 2 * i + 1 by omega, va_up_self]
  generalize va_up (va_up ad (4 + 2 * i) q1) (4 + 2 * i + 1) q2 = ad2 at hlow hq1 hq2 ⊢
  refine gw_congr (fun c hc => ⟨rfl, ?_⟩)
  by_cases c1 : c = 1
  · subst c1
    rw [va_up_self]
    unfold cG
    rw [if_pos rfl]
    have : va_up (cR ad 4 i) i (some q1) = cR ad2 4 (i + 1) := by
      funext j
      unfold cR va_up
      by_cases j1 : j = i
      · subst j1; rw [if_pos rfl, if_pos (by omega), hq1]
      · rw [if_neg j1]
        dsimp only
        by_cases j2 : j < i
        · rw [if_pos j2, if_pos (by omega), hlow _ (by omega)]
        · rw [if_neg j2, if_neg (by omega)]
    rw [this]
  · rw [va_up_ne _ _ c1]
    by_cases c2 : c = 4 + 2 * i + 1
    · subst c2
      rw [va_up_self]
      unfold cG
      rw [if_neg (by omega), if_neg (by omega), show 4 + 2 * i + 1 = 5 + 2 * i by omega, cE_Q cy ad2 cs0 hi]
      rfl
    · rw [va_up_ne _ _ c2]
      by_cases c3 : c = 4 + 2 * i
      · subst c3
        rw [va_up_self]
        unfold cG
        rw [if_neg (by omega), if_neg (by omega), cE_L cy ad2 cs0 hi]
        unfold cLf
        rw [hq2]
        rfl
      · rw [va_up_ne _ _ c3]
        unfold cG
        rw [if_neg c1, if_neg c1]
        by_cases c4 : c = 2
        · rw [if_pos c4, if_pos c4, cR_0, cR_0]
        · rw [if_neg c4, if_neg c4]
          exact cE_ad (n := 4 + 2 * i) (by omega) (by omega) hlow (by omega) c1 c4
theorem cG_tsk {cy : Nat → ClassId} {ad : Nat → Nat} {i q1 q2 : Nat} (hi : i < 16) : gw (16 + 2 * i + 1 + 1) (va_up (va_up ad (16 + 2 * i) q1) (16 + 2 * i + 1) q2) (va_up (va_up (va_up (cG cy ad 6 i) (16 + 2 * i) (.inr (1, [.int (nI i), .int 0, .ref q2, .int 0, .int 0, .int 0, .int 0, .int 0, .int 0, .int 0, .int 0, .int 0, .int 0, .int 0, .int (-1), .int (-1), .int 0, .int 0, .int 0]))) (16 + 2 * i + 1) (.inl (cy 0, 12, .inl (fun _ => 0)))) 2 (.inl (cy 3, 16, .inr (.inr (.inr (.inr (va_up (cR ad 16 i) i (some q1)))))))) = gw (16 + 2 * (i + 1)) (va_up (va_up ad (16 + 2 * i) q1) (16 + 2 * i + 1) q2) (cG cy (va_up (va_up ad (16 + 2 * i) q1) (16 + 2 * i + 1) q2) 6 (i + 1)) := by
  rw [show 16 + 2 * (i + 1) = 16 + 2 * i + 1 + 1 by omega]
  have hlow : ∀ c, c < 16 + 2 * i → ad c = va_up (va_up ad (16 + 2 * i) q1) (16 + 2 * i + 1) q2 c := fun c hc => by rw [va_up_ne _ _ (by omega), va_up_ne _ _ (by omega)]
  have hq1 : va_up (va_up ad (16 + 2 * i) q1) (16 + 2 * i + 1) q2 (16 + 2 * i) = q1 := by rw [va_up_ne _ _ (by omega), va_up_self]
  have hq2 : va_up (va_up ad (16 + 2 * i) q1) (16 + 2 * i + 1) q2 (17 + 2 * i) = q2 := by rw [show 17 + 2 * i = 16 + 2 * i + 1 by omega, va_up_self]
  generalize va_up (va_up ad (16 + 2 * i) q1) (16 + 2 * i + 1) q2 = ad2 at hlow hq1 hq2 ⊢
  refine gw_congr (fun c hc => ⟨rfl, ?_⟩)
  by_cases c1 : c = 2
  · subst c1
    rw [va_up_self]
    unfold cG
    rw [if_neg (by omega), if_pos rfl]
    have : va_up (cR ad 16 i) i (some q1) = cR ad2 16 (i + 1) := by
      funext j
      unfold cR va_up
      by_cases j1 : j = i
      · subst j1; rw [if_pos rfl, if_pos (by omega), hq1]
      · rw [if_neg j1]
        dsimp only
        by_cases j2 : j < i
        · rw [if_pos j2, if_pos (by omega), hlow _ (by omega)]
        · rw [if_neg j2, if_neg (by omega)]
    rw [this]
  · rw [va_up_ne _ _ c1]
    by_cases c2 : c = 16 + 2 * i + 1
    · subst c2
      rw [va_up_self]
      unfold cG
      rw [if_neg (by omega), if_neg (by omega), show 16 + 2 * i + 1 = 17 + 2 * i by omega, cE_B cy ad2 cs0 i]
      rfl
    · rw [va_up_ne _ _ c2]
      by_cases c3 : c = 16 + 2 * i
      · subst c3
        rw [va_up_self]
        unfold cG
        rw [if_neg (by omega), if_neg (by omega), cE_T cy ad2 cs0 i]
        unfold cTf
        rw [hq2]
        rfl
      · rw [va_up_ne _ _ c3]
        unfold cG
        by_cases c4 : c = 1
        · rw [if_pos c4, if_pos c4, cR_ext (n := 16 + 2 * i) (Or.inr (by omega)) hlow]
        · rw [if_neg c4, if_neg c4, if_neg c1, if_neg c1]
          exact cE_ad (n := 16 + 2 * i) (by omega) (by omega) hlow (by omega) c4 c1
