/-! A world of n cells: cell k, at the address ad k, holds E k -/
def gw (n : Nat) (ad : Nat → Nat) (E : Nat → va_E) : va_W := (List.range n).map (fun k => (ad k, E k))
theorem gw_get {n : Nat} {ad : Nat → Nat} {E : Nat → va_E} {k : Nat} (h : k < n) : (gw n ad E)[k]? = some (ad k, E k) := by
  simp [gw, h]
theorem gw_some {n : Nat} {ad : Nat → Nat} {E : Nat → va_E} {k : Nat} {q : Nat × va_E} (h : (gw n ad E)[k]? = some q) : k < n ∧ q = (ad k, E k) := by
  by_cases hk : k < n
  · rw [gw_get hk] at h
    exact ⟨hk, (Option.some.inj h).symm⟩
  · simp [gw, hk] at h
    omega
theorem gw_len (n : Nat) (ad : Nat → Nat) (E : Nat → va_E) : (gw n ad E).length = n := by simp [gw]
theorem gw_set {n : Nat} {ad : Nat → Nat} {E : Nat → va_E} (k : Nat) (e : va_E) : (gw n ad E).set k (ad k, e) = gw n ad (va_up E k e) := by
  apply List.ext_getElem?
  intro j
  by_cases hj : j < n
  · by_cases hjk : j = k
    · subst hjk
      rw [gw_get hj, List.getElem?_set_self (by rw [gw_len]; exact hj)]
      simp [va_up]
    · rw [gw_get hj, List.getElem?_set_ne (fun h => hjk h.symm), gw_get hj]
      simp [va_up, hjk]
  · rw [List.getElem?_eq_none (by rw [List.length_set, gw_len]; omega), List.getElem?_eq_none (by rw [gw_len]; omega)]
theorem gw_push {n : Nat} {ad : Nat → Nat} {E : Nat → va_E} (q : Nat) (e : va_E) : gw n ad E ++ [(q, e)] = gw (n + 1) (va_up ad n q) (va_up E n e) := by
  unfold gw
  rw [List.range_succ, List.map_append]
  congr 1
  · apply List.map_congr_left
    intro k hk
    have : k ≠ n := by have := List.mem_range.mp hk; omega
    simp [va_up, this]
  · simp [va_up]
/-- apart, and of a kind -/
def gw_ap (n : Nat) (ad : Nat → Nat) (A : Nat → Prop) : Prop := (∀ i j, i < n → j < n → ad i = ad j → i = j) ∧ ∀ k, k < n → A (ad k)
theorem gw_D {n : Nat} {ad : Nat → Nat} {A : Nat → Prop} (h : gw_ap n ad A) (E : Nat → va_E) : va_D A (gw n ad E) := by
  refine ⟨fun i j p q hi hj e => ?_, fun k q hk => ?_⟩
  · obtain ⟨h1, rfl⟩ := gw_some hi
    obtain ⟨h2, rfl⟩ := gw_some hj
    exact h.1 i j h1 h2 e
  · obtain ⟨h1, rfl⟩ := gw_some hk
    exact h.2 k h1
theorem gw_Dof {n : Nat} {ad : Nat → Nat} {A : Nat → Prop} {E : Nat → va_E} (h : va_D A (gw n ad E)) : gw_ap n ad A :=
  ⟨fun i j hi hj e => h.1 i j _ _ (gw_get hi) (gw_get hj) e, fun k hk => h.2 k _ (gw_get hk)⟩
/-- which cells a method over this world may change -/
def gA (n : Nat) (ad : Nat → Nat) (sz : Nat) : Nat → Prop := fun q => (∃ k, k < n ∧ q = ad k) ∨ sz ≤ q
theorem gA_in {n : Nat} {ad : Nat → Nat} {sz k : Nat} (h : k < n) : gA n ad sz (ad k) := Or.inl ⟨k, h, rfl⟩
theorem gw_self {n : Nat} {ad : Nat → Nat} {A : Nat → Prop} {sz : Nat} (h : gw_ap n ad A) : gw_ap n ad (gA n ad sz) := ⟨h.1, fun _ hk => gA_in hk⟩
theorem gA_free {n : Nat} {ad : Nat → Nat} {A : Nat → Prop} {H0 H : Heap} {locs : List Loc} (h : gw_ap n ad A) (hS : va_S A H0 H locs) (hA : ∀ q, H0.size ≤ q → A q) : ∀ q, gA n ad H.size q → A q := by
  intro q hq
  rcases hq with ⟨k, hk, rfl⟩ | hq
  · exact h.2 k hk
  · exact hA q (Nat.le_trans hS.1 hq)
/-- an index: k is its number -/
def ix (x : Int32) (k n : Nat) : Prop := ¬ x < 0 ∧ x.toNatClampNeg = k ∧ k < n
theorem ix.vp {x : Int32} {k n : Nat} (h : ix x k n) : vp_in x n := by
  obtain ⟨h0, h1, h2⟩ := h
  intro q
  rcases q with q | q
  · exact h0 q
  · omega
theorem ix_nI {k n : Nat} (h : k < n) (hn : n < 2 ^ 31) : ix (nI k) k n := ⟨nI_pos (by omega), nI_clamp (by omega), h⟩
theorem ix_lit {x : Int32} {k n : Nat} (hx : x = nI k) (h : k < n) (hn : n < 2 ^ 31) : ix x k n := by rw [hx]; exact ix_nI h hn
theorem ix.nI {x : Int32} {k n : Nat} (h : ix x k n) : x = nI k := by
  obtain ⟨h0, h1, h2⟩ := h
  obtain ⟨j, hj, rfl⟩ := nI_of h0
  rw [nI_clamp hj] at h1
  rw [h1]
