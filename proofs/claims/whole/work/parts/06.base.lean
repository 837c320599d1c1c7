/-! A world of n cells: cell k, at the address ad k, holds E k -/
def gw (n : Nat) (ad : Nat → Nat) (E : Nat → va_E) : va_W := (List.range n).map (fun k => (ad k, E k))
theorem gw_get {n : Nat} {ad : Nat → Nat} {E : Nat → va_E} {k : Nat} (h : k < n) : (gw n ad E)[k]? = some (ad k, E k) := by
  simp [gw, h]
theorem gw_some {n : Nat} {ad : Nat → Nat} {E : Nat → va_E} {k : Nat} {q : Nat × va_E} (h : (gw n ad E)[k]? = some q) : k < n ∧ q = (ad k, E k) := by
  by_cases hk : k < n
  · rw [gw_get hk] at h
    exact ⟨hk, (Option.some.inj h).symm⟩
  · simp [gw, hk] at h
theorem gw_len (n : Nat) (ad : Nat → Nat) (E : Nat → va_E) : (gw n ad E).length = n := by simp [gw]
theorem gw_set {n : Nat} {ad : Nat → Nat} {E : Nat → va_E} (k : Nat) (e : va_E) : (gw n ad E).set k (ad k, e) = gw n ad (va_up E k e) := by
  apply List.ext_getElem?
  intro j
  by_cases hj : j < n
  · by_cases hjk : j = k
    · subst hjk
      rw [gw_get hj, List.getElem?_set_self (by rw [gw_len]; exact hj)]
      simp [va_up]
    · rw [gw_get hj, List.getElem?_set_ne (fun h => hjk h.symm), gw_get hj]
      simp [va_up, hjk]
  · rw [List.getElem?_eq_none (by rw [List.length_set, gw_len]; omega), List.getElem?_eq_none (by rw [gw_len]; omega)]
theorem gw_push {n : Nat} {ad : Nat → Nat} {E : Nat → va_E} (q : Nat) (e : va_E) : gw n ad E ++ [(q, e)] = gw (n + 1) (va_up ad n q) (va_up E n e) := by
  unfold gw
  rw [List.range_succ, List.map_append]
  congr 1
  · apply List.map_congr_left
    intro k hk
    have : k ≠ n := by have := List.mem_range.mp hk; omega
    simp [va_up, this]
  · simp [va_up]
/-- apart, and of a kind -/
def gw_ap (n : Nat) (ad : Nat → Nat) (A : Nat → Prop) : Prop := (∀ i j, i < n → j < n → ad i = ad j → i = j) ∧ ∀ k, k < n → A (ad k)
theorem gw_D {n : Nat} {ad : Nat → Nat} {A : Nat → Prop} (h : gw_ap n ad A) (E : Nat → va_E) : va_D A (gw n ad E) := by
  refine ⟨fun i j p q hi hj e => ?_, fun k q hk => ?_⟩
  · obtain ⟨h1, rfl⟩ := gw_some hi
    obtain ⟨h2, rfl⟩ := gw_some hj
    exact h.1 i j h1 h2 e
  · obtain ⟨h1, rfl⟩ := gw_some hk
    exact h.2 k h1
theorem gw_Dof {n : Nat} {ad : Nat → Nat} {A : Nat → Prop} {E : Nat → va_E} (h : va_D A (gw n ad E)) : gw_ap n ad A :=
  ⟨fun i j hi hj e => h.1 i j _ _ (gw_get hi) (gw_get hj) e, fun k hk => h.2 k _ (gw_get hk)⟩
/-- which cells a method over this world may change -/
def gA (n : Nat) (ad : Nat → Nat) (sz : Nat) : Nat → Prop := fun q => (∃ k, k < n ∧ q = ad k) ∨ sz ≤ q
theorem gA_in {n : Nat} {ad : Nat → Nat} {sz k : Nat} (h : k < n) : gA n ad sz (ad k) := Or.inl ⟨k, h, rfl⟩
theorem gw_self {n : Nat} {ad : Nat → Nat} {A : Nat → Prop} {sz : Nat} (h : gw_ap n ad A) : gw_ap n ad (gA n ad sz) := ⟨h.1, fun _ hk => gA_in hk⟩
theorem gA_free {n : Nat} {ad : Nat → Nat} {A : Nat → Prop} {H0 H : Heap} {locs : List Loc} (h : gw_ap n ad A) (hS : va_S A H0 H locs) (hA : ∀ q, H0.size ≤ q → A q) : ∀ q, gA n ad H.size q → A q := by
  intro q hq
  rcases hq with ⟨k, hk, rfl⟩ | hq
  · exact h.2 k hk
  · exact hA q (Nat.le_trans hS.1 hq)
/-- an index: k is its number -/
def ix (x : Int32) (k n : Nat) : Prop := ¬ x < 0 ∧ x.toNatClampNeg = k ∧ k < n
theorem ix.vp {x : Int32} {k n : Nat} (h : ix x k n) : vp_in x n := by
  obtain ⟨h0, h1, h2⟩ := h
  intro q
  rcases q with q | q
  · exact h0 q
  · omega
theorem ix_nI {k n : Nat} (h : k < n) (hn : n < 2 ^ 31) : ix (nI k) k n := ⟨nI_pos (by omega), nI_clamp (by omega), h⟩
theorem ix_lit {x : Int32} {k n : Nat} (hx : x = nI k) (h : k < n) (hn : n < 2 ^ 31) : ix x k n := by rw [hx]; exact ix_nI h hn
theorem ix.nI {x : Int32} {k n : Nat} (h : ix x k n) : x = nI k := by
  obtain ⟨h0, h1, h2⟩ := h
  obtain ⟨j, hj, rfl⟩ := nI_of h0
  rw [nI_clamp hj] at h1
  rw [h1]
/-- a loop that counts up from t, n turns -/
def itr {α : Type} (f : Nat → α → α) : Nat → Nat → α → α
  | 0, _, z => z
  | n + 1, t, z => itr f n (t + 1) (f t z)
/-- a loop that counts down from n -/
def itd {α : Type} (f : Nat → α → α) : Nat → α → α
  | 0, z => z
  | n + 1, z => itd f n (f n z)
theorem inc_nI (t : Nat) : nI t + Int32.ofInt 1 = nI (t + 1) := by rw [show Int32.ofInt 1 = 1 from by decide]; exact nI_1 t
theorem dec_nI (n : Nat) : nI (n + 1) + Int32.ofInt (-1) = nI n := by rw [show Int32.ofInt (-1) = -1 from by decide]; exact pk_m1 n
/-- between 0 and n -/
def ub (n : Nat) (x : Int32) : Prop := ∃ z, z ≤ n ∧ x = nI z
theorem ub_ix {n : Nat} {x : Int32} (h : ub n x) {k : Nat} (hk : x.toNatClampNeg < k) (hn : n < 2 ^ 31) : ix x x.toNatClampNeg k := by
  obtain ⟨z, h1, rfl⟩ := h
  exact ⟨nI_pos (by omega), rfl, hk⟩
theorem ub_nI {n : Nat} {x : Int32} (h : ub n x) (hn : n < 2 ^ 31) : x = nI x.toNatClampNeg := by
  obtain ⟨z, h1, rfl⟩ := h
  rw [nI_clamp (by omega)]
theorem ub_le {n : Nat} {x : Int32} (h : ub n x) (hn : n < 2 ^ 31) : x.toNatClampNeg ≤ n := by
  obtain ⟨z, h1, rfl⟩ := h
  rw [nI_clamp (by omega)]; exact h1
theorem ix_nge {n k : Nat} {x y : Int32} (h : ub n x) (hn : n < 2 ^ 31) (hy : y = nI k) (hk : k < 2 ^ 31) (hc : ¬ y ≤ x) : ix x x.toNatClampNeg k := by
  obtain ⟨z, h1, rfl⟩ := h
  refine ⟨nI_pos (by omega), rfl, ?_⟩
  rw [nI_clamp (by omega)]
  rcases Nat.lt_or_ge z k with q | q
  · exact q
  · exact absurd (by rw [hy]; exact nI_le q (by omega)) hc
theorem ix_lt {n k : Nat} {x y : Int32} (h : ub n x) (hn : n < 2 ^ 31) (hy : y = nI k) (hk : k < 2 ^ 31) (hc : x < y) : ix x x.toNatClampNeg k := by
  obtain ⟨z, h1, rfl⟩ := h
  refine ⟨nI_pos (by omega), rfl, ?_⟩
  rw [nI_clamp (by omega)]
  rcases Nat.lt_or_ge z k with q | q
  · exact q
  · exact absurd (by rw [hy] at hc; exact hc) (nI_nlt q (by omega))
/-- an index that was compared with a size -/
theorem ix_cmp {n k : Nat} {x y : Int32} (h0 : ¬ x < 0) (hy : ub n y) (hn : n ≤ k) (hk : k < 2 ^ 31) (hc : ¬ y ≤ x) : ix x x.toNatClampNeg k := by
  obtain ⟨j, hj, rfl⟩ := nI_of h0
  obtain ⟨z, h1, rfl⟩ := hy
  refine ⟨h0, rfl, ?_⟩
  rw [nI_clamp hj]
  rcases Nat.lt_or_ge j z with q | q
  · omega
  · exact absurd (nI_le q hj) hc
theorem ix_lt2 {n k : Nat} {x y : Int32} (hx : ub n x) (hy : ub k y) (hn : n < 2 ^ 31) (hk : k < 2 ^ 31) (hc : x < y) : ix x x.toNatClampNeg k := by
  obtain ⟨z, h1, rfl⟩ := hx
  obtain ⟨q, h2, rfl⟩ := hy
  refine ⟨nI_pos (by omega), rfl, ?_⟩
  rw [nI_clamp (by omega)]
  have := (nI_ltI (a := z) (b := q) (by omega) (by omega)).mp hc
  omega
theorem ix_suc {t n : Nat} (h : t + 1 < n) (hn : n < 2 ^ 31) : ix (nI t + 1) (t + 1) n := by rw [nI_1]; exact ix_nI h hn
theorem ix_pre {t n : Nat} (h : t < n) (hn : n < 2 ^ 31) : ix (nI (t + 1) - 1) t n := by rw [nI_pred]; exact ix_nI h hn
