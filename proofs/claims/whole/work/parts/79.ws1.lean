/-! the start: what the tables and the premises give -/
section WS
variable {s : State} {args : Array Value}
theorem ka_p {ty : FieldType} (hp : ∀ C, ty ≠ .object C) (h : (Cond.arrayClass ty).before args s = true) : ∃ cA, ArrOfT s cA ty ∧ va_RA s cA ty := by
  obtain ⟨cA, kA, comp, h1, h2, h3⟩ := Cond.arrayClass_spec h
  refine ⟨cA, fun n z => ⟨fun k h => (by cases h), kA, h2, comp, h3⟩, ?_⟩
  cases ty <;> first | exact absurd rfl (hp _) | exact h1
theorem ka_o {C : String} (h : (Cond.arrayOver (.object C)).before args s = true) : ∃ cA, ArrOfT s cA (.object C) ∧ va_RA s cA (.object C) := by
  obtain ⟨comp, cA, kA, h1, -, h2, h3, h4⟩ := Cond.arrayOver_spec h
  exact ⟨cA, fun n z => ⟨fun k h => (by cases h), kA, h2, comp, h3⟩, kA, comp, h2, h3, h1, h4⟩
theorem k_all (hts : ∀ w ∈ lw_tbl, w.before args s = true) : ∃ (D : va_G) (cy : Nat → ClassId), va_K D vwCl (tyL cy) s := by
  obtain ⟨c0, i0, k0⟩ := u_known (C := RX0) (T := TX0) (N := 4) (n := 4) hts in_wsX00 (hts (.instantiable RX0 4) (by decide +kernel))
  obtain ⟨c1, i1, k1⟩ := u_known (C := RX1) (T := TX1) (N := 19) (n := 19) hts in_wsX10 (hts (.instantiable RX1 19) (by decide +kernel))
  obtain ⟨c2, i2, k2⟩ := u_known (C := RX2) (T := TX2) (N := 12) (n := 12) hts in_wsX20 (hts (.instantiable RX2 12) (by decide +kernel))
  obtain ⟨c3, i3, k3⟩ := u_known (C := RX3) (T := TX3) (N := 24) (n := 24) hts in_wsX30 (hts (.instantiable RX3 24) (by decide +kernel))
  obtain ⟨a0, ha0⟩ := ka_p (s := s) (args := args) (ty := .int) (fun _ h => by cases h) (hts (.arrayClass .int) (by decide +kernel))
  obtain ⟨a1, ha1⟩ := ka_p (s := s) (args := args) (ty := .boolean) (fun _ h => by cases h) (hts (.arrayClass .boolean) (by decide +kernel))
  obtain ⟨a2, ha2⟩ := ka_o (s := s) (args := args) (C := RX0) (hts (.arrayOver (.object RX0)) (by decide +kernel))
  obtain ⟨a3, ha3⟩ := ka_o (s := s) (args := args) (C := RX1) (hts (.arrayOver (.object RX1)) (by decide +kernel))
  obtain ⟨a4, ha4⟩ := ka_p (s := s) (args := args) (ty := .long) (fun _ h => by cases h) (hts (.arrayClass .long) (by decide +kernel))
  refine ⟨(fun k => if k = 0 then c0 else if k = 1 then c1 else if k = 2 then c2 else c3, fun k => if k = 0 then i0 else if k = 1 then i1 else if k = 2 then i2 else i3), fun k => if k = 0 then a0 else if k = 1 then a1 else if k = 2 then a2 else if k = 3 then a3 else a4, fun k q hq => ?_, fun k q hq => ?_⟩
  · match k, hq with
    | 0, hq => cases hq; exact k0
    | 1, hq => cases hq; exact k1
    | 2, hq => cases hq; exact k2
    | 3, hq => cases hq; exact k3
    | k + 4, hq => simp at hq
  · match k, hq with
    | 0, hq => cases hq; exact ha0
    | 1, hq => cases hq; exact ha1
    | 2, hq => cases hq; exact ha2
    | 3, hq => cases hq; exact ha3
    | 4, hq => cases hq; exact ha4
    | k + 5, hq => simp at hq
theorem nst_tab : ∀ w ∈ nstW, w.onTables = true := by decide +kernel
theorem nst_in : ∀ w ∈ nstW, w ∈ lw_tbl := by decide +kernel
theorem nst_s (hts : ∀ w ∈ lw_tbl, w.before args s = true) : Nst s := fun w hw => va_Nw.of (nst_tab w hw) (hts w (nst_in w hw))
theorem xnW_in : ∀ w ∈ xnW, w ∈ lw_tbl := by decide +kernel
theorem xstr_in : ∀ q ∈ xstr, Cond.stringRef RX2 q.1 q.2 ∈ lw_tbl := by decide +kernel
theorem xst_s (hts : ∀ w ∈ lw_tbl, w.before args s = true) (hgv : (Jvm.Cond.and given_1 narrow_1).before args s = true) : ∃ sa, Xst sa s := by
  have hs := flat_of_before _ hgv
  have hex : ∀ q ∈ xstr, ∃ a, (Term.string RX2 q.1).eval args s none [] s = some (.ref a) := by
    intro q hq
    have hw : (Cond.exactly (.string RX2 q.1) "java/lang/String").before args s = true := by
      simp only [xstr, List.mem_cons, List.not_mem_nil, or_false] at hq
      rcases hq with rfl | rfl | rfl | rfl | rfl | rfl | rfl | rfl | rfl | rfl | rfl | rfl | rfl | rfl
      all_goals exact hs _ (by decide +kernel)
    obtain ⟨a, -, -, -, h1, -⟩ := Cond.exactly_spec hw
    exact ⟨a, h1⟩
  refine ⟨fun i => match (Term.string RX2 i).eval args s none [] s with | some (.ref a) => a | _ => 0, fun w hw => va_Nw.of (xnW_tab w hw) (hts w (xnW_in w hw)), fun q hq => ?_, va_Nc.of (args := args) (hs _ (by decide +kernel)), va_Nc.of (args := args) (hs _ (by decide +kernel)), va_Nc.of (args := args) (hs _ (by decide +kernel))⟩
  obtain ⟨a, ha⟩ := hex q hq
  refine vk_R.of (A := args) (hts _ (xstr_in q hq)) ?_
  simp only [ha]
theorem zu_s (hts : ∀ w ∈ lw_tbl, w.before args s = true) (hgv : (Jvm.Cond.and given_1 narrow_1).before args s = true) : xZu (fun q => s.heap.size ≤ q) s s.heap ∧ xZn (fun q => s.heap.size ≤ q) s s.heap := by
  have hs := flat_of_before _ hgv
  exact ⟨vx_Zqof (hts (.laysStatic Bundle.tN "UNASSIGNED_STACK" Bundle.steD) (by decide +kernel)) (hts (.initialized Bundle.tN) (by decide +kernel)) (hs _ (by decide +kernel)) (fun a h1 h2 => absurd h1 (by omega)), vx_Zqof (hts (.laysStatic Bundle.tN "SUPPRESSED_SENTINEL" Bundle.listD) (by decide +kernel)) (hts (.initialized Bundle.tN) (by decide +kernel)) (hs _ (by decide +kernel)) (fun a h1 h2 => absurd h1 (by omega))⟩
end WS
