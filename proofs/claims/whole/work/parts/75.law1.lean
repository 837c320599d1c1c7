/-! the law's world: the class's cells, the model's, the answer's place -/
def lwA (ad am : Nat → Nat) (ao : Nat) (A : Nat → Prop) : Prop := gw_ap 48 ad A ∧ gw_ap 19 am A ∧ A ao ∧ (∀ i j, i < 48 → j < 19 → ad i ≠ am j) ∧ (∀ i, i < 48 → ad i ≠ ao) ∧ ∀ j, j < 19 → am j ≠ ao
def lwP (D : va_G) (cy : Nat → ClassId) (ad am : Nat → Nat) (ao : Nat) (S : Cs) (M : Ms) (v : Int64) (H : Heap) : Prop := va_P D vwCl (cwl cy ad S) H ∧ va_P D vwCl (mwl cy am M) H ∧ oAt D cy ao v H
section LW
variable {D : va_G} {cy : Nat → ClassId} {ad am : Nat → Nat} {ao : Nat} {S S' : Cs} {M M' : Ms} {v v' : Int64} {H H1 : Heap} {A : Nat → Prop}
theorem gw_lt {n : Nat} {ad : Nat → Nat} {E : Nat → va_E} (h : va_P D vwCl (gw n ad E) H) {k : Nat} (hk : k < n) : ad k < H.size := vx_lt h (gw_get hk)
theorem lwP_B (hA : lwA ad am ao A) (h : lwP D cy ad am ao S M v H) (hk : ∀ q : Nat, q < H.size → ¬ gB ad ao H.size q → H1[q]? = H[q]?) (hC : va_P D vwCl (cwl cy ad S') H1) (hO : oAt D cy ao v' H1) : lwP D cy ad am ao S' M v' H1 := by
  refine ⟨hC, h.2.1.kept (fun k q hq => ?_), hO⟩
  obtain ⟨hk19, rfl⟩ := gw_some hq
  have hlt := gw_lt h.2.1 hk19
  refine hk _ hlt (fun z => ?_)
  rcases z with (⟨i, hi, e⟩ | z) | z
  · exact hA.2.2.2.1 i k hi hk19 e.symm
  · exact absurd hlt (by omega)
  · exact hA.2.2.2.2.2 k hk19 z
theorem lwP_C (hA : lwA ad am ao A) (h : lwP D cy ad am ao S M v H) (hk : ∀ q : Nat, q < H.size → ¬ gA 48 ad H.size q → H1[q]? = H[q]?) (hC : va_P D vwCl (cwl cy ad S') H1) : lwP D cy ad am ao S' M v H1 := by
  have n := o_not h.1 h.2.2 hA.2.2.2.2.1
  exact lwP_B hA h (fun q hq z => hk q hq (fun w => z (Or.inl w))) hC (h.2.2.kept (hk ao n.1 n.2))
theorem lwP_M (hA : lwA ad am ao A) (h : lwP D cy ad am ao S M v H) (hk : ∀ q : Nat, q < H.size → ¬ gA 19 am H.size q → H1[q]? = H[q]?) (hM : va_P D vwCl (mwl cy am M') H1) : lwP D cy ad am ao S M' v H1 := by
  refine ⟨h.1.kept (fun k q hq => ?_), hM, h.2.2.kept (hk ao h.2.2.lt (fun z => ?_))⟩
  · obtain ⟨hk48, rfl⟩ := gw_some hq
    have hlt := gw_lt h.1 hk48
    refine hk _ hlt (fun z => ?_)
    rcases z with ⟨j, hj, e⟩ | z
    · exact hA.2.2.2.1 k j hk48 hj e
    · exact absurd hlt (by omega)
  · rcases z with ⟨j, hj, e⟩ | z
    · exact hA.2.2.2.2.2 j hj e.symm
    · exact absurd h.2.2.lt (by omega)
end LW
section LWR
variable {p : Program} {l : Launch} {e : Env} {R : Room} {s : State} {m : MethodId} {args : Array Value} {below : List Frame} {meth : Method} {c : Code} {H : Heap} {locs : List Loc} {Q : State → Prop} {cells slots : Nat}
variable {cc : ByteArray} {pc : Nat} {ls : Array Slot} {rest st0 : List Value} {D : va_G} {cy : Nat → ClassId} {ad am sa : Nat → Nat} {ao : Nat} {S S' : Cs} {M M' : Ms} {v : Int64} {A : Nat → Prop} {Ts : List Cond} {own : String} {index : Nat}
variable {y : MethodName} {bytes : ByteArray} {maxL nL n : Nat} {ret : Option FieldType} {ws : List Cond} {rm : Room} {As : List Value} {hh : List (Nat × Nat × Nat × Nat)}
theorem gB_free (hA : lwA ad am ao A) (hS : va_S A s.heap H locs) (hAA : ∀ q, s.heap.size ≤ q → A q) : ∀ q, gB ad ao H.size q → A q := fun q h => h.elim (fun h => gA_free hA.1 hS hAA q h) (fun h => by rw [h]; exact hA.2.2.1)
theorem y_pre (hK : va_K D vwCl (tyL cy) s) (hA : lwA ad am ao A) (hAA : ∀ q, s.heap.size ≤ q → A q) (hN : Nst s) (hX : Xst sa s) (hU : xZu A s s.heap) (hNn : xZn A s s.heap) (hP : lwP D cy ad am ao S M v H) (hS : va_S A s.heap H locs) {av : List Value} : ∀ U : State, U.heap = H → s.WarmedH U.vm → va_Pc av (yPre D cy ad sa ao S v H.size) av.toArray U :=
  fun U hu hW => ⟨rfl, (c_pre (av := av) hK hA.1 hN hP.1 U hu hW).2, Xst.warm hW hX, by rw [hu]; exact ((hU.kept hS.2.1).moved hW.alike).narrow (gB_free hA hS hAA), by rw [hu]; exact ((hNn.kept hS.2.1).moved hW.alike).narrow (gB_free hA hS hAA), by rw [hu]; exact hP.2.2, hA.2.2.2.2.1⟩
/-- a helper that answers by the row -/
theorem l_hi (F : CallFix p m c cc nL s args Ts own) {r : Cs × Int32 × Nat} {k : Int32} (hM : hMi l y ws rm D cy ad sa ao As S v r k) (cw : vx_CSW R s args own index y bytes maxL ret hh ws rm 1 6 n) (hK : va_K D vwCl (tyL cy) s) (hA : lwA ad am ao A) (hAA : ∀ q, s.heap.size ≤ q → A q) (hN : Nst s) (hX : Xst sa s) (hU : xZu A s s.heap) (hNn : xZn A s s.heap) (hP : lwP D cy ad am ao S M v H) (hS : va_S A s.heap H locs) (hn : As.length = n) (hsz : ls.size = nL) (hst : st0 = As.reverse ++ rest) (hW : (rest.map fun v => v.category).sum ≤ 8) (hdg : decode cc pc = .ok (.invokestatic index, 3)) (hf : cells + 1 ≤ R.cells ∧ slots + 6 ≤ R.slots)
    (kk : ∀ (H1 : Heap) (locs1 : List Loc), lwP D cy ad am ao r.1 M (if r.2.2 = 0 then r.2.1.toInt64 else v) H1 → va_S A s.heap H1 locs1 → W p l e R s m args below meth c H1 locs1 (cells + 1) (slots + 6) Q (F0 m (pc + 3) ls (.int k :: rest))) : W p l e R s m args below meth c H locs cells slots Q (F0 m pc ls st0) :=
  vx_calli (vx_runSX (rest := rest) F (hM H.size) cw ⟨yPre_blind, y_pre hK hA hAA hN hX hU hNn hP hS⟩ rfl hn hsz hst (lv_room hW) hdg hf) hS (fun q _ h => gB_free hA hS hAA q h) (gB_free hA hS hAA) (fun q _ h => gB_free hA hS hAA q h) (fun _ _ _ _ _ _ _ _ _ hpx => hpx.elim)
    (fun r2 _ t H1 locs1 ht _ hp hB _ hk hS1 => by
      subst hp
      subst ht
      exact kk _ locs1 (lwP_B hA hP hk hB.1 hB.2) hS1)
/-- a helper that answers nothing but what was thrown -/
theorem l_hv (F : CallFix p m c cc nL s args Ts own) {r : Cs × Int32 × Nat} {k : Int32} (hM : hMv l y ws rm D cy ad sa As S r k) (cw : vx_CSW R s args own index y bytes maxL ret hh ws rm 1 6 n) (hK : va_K D vwCl (tyL cy) s) (hA : lwA ad am ao A) (hAA : ∀ q, s.heap.size ≤ q → A q) (hN : Nst s) (hX : Xst sa s) (hU : xZu A s s.heap) (hNn : xZn A s s.heap) (hP : lwP D cy ad am ao S M v H) (hS : va_S A s.heap H locs) (hn : As.length = n) (hsz : ls.size = nL) (hst : st0 = As.reverse ++ rest) (hW : (rest.map fun v => v.category).sum ≤ 8) (hdg : decode cc pc = .ok (.invokestatic index, 3)) (hf : cells + 1 ≤ R.cells ∧ slots + 6 ≤ R.slots)
    (kk : ∀ (H1 : Heap) (locs1 : List Loc), lwP D cy ad am ao r.1 M v H1 → va_S A s.heap H1 locs1 → W p l e R s m args below meth c H1 locs1 (cells + 1) (slots + 6) Q (F0 m (pc + 3) ls (.int k :: rest))) : W p l e R s m args below meth c H locs cells slots Q (F0 m pc ls st0) :=
  vx_calli (vx_runSX (rest := rest) F (hM H.size) cw ⟨xPre_blind, x_pre hK hA.1 hAA hN hX hU hNn hP.1 hS⟩ rfl hn hsz hst (lv_room hW) hdg hf) hS (fun q _ h => gA_free hA.1 hS hAA q h) (gA_free hA.1 hS hAA) (fun q _ h => gA_free hA.1 hS hAA q h) (fun _ _ _ _ _ _ _ _ _ hpx => hpx.elim)
    (fun r2 _ t H1 locs1 ht _ hp hB _ hk hS1 => by
      subst hp
      subst ht
      exact kk _ locs1 (lwP_C hA hP hk hB) hS1)
end LWR
