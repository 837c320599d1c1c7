/-! exceptions of the class: which, with what text -/
def xnm : Nat → String
  | 1 => "java/lang/IndexOutOfBoundsException"
  | 2 => "java/lang/IllegalArgumentException"
  | _ => "java/lang/IllegalStateException"
def xik : Nat → Nat
  | 1 => 78
  | 2 => 58
  | _ => 87
def xic : Nat → Nat
  | 1 => 82
  | 2 => 62
  | _ => 91
abbrev xns : List String := ["java/lang/RuntimeException", "java/lang/Exception"]
def xstr : List (Nat × String) := [(60, "there are 1 to 6 levels"), (80, "there is no such level"), (83, "a quantum is 1 to 100"), (85, "a share is 1 to 1000"), (89, "the time isn't 0"), (92, "a period is 0 to 10000"), (94, "an arrival is 0 to 20000"), (102, "there is no such process"), (104, "a burst is 1 to 5000 ticks"), (110, "0 to 30000 ticks are done at once"), (113, "the time would be above 100000"), (148, "what is 0 to 9"), (156, "what is 0 to 3"), (158, "this switch is not kept")]
/-- words that ride apart: they hold of the tables, whatever is resolved -/
def xnW : List Cond := [.declares (Bundle.initS "java/lang/RuntimeException"), .declares (Bundle.initS "java/lang/Exception"), .declares (Bundle.initS Bundle.tN), .castable "java/lang/IndexOutOfBoundsException" "java/lang/IndexOutOfBoundsException", .castable "java/lang/IllegalArgumentException" "java/lang/IllegalArgumentException", .castable "java/lang/IllegalStateException" "java/lang/IllegalStateException"]
def Xst (sa : Nat → Nat) (U : State) : Prop := (∀ w ∈ xnW, va_Nw w U) ∧ (∀ q ∈ xstr, vk_R RX2 q.1 q.2 (sa q.1) U) ∧ va_Nc (xnm 2) (xnm 1) U ∧ va_Nc (xnm 3) (xnm 1) U ∧ va_Nc (xnm 3) (xnm 2) U
theorem xnW_tab : ∀ w ∈ xnW, w.onTables = true := by decide +kernel
theorem Xst.same {sa : Nat → Nat} {u U : State} (hv : u.vm = U.vm) (h : Xst sa u) : Xst sa U :=
  ⟨fun w hw => va_Nw.same (xnW_tab w hw) hv (h.1 w hw), fun q hq => vk_R.same hv.symm (h.2.1 q hq), va_Nc.moved (hv ▸ Vm.Alike.refl u.vm) h.2.2.1, va_Nc.moved (hv ▸ Vm.Alike.refl u.vm) h.2.2.2.1, va_Nc.moved (hv ▸ Vm.Alike.refl u.vm) h.2.2.2.2⟩
theorem Xst.warm {sa : Nat → Nat} {s U : State} (hW : s.WarmedH U.vm) (h : Xst sa s) : Xst sa U := by
  refine ⟨fun w hw => ?_, fun q hq => vk_R.warm hW (h.2.1 q hq), va_Nc.moved hW.alike h.2.2.1, va_Nc.moved hW.alike h.2.2.2.1, va_Nc.moved hW.alike h.2.2.2.2⟩
  have h1 := h.1 w hw
  simp only [xnW, List.mem_cons, List.not_mem_nil, or_false] at hw
  rcases hw with rfl | rfl | rfl | rfl | rfl | rfl
  · exact va_Nw.warmD hW h1
  · exact va_Nw.warmD hW h1
  · exact va_Nw.warmD hW h1
  · exact va_Nw.warmC hW h1
  · exact va_Nw.warmC hW h1
  · exact va_Nw.warmC hW h1
abbrev xZu (A : Nat → Prop) (U : State) (H : Heap) : Prop := vx_Zq Bundle.tN "UNASSIGNED_STACK" Bundle.steD A U H
abbrev xZn (A : Nat → Prop) (U : State) (H : Heap) : Prop := vx_Zq Bundle.tN "SUPPRESSED_SENTINEL" Bundle.listD A U H
def xPre (D : va_G) (cy : Nat → ClassId) (ad sa : Nat → Nat) (S : Cs) (sz : Nat) (U : State) : Prop := cPre D cy ad S sz U ∧ Xst sa U ∧ xZu (gA 48 ad sz) U U.heap ∧ xZn (gA 48 ad sz) U U.heap
def xXC (D : va_G) (cy : Nat → ClassId) (ad : Nat → Nat) (r : Cs × Int32 × Nat) (A : Nat → Prop) : String → State → State → Prop := vx_X (fun _ : Unit => True) (fun E _ t => r.2.2 ≠ 0 ∧ E = xnm r.2.2 ∧ cPost D cy ad r.1 t) A
def cXv (l : Launch) (y : MethodName) (ws : List Cond) (rm : Room) (D : va_G) (cy : Nat → ClassId) (ad sa : Nat → Nat) (av : List Value) (S : Cs) (r : Cs × Int32 × Nat) : Prop :=
  ∀ sz, vx_Met l y ws rm (va_Pc av (xPre D cy ad sa S sz)) (va_Qv (fun _ : Unit => r.2.2 = 0) (fun _ t => cPost D cy ad r.1 t) (gA 48 ad sz)) (xXC D cy ad r (gA 48 ad sz)) 1 6 (gA 48 ad sz)
def cXi (l : Launch) (y : MethodName) (ws : List Cond) (rm : Room) (D : va_G) (cy : Nat → ClassId) (ad sa : Nat → Nat) (av : List Value) (S : Cs) (r : Cs × Int32 × Nat) : Prop :=
  ∀ sz, vx_Met l y ws rm (va_Pc av (xPre D cy ad sa S sz)) (va_Qi (fun (x : Int32) (_ : Unit) => x = r.2.1 ∧ r.2.2 = 0) (fun _ t => cPost D cy ad r.1 t) (gA 48 ad sz)) (xXC D cy ad r (gA 48 ad sz)) 1 6 (gA 48 ad sz)
theorem xPre_blind {D : va_G} {cy : Nat → ClassId} {ad sa : Nat → Nat} {S : Cs} {sz : Nat} {av : List Value} : FrameBlind (va_Pc av (xPre D cy ad sa S sz)) := by
  intro a U g mk q
  obtain ⟨q0, q1, qX, qU, qN⟩ := q
  have h1 := cPre_blind (D := D) (cy := cy) (ad := ad) (S := S) (sz := sz) (av := av) a U g mk ⟨q0, q1⟩
  exact ⟨h1.1, h1.2, Xst.same (u := U) rfl qX, vx_Zq.moved (u := U) (U := U.calling g mk a) (Vm.Alike.refl U.vm) qU, vx_Zq.moved (u := U) (U := U.calling g mk a) (Vm.Alike.refl U.vm) qN⟩
section XR
variable {p : Program} {l : Launch} {e : Env} {R : Room} {s : State} {m : MethodId} {args : Array Value} {below : List Frame} {meth : Method} {c : Code} {H : Heap} {locs : List Loc} {Q : State → Prop}
variable {cc : ByteArray} {pc : Nat} {ls : Array Slot} {rest : List Value} {D : va_G} {A : Nat → Prop} {cy : Nat → ClassId} {ad sa : Nat → Nat} {S : Cs} {Ts : List Cond} {XC : String → State → State → Prop} {Qc : Array Value → State → Outcome → State → Prop}
theorem sw_out {x : Int32} {n : Nat} (hn : n < 2 ^ 31) (h : ∀ k, k < n → ¬ x = nI k) : x.toInt < 0 ∨ ((n : Int) - 1) < x.toInt := by
  by_cases h0 : x < 0
  · exact Or.inl (by have q := Int32.lt_iff_toInt_lt.mp h0; rw [show (0 : Int32).toInt = 0 from by decide] at q; exact q)
  · obtain ⟨j, hj, rfl⟩ := nI_of h0
    rw [nI_toInt hj]
    have := h j
    by_cases hjn : j < n
    · exact absurd rfl (this hjn)
    · right; omega
theorem x_vret {v : Int32} (hx : p.tables.exec = Jvm.exec) (hb : c.code = cc) (hr : meth.sig.returnType = none) (hlocks : meth.locks = false) (hP : va_P D vwCl (cwl cy ad S) H) (hS : va_S A s.heap H locs) (hdg : decode cc pc = .ok (.return_, 1)) :
    W p l e R s m args below meth c H locs 0 0 (vx_MQ below (va_Qv (fun _ : Unit => ((S, v, 0) : Cs × Int32 × Nat).2.2 = 0) (fun _ t => cPost D cy ad ((S, v, 0) : Cs × Int32 × Nat).1 t) A) XC args s 1 6 A) (F0 m pc ls []) :=
  W.widen (Nat.zero_le 1) (Nat.zero_le 6) (vx_ret (W.vret hx hb hr (fun t ht _ => ⟨⟨(), rfl, rfl, by show va_P _ _ _ t.heap; rw [ht]; exact hP⟩, hS.F ht⟩) (fun q hq => hS.2.2 q hq) hdg))
theorem x_iret {v : Int32} (hx : p.tables.exec = Jvm.exec) (hb : c.code = cc) (hr : meth.sig.returnType = some .int) (hlocks : meth.locks = false) (hP : va_P D vwCl (cwl cy ad S) H) (hS : va_S A s.heap H locs) (hdg : decode cc pc = .ok (.ireturn, 1)) :
    W p l e R s m args below meth c H locs 0 0 (vx_MQ below (va_Qi (fun (x : Int32) (_ : Unit) => x = ((S, v, 0) : Cs × Int32 × Nat).2.1 ∧ ((S, v, 0) : Cs × Int32 × Nat).2.2 = 0) (fun _ t => cPost D cy ad ((S, v, 0) : Cs × Int32 × Nat).1 t) A) XC args s 1 6 A) (F0 m pc ls [.int v]) :=
  W.widen (Nat.zero_le 1) (Nat.zero_le 6) (vx_ret (W.iret hx hb hr (fun t ht _ => ⟨⟨v, (), rfl, ⟨rfl, rfl⟩, by show va_P _ _ _ t.heap; rw [ht]; exact hP⟩, hS.F ht⟩) (fun q hq => hS.2.2 q hq) hdg))
theorem x_thr {v : Int32} {kd is : Nat} {text : String} (hx : p.tables.exec = Jvm.exec) (hb : c.code = cc) (hl : l.stackTraces = false) (hown : s.vm.findClass RX2 = some m.cls) (hX : Xst sa s) (hU : xZu A s s.heap) (hN : xZn A s s.heap) (hts : ∀ w ∈ Ts, w.before args s = true)
    (hk0 : kd ≠ 0) (hin : ∀ w ∈ Cond.classLink RX2 (xik kd) (xnm kd) :: Cond.initialized (xnm kd) :: (vx_atS RX2 (xic kd) (xnm kd) xns).filter goodWord, w ∈ Ts) (hno : ∀ w ∈ (vx_atS RX2 (xic kd) (xnm kd) xns).filter (fun w => !goodWord w), w ∈ xnW) (hst : (is, text) ∈ xstr)
    (hgd : Bundle.fit (xnm kd) = true ∧ (∀ n ∈ xns, Bundle.fit n = true) ∧ ∀ w ∈ Cond.classLink RX2 (xik kd) (xnm kd) :: Cond.initialized (xnm kd) :: vx_atS RX2 (xic kd) (xnm kd) xns, vx_ot w = true) (hP : va_P D vwCl (cwl cy ad S) H) (hS : va_S A s.heap H locs) (hsize : ls.size = c.maxLocals)
    (d0 : decode cc pc = .ok (.new (xik kd), 3)) (d3 : decode cc (pc + 3) = .ok (.dup, 1)) (d4 : decode cc (pc + 4) = .ok (.ldc is, 2)) (d6 : decode cc (pc + 6) = .ok (.invokespecial (xic kd), 3)) (d9 : decode cc (pc + 9) = .ok (.athrow, 1)) (htab : ∀ x ∈ c.exceptionTable.toList, False)
    (hRf : 5 < R.frames) (hRl : (rest.map fun v => v.category).sum + 82 ≤ R.locals) (hRc : 1 ≤ R.cells) (hRs : 6 ≤ R.slots) (hlocks : meth.locks = false) :
    W p l e R s m args below meth c H locs 0 0 (vx_MQ below Qc (xXC D cy ad (S, v, kd) A) args s 1 6 A) (F0 m pc ls rest) := by
  refine vx_throwS (own := RX2) (cls := xnm kd) (text := text) (names := xns) (ik := xik kd) (is := is) (ic := xic kd) (sa := sa is) (A := A) hx hb hl hown hgd.1 hgd.2.1 (hts _ (hin _ List.mem_cons_self)) (hts _ (hin _ (List.mem_cons_of_mem _ List.mem_cons_self))) (hX.2.1 _ hst)
    (vx_hat (fun w hw => hts w (hin w (List.mem_cons_of_mem _ (List.mem_cons_of_mem _ hw)))) hno (fun w hw => va_Nw.use (xnW_tab w hw) (hX.1 w hw))) hgd.2.2 hU hN hS hsize d0 d3 d4 d6 d9 (fun x h => (htab x h).elim) hRf hRl (by omega) (by omega) hlocks (fun t hA hz hq => ?_) (fun z hz => hS.2.2 z hz) (Nat.le_refl _) (Nat.le_refl _)
  refine ⟨(), trivial, ⟨hk0, rfl, ?_⟩, Nat.le_trans hS.1 hz, fun q h1 h2 => ?_⟩
  · exact hP.kept (fun k q hk => hq q.1 (vx_lt hP hk))
  · rw [hq q (Nat.lt_of_lt_of_le h1 hS.1)]; exact hS.2.1 q h1 h2
end XR
section XO
variable {N L b : Nat} {S : Cs}
theorem isLevel_fst {S : Cs} {p1 : Int32} : (F_X2_isLevel S p1).1 = S := by
  unfold F_X2_isLevel
  repeat' split
  all_goals rfl
theorem ok_X2_isLevel (h : okC N L b S) {p1 : Int32} : okC N L b (F_X2_isLevel S p1).1 := by rw [isLevel_fst]; exact h
theorem isL_ixL (h : okC N L b S) {x : Int32} (hc : ¬ (F_X2_isLevel S x).2 = 0) : ix x x.toNatClampNeg L := by
  unfold F_X2_isLevel at hc
  by_cases c1 : x < 0
  · rw [if_pos c1] at hc; exact absurd rfl hc
  · rw [if_neg c1] at hc
    by_cases c2 : cO S 3 ≤ x
    · rw [if_pos c2] at hc; exact absurd rfl hc
    · obtain ⟨j, hj, rfl⟩ := nI_of c1
      have h6 := h.2.2.2.2.1
      rw [h.2.1] at c2
      rw [nI_clamp hj]
      refine ix_nI ?_ (by omega)
      rcases Nat.lt_or_ge j L with q | q
      · exact q
      · exact absurd (nI_le q hj) c2
theorem isL_ix (h : okC N L b S) {x : Int32} (hc : ¬ (F_X2_isLevel S x).2 = 0) : ix x x.toNatClampNeg 6 := by
  obtain ⟨h1, h2, h3⟩ := isL_ixL h hc
  exact ⟨h1, h2, Nat.lt_of_lt_of_le h3 h.2.2.2.2.1⟩
theorem okC_nt (h : okC N L b S) (hc : cO S 4 < 16) : ix (cO S 4) (cO S 4).toNatClampNeg 16 := by
  have h1 := h.2.2.1
  rw [h.1] at hc ⊢
  have := (nI_ltI (a := N) (b := 16) (by omega) (by omega)).mp hc
  rw [nI_clamp (by omega)]
  exact ix_nI this (by omega)
end XO
