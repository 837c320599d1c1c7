/-! a callee's exception, caught by a row of this method's own table, behind rows that name other classes -/
section CU
/-- a row that names a class: taken if the thing is one of it, else passed; the tables keep the class -/
theorem cu_one {Q : Handler → Pre} {E : CtlPost} {e : Env} {d : Bool} {acts : List Action} {s : State} {f : JFrame} {a : Addr} {x : ExceptionTableEntry} {t : List ExceptionTableEntry} {c : ClassId} {cell : Cell} {y : Bool} (hx : covers x f.pc = true) (h0 : x.catchType ≠ 0)
    (hl : s.vm.ClassLinks e.platform f.method.cls x.catchType c) (hcell : s.heap[a]? = some cell) (hobj : ∀ k, cell.vm ≠ .statics k) (hk : ∃ k, s.vm.classes[cell.cls]? = some k) (hc : ∃ k, s.vm.classes[c]? = some k) (hy : s.vm.assignable cell.cls c = y) :
    wp (findHandler.go f a (x :: t)) Q E e d acts s ↔ if y = true then Q (.found x.handlerPc) d acts (s.setVm (s.vm.noted f.method.cls x.catchType (.cls c))) else wp (findHandler.go f a t) Q E e d acts (s.setVm (s.vm.noted f.method.cls x.catchType (.cls c))) := by
  have ha := (resolveClass_links e.toSetting hl).op (op := VmOp.resolveClass f.method.cls x.catchType) rfl
  have al : s.vm.Alike (s.vm.noted f.method.cls x.catchType (.cls c)) := (Vm.Alike.refl s.vm).noted _ _ _
  have hy2 : (s.vm.noted f.method.cls x.catchType (.cls c)).assignable cell.cls c = y := by rw [al.assignable]; exact hy
  obtain ⟨k1, k1h⟩ := hk
  obtain ⟨k2, k2h⟩ := hc
  obtain ⟨j1, j1h, -⟩ := al.2.2 _ _ k1h
  obtain ⟨j2, j2h, -⟩ := al.2.2 _ _ k2h
  simp only [covers] at hx
  cases y <;> simp [findHandler.go, hx, h0, ha.1, ha.2, hcell, hobj, j1h, j2h, hy2, VmOp.dirties, VmOp.acts]
/-- how a row stands to a thing of class k: it doesn't cover the place, or it names a class -/
def cu_row (e : Env) (s0 : State) (f : JFrame) (k : ClassId) (y : Bool) (x : ExceptionTableEntry) : Prop := x.catchType ≠ 0 ∧ ∃ c, s0.vm.ClassLinks e.platform f.method.cls x.catchType c ∧ s0.vm.assignable k c = y
theorem cu_go {e : Env} {s0 : State} {f : JFrame} {a : Addr} {cell : Cell} (hobj : ∀ k, cell.vm ≠ .statics k) (hk : ∃ k, s0.vm.classes[cell.cls]? = some k) (x : ExceptionTableEntry) (suf : List ExceptionTableEntry) (hx : covers x f.pc = true) (hr : cu_row e s0 f cell.cls true x) :
    ∀ (pre : List ExceptionTableEntry) (S : State), (∀ z ∈ pre, covers z f.pc = false ∨ cu_row e s0 f cell.cls false z) → s0.WarmedH S.vm → S.heap[a]? = some cell →
      ∃ v, s0.WarmedH v ∧ ∀ (Q : Handler → Pre) (E : CtlPost) (d : Bool) (acts : List Action), wp (findHandler.go f a (pre ++ x :: suf)) Q E e d acts S ↔ Q (.found x.handlerPc) d acts (S.setVm v) := by
  obtain ⟨k0, hk⟩ := hk
  have named : ∀ (S : State) (z : ExceptionTableEntry) (y : Bool), s0.WarmedH S.vm → cu_row e s0 f cell.cls y z → ∃ c, S.vm.ClassLinks e.platform f.method.cls z.catchType c ∧ (∃ k, S.vm.classes[cell.cls]? = some k) ∧ (∃ k, S.vm.classes[c]? = some k) ∧ S.vm.assignable cell.cls c = y ∧ s0.WarmedH (S.vm.noted f.method.cls z.catchType (.cls c)) := by
    intro S z y hW ⟨_, c, hl, hy⟩
    obtain ⟨dk, _, _, kt, hd, _, _, _, _, hkt, _, hop⟩ := hl.here
    obtain ⟨j1, h1, -⟩ := hW.alike.2.2 _ _ hk
    obtain ⟨j2, h2, -⟩ := hW.alike.2.2 _ _ hkt
    exact ⟨c, hW.classLinks hl, ⟨j1, h1⟩, ⟨j2, h2⟩, by rw [hW.alike.assignable]; exact hy, hW.noted hd hop (State.rightAt_cls hl)⟩
  intro pre
  induction pre with
  | nil =>
    intro S _ hW hcell
    obtain ⟨c, n1, n2, n3, n4, n5⟩ := named S x true hW hr
    exact ⟨_, n5, fun Q E d acts => by rw [List.nil_append, cu_one hx hr.1 n1 hcell hobj n2 n3 n4, if_pos rfl]⟩
  | cons z zs ih =>
    intro S hz hW hcell
    have hzs := fun w hw => hz w (List.mem_cons_of_mem _ hw)
    cases hc : covers z f.pc with
    | false =>
      obtain ⟨v, v1, v2⟩ := ih S hzs hW hcell
      exact ⟨v, v1, fun Q E d acts => by rw [List.cons_append, W.findHandler_go_skip hc]; exact v2 Q E d acts⟩
    | true =>
      have hrow : cu_row e s0 f cell.cls false z := (hz z (List.mem_cons_self ..)).resolve_left (by rw [hc]; decide)
      obtain ⟨c, n1, n2, n3, n4, n5⟩ := named S z false hW hrow
      obtain ⟨v, v1, v2⟩ := ih (S.setVm (S.vm.noted f.method.cls z.catchType (.cls c))) hzs n5 hcell
      exact ⟨v, v1, fun Q E d acts => by rw [List.cons_append, cu_one hc hrow.1 n1 hcell hobj n2 n3 n4, if_neg (by decide)]; exact v2 Q E d acts⟩
/-- the machine goes on at the row's handler -/
theorem cu_steps {p : Program} {l : Launch} {e : Env} {R : Room} {s : State} {m : MethodId} {args : Array Value} {below : List Frame} {meth : Method} {c : Code} {T : State} {locs : List Loc} {cells slots : Nat} (X : Stand p l e R s m args below meth c T locs cells slots) (a : Addr) {g : JFrame} (hg : g.method = m) {pc : Nat} {v : Vm}
    (hf : ∀ (Q : Handler → Pre) (E : CtlPost) (d : Bool) (acts : List Action), wp (findHandler g a) Q E e d acts ((T.setTop g).pushFrame (.throwing a)) ↔ Q (.found pc) d acts (((T.setTop g).pushFrame (.throwing a)).setVm v)) :
    Steps p.tables e below ((T.setTop g).pushFrame (.throwing a)) ((T.setVm v).setTop { g with pc := pc, stack := [.ref a] }) := by
  have h : At T g.method c below := by rw [hg]; exact X.here
  have hstep : (stepThrowing e ((T.setTop g).pushFrame (.throwing a)) a (.java g :: T.frames.tail)).1 = (((T.setTop g).pushFrame (.throwing a)).setVm v).setFrames (.java { g with pc := pc, stack := [.ref a] } :: T.frames.tail) := by
    simp only [stepThrowing, searchFrame, vmDo]
    generalize hr : Sem.go _ e false [] ((T.setTop g).pushFrame (.throwing a)) = res
    obtain ⟨as, rfl, -⟩ := Sem.eq_ok_of hr (a := Handler.found pc) (s' := ((T.setTop g).pushFrame (.throwing a)).setVm v) (acts' := []) (by simp [hf _ _ _ _])
    rfl
  obtain ⟨go1, go2⟩ := h.throwing a
  refine Steps.head go1 go2 ?_
  rw [stepThread_throwing (frames_entered h.top _), hstep]
  obtain ⟨g0, hg0⟩ := Option.isSome_iff_exists.mp h.top
  obtain ⟨r, hr⟩ := State.topJava?_eq_some.mp hg0
  have hr2 : (T.setVm v).frames = .java g0 :: r := hr
  have sw : ∀ (u : State) (F G : List Frame), ((u.setFrames F).setVm v).setFrames G = (u.setVm v).setFrames G := fun u F G => by
    rw [show (u.setFrames F).setVm v = (u.setVm v).setFrames F from rfl, State.setFrames_setFrames]
  rw [State.setTop_of_frames _ hr2, hr, List.tail_cons, State.pushFrame, sw, State.setTop_of_frames _ hr, sw]
  exact Steps.refl _
theorem cu_W {p : Program} {l : Launch} {e : Env} {R : Room} {s : State} {m : MethodId} {args : Array Value} {below : List Frame} {meth : Method} {c : Code} {H : Heap} {locs : List Loc} {cells slots : Nat} {Q : State → Prop} {pc : Nat} {ls : Array Slot} {rest : List Value} {own name E : String} {ce : Cell} {q : Addr}
    (hown : s.vm.findClass own = some m.cls) (pre : List ExceptionTableEntry) (x : ExceptionTableEntry) (suf : List ExceptionTableEntry) (hsplit : c.exceptionTable.toList = pre ++ x :: suf)
    (hpass : ∀ z ∈ pre, covers z pc = false ∨ (z.catchType ≠ 0 ∧ ∃ nm : String, (Cond.classLink own z.catchType nm).before args s = true ∧ va_Nc E nm s)) (hx : covers x pc = true) (h0 : x.catchType ≠ 0)
    (hlink : (Cond.classLink own x.catchType name).before args s = true) (hcast : (Cond.castable E name).before args s = true) (hcell : H[q]? = some ce) (hv : ce.vm = .none) (hcl : s.vm.findClass E = some ce.cls)
    (kk : W p l e R s m args below meth c H locs cells slots Q (F0 m x.handlerPc ls [.ref q])) : vx_W p l e R s m args below meth c H locs cells slots Q (F0 m pc ls rest) q := by
  intro T hT X
  have hpl : e.platform.magicAccessors = ({} : Platform).magicAccessors := by rw [X.admits.platform]
  obtain ⟨c1, c2, hc1, hc2, hasg⟩ := Cond.castable_spec hcast
  cases Option.some.inj (hc1.symm.trans hcl)
  obtain ⟨c3, hc3, hl3⟩ := Cond.classLink_spec hown hlink e.platform hpl
  cases Option.some.inj (hc2.symm.trans hc3)
  have hkk : ∃ k, s.vm.classes[ce.cls]? = some k := by obtain ⟨k9, h9, -⟩ := Vm.findClass_spec hcl; exact ⟨k9, h9⟩
  have hvm : ((T.setTop (F0 m pc ls rest)).pushFrame (.throwing q)).vm = T.vm := Stand.throwing_vm T _ q
  have hhp : ((T.setTop (F0 m pc ls rest)).pushFrame (.throwing q)).heap = T.heap := Stand.throwing_heap T _ q
  obtain ⟨v, hW, hgo⟩ := cu_go (e := e) (s0 := s) (f := F0 m pc ls rest) (a := q) (cell := ce) (fun k z => by rw [hv] at z; cases z) hkk x suf hx ⟨h0, c2, hl3, hasg⟩ pre ((T.setTop (F0 m pc ls rest)).pushFrame (.throwing q))
    (fun z hz => (hpass z hz).imp id (fun ⟨z0, nm, z1, z2⟩ => by
      obtain ⟨c6, hc6, hl6⟩ := Cond.classLink_spec hown z1 e.platform hpl
      obtain ⟨a8, b8, h1, h2, h3⟩ := z2
      cases Option.some.inj (h1.symm.trans hcl)
      cases Option.some.inj (h2.symm.trans hc6)
      exact ⟨z0, _, hl6, h3⟩)) (by rw [hvm]; exact X.warmed) (by rw [hhp, hT]; exact hcell)
  have st := cu_steps X q (g := F0 m pc ls rest) rfl (pc := x.handlerPc) (v := v) (fun Q E d acts => by
    rw [W.findHandler_eq (meth := meth) (code := c) (by rw [hvm]; exact X.method') X.code, hsplit]
    exact hgo Q E d acts)
  obtain ⟨t, a1, b1⟩ := kk (T.setVm v) hT (X.noted hW)
  exact ⟨t, st.trans a1, b1⟩
end CU
