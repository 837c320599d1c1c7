/-! the law's helpers: a call of the class, its exceptions caught -/
/-- the answer's place: a row of one long -/
def oAt (D : va_G) (cy : Nat → ClassId) (ao : Nat) (v : Int64) (H : Heap) : Prop := ∃ f : Nat → Int64, f 0 = v ∧ va_P D vwCl [(ao, .inl (cy 4, 1, .inr (.inl f)))] H
theorem oAt.lt {D : va_G} {cy : Nat → ClassId} {ao : Nat} {v : Int64} {H : Heap} (h : oAt D cy ao v H) : ao < H.size := by
  obtain ⟨f, -, h⟩ := h
  exact vx_lt h (k := 0) rfl
theorem oAt.kept {D : va_G} {cy : Nat → ClassId} {ao : Nat} {v : Int64} {H H1 : Heap} (h : oAt D cy ao v H) (hq : H1[ao]? = H[ao]?) : oAt D cy ao v H1 := by
  obtain ⟨f, h0, h⟩ := h
  refine ⟨f, h0, h.kept (fun k q hk => ?_)⟩
  have hk0 : k < 1 := (List.getElem?_eq_some_iff.mp hk).1
  rw [show k = 0 by omega] at hk
  cases hk
  exact hq
/-- which cells a helper may change -/
def gB (ad : Nat → Nat) (ao sz : Nat) : Nat → Prop := fun q => gA 48 ad sz q ∨ q = ao
/-- the helper's number for an exception: its place among the catches -/
def hc (ks : List Nat) (kd : Nat) : Int32 := if kd = 0 then 0 else nI (ks.idxOf kd + 1)
abbrev XF (A : Nat → Prop) : String → State → State → Prop := vx_X (fun _ : Unit => False) (fun _ _ _ => True) A
def hMv (l : Launch) (y : MethodName) (ws : List Cond) (rm : Room) (D : va_G) (cy : Nat → ClassId) (ad sa : Nat → Nat) (av : List Value) (S : Cs) (r : Cs × Int32 × Nat) (k : Int32) : Prop :=
  ∀ sz, vx_Met l y ws rm (va_Pc av (xPre D cy ad sa S sz)) (va_Qi (fun (x : Int32) (_ : Unit) => x = k) (fun _ t => cPost D cy ad r.1 t) (gA 48 ad sz)) (XF (gA 48 ad sz)) 1 6 (gA 48 ad sz)
def yPre (D : va_G) (cy : Nat → ClassId) (ad sa : Nat → Nat) (ao : Nat) (S : Cs) (v : Int64) (sz : Nat) (U : State) : Prop := cPre D cy ad S sz U ∧ Xst sa U ∧ xZu (gB ad ao sz) U U.heap ∧ xZn (gB ad ao sz) U U.heap ∧ oAt D cy ao v U.heap ∧ ∀ k, k < 48 → ad k ≠ ao
def hMi (l : Launch) (y : MethodName) (ws : List Cond) (rm : Room) (D : va_G) (cy : Nat → ClassId) (ad sa : Nat → Nat) (ao : Nat) (av : List Value) (S : Cs) (v : Int64) (r : Cs × Int32 × Nat) (k : Int32) : Prop :=
  ∀ sz, vx_Met l y ws rm (va_Pc av (yPre D cy ad sa ao S v sz)) (va_Qi (fun (x : Int32) (_ : Unit) => x = k) (fun _ t => cPost D cy ad r.1 t ∧ oAt D cy ao (if r.2.2 = 0 then r.2.1.toInt64 else v) t.heap) (gB ad ao sz)) (XF (gB ad ao sz)) 1 6 (gB ad ao sz)
theorem yPre_blind {D : va_G} {cy : Nat → ClassId} {ad sa : Nat → Nat} {ao : Nat} {S : Cs} {v : Int64} {sz : Nat} {av : List Value} : FrameBlind (va_Pc av (yPre D cy ad sa ao S v sz)) := by
  intro a U g mk q
  obtain ⟨q0, q1, qX, qU, qN, qO, qA⟩ := q
  have h1 := cPre_blind (D := D) (cy := cy) (ad := ad) (S := S) (sz := sz) (av := av) a U g mk ⟨q0, q1⟩
  exact ⟨h1.1, h1.2, Xst.same (u := U) rfl qX, vx_Zq.moved (u := U) (U := U.calling g mk a) (Vm.Alike.refl U.vm) qU, vx_Zq.moved (u := U) (U := U.calling g mk a) (Vm.Alike.refl U.vm) qN, qO, qA⟩
section HR
variable {p : Program} {l : Launch} {e : Env} {R : Room} {s : State} {m : MethodId} {args : Array Value} {below : List Frame} {meth : Method} {c : Code} {H : Heap} {locs : List Loc} {Q : State → Prop} {cells slots : Nat}
variable {cc : ByteArray} {pc : Nat} {ls : Array Slot} {rest : List Value} {D : va_G} {A : Nat → Prop} {cy : Nat → ClassId} {ad sa : Nat → Nat} {S : Cs} {Ts : List Cond} {H0 : Heap} {ao : Nat} {v : Int64}
theorem x_pre (hK : va_K D vwCl (tyL cy) s) (hap : gw_ap 48 ad A) (hA : ∀ q, s.heap.size ≤ q → A q) (hN : Nst s) (hX : Xst sa s) (hU : xZu A s s.heap) (hNn : xZn A s s.heap) (hP : va_P D vwCl (cwl cy ad S) H) (hS : va_S A s.heap H locs) {av : List Value} : ∀ U : State, U.heap = H → s.WarmedH U.vm → va_Pc av (xPre D cy ad sa S H.size) av.toArray U :=
  fun U hu hW => ⟨rfl, (c_pre (av := av) hK hap hN hP U hu hW).2, Xst.warm hW hX, by rw [hu]; exact ((hU.kept hS.2.1).moved hW.alike).narrow (gA_free hap hS hA), by rw [hu]; exact ((hNn.kept hS.2.1).moved hW.alike).narrow (gA_free hap hS hA)⟩
theorem o_not (hP : va_P D vwCl (cwl cy ad S) H) (hO : oAt D cy ao v H) (hne : ∀ k, k < 48 → ad k ≠ ao) : ao < H.size ∧ ¬ gA 48 ad H.size ao := by
  refine ⟨hO.lt, fun h => ?_⟩
  rcases h with ⟨k, hk, e⟩ | h
  · exact hne k hk e.symm
  · have := hO.lt; omega
theorem o_sto (hx : p.tables.exec = Jvm.exec) (hb : c.code = cc) (hK : va_K D vwCl (tyL cy) s) (hP : va_P D vwCl (cwl cy ad S) H) (hO : oAt D cy ao v H) (hap : gw_ap 48 ad A) (hao : A ao) (hne : ∀ k, k < 48 → ad k ≠ ao) (hS : va_S A H0 H locs) {x : Int64} (hdg : decode cc pc = .ok (.lastore, 1))
    (kk : ∀ (H1 : Heap) (locs1 : List Loc), va_P D vwCl (cwl cy ad S) H1 → oAt D cy ao x H1 → va_S A H0 H1 locs1 → W p l e R s m args below meth c H1 locs1 cells slots Q (F0 m (pc + 1) ls rest)) : W p l e R s m args below meth c H locs cells slots Q (F0 m pc ls (.long x :: .int 0 :: .ref ao :: rest)) := by
  obtain ⟨f, -, hO⟩ := hO
  have hlen : (cwl cy ad S).length = 48 := gw_len 48 ad _
  have hat : (cwl cy ad S ++ [(ao, .inl (cy 4, 1, .inr (.inl f)))])[48]? = some (ao, .inl (cy 4, 1, .inr (.inl f))) := by rw [List.getElem?_append_right (by omega), hlen]; rfl
  have hD : va_D A (cwl cy ad S ++ [(ao, .inl (cy 4, 1, .inr (.inl f)))]) := va_D.app (gw_D hap _) ⟨fun i j p q hi hj _ => by
      have hi' := (List.getElem?_eq_some_iff.mp hi).1
      have hj' := (List.getElem?_eq_some_iff.mp hj).1
      simp only [List.length_singleton] at hi' hj'
      omega, fun k q hk => by
      have hk' : k < 1 := (List.getElem?_eq_some_iff.mp hk).1
      rw [show k = 0 by omega] at hk
      cases hk
      exact hao⟩ (fun i j p q hi hj => by
      obtain ⟨h1, rfl⟩ := gw_some hi
      have hk' : j < 1 := (List.getElem?_eq_some_iff.mp hj).1
      rw [show j = 0 by omega] at hj
      cases hj
      exact hne i h1)
  refine va_last hx hb hK (hP.app hO) hD hS 48 4 hat rfl (i := 0) (ix_lit (k := 0) (by decide) (by omega) (by omega)).vp hdg (fun H1 locs1 hP1 _ hS1 => kk H1 locs1 (fun k q hk => hP1 k q ?_) ⟨vp_updL f (0 : Int32).toNatClampNeg x, ?_, fun k q hk => hP1 48 q ?_⟩ hS1)
  · have hk48 : k < 48 := by have := (List.getElem?_eq_some_iff.mp hk).1; omega
    rw [List.getElem?_set_ne (by omega), List.getElem?_append_left (by omega)]
    exact hk
  · simp [vp_updL]
  · have hk' : k < 1 := (List.getElem?_eq_some_iff.mp hk).1
    rw [show k = 0 by omega] at hk
    rw [List.getElem?_set_self (by rw [List.length_append, hlen]; simp)]
    exact hk
theorem h_iret {k : Int32} {v : Int32} {r : Cs × Int32 × Nat} (hx : p.tables.exec = Jvm.exec) (hb : c.code = cc) (hr : meth.sig.returnType = some .int) (hlocks : meth.locks = false) (hP : va_P D vwCl (cwl cy ad r.1) H) (hS : va_S A s.heap H locs) (hv : v = k) (hdg : decode cc pc = .ok (.ireturn, 1)) :
    W p l e R s m args below meth c H locs 1 6 (vx_MQ below (va_Qi (fun (x : Int32) (_ : Unit) => x = k) (fun _ t => cPost D cy ad r.1 t) A) (XF A) args s 1 6 A) (F0 m pc ls [.int v]) :=
  vx_ret (W.iret hx hb hr (fun t ht _ => ⟨⟨v, (), rfl, hv, by show va_P _ _ _ t.heap; rw [ht]; exact hP⟩, hS.F ht⟩) (fun q hq => hS.2.2 q hq) hdg)
theorem h_oret {k : Int32} {v : Int32} {o w : Int64} {r : Cs × Int32 × Nat} (hx : p.tables.exec = Jvm.exec) (hb : c.code = cc) (hr : meth.sig.returnType = some .int) (hlocks : meth.locks = false) (hP : va_P D vwCl (cwl cy ad r.1) H) (hO : oAt D cy ao w H) (hw : w = if r.2.2 = 0 then r.2.1.toInt64 else o) (hS : va_S A s.heap H locs) (hv : v = k) (hdg : decode cc pc = .ok (.ireturn, 1)) :
    W p l e R s m args below meth c H locs 1 6 (vx_MQ below (va_Qi (fun (x : Int32) (_ : Unit) => x = k) (fun _ t => cPost D cy ad r.1 t ∧ oAt D cy ao (if r.2.2 = 0 then r.2.1.toInt64 else o) t.heap) A) (XF A) args s 1 6 A) (F0 m pc ls [.int v]) :=
  vx_ret (W.iret hx hb hr (fun t ht _ => ⟨⟨v, (), rfl, hv, by show va_P _ _ _ t.heap; rw [ht]; exact hP, by rw [ht, ← hw]; exact hO⟩, hS.F ht⟩) (fun q hq => hS.2.2 q hq) hdg)
end HR
theorem kd_levels (S : Cs) (p1 : Int32) : (F_X2_levels S p1).2.2 = 0 ∨ (F_X2_levels S p1).2.2 = 2 := by
  unfold F_X2_levels
  try dsimp only
  repeat' split
  all_goals first | exact Or.inl rfl | exact Or.inr rfl | exact Or.inr (Or.inl rfl) | exact Or.inr (Or.inr rfl) | exact Or.inr (Or.inr (Or.inl rfl)) | exact Or.inr (Or.inr (Or.inr rfl))
theorem kd_level (S : Cs) (p1 : Int32) (p2 : Int32) (p3 : Int32) : (F_X2_level S p1 p2 p3).2.2 = 0 ∨ (F_X2_level S p1 p2 p3).2.2 = 1 ∨ (F_X2_level S p1 p2 p3).2.2 = 2 ∨ (F_X2_level S p1 p2 p3).2.2 = 3 := by
  unfold F_X2_level
  try dsimp only
  repeat' split
  all_goals first | exact Or.inl rfl | exact Or.inr rfl | exact Or.inr (Or.inl rfl) | exact Or.inr (Or.inr rfl) | exact Or.inr (Or.inr (Or.inl rfl)) | exact Or.inr (Or.inr (Or.inr rfl))
theorem kd_period (S : Cs) (p1 : Int32) : (F_X2_period S p1).2.2 = 0 ∨ (F_X2_period S p1).2.2 = 2 ∨ (F_X2_period S p1).2.2 = 3 := by
  unfold F_X2_period
  try dsimp only
  repeat' split
  all_goals first | exact Or.inl rfl | exact Or.inr rfl | exact Or.inr (Or.inl rfl) | exact Or.inr (Or.inr rfl) | exact Or.inr (Or.inr (Or.inl rfl)) | exact Or.inr (Or.inr (Or.inr rfl))
theorem kd_process (S : Cs) (p1 : Int32) : (F_X2_process S p1).2.2 = 0 ∨ (F_X2_process S p1).2.2 = 2 ∨ (F_X2_process S p1).2.2 = 3 := by
  unfold F_X2_process
  try dsimp only
  repeat' split
  all_goals first | exact Or.inl rfl | exact Or.inr rfl | exact Or.inr (Or.inl rfl) | exact Or.inr (Or.inr rfl) | exact Or.inr (Or.inr (Or.inl rfl)) | exact Or.inr (Or.inr (Or.inr rfl))
theorem kd_burst (S : Cs) (p1 : Int32) (p2 : Int32) : (F_X2_burst S p1 p2).2.2 = 0 ∨ (F_X2_burst S p1 p2).2.2 = 1 ∨ (F_X2_burst S p1 p2).2.2 = 2 ∨ (F_X2_burst S p1 p2).2.2 = 3 := by
  unfold F_X2_burst
  try dsimp only
  repeat' split
  all_goals first | exact Or.inl rfl | exact Or.inr rfl | exact Or.inr (Or.inl rfl) | exact Or.inr (Or.inr rfl) | exact Or.inr (Or.inr (Or.inl rfl)) | exact Or.inr (Or.inr (Or.inr rfl))
theorem kd_run (S : Cs) (p1 : Int32) : (F_X2_run S p1).2.2 = 0 ∨ (F_X2_run S p1).2.2 = 2 := by
  unfold F_X2_run
  try dsimp only
  repeat' split
  all_goals first | exact Or.inl rfl | exact Or.inr rfl | exact Or.inr (Or.inl rfl) | exact Or.inr (Or.inr rfl) | exact Or.inr (Or.inr (Or.inl rfl)) | exact Or.inr (Or.inr (Or.inr rfl))
theorem kd_told (S : Cs) (p1 : Int32) (p2 : Int32) : (F_X2_told S p1 p2).2.2 = 0 ∨ (F_X2_told S p1 p2).2.2 = 1 ∨ (F_X2_told S p1 p2).2.2 = 2 := by
  unfold F_X2_told
  try dsimp only
  repeat' split
  all_goals first | exact Or.inl rfl | exact Or.inr rfl | exact Or.inr (Or.inl rfl) | exact Or.inr (Or.inr rfl) | exact Or.inr (Or.inr (Or.inl rfl)) | exact Or.inr (Or.inr (Or.inr rfl))
theorem kd_queued (S : Cs) (p1 : Int32) (p2 : Int32) : (F_X2_queued S p1 p2).2.2 = 0 ∨ (F_X2_queued S p1 p2).2.2 = 1 := by
  unfold F_X2_queued
  try dsimp only
  repeat' split
  all_goals first | exact Or.inl rfl | exact Or.inr rfl | exact Or.inr (Or.inl rfl) | exact Or.inr (Or.inr rfl) | exact Or.inr (Or.inr (Or.inl rfl)) | exact Or.inr (Or.inr (Or.inr rfl))
theorem kd_all (S : Cs) (p1 : Int32) : (F_X2_all S p1).2.2 = 0 ∨ (F_X2_all S p1).2.2 = 2 := by
  unfold F_X2_all
  try dsimp only
  repeat' split
  all_goals first | exact Or.inl rfl | exact Or.inr rfl | exact Or.inr (Or.inl rfl) | exact Or.inr (Or.inr rfl) | exact Or.inr (Or.inr (Or.inl rfl)) | exact Or.inr (Or.inr (Or.inr rfl))
theorem kd_switched (S : Cs) (p1 : Int32) : (F_X2_switched S p1).2.2 = 0 ∨ (F_X2_switched S p1).2.2 = 1 := by
  unfold F_X2_switched
  try dsimp only
  repeat' split
  all_goals first | exact Or.inl rfl | exact Or.inr rfl | exact Or.inr (Or.inl rfl) | exact Or.inr (Or.inr rfl) | exact Or.inr (Or.inr (Or.inl rfl)) | exact Or.inr (Or.inr (Or.inr rfl))
