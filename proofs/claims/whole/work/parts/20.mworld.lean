/-! THE MODEL: its object's numbers O and its arrays A, by the number of the field. Cells: 0 the object, then the arrays in the order of the fields -/
abbrev Ms : Type := (Nat → Int32) × (Nat → Nat → Int32)
def mO (S : Ms) (j : Nat) : Int32 := S.1 j
def mA (S : Ms) (a k : Nat) : Int32 := S.2 a k
def mP (S : Ms) (j : Nat) (v : Int32) : Ms := (upd S.1 j v, S.2)
def mQ (S : Ms) (a k : Nat) (v : Int32) : Ms := (S.1, fun a2 k2 => if a2 = a ∧ k2 = k then v else S.2 a2 k2)
theorem mO_mP (S : Ms) (j : Nat) (v : Int32) (j2 : Nat) : mO (mP S j v) j2 = if j2 = j then v else mO S j2 := rfl
theorem mO_mQ (S : Ms) (a k : Nat) (v : Int32) (j2 : Nat) : mO (mQ S a k v) j2 = mO S j2 := rfl
theorem mA_mP (S : Ms) (j : Nat) (v : Int32) (a2 k2 : Nat) : mA (mP S j v) a2 k2 = mA S a2 k2 := rfl
theorem mA_mQ (S : Ms) (a k : Nat) (v : Int32) (a2 k2 : Nat) : mA (mQ S a k v) a2 k2 = if a2 = a ∧ k2 = k then v else mA S a2 k2 := rfl
def mlen (c : Nat) : Nat := ([0, 6, 6, 16, 16, 192, 16, 16, 16, 16, 16, 16, 16, 16, 160, 96, 6, 4, 400] : List Nat).getD c 0
def mfld (c : Nat) : Nat := ([0, 2, 3, 6, 7, 8, 11, 12, 13, 14, 15, 16, 17, 18, 19, 20, 21, 22, 23] : List Nat).getD c 0
def mty (c : Nat) : Nat := if c = 12 then 1 else 0
theorem mfld_inj : ∀ c, c < 19 → ∀ d, d < 19 → 1 ≤ c → 1 ≤ d → mfld c = mfld d → c = d := by decide
def mOf (ad : Nat → Nat) (S : Ms) : List Value := [.int (mO S 0), .int (mO S 1), .ref (ad 1), .ref (ad 2), .int (mO S 4), .int (mO S 5), .ref (ad 3), .ref (ad 4), .ref (ad 5), .int (mO S 9), .int (mO S 10), .ref (ad 6), .ref (ad 7), .ref (ad 8), .ref (ad 9), .ref (ad 10), .ref (ad 11), .ref (ad 12), .ref (ad 13), .ref (ad 14), .ref (ad 15), .ref (ad 16), .ref (ad 17), .ref (ad 18)]
def mE (cy : Nat → ClassId) (ad : Nat → Nat) (S : Ms) (c : Nat) : va_E := if c = 0 then .inr (3, mOf ad S) else .inl (cy (mty c), mlen c, .inl (fun j => mA S (mfld c) j))
def mwl (cy : Nat → ClassId) (ad : Nat → Nat) (S : Ms) : va_W := gw 19 ad (mE cy ad S)
theorem mwl_set (cy : Nat → ClassId) (ad : Nat → Nat) (S : Ms) (k : Nat) (e : va_E) : (mwl cy ad S).set k (ad k, e) = gw 19 ad (va_up (mE cy ad S) k e) := gw_set k e
theorem mE_O (cy : Nat → ClassId) (ad : Nat → Nat) (S : Ms) : mE cy ad S 0 = .inr (3, mOf ad S) := rfl
theorem mE_A (cy : Nat → ClassId) (ad : Nat → Nat) (S : Ms) {c : Nat} (h : 1 ≤ c) : mE cy ad S c = .inl (cy (mty c), mlen c, .inl (fun j => mA S (mfld c) j)) := by
  unfold mE
  rw [if_neg (by omega)]
theorem mE_pO (cy : Nat → ClassId) (ad : Nat → Nat) (S : Ms) (j : Nat) (v : Int32) : va_up (mE cy ad S) 0 (.inr (3, mOf ad (mP S j v))) = mE cy ad (mP S j v) := by
  funext k
  by_cases h : k = 0
  · subst h; simp [va_up, mE_O]
  · simp only [va_up, h, if_false]
    rw [mE_A cy ad S (by omega), mE_A cy ad (mP S j v) (by omega)]
    rfl
/-- another cell's contents stay; a cell beyond the world isn't looked at -/
theorem mw_pA (cy : Nat → ClassId) (ad : Nat → Nat) (S : Ms) {c : Nat} (h : 1 ≤ c) (hc : c < 19) (k : Nat) (v : Int32) : gw 19 ad (va_up (mE cy ad S) c (.inl (cy (mty c), mlen c, .inl (upd (fun q => mA S (mfld c) q) k v)))) = mwl cy ad (mQ S (mfld c) k v) := by
  unfold mwl gw
  apply List.map_congr_left
  intro d hd
  have hd := List.mem_range.mp hd
  refine Prod.ext rfl ?_
  show va_up (mE cy ad S) c _ d = _
  by_cases e : d = c
  · subst e
    rw [mE_A cy ad _ h]
    simp only [va_up, if_true]
    congr 4
    funext q
    simp [upd, mA_mQ]
  · simp only [va_up, e, if_false]
    by_cases h0 : d = 0
    · subst h0; rfl
    · rw [mE_A cy ad _ (by omega), mE_A cy ad _ (by omega)]
      congr 4
      funext q
      have hn : mfld d ≠ mfld c := fun z => e (mfld_inj d hd c hc (by omega) h z)
      simp [mA_mQ, hn]
theorem mOf_0 (ad : Nat → Nat) (S : Ms) (v : Int32) : (mOf ad S).set 0 (.int v) = mOf ad (mP S 0 v) := by simp [mOf, mO_mP]
theorem mOf_1 (ad : Nat → Nat) (S : Ms) (v : Int32) : (mOf ad S).set 1 (.int v) = mOf ad (mP S 1 v) := by simp [mOf, mO_mP]
theorem mOf_4 (ad : Nat → Nat) (S : Ms) (v : Int32) : (mOf ad S).set 4 (.int v) = mOf ad (mP S 4 v) := by simp [mOf, mO_mP]
theorem mOf_5 (ad : Nat → Nat) (S : Ms) (v : Int32) : (mOf ad S).set 5 (.int v) = mOf ad (mP S 5 v) := by simp [mOf, mO_mP]
theorem mOf_9 (ad : Nat → Nat) (S : Ms) (v : Int32) : (mOf ad S).set 9 (.int v) = mOf ad (mP S 9 v) := by simp [mOf, mO_mP]
theorem mOf_10 (ad : Nat → Nat) (S : Ms) (v : Int32) : (mOf ad S).set 10 (.int v) = mOf ad (mP S 10 v) := by simp [mOf, mO_mP]
def mPre (D : va_G) (cy : Nat → ClassId) (ad : Nat → Nat) (S : Ms) (sz : Nat) (U : State) : Prop := U.heap.size = sz ∧ va_P D vwCl (mwl cy ad S) U.heap ∧ va_K D vwCl (tyL cy) U ∧ gw_ap 19 ad (fun _ => True)
def mPost (D : va_G) (cy : Nat → ClassId) (ad : Nat → Nat) (S : Ms) (t : State) : Prop := va_P D vwCl (mwl cy ad S) t.heap
def mMv (l : Launch) (y : MethodName) (ws : List Cond) (rm : Room) (D : va_G) (cy : Nat → ClassId) (ad : Nat → Nat) (av : List Value) (S S' : Ms) : Prop :=
  ∀ sz, Met l y ws rm (va_Pc av (mPre D cy ad S sz)) (va_Qv (fun _ : Unit => True) (fun _ t => mPost D cy ad S' t) (gA 19 ad sz)) 0 0 (gA 19 ad sz)
def mMi (l : Launch) (y : MethodName) (ws : List Cond) (rm : Room) (D : va_G) (cy : Nat → ClassId) (ad : Nat → Nat) (av : List Value) (S S' : Ms) (r : Int32) : Prop :=
  ∀ sz, Met l y ws rm (va_Pc av (mPre D cy ad S sz)) (va_Qi (fun (x : Int32) (_ : Unit) => x = r) (fun _ t => mPost D cy ad S' t) (gA 19 ad sz)) 0 0 (gA 19 ad sz)
theorem mPre_blind {D : va_G} {cy : Nat → ClassId} {ad : Nat → Nat} {S : Ms} {sz : Nat} {av : List Value} : FrameBlind (va_Pc av (mPre D cy ad S sz)) := by
  intro a U g mk q
  obtain ⟨q0, q1, qP, qK, qD⟩ := q
  exact ⟨q0, q1, qP, va_K.moved (u := U) (U := U.calling g mk a) (Vm.Alike.refl U.vm) qK, qD⟩
section MR
variable {p : Program} {l : Launch} {e : Env} {R : Room} {s : State} {m : MethodId} {args : Array Value} {below : List Frame} {meth : Method} {c : Code} {H : Heap} {locs : List Loc} {cells slots : Nat} {Q : State → Prop}
variable {cc : ByteArray} {pc : Nat} {ls : Array Slot} {rest st0 : List Value} {D : va_G} {A : Nat → Prop} {cy : Nat → ClassId} {ad : Nat → Nat} {S : Ms} {H0 : Heap} {own : String} {index : Nat} {Ts : List Cond}
theorem m_gO (hx : p.tables.exec = Jvm.exec) (hb : c.code = cc) (hts : ∀ w ∈ Ts, w.before args s = true) (hin : ∀ w ∈ wsX30, w ∈ Ts) (hown : s.vm.findClass own = some m.cls) (hK : va_K D vwCl (tyL cy) s) (hP : va_P D vwCl (mwl cy ad S) H) (j : Nat) (hj : j < 24) (hlink : (Cond.fieldLink own index (TX3 j).1 (TX3 j).2.1 (TX3 j).2.2.1).before args s = true) {v : Value} (hv : (mOf ad S)[j]? = some v) (hdg : decode cc pc = .ok (.getfield index, 3))
    (kk : W p l e R s m args below meth c H locs cells slots Q (F0 m (pc + 3) ls (v :: rest))) : W p l e R s m args below meth c H locs cells slots Q (F0 m pc ls (.ref (ad 0) :: rest)) :=
  va_get (C := RX3) (T := TX3) (N := 24) (ci := 3) hx hb hts hin hown hK hP 0 ((gw_get (by omega)).trans (by rw [mE_O])) rfl j hj hlink (fun _ h9 => h9) hv hdg kk
theorem m_pO (hx : p.tables.exec = Jvm.exec) (hb : c.code = cc) (hts : ∀ w ∈ Ts, w.before args s = true) (hin : ∀ w ∈ wsX30, w ∈ Ts) (hown : s.vm.findClass own = some m.cls) (hK : va_K D vwCl (tyL cy) s) (hap : gw_ap 19 ad A) (hP : va_P D vwCl (mwl cy ad S) H) (hS : va_S A H0 H locs) (j : Nat) (hj : j < 24) (hlink : (Cond.fieldLink own index (TX3 j).1 (TX3 j).2.1 (TX3 j).2.2.1).before args s = true) (hfin : (TX3 j).2.2.2 = false) {ty : FieldType} {v : Int32} (hd : parseFieldDescriptor (TX3 j).2.2.1 = some ty) (hn : narrow ty (.int v) = .int v) (hfit : fits ty (.int v) = true) (hset : (mOf ad S).set j (.int v) = mOf ad (mP S j v)) (hl : j < (mOf ad S).length) (hdg : decode cc pc = .ok (.putfield index, 3))
    (kk : ∀ (H1 : Heap) (locs1 : List Loc), va_P D vwCl (mwl cy ad (mP S j v)) H1 → va_S A H0 H1 locs1 → W p l e R s m args below meth c H1 locs1 cells slots Q (F0 m (pc + 3) ls rest)) : W p l e R s m args below meth c H locs cells slots Q (F0 m pc ls (.int v :: .ref (ad 0) :: rest)) :=
  va_put (C := RX3) (T := TX3) (N := 24) (ci := 3) hx hb hts hin tyX3 tyX3_ok nmX3 hown hK hP (gw_D hap _) hS 0 ((gw_get (by omega)).trans (by rw [mE_O])) rfl j hj hlink (fun _ h9 => h9) hfin hd hn hfit hl hdg (fun H1 locs1 hP1 _ hS1 => kk H1 locs1 (by
    rw [hset, mwl_set, mE_pO] at hP1; exact hP1) hS1)
theorem m_iA {d a n : Nat} (hx : p.tables.exec = Jvm.exec) (hb : c.code = cc) (hK : va_K D vwCl (tyL cy) s) (hP : va_P D vwCl (mwl cy ad S) H) (hd : 1 ≤ d ∧ d < 19 ∧ mty d = 0) (ha : mfld d = a) (hn : mlen d = n) {x : Int32} {k : Nat} (hix : ix x k n) (hdg : decode cc pc = .ok (.iaload, 1))
    (kk : W p l e R s m args below meth c H locs cells slots Q (F0 m (pc + 1) ls (.int (mA S a k) :: rest))) : W p l e R s m args below meth c H locs cells slots Q (F0 m pc ls (.int x :: .ref (ad d) :: rest)) := by
  subst ha; subst hn
  exact va_iald hx hb hK hP d 0 ((gw_get hd.2.1).trans (by rw [mE_A cy ad S hd.1, hd.2.2])) rfl hix.vp hdg (by rw [hix.2.1]; exact kk)
theorem m_sA {d a n : Nat} (hx : p.tables.exec = Jvm.exec) (hb : c.code = cc) (hK : va_K D vwCl (tyL cy) s) (hap : gw_ap 19 ad A) (hP : va_P D vwCl (mwl cy ad S) H) (hS : va_S A H0 H locs) (hd : 1 ≤ d ∧ d < 19 ∧ mty d = 0) (ha : mfld d = a) (hn : mlen d = n) {x v : Int32} {k : Nat} (hix : ix x k n) (hdg : decode cc pc = .ok (.iastore, 1))
    (kk : ∀ (H1 : Heap) (locs1 : List Loc), va_P D vwCl (mwl cy ad (mQ S a k v)) H1 → va_S A H0 H1 locs1 → W p l e R s m args below meth c H1 locs1 cells slots Q (F0 m (pc + 1) ls rest)) : W p l e R s m args below meth c H locs cells slots Q (F0 m pc ls (.int v :: .int x :: .ref (ad d) :: rest)) := by
  subst ha; subst hn
  refine va_iast hx hb hK hP (gw_D hap _) hS d 0 ((gw_get hd.2.1).trans (by rw [mE_A cy ad S hd.1, hd.2.2])) rfl hix.vp hdg (fun H1 locs1 hP1 _ hS1 => kk H1 locs1 ?_ hS1)
  rw [hix.2.1, mwl_set] at hP1
  have h9 := mw_pA cy ad S hd.1 hd.2.1 k v
  rw [hd.2.2] at h9
  rw [h9] at hP1
  exact hP1
theorem m_zA {d a n : Nat} (hx : p.tables.exec = Jvm.exec) (hb : c.code = cc) (hK : va_K D vwCl (tyL cy) s) (hP : va_P D vwCl (mwl cy ad S) H) (hd : 1 ≤ d ∧ d < 19 ∧ mty d = 1) (ha : mfld d = a) (hn : mlen d = n) {x : Int32} {k : Nat} (hix : ix x k n) (hdg : decode cc pc = .ok (.baload, 1))
    (kk : W p l e R s m args below meth c H locs cells slots Q (F0 m (pc + 1) ls (.int (mA S a k) :: rest))) : W p l e R s m args below meth c H locs cells slots Q (F0 m pc ls (.int x :: .ref (ad d) :: rest)) := by
  subst ha; subst hn
  exact va_zald hx hb hK hP d 1 ((gw_get hd.2.1).trans (by rw [mE_A cy ad S hd.1, hd.2.2])) rfl hix.vp hdg (by rw [hix.2.1]; exact kk)
theorem m_tA {d a n : Nat} (hx : p.tables.exec = Jvm.exec) (hb : c.code = cc) (hK : va_K D vwCl (tyL cy) s) (hap : gw_ap 19 ad A) (hP : va_P D vwCl (mwl cy ad S) H) (hS : va_S A H0 H locs) (hd : 1 ≤ d ∧ d < 19 ∧ mty d = 1) (ha : mfld d = a) (hn : mlen d = n) {x v : Int32} {k : Nat} (hv : vp_nar .boolean v = v) (hix : ix x k n) (hdg : decode cc pc = .ok (.bastore, 1))
    (kk : ∀ (H1 : Heap) (locs1 : List Loc), va_P D vwCl (mwl cy ad (mQ S a k v)) H1 → va_S A H0 H1 locs1 → W p l e R s m args below meth c H1 locs1 cells slots Q (F0 m (pc + 1) ls rest)) : W p l e R s m args below meth c H locs cells slots Q (F0 m pc ls (.int v :: .int x :: .ref (ad d) :: rest)) := by
  subst ha; subst hn
  refine va_zast hx hb hK hP (gw_D hap _) hS d 1 ((gw_get hd.2.1).trans (by rw [mE_A cy ad S hd.1, hd.2.2])) rfl hix.vp hdg (fun H1 locs1 hP1 _ hS1 => kk H1 locs1 ?_ hS1)
  rw [hix.2.1, hv, mwl_set] at hP1
  have h9 := mw_pA cy ad S hd.1 hd.2.1 k v
  rw [hd.2.2] at h9
  rw [h9] at hP1
  exact hP1
variable {y : MethodName} {bytes : ByteArray} {maxL nL n : Nat} {ret : Option FieldType} {ws : List Cond} {rm : Room} {As : List Value} {S' : Ms}
theorem m_recv (hK : va_K D vwCl (tyL cy) s) (hP : va_P D vwCl (mwl cy ad S) H) : ∃ cell : Cell, H[ad 0]? = some cell ∧ cell.vm.isStatics = false ∧ s.vm.findClass RX3 = some cell.cls :=
  va_recv (q0 := 0) (q := (RX3, TX3, 24)) (ci := 3) hK hP rfl ((gw_get (by omega)).trans (by rw [mE_O]))
theorem m_pre (hK : va_K D vwCl (tyL cy) s) (hap : gw_ap 19 ad A) (hP : va_P D vwCl (mwl cy ad S) H) {av : List Value} : ∀ U : State, U.heap = H → s.WarmedH U.vm → va_Pc av (mPre D cy ad S H.size) av.toArray U :=
  fun U hU hW => ⟨rfl, by rw [hU], by rw [hU]; exact hP, va_K.moved hW.alike hK, ⟨hap.1, fun _ _ => trivial⟩⟩
theorem m_cVv (F : CallFix p m c cc nL s args Ts own) (hM : mMv l y ws rm D cy ad (.ref (ad 0) :: As) S S') (cw : CallW R s args own RX3 index y bytes maxL ret ws rm 0 0 n) (hK : va_K D vwCl (tyL cy) s) (hap : gw_ap 19 ad A) (hA : ∀ q, H0.size ≤ q → A q) (hP : va_P D vwCl (mwl cy ad S) H) (hS : va_S A H0 H locs) (hn : As.length = n) (hsz : ls.size = nL) (hst : st0 = As.reverse ++ .ref (ad 0) :: rest) (hW : (rest.map fun v => v.category).sum ≤ 8) (hdg : decode cc pc = .ok (.invokevirtual index, 3)) (hf : cells ≤ R.cells ∧ slots ≤ R.slots)
    (kk : ∀ (H1 : Heap) (locs1 : List Loc), va_P D vwCl (mwl cy ad S') H1 → va_S A H0 H1 locs1 → W p l e R s m args below meth c H1 locs1 cells slots Q (F0 m (pc + 3) ls rest)) : W p l e R s m args below meth c H locs cells slots Q (F0 m pc ls st0) :=
  va_callv (mc := 0) (ms := 0) (va_runV (rest := rest) F (hM H.size) cw ⟨mPre_blind, m_recv hK hP, m_pre hK hap hP⟩ rfl hn hsz hst (lv_room hW) hdg hf) hS (fun q _ h => gA_free hap hS hA q h) (gA_free hap hS hA) (fun _ t H1 locs1 ht _ _ hB _ _ hS1 => kk H1 locs1 (by rw [← ht]; exact hB) hS1)
theorem m_cVi {r : Int32} (F : CallFix p m c cc nL s args Ts own) (hM : mMi l y ws rm D cy ad (.ref (ad 0) :: As) S S' r) (cw : CallW R s args own RX3 index y bytes maxL ret ws rm 0 0 n) (hK : va_K D vwCl (tyL cy) s) (hap : gw_ap 19 ad A) (hA : ∀ q, H0.size ≤ q → A q) (hP : va_P D vwCl (mwl cy ad S) H) (hS : va_S A H0 H locs) (hn : As.length = n) (hsz : ls.size = nL) (hst : st0 = As.reverse ++ .ref (ad 0) :: rest) (hW : (rest.map fun v => v.category).sum ≤ 8) (hdg : decode cc pc = .ok (.invokevirtual index, 3)) (hf : cells ≤ R.cells ∧ slots ≤ R.slots)
    (kk : ∀ (H1 : Heap) (locs1 : List Loc), va_P D vwCl (mwl cy ad S') H1 → va_S A H0 H1 locs1 → W p l e R s m args below meth c H1 locs1 cells slots Q (F0 m (pc + 3) ls (.int r :: rest))) : W p l e R s m args below meth c H locs cells slots Q (F0 m pc ls st0) :=
  va_calli (mc := 0) (ms := 0) (va_runV (rest := rest) F (hM H.size) cw ⟨mPre_blind, m_recv hK hP, m_pre hK hap hP⟩ rfl hn hsz hst (lv_room hW) hdg hf) hS (fun q _ h => gA_free hap hS hA q h) (gA_free hap hS hA) (fun x _ t H1 locs1 ht _ hx hB _ _ hS1 => by subst hx; exact kk H1 locs1 (by rw [← ht]; exact hB) hS1)
theorem m_vret {free : Addr → Prop} (hx : p.tables.exec = Jvm.exec) (hb : c.code = cc) (hr : meth.sig.returnType = none) (hlocks : meth.locks = false) (hP : va_P D vwCl (mwl cy ad S') H) (hS : va_S A s.heap H locs) (hdg : decode cc pc = .ok (.return_, 1)) (hlf : ∀ q, A q → free q) :
    W p l e R s m args below meth c H locs cells slots (MQ below (va_Qv (fun _ : Unit => True) (fun _ t => mPost D cy ad S' t) A) args s cells slots free) (F0 m pc ls []) :=
  W.vret hx hb hr (fun t ht _ => ⟨⟨(), rfl, trivial, by show va_P _ _ _ t.heap; rw [ht]; exact hP⟩, hS.F ht⟩) (fun q hq => hlf _ (hS.2.2 q hq)) hdg
theorem m_iret {free : Addr → Prop} {v : Int32} (hx : p.tables.exec = Jvm.exec) (hb : c.code = cc) (hr : meth.sig.returnType = some .int) (hlocks : meth.locks = false) (hP : va_P D vwCl (mwl cy ad S') H) (hS : va_S A s.heap H locs) (hdg : decode cc pc = .ok (.ireturn, 1)) (hlf : ∀ q, A q → free q) :
    W p l e R s m args below meth c H locs cells slots (MQ below (va_Qi (fun (x : Int32) (_ : Unit) => x = v) (fun _ t => mPost D cy ad S' t) A) args s cells slots free) (F0 m pc ls [.int v]) :=
  W.iret hx hb hr (fun t ht _ => ⟨⟨v, (), rfl, rfl, by show va_P _ _ _ t.heap; rw [ht]; exact hP⟩, hS.F ht⟩) (fun q hq => hlf _ (hS.2.2 q hq)) hdg
theorem m_zret {free : Addr → Prop} {v : Int32} (hx : p.tables.exec = Jvm.exec) (hb : c.code = cc) (hr : meth.sig.returnType = some .boolean) (hlocks : meth.locks = false) (hv : narrow .boolean (.int v) = .int v) (hP : va_P D vwCl (mwl cy ad S') H) (hS : va_S A s.heap H locs) (hdg : decode cc pc = .ok (.ireturn, 1)) (hlf : ∀ q, A q → free q) :
    W p l e R s m args below meth c H locs cells slots (MQ below (va_Qi (fun (x : Int32) (_ : Unit) => x = v) (fun _ t => mPost D cy ad S' t) A) args s cells slots free) (F0 m pc ls [.int v]) :=
  W.zret hx hb hr hv (fun t ht _ => ⟨⟨v, (), rfl, rfl, by show va_P _ _ _ t.heap; rw [ht]; exact hP⟩, hS.F ht⟩) (fun q hq => hlf _ (hS.2.2 q hq)) hdg
end MR
/-! indices that are reckoned -/
theorem ix_lin {c k j q : Nat} {C x y : Int32} (hC : C = nI c) (hx : x = nI k) (hy : y = nI j) (h : c * k + j < q) (hq : q < 2 ^ 31) : ix (C * x + y) (c * k + j) q := by
  rw [hC, hx, hy, pk_mul, nI_add]; exact ix_nI h hq
theorem ix_linp {c k j q : Nat} {C x y : Int32} (hC : C = nI c) (hx : x = nI k) (hy : y = nI j) (h : c * k + j + 1 < q) (hq : q < 2 ^ 31) : ix (C * x + y + 1) (c * k + j + 1) q := by
  rw [hC, hx, hy, pk_mul, nI_add, nI_1]; exact ix_nI h hq
theorem ix_linm {c k j q : Nat} {C x y : Int32} (hC : C = nI c) (hx : x = nI k) (hy : y = nI (j + 1)) (h : c * k + j < q) (hq : q < 2 ^ 31) : ix (C * x + y - 1) (c * k + j) q := by
  rw [hC, hx, hy, pk_mul, nI_add, ← Nat.add_assoc, nI_pred]; exact ix_nI h hq
theorem ix_mulc {c k q : Nat} {C x : Int32} (hC : C = nI c) (hx : x = nI k) (h : c * k < q) (hq : q < 2 ^ 31) : ix (C * x) (c * k) q := by
  rw [hC, hx, pk_mul]; exact ix_nI h hq
