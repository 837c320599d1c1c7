def R_law : String := "FeedbackQueuesLaw"
def lw_P (b : Addr) (xs : List Int32) (args : Array Value) (s : State) : Prop := args = #[.ref b] ∧ s.IntsAt b xs ∧ xs.length ≤ 2048 ∧ (Jvm.Cond.and given_1 narrow_1).before args s = true
def lw_Q (_ : Array Value) (s : State) (o : Outcome) (t : State) : Prop := o = .returned (some (.int 1)) ∧ Framed s o t [] 601024 7293034
def lw_Z (below : List Frame) (a : Array Value) (s : State) : State → Prop := fun t => ∃ o, t.status = .running ∧ Ended t below o ∧ lw_Q a s o t
/-- the law's own end, with 1 on the stack, nothing written that was there before, its room as the claim has it -/
theorem lw_ret {p : Program} {l : Launch} {e : Env} {s : State} {m : MethodId} {below : List Frame} {meth : Method} {c : Code} {b : Nat} (hx : p.tables.exec = Jvm.exec) (hb : c.code = code) (hr : meth.sig.returnType = ret) (hlocks : meth.locks = false) {pc : Nat} {H : Heap} {ls : Array Slot} (hdg : decode code pc = .ok (.ireturn, 1)) : W p l e room_1 s m #[Value.ref b] below meth c H [] 601024 7293034 (lw_Z below #[Value.ref b] s) (F0 m pc ls [.int 1]) := by
  intro T hT X
  obtain ⟨fs, hret, hrun, hended, hW, hframe⟩ := X.leave (v := some (.int 1)) (hlocks := hlocks) (fun h => by rw [hr] at h; cases h)
  have hmeth' : T.vm.method? m = some meth := X.method'
  refine ⟨T.setFrames fs, ?_, .returned (some (.int 1)), hrun, hended, rfl, ⟨_, rfl⟩, hW, hframe⟩
  jvm_step X.here [X.here.top, hx, hb, hdg, hmeth', hr, ret, narrow_b1]
  (try refine ⟨rfl, ?_⟩); (try refine ⟨rfl, ?_⟩)
  first | (intro acts; rw [hret _ acts rfl rfl rfl]) | rw [hret _ _ rfl rfl rfl]
  exact Steps.refl _
/-- what holds at the law's entry: the machine, the code, the tables' words (any of lw_tbl by 'hts w (by decide +kernel)'), the script of L ints xs at the cell b, what the Statement gives of the start (any of its parts by flat_of_before) -/
def lw_At (p : Program) (s : State) (m : MethodId) (meth : Method) (c : Code) (b L : Nat) (xs : Nat → Int32) : Prop :=
  p.tables.exec = Jvm.exec ∧ c.code = code ∧ meth.sig.returnType = ret ∧ c.maxLocals = 7 ∧ s.vm.findClass R_law = some m.cls ∧ (∀ w ∈ lw_tbl, w.before #[Value.ref b] s = true) ∧ va_X b L xs s s.heap ∧ b < s.heap.size ∧ meth.locks = false ∧ (Jvm.Cond.and given_1 narrow_1).before #[Value.ref b] s = true
theorem sub4 (k : Nat) : nI (k + 4) - 4 = nI k := by
  rw [show k + 4 = k + 3 + 1 by omega, ← nI_1, show (4 : Int32) = 3 + 1 by decide, show k + 3 = k + 2 + 1 by omega, ← nI_1, show k + 2 = k + 1 + 1 by omega, ← nI_1, ← nI_1]
  rw [show nI k + 1 + 1 + 1 + 1 = nI k + (3 + 1) by rw [Int32.add_assoc, Int32.add_assoc, Int32.add_assoc]; rfl, Int32.add_sub_cancel]
theorem gt4 {L t : Nat} (hL : L ≤ 2048) (ht : t ≤ 2048) : nI L - 4 < nI (4 * t) ↔ ¬ 4 * t + 4 ≤ L := by
  by_cases h : 4 ≤ L
  · obtain ⟨k, rfl⟩ : ∃ k, L = k + 4 := ⟨L - 4, by omega⟩
    rw [sub4, nI_ltI (by omega) (by omega)]
    omega
  · refine ⟨fun _ => by omega, fun _ => ?_⟩
    have h0 : nI L - 4 < 0 := by
      rcases (show L = 0 ∨ L = 1 ∨ L = 2 ∨ L = 3 by omega) with rfl | rfl | rfl | rfl <;> decide
    exact Int32.lt_of_lt_of_le h0 (nI_pos' (by omega))
set_option maxHeartbeats 2000000 in
set_option maxRecDepth 100000 in
theorem law_loop {p : Program} {l : Launch} {e : Env} {s : State} {m : MethodId} {below : List Frame} {meth : Method} {c : Code} {b L : Nat} {xs : Nat → Int32} {D : va_G} {cy : Nat → ClassId} {ad am sa : Nat → Nat} {ao : Nat} (C : lwK p l s m c b L xs D cy ad am sa ao) (hr : meth.sig.returnType = Jvm.Pilot.CFeedbackQueuesLaw_law_r8432_cfb8f0.ret) (hlocks : meth.locks = false) : ∀ (n t : Nat) (S : Cs) (M : Ms) (v : Int64) (H : Heap) (locs : List Loc) (ls : Array Slot), L < 4 * (t + n) + 4 → t ≤ 512 → Inv (30000 * t) S M → lwP D cy ad am ao S M v H → va_S (fun q => s.heap.size ≤ q) s.heap H locs → lv_has ls 7 [(4, .int (nI (4 * t))), (3, .ref ao), (2, .ref (am 0)), (1, .ref (ad 0)), (0, .ref b)] → W p l e room_1 s m #[Value.ref b] below meth c H locs (68 + t) (2105 + 6 * t) (lw_Z below #[Value.ref b] s) (F0 m 23 ls []) := by
  obtain ⟨hx, hb, hml, hown, hts, hK, hA, hN, hX, hU, hNn, hXs, hbl, hlst, hL⟩ := id C
  have hbA : ¬ (fun q : Nat => s.heap.size ≤ q) b := Nat.not_le.mpr hbl
  intro n
  induction n with
  | zero =>
    intro t S M v H locs ls hn ht hI hP hS hl
    refine lv_iload hx hb dL_law_23 (lv_at hl 0 rfl) ?_
    refine lv_aload_n hx hb dL_law_25 rfl (lv_at hl 4 rfl) ?_
    refine va_slen hx hb hXs hbl hbA hS dL_law_26 ?_
    refine lv_iconst (v := 4) hx hb dL_law_27 (by decide) ?_
    refine lv_isub hx hb dL_law_28 ?_
    refine lv_icmp_gt (tgt := 707) hx hb dL_law_29 (by decide) (fun _ => ?_) (fun z => absurd ((gt4 (t := t) hL (by omega)).mpr (by omega)) z)
    refine lv_iconst (v := 1) hx hb dL_law_707 (by decide) ?_
    refine va_forget (fun q hq => hS.2.2 q hq) ?_
    refine W.widen (k := 601024) (n := 7293034) (by omega) (by omega) ?_
    exact lw_ret hx hb hr hlocks dL_law_708
  | succ n ih =>
    intro t S M v H locs ls hn ht hI hP hS hl
    refine lv_iload hx hb dL_law_23 (lv_at hl 0 rfl) ?_
    refine lv_aload_n hx hb dL_law_25 rfl (lv_at hl 4 rfl) ?_
    refine va_slen hx hb hXs hbl hbA hS dL_law_26 ?_
    refine lv_iconst (v := 4) hx hb dL_law_27 (by decide) ?_
    refine lv_isub hx hb dL_law_28 ?_
    refine lv_icmp_gt (tgt := 707) hx hb dL_law_29 (by decide) (fun _ => ?_) (fun z => ?_)
    · skip
      refine lv_iconst (v := 1) hx hb dL_law_707 (by decide) ?_
      refine va_forget (fun q hq => hS.2.2 q hq) ?_
      refine W.widen (k := 601024) (n := 7293034) (by omega) (by omega) ?_
      exact lw_ret hx hb hr hlocks dL_law_708
    have h4 : 4 * t + 4 ≤ L := Classical.not_not.mp (fun w => z ((gt4 (t := t) hL (by omega)).mpr w))
    have hbb : 30000 * t + 30000 < 2 ^ 30 := by omega
    have hcel : 68 + t + 1 ≤ room_1.cells ∧ 2105 + 6 * t + 6 ≤ room_1.slots := ⟨show 68 + t + 1 ≤ 601024 by omega, show 2105 + 6 * t + 6 ≤ 7293034 by omega⟩
    have K : ∀ (S : Cs) (M : Ms) (v : Int64) (H : Heap) (locs : List Loc) (ls : Array Slot), Inv (30000 * t + 30000) S M → lwP D cy ad am ao S M v H → va_S (fun q => s.heap.size ≤ q) s.heap H locs → lv_has ls 7 [(4, .int (nI (4 * t))), (3, .ref ao), (2, .ref (am 0)), (1, .ref (ad 0)), (0, .ref b)] → W p l e room_1 s m #[Value.ref b] below meth c H locs (68 + t + 1) (2105 + 6 * t + 6) (lw_Z below #[Value.ref b] s) (F0 m 701 ls []) := by
      intro S M v H locs ls hI hP hS hl
      refine lv_iinc (v := nI (4 * (t + 1))) (lv' := [(4, .int (nI (4 * (t + 1)))), (3, .ref ao), (2, .ref (am 0)), (1, .ref (ad 0)), (0, .ref b)]) hx hb dL_law_701 hl (k := 0) rfl (by rw [show Int32.ofInt 4 = nI 4 from by decide, nI_add, show 4 * (t + 1) = 4 * t + 4 by omega]) (by decide) rfl (fun ls hl => ?_)
      refine lv_goto (tgt := 23) hx hb dL_law_704 (by decide) ?_
      exact ih (t + 1) S M v H locs ls (by omega) (by omega) (by rw [show 30000 * (t + 1) = 30000 * t + 30000 by omega]; exact hI) hP hS hl
    refine lv_aload_n hx hb dL_law_32 rfl (lv_at hl 4 rfl) ?_
    refine lv_iload hx hb dL_law_33 (lv_at hl 0 rfl) ?_
    refine va_sld (i := nI (4 * t)) hx hb hXs hbl hbA hS (ix_nI (by omega) (by omega)).vp dL_law_35 ?_
    refine lv_bipush (v := 15) hx hb dL_law_36 (by decide) ?_
    refine lv_iand hx hb dL_law_38 ?_
    generalize xs (nI (4 * t)).toNatClampNeg &&& 15 = y
    by_cases y0 : y = 0
    · refine lv_tableIn (off := 65) (tgt := 104) hx hb dL_law_39 (by rw [y0]; decide) (by rw [y0]; decide) (by rw [y0]; rfl) (by decide) ?_
      exact lc_levels C hI hbb h4 hP hS hl hcel K
    by_cases y1 : y = 1
    · refine lv_tableIn (off := 101) (tgt := 140) hx hb dL_law_39 (by rw [y1]; decide) (by rw [y1]; decide) (by rw [y1]; rfl) (by decide) ?_
      exact lc_level C hI hbb h4 hP hS hl hcel K
    by_cases y2 : y = 2
    · refine lv_tableIn (off := 161) (tgt := 200) hx hb dL_law_39 (by rw [y2]; decide) (by rw [y2]; decide) (by rw [y2]; rfl) (by decide) ?_
      exact lc_period C hI hbb h4 hP hS hl hcel K
    by_cases y3 : y = 3
    · refine lv_tableIn (off := 197) (tgt := 236) hx hb dL_law_39 (by rw [y3]; decide) (by rw [y3]; decide) (by rw [y3]; rfl) (by decide) ?_
      exact lc_process C hI hbb h4 hP hS hl hcel K
    by_cases y4 : y = 4
    · refine lv_tableIn (off := 253) (tgt := 292) hx hb dL_law_39 (by rw [y4]; decide) (by rw [y4]; decide) (by rw [y4]; rfl) (by decide) ?_
      exact lc_burst C hI hbb h4 hP hS hl hcel K
    by_cases y5 : y = 5
    · refine lv_tableIn (off := 321) (tgt := 360) hx hb dL_law_39 (by rw [y5]; decide) (by rw [y5]; decide) (by rw [y5]; rfl) (by decide) ?_
      exact lc_run C hI hbb h4 hP hS hl hcel K
    by_cases y6 : y = 6
    · refine lv_tableIn (off := 377) (tgt := 416) hx hb dL_law_39 (by rw [y6]; decide) (by rw [y6]; decide) (by rw [y6]; rfl) (by decide) ?_
      exact lc_restart C hI hbb h4 hP hS hl hcel K
    by_cases y7 : y = 7
    · refine lv_tableIn (off := 388) (tgt := 427) hx hb dL_law_39 (by rw [y7]; decide) (by rw [y7]; decide) (by rw [y7]; rfl) (by decide) ?_
      exact lc_time C hI hbb h4 hP hS hl hcel K
    by_cases y8 : y = 8
    · refine lv_tableIn (off := 401) (tgt := 440) hx hb dL_law_39 (by rw [y8]; decide) (by rw [y8]; decide) (by rw [y8]; rfl) (by decide) ?_
      exact lc_told C hI hbb h4 hP hS hl hcel K
    by_cases y9 : y = 9
    · refine lv_tableIn (off := 469) (tgt := 508) hx hb dL_law_39 (by rw [y9]; decide) (by rw [y9]; decide) (by rw [y9]; rfl) (by decide) ?_
      exact lc_running C hI hbb h4 hP hS hl hcel K
    by_cases y10 : y = 10
    · refine lv_tableIn (off := 482) (tgt := 521) hx hb dL_law_39 (by rw [y10]; decide) (by rw [y10]; decide) (by rw [y10]; rfl) (by decide) ?_
      exact lc_queued C hI hbb h4 hP hS hl hcel K
    by_cases y11 : y = 11
    · refine lv_tableIn (off := 550) (tgt := 589) hx hb dL_law_39 (by rw [y11]; decide) (by rw [y11]; decide) (by rw [y11]; rfl) (by decide) ?_
      exact lc_all C hI hbb h4 hP hS hl hcel K
    by_cases y12 : y = 12
    · refine lv_tableIn (off := 606) (tgt := 645) hx hb dL_law_39 (by rw [y12]; decide) (by rw [y12]; decide) (by rw [y12]; rfl) (by decide) ?_
      exact lc_switched C hI hbb h4 hP hS hl hcel K
    refine lv_tableOut (tgt := 701) hx hb dL_law_39 (sw_out (n := 13) (by decide) (fun k hk => by
        rcases (show k = 0 ∨ k = 1 ∨ k = 2 ∨ k = 3 ∨ k = 4 ∨ k = 5 ∨ k = 6 ∨ k = 7 ∨ k = 8 ∨ k = 9 ∨ k = 10 ∨ k = 11 ∨ k = 12 from by omega) with rfl | rfl | rfl | rfl | rfl | rfl | rfl | rfl | rfl | rfl | rfl | rfl | rfl
        · exact fun z => y0 (z.trans (by decide))
        · exact fun z => y1 (z.trans (by decide))
        · exact fun z => y2 (z.trans (by decide))
        · exact fun z => y3 (z.trans (by decide))
        · exact fun z => y4 (z.trans (by decide))
        · exact fun z => y5 (z.trans (by decide))
        · exact fun z => y6 (z.trans (by decide))
        · exact fun z => y7 (z.trans (by decide))
        · exact fun z => y8 (z.trans (by decide))
        · exact fun z => y9 (z.trans (by decide))
        · exact fun z => y10 (z.trans (by decide))
        · exact fun z => y11 (z.trans (by decide))
        · exact fun z => y12 (z.trans (by decide))
        )) (by decide) ?_
    refine W.widen (k := 68 + t + 1) (n := 2105 + 6 * t + 6) (by omega) (by omega) ?_
    exact K S M v H locs ls (Inv_mono hI (by omega)) hP hS (lv_sub hl [0, 1, 2, 3, 4] rfl)
