set_option maxHeartbeats 1000000 in
set_option maxRecDepth 100000 in
theorem k_L_levels (l : Launch) (hlst : l.stackTraces = false) (D : va_G) (cy : Nat → ClassId) (ad sa : Nat → Nat) (S : Cs) (p1 : Int32)   : hMv l yL_levels wsL_levels { frames := 7, cells := 1, slots := 6, locals := 122 } D cy ad sa [.ref (ad 0), .int p1] S (F_X2_levels S p1) (hc [2] (F_X2_levels S p1).2.2) := by
  intro sz
  refine vx_ofWH (cc := cL_levels) (maxL := 3) (ret := some .int) (hh := [(0, 5, 8, 13)]) (by decide) rfl ?_
  intro p e s m args below meth c s₁ B hml hv
  obtain ⟨rfl, ⟨hsz, hP, hK, hap0, hN⟩, hXs, hZu, hZn⟩ := hv
  have hx := B.exec
  have hb := B.bytes
  have hr := B.returns
  have hts := atoms_spec (ws := wsL_levels) B.pre
  have hown : s.vm.findClass RL = some m.cls := findClass_of_methodNamed B.named
  have hlocks := B.notSynchronized
  have htab : c.exceptionTable.toList = tableOf [(0, 5, 8, 13)] := vx_table (x := yL_levels) B (hts (.codeWith yL_levels cL_levels 3 (some .int) [(0, 5, 8, 13)]) List.mem_cons_self)
  subst hsz
  have hap := gw_self (sz := s.heap.size) hap0
  have hA : ∀ q : Nat, s.heap.size ≤ q → gA 48 ad s.heap.size q := fun q h => Or.inr h
  generalize gA 48 ad s.heap.size = A at hap hA hZu hZn ⊢
  have hS : va_S A s.heap s.heap [] := va_S.rf
  have hl := lv_entry ([.ref (ad 0), .int p1]) (n := 3) (Nat.le_of_ble_eq_true rfl)
  rw [lg_entry_eq]
  generalize (lg_sl ([.ref (ad 0), .int p1]) ++ List.replicate (3 - (lg_sl ([.ref (ad 0), .int p1])).length) Slot.unset).toArray = ls at hl ⊢
  have hl : lv_has ls 3 [(0, .ref (ad 0)), (1, .int p1)] := hl
  refine lv_aload_n hx hb dL_levels_0 rfl (lv_at hl 0 rfl) ?_
  refine lv_iload_n hx hb dL_levels_1 rfl (lv_at hl 1 rfl) ?_
  refine vx_callv (vx_runV (C := RX2) (As := [.int p1]) (rest := []) ⟨hx, hb, hml, hown, hts⟩ (k_X2_levels l hlst D cy ad sa S p1  s.heap.size) (cwV 1 hts gL_levels_X2_levels rfl rfl rfl (by decide +kernel) ⟨Nat.le_of_ble_eq_true rfl, Nat.le_of_ble_eq_true rfl⟩) ⟨xPre_blind, c_recv (q := (RX2, TX2, 12)) (ci := 2) hK hP (by omega) (cE_O cy ad S) rfl, x_pre hK hap hA hN hXs hZu hZn hP hS⟩ rfl rfl hl.1 rfl (Nat.le_of_ble_eq_true rfl) dL_levels_2 ⟨Nat.le_of_ble_eq_true rfl, Nat.le_of_ble_eq_true rfl⟩) hS (fun q _ h => gA_free hap hS hA q h) (gA_free hap hS hA) (fun q _ h => gA_free hap hS hA q h) (fun E ce q9 u t H1 locs1 ht hvm _ hBX hz hk1 hS1 hce hcv hcl => ?_) (fun u t H1 locs1 ht hvm hpo hB hz hk1 hS1 => ?_)
  · obtain ⟨hk0, rfl, hPx⟩ := hBX
    have hPx : va_P D vwCl (cwl cy ad (F_X2_levels S p1).1) H1 := by rw [← ht]; exact hPx
    rcases kd_levels S p1 with hkd | hkd
    · exact absurd hkd hk0
    · rw [hkd] at hcl
      refine cu_W (own := RL) (name := xnm 2) (E := xnm 2) hown [] ⟨0, 5, 8, 13⟩ [] htab (fun z hz => nomatch hz) (by decide) (by decide) (hts (.classLink RL 13 (xnm 2)) (by decide +kernel)) (va_Nw.use rfl (hXs.1 (.castable (xnm 2) (xnm 2)) (by decide +kernel))) hce hcv hcl ?_
      refine lv_astore_n (lv' := (2, .ref q9) :: [(0, .ref (ad 0)), (1, .int p1)]) hx hb dL_levels_8 rfl hl (by decide) rfl (fun ls hl => ?_)
      refine lv_iconst (v := 1) hx hb dL_levels_9 (by decide) ?_
      exact h_iret (r := F_X2_levels S p1) hx hb hr hlocks hPx hS1 (by rw [hkd]; decide) dL_levels_10
  · have hPx : va_P D vwCl (cwl cy ad (F_X2_levels S p1).1) H1 := by rw [← ht]; exact hB
    have hkd := hpo
    refine lv_goto (tgt := 11) hx hb dL_levels_5 (by decide) ?_
    refine lv_iconst (v := 0) hx hb dL_levels_11 (by decide) ?_
    exact h_iret (r := F_X2_levels S p1) hx hb hr hlocks hPx hS1 (by rw [hkd]; decide) dL_levels_12
set_option maxHeartbeats 1000000 in
set_option maxRecDepth 100000 in
theorem k_L_level (l : Launch) (hlst : l.stackTraces = false) (D : va_G) (cy : Nat → ClassId) (ad sa : Nat → Nat) (S : Cs) (p1 : Int32) (p2 : Int32) (p3 : Int32)  {N L b : Nat} (hok : okC N L b S)  : hMv l yL_level wsL_level { frames := 7, cells := 1, slots := 6, locals := 123 } D cy ad sa [.ref (ad 0), .int p1, .int p2, .int p3] S (F_X2_level S p1 p2 p3) (hc [1, 2, 3] (F_X2_level S p1 p2 p3).2.2) := by
  intro sz
  refine vx_ofWH (cc := cL_level) (maxL := 5) (ret := some .int) (hh := [(0, 7, 10, 19), (0, 7, 14, 13), (0, 7, 18, 21)]) (by decide) rfl ?_
  intro p e s m args below meth c s₁ B hml hv
  obtain ⟨rfl, ⟨hsz, hP, hK, hap0, hN⟩, hXs, hZu, hZn⟩ := hv
  have hx := B.exec
  have hb := B.bytes
  have hr := B.returns
  have hts := atoms_spec (ws := wsL_level) B.pre
  have hown : s.vm.findClass RL = some m.cls := findClass_of_methodNamed B.named
  have hlocks := B.notSynchronized
  have htab : c.exceptionTable.toList = tableOf [(0, 7, 10, 19), (0, 7, 14, 13), (0, 7, 18, 21)] := vx_table (x := yL_level) B (hts (.codeWith yL_level cL_level 5 (some .int) [(0, 7, 10, 19), (0, 7, 14, 13), (0, 7, 18, 21)]) List.mem_cons_self)
  subst hsz
  have hap := gw_self (sz := s.heap.size) hap0
  have hA : ∀ q : Nat, s.heap.size ≤ q → gA 48 ad s.heap.size q := fun q h => Or.inr h
  generalize gA 48 ad s.heap.size = A at hap hA hZu hZn ⊢
  have hS : va_S A s.heap s.heap [] := va_S.rf
  have hl := lv_entry ([.ref (ad 0), .int p1, .int p2, .int p3]) (n := 5) (Nat.le_of_ble_eq_true rfl)
  rw [lg_entry_eq]
  generalize (lg_sl ([.ref (ad 0), .int p1, .int p2, .int p3]) ++ List.replicate (5 - (lg_sl ([.ref (ad 0), .int p1, .int p2, .int p3])).length) Slot.unset).toArray = ls at hl ⊢
  have hl : lv_has ls 5 [(0, .ref (ad 0)), (1, .int p1), (2, .int p2), (3, .int p3)] := hl
  refine lv_aload_n hx hb dL_level_0 rfl (lv_at hl 0 rfl) ?_
  refine lv_iload_n hx hb dL_level_1 rfl (lv_at hl 1 rfl) ?_
  refine lv_iload_n hx hb dL_level_2 rfl (lv_at hl 2 rfl) ?_
  refine lv_iload_n hx hb dL_level_3 rfl (lv_at hl 3 rfl) ?_
  refine vx_callv (vx_runV (C := RX2) (As := [.int p1, .int p2, .int p3]) (rest := []) ⟨hx, hb, hml, hown, hts⟩ (k_X2_level l hlst D cy ad sa S p1 p2 p3 hok s.heap.size) (cwV 3 hts gL_level_X2_level rfl rfl rfl (by decide +kernel) ⟨Nat.le_of_ble_eq_true rfl, Nat.le_of_ble_eq_true rfl⟩) ⟨xPre_blind, c_recv (q := (RX2, TX2, 12)) (ci := 2) hK hP (by omega) (cE_O cy ad S) rfl, x_pre hK hap hA hN hXs hZu hZn hP hS⟩ rfl rfl hl.1 rfl (Nat.le_of_ble_eq_true rfl) dL_level_4 ⟨Nat.le_of_ble_eq_true rfl, Nat.le_of_ble_eq_true rfl⟩) hS (fun q _ h => gA_free hap hS hA q h) (gA_free hap hS hA) (fun q _ h => gA_free hap hS hA q h) (fun E ce q9 u t H1 locs1 ht hvm _ hBX hz hk1 hS1 hce hcv hcl => ?_) (fun u t H1 locs1 ht hvm hpo hB hz hk1 hS1 => ?_)
  · obtain ⟨hk0, rfl, hPx⟩ := hBX
    have hPx : va_P D vwCl (cwl cy ad (F_X2_level S p1 p2 p3).1) H1 := by rw [← ht]; exact hPx
    rcases kd_level S p1 p2 p3 with hkd | hkd | hkd | hkd
    · exact absurd hkd hk0
    · rw [hkd] at hcl
      refine cu_W (own := RL) (name := xnm 1) (E := xnm 1) hown [] ⟨0, 7, 10, 19⟩ [⟨0, 7, 14, 13⟩, ⟨0, 7, 18, 21⟩] htab (fun z hz => nomatch hz) (by decide) (by decide) (hts (.classLink RL 19 (xnm 1)) (by decide +kernel)) (va_Nw.use rfl (hXs.1 (.castable (xnm 1) (xnm 1)) (by decide +kernel))) hce hcv hcl ?_
      refine lv_astore (lv' := (4, .ref q9) :: [(0, .ref (ad 0)), (1, .int p1), (2, .int p2), (3, .int p3)]) hx hb dL_level_10 hl (by decide) rfl (fun ls hl => ?_)
      refine lv_iconst (v := 1) hx hb dL_level_12 (by decide) ?_
      exact h_iret (r := F_X2_level S p1 p2 p3) hx hb hr hlocks hPx hS1 (by rw [hkd]; decide) dL_level_13
    · rw [hkd] at hcl
      refine cu_W (own := RL) (name := xnm 2) (E := xnm 2) hown [⟨0, 7, 10, 19⟩] ⟨0, 7, 14, 13⟩ [⟨0, 7, 18, 21⟩] htab (fun z hz => by
          simp only [List.mem_cons, List.not_mem_nil, or_false] at hz
          rcases hz with rfl
          · exact Or.inr ⟨by decide, xnm 1, hts (.classLink RL 19 (xnm 1)) (by decide +kernel), hXs.2.2.1⟩) (by decide) (by decide) (hts (.classLink RL 13 (xnm 2)) (by decide +kernel)) (va_Nw.use rfl (hXs.1 (.castable (xnm 2) (xnm 2)) (by decide +kernel))) hce hcv hcl ?_
      refine lv_astore (lv' := (4, .ref q9) :: [(0, .ref (ad 0)), (1, .int p1), (2, .int p2), (3, .int p3)]) hx hb dL_level_14 hl (by decide) rfl (fun ls hl => ?_)
      refine lv_iconst (v := 2) hx hb dL_level_16 (by decide) ?_
      exact h_iret (r := F_X2_level S p1 p2 p3) hx hb hr hlocks hPx hS1 (by rw [hkd]; decide) dL_level_17
    · rw [hkd] at hcl
      refine cu_W (own := RL) (name := xnm 3) (E := xnm 3) hown [⟨0, 7, 10, 19⟩, ⟨0, 7, 14, 13⟩] ⟨0, 7, 18, 21⟩ [] htab (fun z hz => by
          simp only [List.mem_cons, List.not_mem_nil, or_false] at hz
          rcases hz with rfl | rfl
          · exact Or.inr ⟨by decide, xnm 1, hts (.classLink RL 19 (xnm 1)) (by decide +kernel), hXs.2.2.2.1⟩
          · exact Or.inr ⟨by decide, xnm 2, hts (.classLink RL 13 (xnm 2)) (by decide +kernel), hXs.2.2.2.2⟩) (by decide) (by decide) (hts (.classLink RL 21 (xnm 3)) (by decide +kernel)) (va_Nw.use rfl (hXs.1 (.castable (xnm 3) (xnm 3)) (by decide +kernel))) hce hcv hcl ?_
      refine lv_astore (lv' := (4, .ref q9) :: [(0, .ref (ad 0)), (1, .int p1), (2, .int p2), (3, .int p3)]) hx hb dL_level_18 hl (by decide) rfl (fun ls hl => ?_)
      refine lv_iconst (v := 3) hx hb dL_level_20 (by decide) ?_
      exact h_iret (r := F_X2_level S p1 p2 p3) hx hb hr hlocks hPx hS1 (by rw [hkd]; decide) dL_level_21
  · have hPx : va_P D vwCl (cwl cy ad (F_X2_level S p1 p2 p3).1) H1 := by rw [← ht]; exact hB
    have hkd := hpo
    refine lv_goto (tgt := 22) hx hb dL_level_7 (by decide) ?_
    refine lv_iconst (v := 0) hx hb dL_level_22 (by decide) ?_
    exact h_iret (r := F_X2_level S p1 p2 p3) hx hb hr hlocks hPx hS1 (by rw [hkd]; decide) dL_level_23
set_option maxHeartbeats 1000000 in
set_option maxRecDepth 100000 in
theorem k_L_period (l : Launch) (hlst : l.stackTraces = false) (D : va_G) (cy : Nat → ClassId) (ad sa : Nat → Nat) (S : Cs) (p1 : Int32)   : hMv l yL_period wsL_period { frames := 7, cells := 1, slots := 6, locals := 121 } D cy ad sa [.ref (ad 0), .int p1] S (F_X2_period S p1) (hc [2, 3] (F_X2_period S p1).2.2) := by
  intro sz
  refine vx_ofWH (cc := cL_period) (maxL := 3) (ret := some .int) (hh := [(0, 5, 8, 13), (0, 5, 11, 21)]) (by decide) rfl ?_
  intro p e s m args below meth c s₁ B hml hv
  obtain ⟨rfl, ⟨hsz, hP, hK, hap0, hN⟩, hXs, hZu, hZn⟩ := hv
  have hx := B.exec
  have hb := B.bytes
  have hr := B.returns
  have hts := atoms_spec (ws := wsL_period) B.pre
  have hown : s.vm.findClass RL = some m.cls := findClass_of_methodNamed B.named
  have hlocks := B.notSynchronized
  have htab : c.exceptionTable.toList = tableOf [(0, 5, 8, 13), (0, 5, 11, 21)] := vx_table (x := yL_period) B (hts (.codeWith yL_period cL_period 3 (some .int) [(0, 5, 8, 13), (0, 5, 11, 21)]) List.mem_cons_self)
  subst hsz
  have hap := gw_self (sz := s.heap.size) hap0
  have hA : ∀ q : Nat, s.heap.size ≤ q → gA 48 ad s.heap.size q := fun q h => Or.inr h
  generalize gA 48 ad s.heap.size = A at hap hA hZu hZn ⊢
  have hS : va_S A s.heap s.heap [] := va_S.rf
  have hl := lv_entry ([.ref (ad 0), .int p1]) (n := 3) (Nat.le_of_ble_eq_true rfl)
  rw [lg_entry_eq]
  generalize (lg_sl ([.ref (ad 0), .int p1]) ++ List.replicate (3 - (lg_sl ([.ref (ad 0), .int p1])).length) Slot.unset).toArray = ls at hl ⊢
  have hl : lv_has ls 3 [(0, .ref (ad 0)), (1, .int p1)] := hl
  refine lv_aload_n hx hb dL_period_0 rfl (lv_at hl 0 rfl) ?_
  refine lv_iload_n hx hb dL_period_1 rfl (lv_at hl 1 rfl) ?_
  refine vx_callv (vx_runV (C := RX2) (As := [.int p1]) (rest := []) ⟨hx, hb, hml, hown, hts⟩ (k_X2_period l hlst D cy ad sa S p1  s.heap.size) (cwV 1 hts gL_period_X2_period rfl rfl rfl (by decide +kernel) ⟨Nat.le_of_ble_eq_true rfl, Nat.le_of_ble_eq_true rfl⟩) ⟨xPre_blind, c_recv (q := (RX2, TX2, 12)) (ci := 2) hK hP (by omega) (cE_O cy ad S) rfl, x_pre hK hap hA hN hXs hZu hZn hP hS⟩ rfl rfl hl.1 rfl (Nat.le_of_ble_eq_true rfl) dL_period_2 ⟨Nat.le_of_ble_eq_true rfl, Nat.le_of_ble_eq_true rfl⟩) hS (fun q _ h => gA_free hap hS hA q h) (gA_free hap hS hA) (fun q _ h => gA_free hap hS hA q h) (fun E ce q9 u t H1 locs1 ht hvm _ hBX hz hk1 hS1 hce hcv hcl => ?_) (fun u t H1 locs1 ht hvm hpo hB hz hk1 hS1 => ?_)
  · obtain ⟨hk0, rfl, hPx⟩ := hBX
    have hPx : va_P D vwCl (cwl cy ad (F_X2_period S p1).1) H1 := by rw [← ht]; exact hPx
    rcases kd_period S p1 with hkd | hkd | hkd
    · exact absurd hkd hk0
    · rw [hkd] at hcl
      refine cu_W (own := RL) (name := xnm 2) (E := xnm 2) hown [] ⟨0, 5, 8, 13⟩ [⟨0, 5, 11, 21⟩] htab (fun z hz => nomatch hz) (by decide) (by decide) (hts (.classLink RL 13 (xnm 2)) (by decide +kernel)) (va_Nw.use rfl (hXs.1 (.castable (xnm 2) (xnm 2)) (by decide +kernel))) hce hcv hcl ?_
      refine lv_astore_n (lv' := (2, .ref q9) :: [(0, .ref (ad 0)), (1, .int p1)]) hx hb dL_period_8 rfl hl (by decide) rfl (fun ls hl => ?_)
      refine lv_iconst (v := 1) hx hb dL_period_9 (by decide) ?_
      exact h_iret (r := F_X2_period S p1) hx hb hr hlocks hPx hS1 (by rw [hkd]; decide) dL_period_10
    · rw [hkd] at hcl
      refine cu_W (own := RL) (name := xnm 3) (E := xnm 3) hown [⟨0, 5, 8, 13⟩] ⟨0, 5, 11, 21⟩ [] htab (fun z hz => by
          simp only [List.mem_cons, List.not_mem_nil, or_false] at hz
          rcases hz with rfl
          · exact Or.inr ⟨by decide, xnm 2, hts (.classLink RL 13 (xnm 2)) (by decide +kernel), hXs.2.2.2.2⟩) (by decide) (by decide) (hts (.classLink RL 21 (xnm 3)) (by decide +kernel)) (va_Nw.use rfl (hXs.1 (.castable (xnm 3) (xnm 3)) (by decide +kernel))) hce hcv hcl ?_
      refine lv_astore_n (lv' := (2, .ref q9) :: [(0, .ref (ad 0)), (1, .int p1)]) hx hb dL_period_11 rfl hl (by decide) rfl (fun ls hl => ?_)
      refine lv_iconst (v := 2) hx hb dL_period_12 (by decide) ?_
      exact h_iret (r := F_X2_period S p1) hx hb hr hlocks hPx hS1 (by rw [hkd]; decide) dL_period_13
  · have hPx : va_P D vwCl (cwl cy ad (F_X2_period S p1).1) H1 := by rw [← ht]; exact hB
    have hkd := hpo
    refine lv_goto (tgt := 14) hx hb dL_period_5 (by decide) ?_
    refine lv_iconst (v := 0) hx hb dL_period_14 (by decide) ?_
    exact h_iret (r := F_X2_period S p1) hx hb hr hlocks hPx hS1 (by rw [hkd]; decide) dL_period_15
set_option maxHeartbeats 1000000 in
set_option maxRecDepth 100000 in
theorem k_L_process (l : Launch) (hlst : l.stackTraces = false) (D : va_G) (cy : Nat → ClassId) (ad sa : Nat → Nat) (ao : Nat) (w : Int64) (S : Cs) (p1 : Int32)  {N L b : Nat} (hok : okC N L b S)  : hMi l yL_process wsL_process { frames := 7, cells := 1, slots := 6, locals := 121 } D cy ad sa ao [.ref (ad 0), .int p1, .ref ao] S w (F_X2_process S p1) (hc [2, 3] (F_X2_process S p1).2.2) := by
  intro sz
  refine vx_ofWH (cc := cL_process) (maxL := 4) (ret := some .int) (hh := [(0, 9, 12, 13), (0, 9, 15, 21)]) (by decide) rfl ?_
  intro p e s m args below meth c s₁ B hml hv
  obtain ⟨rfl, ⟨hsz, hP, hK, hap0, hN⟩, hXs, hZu, hZn, hO, hne⟩ := hv
  have hx := B.exec
  have hb := B.bytes
  have hr := B.returns
  have hts := atoms_spec (ws := wsL_process) B.pre
  have hown : s.vm.findClass RL = some m.cls := findClass_of_methodNamed B.named
  have hlocks := B.notSynchronized
  have htab : c.exceptionTable.toList = tableOf [(0, 9, 12, 13), (0, 9, 15, 21)] := vx_table (x := yL_process) B (hts (.codeWith yL_process cL_process 4 (some .int) [(0, 9, 12, 13), (0, 9, 15, 21)]) List.mem_cons_self)
  subst hsz
  have hap : gw_ap 48 ad (gB ad ao s.heap.size) := ⟨hap0.1, fun k hk => Or.inl (gA_in hk)⟩
  have hao : gB ad ao s.heap.size ao := Or.inr rfl
  have hA : ∀ q : Nat, s.heap.size ≤ q → gB ad ao s.heap.size q := fun q h => Or.inl (Or.inr h)
  generalize gB ad ao s.heap.size = A at hap hao hA hZu hZn ⊢
  have hS : va_S A s.heap s.heap [] := va_S.rf
  have hl := lv_entry ([.ref (ad 0), .int p1, .ref ao]) (n := 4) (Nat.le_of_ble_eq_true rfl)
  rw [lg_entry_eq]
  generalize (lg_sl ([.ref (ad 0), .int p1, .ref ao]) ++ List.replicate (4 - (lg_sl ([.ref (ad 0), .int p1, .ref ao])).length) Slot.unset).toArray = ls at hl ⊢
  have hl : lv_has ls 4 [(0, .ref (ad 0)), (1, .int p1), (2, .ref ao)] := hl
  refine lv_aload_n hx hb dL_process_0 rfl (lv_at hl 2 rfl) ?_
  refine lv_iconst (v := 0) hx hb dL_process_1 (by decide) ?_
  refine lv_aload_n hx hb dL_process_2 rfl (lv_at hl 0 rfl) ?_
  refine lv_iload_n hx hb dL_process_3 rfl (lv_at hl 1 rfl) ?_
  refine vx_calli (vx_runV (C := RX2) (As := [.int p1]) (rest := [.int 0, .ref ao]) ⟨hx, hb, hml, hown, hts⟩ (k_X2_process l hlst D cy ad sa S p1 hok s.heap.size) (cwV 1 hts gL_process_X2_process rfl rfl rfl (by decide +kernel) ⟨Nat.le_of_ble_eq_true rfl, Nat.le_of_ble_eq_true rfl⟩) ⟨xPre_blind, c_recv (q := (RX2, TX2, 12)) (ci := 2) hK hP (by omega) (cE_O cy ad S) rfl, x_pre hK hap hA hN hXs hZu hZn hP hS⟩ rfl rfl hl.1 rfl (Nat.le_of_ble_eq_true rfl) dL_process_4 ⟨Nat.le_of_ble_eq_true rfl, Nat.le_of_ble_eq_true rfl⟩) hS (fun q _ h => gA_free hap hS hA q h) (gA_free hap hS hA) (fun q _ h => gA_free hap hS hA q h) (fun E ce q9 u t H1 locs1 ht hvm _ hBX hz hk1 hS1 hce hcv hcl => ?_) (fun r u t H1 locs1 ht hvm hpo hB hz hk1 hS1 => ?_)
  · obtain ⟨hk0, rfl, hPx⟩ := hBX
    have hPx : va_P D vwCl (cwl cy ad (F_X2_process S p1).1) H1 := by rw [← ht]; exact hPx
    have hO1 : oAt D cy ao w H1 := hO.kept (hk1 ao (o_not hP hO hne).1 (o_not hP hO hne).2)
    rcases kd_process S p1 with hkd | hkd | hkd
    · exact absurd hkd hk0
    · rw [hkd] at hcl
      refine cu_W (own := RL) (name := xnm 2) (E := xnm 2) hown [] ⟨0, 9, 12, 13⟩ [⟨0, 9, 15, 21⟩] htab (fun z hz => nomatch hz) (by decide) (by decide) (hts (.classLink RL 13 (xnm 2)) (by decide +kernel)) (va_Nw.use rfl (hXs.1 (.castable (xnm 2) (xnm 2)) (by decide +kernel))) hce hcv hcl ?_
      refine lv_astore_n (lv' := (3, .ref q9) :: [(0, .ref (ad 0)), (1, .int p1), (2, .ref ao)]) hx hb dL_process_12 rfl hl (by decide) rfl (fun ls hl => ?_)
      refine lv_iconst (v := 1) hx hb dL_process_13 (by decide) ?_
      exact h_oret (r := F_X2_process S p1) hx hb hr hlocks hPx hO1 (by rw [hkd]; rfl) hS1 (by rw [hkd]; decide) dL_process_14
    · rw [hkd] at hcl
      refine cu_W (own := RL) (name := xnm 3) (E := xnm 3) hown [⟨0, 9, 12, 13⟩] ⟨0, 9, 15, 21⟩ [] htab (fun z hz => by
          simp only [List.mem_cons, List.not_mem_nil, or_false] at hz
          rcases hz with rfl
          · exact Or.inr ⟨by decide, xnm 2, hts (.classLink RL 13 (xnm 2)) (by decide +kernel), hXs.2.2.2.2⟩) (by decide) (by decide) (hts (.classLink RL 21 (xnm 3)) (by decide +kernel)) (va_Nw.use rfl (hXs.1 (.castable (xnm 3) (xnm 3)) (by decide +kernel))) hce hcv hcl ?_
      refine lv_astore_n (lv' := (3, .ref q9) :: [(0, .ref (ad 0)), (1, .int p1), (2, .ref ao)]) hx hb dL_process_15 rfl hl (by decide) rfl (fun ls hl => ?_)
      refine lv_iconst (v := 2) hx hb dL_process_16 (by decide) ?_
      exact h_oret (r := F_X2_process S p1) hx hb hr hlocks hPx hO1 (by rw [hkd]; rfl) hS1 (by rw [hkd]; decide) dL_process_17
  · have hPx : va_P D vwCl (cwl cy ad (F_X2_process S p1).1) H1 := by rw [← ht]; exact hB
    obtain ⟨rfl, hkd⟩ := hpo
    have hO1 : oAt D cy ao w H1 := hO.kept (hk1 ao (o_not hP hO hne).1 (o_not hP hO hne).2)
    refine lv_i2l hx hb dL_process_7 rfl ?_
    refine o_sto hx hb hK hPx hO1 hap hao hne hS1 dL_process_8 (fun H1 locs1 hPx hO1 hS1 => ?_)
    refine lv_goto (tgt := 18) hx hb dL_process_9 (by decide) ?_
    refine lv_iconst (v := 0) hx hb dL_process_18 (by decide) ?_
    exact h_oret (r := F_X2_process S p1) hx hb hr hlocks hPx hO1 (by rw [if_pos hkd]) hS1 (by rw [hkd]; decide) dL_process_19
set_option maxHeartbeats 1000000 in
set_option maxRecDepth 100000 in
theorem k_L_burst (l : Launch) (hlst : l.stackTraces = false) (D : va_G) (cy : Nat → ClassId) (ad sa : Nat → Nat) (ao : Nat) (w : Int64) (S : Cs) (p1 : Int32) (p2 : Int32)  {N L b : Nat} (hok : okC N L b S)  : hMi l yL_burst wsL_burst { frames := 7, cells := 1, slots := 6, locals := 122 } D cy ad sa ao [.ref (ad 0), .int p1, .int p2, .ref ao] S w (F_X2_burst S p1 p2) (hc [1, 2, 3] (F_X2_burst S p1 p2).2.2) := by
  intro sz
  refine vx_ofWH (cc := cL_burst) (maxL := 5) (ret := some .int) (hh := [(0, 10, 13, 19), (0, 10, 17, 13), (0, 10, 21, 21)]) (by decide) rfl ?_
  intro p e s m args below meth c s₁ B hml hv
  obtain ⟨rfl, ⟨hsz, hP, hK, hap0, hN⟩, hXs, hZu, hZn, hO, hne⟩ := hv
  have hx := B.exec
  have hb := B.bytes
  have hr := B.returns
  have hts := atoms_spec (ws := wsL_burst) B.pre
  have hown : s.vm.findClass RL = some m.cls := findClass_of_methodNamed B.named
  have hlocks := B.notSynchronized
  have htab : c.exceptionTable.toList = tableOf [(0, 10, 13, 19), (0, 10, 17, 13), (0, 10, 21, 21)] := vx_table (x := yL_burst) B (hts (.codeWith yL_burst cL_burst 5 (some .int) [(0, 10, 13, 19), (0, 10, 17, 13), (0, 10, 21, 21)]) List.mem_cons_self)
  subst hsz
  have hap : gw_ap 48 ad (gB ad ao s.heap.size) := ⟨hap0.1, fun k hk => Or.inl (gA_in hk)⟩
  have hao : gB ad ao s.heap.size ao := Or.inr rfl
  have hA : ∀ q : Nat, s.heap.size ≤ q → gB ad ao s.heap.size q := fun q h => Or.inl (Or.inr h)
  generalize gB ad ao s.heap.size = A at hap hao hA hZu hZn ⊢
  have hS : va_S A s.heap s.heap [] := va_S.rf
  have hl := lv_entry ([.ref (ad 0), .int p1, .int p2, .ref ao]) (n := 5) (Nat.le_of_ble_eq_true rfl)
  rw [lg_entry_eq]
  generalize (lg_sl ([.ref (ad 0), .int p1, .int p2, .ref ao]) ++ List.replicate (5 - (lg_sl ([.ref (ad 0), .int p1, .int p2, .ref ao])).length) Slot.unset).toArray = ls at hl ⊢
  have hl : lv_has ls 5 [(0, .ref (ad 0)), (1, .int p1), (2, .int p2), (3, .ref ao)] := hl
  refine lv_aload_n hx hb dL_burst_0 rfl (lv_at hl 3 rfl) ?_
  refine lv_iconst (v := 0) hx hb dL_burst_1 (by decide) ?_
  refine lv_aload_n hx hb dL_burst_2 rfl (lv_at hl 0 rfl) ?_
  refine lv_iload_n hx hb dL_burst_3 rfl (lv_at hl 1 rfl) ?_
  refine lv_iload_n hx hb dL_burst_4 rfl (lv_at hl 2 rfl) ?_
  refine vx_calli (vx_runV (C := RX2) (As := [.int p1, .int p2]) (rest := [.int 0, .ref ao]) ⟨hx, hb, hml, hown, hts⟩ (k_X2_burst l hlst D cy ad sa S p1 p2 hok s.heap.size) (cwV 2 hts gL_burst_X2_burst rfl rfl rfl (by decide +kernel) ⟨Nat.le_of_ble_eq_true rfl, Nat.le_of_ble_eq_true rfl⟩) ⟨xPre_blind, c_recv (q := (RX2, TX2, 12)) (ci := 2) hK hP (by omega) (cE_O cy ad S) rfl, x_pre hK hap hA hN hXs hZu hZn hP hS⟩ rfl rfl hl.1 rfl (Nat.le_of_ble_eq_true rfl) dL_burst_5 ⟨Nat.le_of_ble_eq_true rfl, Nat.le_of_ble_eq_true rfl⟩) hS (fun q _ h => gA_free hap hS hA q h) (gA_free hap hS hA) (fun q _ h => gA_free hap hS hA q h) (fun E ce q9 u t H1 locs1 ht hvm _ hBX hz hk1 hS1 hce hcv hcl => ?_) (fun r u t H1 locs1 ht hvm hpo hB hz hk1 hS1 => ?_)
  · obtain ⟨hk0, rfl, hPx⟩ := hBX
    have hPx : va_P D vwCl (cwl cy ad (F_X2_burst S p1 p2).1) H1 := by rw [← ht]; exact hPx
    have hO1 : oAt D cy ao w H1 := hO.kept (hk1 ao (o_not hP hO hne).1 (o_not hP hO hne).2)
    rcases kd_burst S p1 p2 with hkd | hkd | hkd | hkd
    · exact absurd hkd hk0
    · rw [hkd] at hcl
      refine cu_W (own := RL) (name := xnm 1) (E := xnm 1) hown [] ⟨0, 10, 13, 19⟩ [⟨0, 10, 17, 13⟩, ⟨0, 10, 21, 21⟩] htab (fun z hz => nomatch hz) (by decide) (by decide) (hts (.classLink RL 19 (xnm 1)) (by decide +kernel)) (va_Nw.use rfl (hXs.1 (.castable (xnm 1) (xnm 1)) (by decide +kernel))) hce hcv hcl ?_
      refine lv_astore (lv' := (4, .ref q9) :: [(0, .ref (ad 0)), (1, .int p1), (2, .int p2), (3, .ref ao)]) hx hb dL_burst_13 hl (by decide) rfl (fun ls hl => ?_)
      refine lv_iconst (v := 1) hx hb dL_burst_15 (by decide) ?_
      exact h_oret (r := F_X2_burst S p1 p2) hx hb hr hlocks hPx hO1 (by rw [hkd]; rfl) hS1 (by rw [hkd]; decide) dL_burst_16
    · rw [hkd] at hcl
      refine cu_W (own := RL) (name := xnm 2) (E := xnm 2) hown [⟨0, 10, 13, 19⟩] ⟨0, 10, 17, 13⟩ [⟨0, 10, 21, 21⟩] htab (fun z hz => by
          simp only [List.mem_cons, List.not_mem_nil, or_false] at hz
          rcases hz with rfl
          · exact Or.inr ⟨by decide, xnm 1, hts (.classLink RL 19 (xnm 1)) (by decide +kernel), hXs.2.2.1⟩) (by decide) (by decide) (hts (.classLink RL 13 (xnm 2)) (by decide +kernel)) (va_Nw.use rfl (hXs.1 (.castable (xnm 2) (xnm 2)) (by decide +kernel))) hce hcv hcl ?_
      refine lv_astore (lv' := (4, .ref q9) :: [(0, .ref (ad 0)), (1, .int p1), (2, .int p2), (3, .ref ao)]) hx hb dL_burst_17 hl (by decide) rfl (fun ls hl => ?_)
      refine lv_iconst (v := 2) hx hb dL_burst_19 (by decide) ?_
      exact h_oret (r := F_X2_burst S p1 p2) hx hb hr hlocks hPx hO1 (by rw [hkd]; rfl) hS1 (by rw [hkd]; decide) dL_burst_20
    · rw [hkd] at hcl
      refine cu_W (own := RL) (name := xnm 3) (E := xnm 3) hown [⟨0, 10, 13, 19⟩, ⟨0, 10, 17, 13⟩] ⟨0, 10, 21, 21⟩ [] htab (fun z hz => by
          simp only [List.mem_cons, List.not_mem_nil, or_false] at hz
          rcases hz with rfl | rfl
          · exact Or.inr ⟨by decide, xnm 1, hts (.classLink RL 19 (xnm 1)) (by decide +kernel), hXs.2.2.2.1⟩
          · exact Or.inr ⟨by decide, xnm 2, hts (.classLink RL 13 (xnm 2)) (by decide +kernel), hXs.2.2.2.2⟩) (by decide) (by decide) (hts (.classLink RL 21 (xnm 3)) (by decide +kernel)) (va_Nw.use rfl (hXs.1 (.castable (xnm 3) (xnm 3)) (by decide +kernel))) hce hcv hcl ?_
      refine lv_astore (lv' := (4, .ref q9) :: [(0, .ref (ad 0)), (1, .int p1), (2, .int p2), (3, .ref ao)]) hx hb dL_burst_21 hl (by decide) rfl (fun ls hl => ?_)
      refine lv_iconst (v := 3) hx hb dL_burst_23 (by decide) ?_
      exact h_oret (r := F_X2_burst S p1 p2) hx hb hr hlocks hPx hO1 (by rw [hkd]; rfl) hS1 (by rw [hkd]; decide) dL_burst_24
  · have hPx : va_P D vwCl (cwl cy ad (F_X2_burst S p1 p2).1) H1 := by rw [← ht]; exact hB
    obtain ⟨rfl, hkd⟩ := hpo
    have hO1 : oAt D cy ao w H1 := hO.kept (hk1 ao (o_not hP hO hne).1 (o_not hP hO hne).2)
    refine lv_i2l hx hb dL_burst_8 rfl ?_
    refine o_sto hx hb hK hPx hO1 hap hao hne hS1 dL_burst_9 (fun H1 locs1 hPx hO1 hS1 => ?_)
    refine lv_goto (tgt := 25) hx hb dL_burst_10 (by decide) ?_
    refine lv_iconst (v := 0) hx hb dL_burst_25 (by decide) ?_
    exact h_oret (r := F_X2_burst S p1 p2) hx hb hr hlocks hPx hO1 (by rw [if_pos hkd]) hS1 (by rw [hkd]; decide) dL_burst_26
set_option maxHeartbeats 1000000 in
set_option maxRecDepth 100000 in
theorem k_L_run (l : Launch) (hlst : l.stackTraces = false) (D : va_G) (cy : Nat → ClassId) (ad sa : Nat → Nat) (ao : Nat) (w : Int64) (S : Cs) (p1 : Int32)  {N L b : Nat} (hok : okC N L b S) (hb30 : b + 30000 < 2 ^ 30) : hMi l yL_run wsL_run { frames := 7, cells := 1, slots := 6, locals := 128 } D cy ad sa ao [.ref (ad 0), .int p1, .ref ao] S w (F_X2_run S p1) (hc [2] (F_X2_run S p1).2.2) := by
  intro sz
  refine vx_ofWH (cc := cL_run) (maxL := 4) (ret := some .int) (hh := [(0, 9, 12, 13)]) (by decide) rfl ?_
  intro p e s m args below meth c s₁ B hml hv
  obtain ⟨rfl, ⟨hsz, hP, hK, hap0, hN⟩, hXs, hZu, hZn, hO, hne⟩ := hv
  have hx := B.exec
  have hb := B.bytes
  have hr := B.returns
  have hts := atoms_spec (ws := wsL_run) B.pre
  have hown : s.vm.findClass RL = some m.cls := findClass_of_methodNamed B.named
  have hlocks := B.notSynchronized
  have htab : c.exceptionTable.toList = tableOf [(0, 9, 12, 13)] := vx_table (x := yL_run) B (hts (.codeWith yL_run cL_run 4 (some .int) [(0, 9, 12, 13)]) List.mem_cons_self)
  subst hsz
  have hap : gw_ap 48 ad (gB ad ao s.heap.size) := ⟨hap0.1, fun k hk => Or.inl (gA_in hk)⟩
  have hao : gB ad ao s.heap.size ao := Or.inr rfl
  have hA : ∀ q : Nat, s.heap.size ≤ q → gB ad ao s.heap.size q := fun q h => Or.inl (Or.inr h)
  generalize gB ad ao s.heap.size = A at hap hao hA hZu hZn ⊢
  have hS : va_S A s.heap s.heap [] := va_S.rf
  have hl := lv_entry ([.ref (ad 0), .int p1, .ref ao]) (n := 4) (Nat.le_of_ble_eq_true rfl)
  rw [lg_entry_eq]
  generalize (lg_sl ([.ref (ad 0), .int p1, .ref ao]) ++ List.replicate (4 - (lg_sl ([.ref (ad 0), .int p1, .ref ao])).length) Slot.unset).toArray = ls at hl ⊢
  have hl : lv_has ls 4 [(0, .ref (ad 0)), (1, .int p1), (2, .ref ao)] := hl
  refine lv_aload_n hx hb dL_run_0 rfl (lv_at hl 2 rfl) ?_
  refine lv_iconst (v := 0) hx hb dL_run_1 (by decide) ?_
  refine lv_aload_n hx hb dL_run_2 rfl (lv_at hl 0 rfl) ?_
  refine lv_iload_n hx hb dL_run_3 rfl (lv_at hl 1 rfl) ?_
  refine vx_calli (vx_runV (C := RX2) (As := [.int p1]) (rest := [.int 0, .ref ao]) ⟨hx, hb, hml, hown, hts⟩ (k_X2_run l hlst D cy ad sa S p1 hok hb30 s.heap.size) (cwV 1 hts gL_run_X2_run rfl rfl rfl (by decide +kernel) ⟨Nat.le_of_ble_eq_true rfl, Nat.le_of_ble_eq_true rfl⟩) ⟨xPre_blind, c_recv (q := (RX2, TX2, 12)) (ci := 2) hK hP (by omega) (cE_O cy ad S) rfl, x_pre hK hap hA hN hXs hZu hZn hP hS⟩ rfl rfl hl.1 rfl (Nat.le_of_ble_eq_true rfl) dL_run_4 ⟨Nat.le_of_ble_eq_true rfl, Nat.le_of_ble_eq_true rfl⟩) hS (fun q _ h => gA_free hap hS hA q h) (gA_free hap hS hA) (fun q _ h => gA_free hap hS hA q h) (fun E ce q9 u t H1 locs1 ht hvm _ hBX hz hk1 hS1 hce hcv hcl => ?_) (fun r u t H1 locs1 ht hvm hpo hB hz hk1 hS1 => ?_)
  · obtain ⟨hk0, rfl, hPx⟩ := hBX
    have hPx : va_P D vwCl (cwl cy ad (F_X2_run S p1).1) H1 := by rw [← ht]; exact hPx
    have hO1 : oAt D cy ao w H1 := hO.kept (hk1 ao (o_not hP hO hne).1 (o_not hP hO hne).2)
    rcases kd_run S p1 with hkd | hkd
    · exact absurd hkd hk0
    · rw [hkd] at hcl
      refine cu_W (own := RL) (name := xnm 2) (E := xnm 2) hown [] ⟨0, 9, 12, 13⟩ [] htab (fun z hz => nomatch hz) (by decide) (by decide) (hts (.classLink RL 13 (xnm 2)) (by decide +kernel)) (va_Nw.use rfl (hXs.1 (.castable (xnm 2) (xnm 2)) (by decide +kernel))) hce hcv hcl ?_
      refine lv_astore_n (lv' := (3, .ref q9) :: [(0, .ref (ad 0)), (1, .int p1), (2, .ref ao)]) hx hb dL_run_12 rfl hl (by decide) rfl (fun ls hl => ?_)
      refine lv_iconst (v := 1) hx hb dL_run_13 (by decide) ?_
      exact h_oret (r := F_X2_run S p1) hx hb hr hlocks hPx hO1 (by rw [hkd]; rfl) hS1 (by rw [hkd]; decide) dL_run_14
  · have hPx : va_P D vwCl (cwl cy ad (F_X2_run S p1).1) H1 := by rw [← ht]; exact hB
    obtain ⟨rfl, hkd⟩ := hpo
    have hO1 : oAt D cy ao w H1 := hO.kept (hk1 ao (o_not hP hO hne).1 (o_not hP hO hne).2)
    refine lv_i2l hx hb dL_run_7 rfl ?_
    refine o_sto hx hb hK hPx hO1 hap hao hne hS1 dL_run_8 (fun H1 locs1 hPx hO1 hS1 => ?_)
    refine lv_goto (tgt := 15) hx hb dL_run_9 (by decide) ?_
    refine lv_iconst (v := 0) hx hb dL_run_15 (by decide) ?_
    exact h_oret (r := F_X2_run S p1) hx hb hr hlocks hPx hO1 (by rw [if_pos hkd]) hS1 (by rw [hkd]; decide) dL_run_16
set_option maxHeartbeats 1000000 in
set_option maxRecDepth 100000 in
theorem k_L_told (l : Launch) (hlst : l.stackTraces = false) (D : va_G) (cy : Nat → ClassId) (ad sa : Nat → Nat) (ao : Nat) (w : Int64) (S : Cs) (p1 : Int32) (p2 : Int32)  {N L b : Nat} (hok : okC N L b S)  : hMi l yL_told wsL_told { frames := 7, cells := 1, slots := 6, locals := 123 } D cy ad sa ao [.ref (ad 0), .int p1, .int p2, .ref ao] S w (F_X2_told S p1 p2) (hc [1, 2] (F_X2_told S p1 p2).2.2) := by
  intro sz
  refine vx_ofWH (cc := cL_told) (maxL := 5) (ret := some .int) (hh := [(0, 10, 13, 19), (0, 10, 17, 13)]) (by decide) rfl ?_
  intro p e s m args below meth c s₁ B hml hv
  obtain ⟨rfl, ⟨hsz, hP, hK, hap0, hN⟩, hXs, hZu, hZn, hO, hne⟩ := hv
  have hx := B.exec
  have hb := B.bytes
  have hr := B.returns
  have hts := atoms_spec (ws := wsL_told) B.pre
  have hown : s.vm.findClass RL = some m.cls := findClass_of_methodNamed B.named
  have hlocks := B.notSynchronized
  have htab : c.exceptionTable.toList = tableOf [(0, 10, 13, 19), (0, 10, 17, 13)] := vx_table (x := yL_told) B (hts (.codeWith yL_told cL_told 5 (some .int) [(0, 10, 13, 19), (0, 10, 17, 13)]) List.mem_cons_self)
  subst hsz
  have hap : gw_ap 48 ad (gB ad ao s.heap.size) := ⟨hap0.1, fun k hk => Or.inl (gA_in hk)⟩
  have hao : gB ad ao s.heap.size ao := Or.inr rfl
  have hA : ∀ q : Nat, s.heap.size ≤ q → gB ad ao s.heap.size q := fun q h => Or.inl (Or.inr h)
  generalize gB ad ao s.heap.size = A at hap hao hA hZu hZn ⊢
  have hS : va_S A s.heap s.heap [] := va_S.rf
  have hl := lv_entry ([.ref (ad 0), .int p1, .int p2, .ref ao]) (n := 5) (Nat.le_of_ble_eq_true rfl)
  rw [lg_entry_eq]
  generalize (lg_sl ([.ref (ad 0), .int p1, .int p2, .ref ao]) ++ List.replicate (5 - (lg_sl ([.ref (ad 0), .int p1, .int p2, .ref ao])).length) Slot.unset).toArray = ls at hl ⊢
  have hl : lv_has ls 5 [(0, .ref (ad 0)), (1, .int p1), (2, .int p2), (3, .ref ao)] := hl
  refine lv_aload_n hx hb dL_told_0 rfl (lv_at hl 3 rfl) ?_
  refine lv_iconst (v := 0) hx hb dL_told_1 (by decide) ?_
  refine lv_aload_n hx hb dL_told_2 rfl (lv_at hl 0 rfl) ?_
  refine lv_iload_n hx hb dL_told_3 rfl (lv_at hl 1 rfl) ?_
  refine lv_iload_n hx hb dL_told_4 rfl (lv_at hl 2 rfl) ?_
  refine vx_calli (vx_runV (C := RX2) (As := [.int p1, .int p2]) (rest := [.int 0, .ref ao]) ⟨hx, hb, hml, hown, hts⟩ (k_X2_told l hlst D cy ad sa S p1 p2 hok s.heap.size) (cwV 2 hts gL_told_X2_told rfl rfl rfl (by decide +kernel) ⟨Nat.le_of_ble_eq_true rfl, Nat.le_of_ble_eq_true rfl⟩) ⟨xPre_blind, c_recv (q := (RX2, TX2, 12)) (ci := 2) hK hP (by omega) (cE_O cy ad S) rfl, x_pre hK hap hA hN hXs hZu hZn hP hS⟩ rfl rfl hl.1 rfl (Nat.le_of_ble_eq_true rfl) dL_told_5 ⟨Nat.le_of_ble_eq_true rfl, Nat.le_of_ble_eq_true rfl⟩) hS (fun q _ h => gA_free hap hS hA q h) (gA_free hap hS hA) (fun q _ h => gA_free hap hS hA q h) (fun E ce q9 u t H1 locs1 ht hvm _ hBX hz hk1 hS1 hce hcv hcl => ?_) (fun r u t H1 locs1 ht hvm hpo hB hz hk1 hS1 => ?_)
  · obtain ⟨hk0, rfl, hPx⟩ := hBX
    have hPx : va_P D vwCl (cwl cy ad (F_X2_told S p1 p2).1) H1 := by rw [← ht]; exact hPx
    have hO1 : oAt D cy ao w H1 := hO.kept (hk1 ao (o_not hP hO hne).1 (o_not hP hO hne).2)
    rcases kd_told S p1 p2 with hkd | hkd | hkd
    · exact absurd hkd hk0
    · rw [hkd] at hcl
      refine cu_W (own := RL) (name := xnm 1) (E := xnm 1) hown [] ⟨0, 10, 13, 19⟩ [⟨0, 10, 17, 13⟩] htab (fun z hz => nomatch hz) (by decide) (by decide) (hts (.classLink RL 19 (xnm 1)) (by decide +kernel)) (va_Nw.use rfl (hXs.1 (.castable (xnm 1) (xnm 1)) (by decide +kernel))) hce hcv hcl ?_
      refine lv_astore (lv' := (4, .ref q9) :: [(0, .ref (ad 0)), (1, .int p1), (2, .int p2), (3, .ref ao)]) hx hb dL_told_13 hl (by decide) rfl (fun ls hl => ?_)
      refine lv_iconst (v := 1) hx hb dL_told_15 (by decide) ?_
      exact h_oret (r := F_X2_told S p1 p2) hx hb hr hlocks hPx hO1 (by rw [hkd]; rfl) hS1 (by rw [hkd]; decide) dL_told_16
    · rw [hkd] at hcl
      refine cu_W (own := RL) (name := xnm 2) (E := xnm 2) hown [⟨0, 10, 13, 19⟩] ⟨0, 10, 17, 13⟩ [] htab (fun z hz => by
          simp only [List.mem_cons, List.not_mem_nil, or_false] at hz
          rcases hz with rfl
          · exact Or.inr ⟨by decide, xnm 1, hts (.classLink RL 19 (xnm 1)) (by decide +kernel), hXs.2.2.1⟩) (by decide) (by decide) (hts (.classLink RL 13 (xnm 2)) (by decide +kernel)) (va_Nw.use rfl (hXs.1 (.castable (xnm 2) (xnm 2)) (by decide +kernel))) hce hcv hcl ?_
      refine lv_astore (lv' := (4, .ref q9) :: [(0, .ref (ad 0)), (1, .int p1), (2, .int p2), (3, .ref ao)]) hx hb dL_told_17 hl (by decide) rfl (fun ls hl => ?_)
      refine lv_iconst (v := 2) hx hb dL_told_19 (by decide) ?_
      exact h_oret (r := F_X2_told S p1 p2) hx hb hr hlocks hPx hO1 (by rw [hkd]; rfl) hS1 (by rw [hkd]; decide) dL_told_20
  · have hPx : va_P D vwCl (cwl cy ad (F_X2_told S p1 p2).1) H1 := by rw [← ht]; exact hB
    obtain ⟨rfl, hkd⟩ := hpo
    have hO1 : oAt D cy ao w H1 := hO.kept (hk1 ao (o_not hP hO hne).1 (o_not hP hO hne).2)
    refine lv_i2l hx hb dL_told_8 rfl ?_
    refine o_sto hx hb hK hPx hO1 hap hao hne hS1 dL_told_9 (fun H1 locs1 hPx hO1 hS1 => ?_)
    refine lv_goto (tgt := 21) hx hb dL_told_10 (by decide) ?_
    refine lv_iconst (v := 0) hx hb dL_told_21 (by decide) ?_
    exact h_oret (r := F_X2_told S p1 p2) hx hb hr hlocks hPx hO1 (by rw [if_pos hkd]) hS1 (by rw [hkd]; decide) dL_told_22
set_option maxHeartbeats 1000000 in
set_option maxRecDepth 100000 in
theorem k_L_queued (l : Launch) (hlst : l.stackTraces = false) (D : va_G) (cy : Nat → ClassId) (ad sa : Nat → Nat) (ao : Nat) (w : Int64) (S : Cs) (p1 : Int32) (p2 : Int32)  {N L b : Nat} (hok : okC N L b S)  : hMi l yL_queued wsL_queued { frames := 7, cells := 1, slots := 6, locals := 122 } D cy ad sa ao [.ref (ad 0), .int p1, .int p2, .ref ao] S w (F_X2_queued S p1 p2) (hc [1] (F_X2_queued S p1 p2).2.2) := by
  intro sz
  refine vx_ofWH (cc := cL_queued) (maxL := 5) (ret := some .int) (hh := [(0, 10, 13, 19)]) (by decide) rfl ?_
  intro p e s m args below meth c s₁ B hml hv
  obtain ⟨rfl, ⟨hsz, hP, hK, hap0, hN⟩, hXs, hZu, hZn, hO, hne⟩ := hv
  have hx := B.exec
  have hb := B.bytes
  have hr := B.returns
  have hts := atoms_spec (ws := wsL_queued) B.pre
  have hown : s.vm.findClass RL = some m.cls := findClass_of_methodNamed B.named
  have hlocks := B.notSynchronized
  have htab : c.exceptionTable.toList = tableOf [(0, 10, 13, 19)] := vx_table (x := yL_queued) B (hts (.codeWith yL_queued cL_queued 5 (some .int) [(0, 10, 13, 19)]) List.mem_cons_self)
  subst hsz
  have hap : gw_ap 48 ad (gB ad ao s.heap.size) := ⟨hap0.1, fun k hk => Or.inl (gA_in hk)⟩
  have hao : gB ad ao s.heap.size ao := Or.inr rfl
  have hA : ∀ q : Nat, s.heap.size ≤ q → gB ad ao s.heap.size q := fun q h => Or.inl (Or.inr h)
  generalize gB ad ao s.heap.size = A at hap hao hA hZu hZn ⊢
  have hS : va_S A s.heap s.heap [] := va_S.rf
  have hl := lv_entry ([.ref (ad 0), .int p1, .int p2, .ref ao]) (n := 5) (Nat.le_of_ble_eq_true rfl)
  rw [lg_entry_eq]
  generalize (lg_sl ([.ref (ad 0), .int p1, .int p2, .ref ao]) ++ List.replicate (5 - (lg_sl ([.ref (ad 0), .int p1, .int p2, .ref ao])).length) Slot.unset).toArray = ls at hl ⊢
  have hl : lv_has ls 5 [(0, .ref (ad 0)), (1, .int p1), (2, .int p2), (3, .ref ao)] := hl
  refine lv_aload_n hx hb dL_queued_0 rfl (lv_at hl 3 rfl) ?_
  refine lv_iconst (v := 0) hx hb dL_queued_1 (by decide) ?_
  refine lv_aload_n hx hb dL_queued_2 rfl (lv_at hl 0 rfl) ?_
  refine lv_iload_n hx hb dL_queued_3 rfl (lv_at hl 1 rfl) ?_
  refine lv_iload_n hx hb dL_queued_4 rfl (lv_at hl 2 rfl) ?_
  refine vx_calli (vx_runV (C := RX2) (As := [.int p1, .int p2]) (rest := [.int 0, .ref ao]) ⟨hx, hb, hml, hown, hts⟩ (k_X2_queued l hlst D cy ad sa S p1 p2 hok s.heap.size) (cwV 2 hts gL_queued_X2_queued rfl rfl rfl (by decide +kernel) ⟨Nat.le_of_ble_eq_true rfl, Nat.le_of_ble_eq_true rfl⟩) ⟨xPre_blind, c_recv (q := (RX2, TX2, 12)) (ci := 2) hK hP (by omega) (cE_O cy ad S) rfl, x_pre hK hap hA hN hXs hZu hZn hP hS⟩ rfl rfl hl.1 rfl (Nat.le_of_ble_eq_true rfl) dL_queued_5 ⟨Nat.le_of_ble_eq_true rfl, Nat.le_of_ble_eq_true rfl⟩) hS (fun q _ h => gA_free hap hS hA q h) (gA_free hap hS hA) (fun q _ h => gA_free hap hS hA q h) (fun E ce q9 u t H1 locs1 ht hvm _ hBX hz hk1 hS1 hce hcv hcl => ?_) (fun r u t H1 locs1 ht hvm hpo hB hz hk1 hS1 => ?_)
  · obtain ⟨hk0, rfl, hPx⟩ := hBX
    have hPx : va_P D vwCl (cwl cy ad (F_X2_queued S p1 p2).1) H1 := by rw [← ht]; exact hPx
    have hO1 : oAt D cy ao w H1 := hO.kept (hk1 ao (o_not hP hO hne).1 (o_not hP hO hne).2)
    rcases kd_queued S p1 p2 with hkd | hkd
    · exact absurd hkd hk0
    · rw [hkd] at hcl
      refine cu_W (own := RL) (name := xnm 1) (E := xnm 1) hown [] ⟨0, 10, 13, 19⟩ [] htab (fun z hz => nomatch hz) (by decide) (by decide) (hts (.classLink RL 19 (xnm 1)) (by decide +kernel)) (va_Nw.use rfl (hXs.1 (.castable (xnm 1) (xnm 1)) (by decide +kernel))) hce hcv hcl ?_
      refine lv_astore (lv' := (4, .ref q9) :: [(0, .ref (ad 0)), (1, .int p1), (2, .int p2), (3, .ref ao)]) hx hb dL_queued_13 hl (by decide) rfl (fun ls hl => ?_)
      refine lv_iconst (v := 1) hx hb dL_queued_15 (by decide) ?_
      exact h_oret (r := F_X2_queued S p1 p2) hx hb hr hlocks hPx hO1 (by rw [hkd]; rfl) hS1 (by rw [hkd]; decide) dL_queued_16
  · have hPx : va_P D vwCl (cwl cy ad (F_X2_queued S p1 p2).1) H1 := by rw [← ht]; exact hB
    obtain ⟨rfl, hkd⟩ := hpo
    have hO1 : oAt D cy ao w H1 := hO.kept (hk1 ao (o_not hP hO hne).1 (o_not hP hO hne).2)
    refine lv_i2l hx hb dL_queued_8 rfl ?_
    refine o_sto hx hb hK hPx hO1 hap hao hne hS1 dL_queued_9 (fun H1 locs1 hPx hO1 hS1 => ?_)
    refine lv_goto (tgt := 17) hx hb dL_queued_10 (by decide) ?_
    refine lv_iconst (v := 0) hx hb dL_queued_17 (by decide) ?_
    exact h_oret (r := F_X2_queued S p1 p2) hx hb hr hlocks hPx hO1 (by rw [if_pos hkd]) hS1 (by rw [hkd]; decide) dL_queued_18
set_option maxHeartbeats 1000000 in
set_option maxRecDepth 100000 in
theorem k_L_all (l : Launch) (hlst : l.stackTraces = false) (D : va_G) (cy : Nat → ClassId) (ad sa : Nat → Nat) (ao : Nat) (w : Int64) (S : Cs) (p1 : Int32)   : hMi l yL_all wsL_all { frames := 7, cells := 1, slots := 6, locals := 121 } D cy ad sa ao [.ref (ad 0), .int p1, .ref ao] S w (F_X2_all S p1) (hc [2] (F_X2_all S p1).2.2) := by
  intro sz
  refine vx_ofWH (cc := cL_all) (maxL := 4) (ret := some .int) (hh := [(0, 9, 12, 13)]) (by decide) rfl ?_
  intro p e s m args below meth c s₁ B hml hv
  obtain ⟨rfl, ⟨hsz, hP, hK, hap0, hN⟩, hXs, hZu, hZn, hO, hne⟩ := hv
  have hx := B.exec
  have hb := B.bytes
  have hr := B.returns
  have hts := atoms_spec (ws := wsL_all) B.pre
  have hown : s.vm.findClass RL = some m.cls := findClass_of_methodNamed B.named
  have hlocks := B.notSynchronized
  have htab : c.exceptionTable.toList = tableOf [(0, 9, 12, 13)] := vx_table (x := yL_all) B (hts (.codeWith yL_all cL_all 4 (some .int) [(0, 9, 12, 13)]) List.mem_cons_self)
  subst hsz
  have hap : gw_ap 48 ad (gB ad ao s.heap.size) := ⟨hap0.1, fun k hk => Or.inl (gA_in hk)⟩
  have hao : gB ad ao s.heap.size ao := Or.inr rfl
  have hA : ∀ q : Nat, s.heap.size ≤ q → gB ad ao s.heap.size q := fun q h => Or.inl (Or.inr h)
  generalize gB ad ao s.heap.size = A at hap hao hA hZu hZn ⊢
  have hS : va_S A s.heap s.heap [] := va_S.rf
  have hl := lv_entry ([.ref (ad 0), .int p1, .ref ao]) (n := 4) (Nat.le_of_ble_eq_true rfl)
  rw [lg_entry_eq]
  generalize (lg_sl ([.ref (ad 0), .int p1, .ref ao]) ++ List.replicate (4 - (lg_sl ([.ref (ad 0), .int p1, .ref ao])).length) Slot.unset).toArray = ls at hl ⊢
  have hl : lv_has ls 4 [(0, .ref (ad 0)), (1, .int p1), (2, .ref ao)] := hl
  refine lv_aload_n hx hb dL_all_0 rfl (lv_at hl 2 rfl) ?_
  refine lv_iconst (v := 0) hx hb dL_all_1 (by decide) ?_
  refine lv_aload_n hx hb dL_all_2 rfl (lv_at hl 0 rfl) ?_
  refine lv_iload_n hx hb dL_all_3 rfl (lv_at hl 1 rfl) ?_
  refine vx_calli (vx_runV (C := RX2) (As := [.int p1]) (rest := [.int 0, .ref ao]) ⟨hx, hb, hml, hown, hts⟩ (k_X2_all l hlst D cy ad sa S p1  s.heap.size) (cwV 1 hts gL_all_X2_all rfl rfl rfl (by decide +kernel) ⟨Nat.le_of_ble_eq_true rfl, Nat.le_of_ble_eq_true rfl⟩) ⟨xPre_blind, c_recv (q := (RX2, TX2, 12)) (ci := 2) hK hP (by omega) (cE_O cy ad S) rfl, x_pre hK hap hA hN hXs hZu hZn hP hS⟩ rfl rfl hl.1 rfl (Nat.le_of_ble_eq_true rfl) dL_all_4 ⟨Nat.le_of_ble_eq_true rfl, Nat.le_of_ble_eq_true rfl⟩) hS (fun q _ h => gA_free hap hS hA q h) (gA_free hap hS hA) (fun q _ h => gA_free hap hS hA q h) (fun E ce q9 u t H1 locs1 ht hvm _ hBX hz hk1 hS1 hce hcv hcl => ?_) (fun r u t H1 locs1 ht hvm hpo hB hz hk1 hS1 => ?_)
  · obtain ⟨hk0, rfl, hPx⟩ := hBX
    have hPx : va_P D vwCl (cwl cy ad (F_X2_all S p1).1) H1 := by rw [← ht]; exact hPx
    have hO1 : oAt D cy ao w H1 := hO.kept (hk1 ao (o_not hP hO hne).1 (o_not hP hO hne).2)
    rcases kd_all S p1 with hkd | hkd
    · exact absurd hkd hk0
    · rw [hkd] at hcl
      refine cu_W (own := RL) (name := xnm 2) (E := xnm 2) hown [] ⟨0, 9, 12, 13⟩ [] htab (fun z hz => nomatch hz) (by decide) (by decide) (hts (.classLink RL 13 (xnm 2)) (by decide +kernel)) (va_Nw.use rfl (hXs.1 (.castable (xnm 2) (xnm 2)) (by decide +kernel))) hce hcv hcl ?_
      refine lv_astore_n (lv' := (3, .ref q9) :: [(0, .ref (ad 0)), (1, .int p1), (2, .ref ao)]) hx hb dL_all_12 rfl hl (by decide) rfl (fun ls hl => ?_)
      refine lv_iconst (v := 1) hx hb dL_all_13 (by decide) ?_
      exact h_oret (r := F_X2_all S p1) hx hb hr hlocks hPx hO1 (by rw [hkd]; rfl) hS1 (by rw [hkd]; decide) dL_all_14
  · have hPx : va_P D vwCl (cwl cy ad (F_X2_all S p1).1) H1 := by rw [← ht]; exact hB
    obtain ⟨rfl, hkd⟩ := hpo
    have hO1 : oAt D cy ao w H1 := hO.kept (hk1 ao (o_not hP hO hne).1 (o_not hP hO hne).2)
    refine lv_i2l hx hb dL_all_7 rfl ?_
    refine o_sto hx hb hK hPx hO1 hap hao hne hS1 dL_all_8 (fun H1 locs1 hPx hO1 hS1 => ?_)
    refine lv_goto (tgt := 15) hx hb dL_all_9 (by decide) ?_
    refine lv_iconst (v := 0) hx hb dL_all_15 (by decide) ?_
    exact h_oret (r := F_X2_all S p1) hx hb hr hlocks hPx hO1 (by rw [if_pos hkd]) hS1 (by rw [hkd]; decide) dL_all_16
set_option maxHeartbeats 1000000 in
set_option maxRecDepth 100000 in
theorem k_L_switched (l : Launch) (hlst : l.stackTraces = false) (D : va_G) (cy : Nat → ClassId) (ad sa : Nat → Nat) (ao : Nat) (w : Int64) (S : Cs) (p1 : Int32)   : hMi l yL_switched wsL_switched { frames := 7, cells := 1, slots := 6, locals := 121 } D cy ad sa ao [.ref (ad 0), .int p1, .ref ao] S w (F_X2_switched S p1) (hc [1] (F_X2_switched S p1).2.2) := by
  intro sz
  refine vx_ofWH (cc := cL_switched) (maxL := 4) (ret := some .int) (hh := [(0, 9, 12, 19)]) (by decide) rfl ?_
  intro p e s m args below meth c s₁ B hml hv
  obtain ⟨rfl, ⟨hsz, hP, hK, hap0, hN⟩, hXs, hZu, hZn, hO, hne⟩ := hv
  have hx := B.exec
  have hb := B.bytes
  have hr := B.returns
  have hts := atoms_spec (ws := wsL_switched) B.pre
  have hown : s.vm.findClass RL = some m.cls := findClass_of_methodNamed B.named
  have hlocks := B.notSynchronized
  have htab : c.exceptionTable.toList = tableOf [(0, 9, 12, 19)] := vx_table (x := yL_switched) B (hts (.codeWith yL_switched cL_switched 4 (some .int) [(0, 9, 12, 19)]) List.mem_cons_self)
  subst hsz
  have hap : gw_ap 48 ad (gB ad ao s.heap.size) := ⟨hap0.1, fun k hk => Or.inl (gA_in hk)⟩
  have hao : gB ad ao s.heap.size ao := Or.inr rfl
  have hA : ∀ q : Nat, s.heap.size ≤ q → gB ad ao s.heap.size q := fun q h => Or.inl (Or.inr h)
  generalize gB ad ao s.heap.size = A at hap hao hA hZu hZn ⊢
  have hS : va_S A s.heap s.heap [] := va_S.rf
  have hl := lv_entry ([.ref (ad 0), .int p1, .ref ao]) (n := 4) (Nat.le_of_ble_eq_true rfl)
  rw [lg_entry_eq]
  generalize (lg_sl ([.ref (ad 0), .int p1, .ref ao]) ++ List.replicate (4 - (lg_sl ([.ref (ad 0), .int p1, .ref ao])).length) Slot.unset).toArray = ls at hl ⊢
  have hl : lv_has ls 4 [(0, .ref (ad 0)), (1, .int p1), (2, .ref ao)] := hl
  refine lv_aload_n hx hb dL_switched_0 rfl (lv_at hl 2 rfl) ?_
  refine lv_iconst (v := 0) hx hb dL_switched_1 (by decide) ?_
  refine lv_aload_n hx hb dL_switched_2 rfl (lv_at hl 0 rfl) ?_
  refine lv_iload_n hx hb dL_switched_3 rfl (lv_at hl 1 rfl) ?_
  refine vx_calli (vx_runV (C := RX2) (As := [.int p1]) (rest := [.int 0, .ref ao]) ⟨hx, hb, hml, hown, hts⟩ (k_X2_switched l hlst D cy ad sa S p1  s.heap.size) (cwV 1 hts gL_switched_X2_switched rfl rfl rfl (by decide +kernel) ⟨Nat.le_of_ble_eq_true rfl, Nat.le_of_ble_eq_true rfl⟩) ⟨xPre_blind, c_recv (q := (RX2, TX2, 12)) (ci := 2) hK hP (by omega) (cE_O cy ad S) rfl, x_pre hK hap hA hN hXs hZu hZn hP hS⟩ rfl rfl hl.1 rfl (Nat.le_of_ble_eq_true rfl) dL_switched_4 ⟨Nat.le_of_ble_eq_true rfl, Nat.le_of_ble_eq_true rfl⟩) hS (fun q _ h => gA_free hap hS hA q h) (gA_free hap hS hA) (fun q _ h => gA_free hap hS hA q h) (fun E ce q9 u t H1 locs1 ht hvm _ hBX hz hk1 hS1 hce hcv hcl => ?_) (fun r u t H1 locs1 ht hvm hpo hB hz hk1 hS1 => ?_)
  · obtain ⟨hk0, rfl, hPx⟩ := hBX
    have hPx : va_P D vwCl (cwl cy ad (F_X2_switched S p1).1) H1 := by rw [← ht]; exact hPx
    have hO1 : oAt D cy ao w H1 := hO.kept (hk1 ao (o_not hP hO hne).1 (o_not hP hO hne).2)
    rcases kd_switched S p1 with hkd | hkd
    · exact absurd hkd hk0
    · rw [hkd] at hcl
      refine cu_W (own := RL) (name := xnm 1) (E := xnm 1) hown [] ⟨0, 9, 12, 19⟩ [] htab (fun z hz => nomatch hz) (by decide) (by decide) (hts (.classLink RL 19 (xnm 1)) (by decide +kernel)) (va_Nw.use rfl (hXs.1 (.castable (xnm 1) (xnm 1)) (by decide +kernel))) hce hcv hcl ?_
      refine lv_astore_n (lv' := (3, .ref q9) :: [(0, .ref (ad 0)), (1, .int p1), (2, .ref ao)]) hx hb dL_switched_12 rfl hl (by decide) rfl (fun ls hl => ?_)
      refine lv_iconst (v := 1) hx hb dL_switched_13 (by decide) ?_
      exact h_oret (r := F_X2_switched S p1) hx hb hr hlocks hPx hO1 (by rw [hkd]; rfl) hS1 (by rw [hkd]; decide) dL_switched_14
  · have hPx : va_P D vwCl (cwl cy ad (F_X2_switched S p1).1) H1 := by rw [← ht]; exact hB
    obtain ⟨rfl, hkd⟩ := hpo
    have hO1 : oAt D cy ao w H1 := hO.kept (hk1 ao (o_not hP hO hne).1 (o_not hP hO hne).2)
    refine lv_i2l hx hb dL_switched_7 rfl ?_
    refine o_sto hx hb hK hPx hO1 hap hao hne hS1 dL_switched_8 (fun H1 locs1 hPx hO1 hS1 => ?_)
    refine lv_goto (tgt := 15) hx hb dL_switched_9 (by decide) ?_
    refine lv_iconst (v := 0) hx hb dL_switched_15 (by decide) ?_
    exact h_oret (r := F_X2_switched S p1) hx hb hr hlocks hPx hO1 (by rw [if_pos hkd]) hS1 (by rw [hkd]; decide) dL_switched_16
