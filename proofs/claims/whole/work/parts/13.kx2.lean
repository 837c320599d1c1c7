set_option maxHeartbeats 4000000 in
set_option maxRecDepth 100000 in
theorem k_X2_isLevel (l : Launch) (D : va_G) (cy : Nat → ClassId) (ad : Nat → Nat) (S : Cs) (p1 : Int32)   : cMi l yX2_isLevel wsX2_isLevel { frames := 0, cells := 0, slots := 0, locals := 0 } D cy ad [.ref (ad 0), .int p1] S (F_X2_isLevel S p1).1 (F_X2_isLevel S p1).2 := by
  intro sz
  refine Met.ofW (cc := cX2_isLevel) (maxL := 2) (ret := (some .boolean)) (by decide) rfl ?_
  intro p e s m args below meth c s₁ B hml hv
  obtain ⟨rfl, hsz, hP, hK, hap0, hN⟩ := hv
  have hx := B.exec
  have hb := B.bytes
  have hr := B.returns
  have hts := atoms_spec (ws := wsX2_isLevel) B.pre
  have hown : s.vm.findClass RX2 = some m.cls := findClass_of_methodNamed B.named
  have hlocks := B.notSynchronized
  subst hsz
  have hap := gw_self (sz := s.heap.size) hap0
  generalize hAe : gA 48 ad s.heap.size = A at hap ⊢
  have hA : ∀ q : Nat, s.heap.size ≤ q → A q := fun q h => by rw [← hAe]; exact Or.inr h
  have hS : va_S A s.heap s.heap [] := va_S.rf
  have hinX2 : ∀ w ∈ wsX20, w ∈ wsX2_isLevel := by decide +kernel
  have hl := lv_entry ([.ref (ad 0), .int p1]) (n := 2) (Nat.le_of_ble_eq_true rfl)
  rw [lg_entry_eq]
  generalize (lg_sl ([.ref (ad 0), .int p1]) ++ List.replicate (2 - (lg_sl ([.ref (ad 0), .int p1])).length) Slot.unset).toArray = ls at hl ⊢
  have hl : lv_has ls 2 [(0, .ref (ad 0)), (1, .int p1)] := hl
  obtain ⟨H, hH⟩ : ∃ H, H = s.heap := ⟨_, rfl⟩
  rw [← hH] at hP
  have hS : va_S A s.heap H [] := by rw [hH]; exact hS
  rw [← hH]
  generalize ([] : List Loc) = locs at hS ⊢
  refine lv_iload_n hx hb dX2_isLevel_0 rfl (lv_at hl 1 rfl) ?_
  refine lv_if_lt (tgt := 16) hx hb dX2_isLevel_1 (by decide) (fun c_1 => ?_) (fun c_1 => ?_)
  · skip
    refine lv_iconst (v := 0) hx hb dX2_isLevel_16 (by decide) ?_
    have hF : F_X2_isLevel S p1 = (S, 0) := by simp only [F_X2_isLevel, if_pos c_1]
    rw [hF]
    exact c_zret hx hb hr hlocks narrow_b0 hP hS dX2_isLevel_17 (fun _ h => h)
  · skip
    refine lv_iload_n hx hb dX2_isLevel_4 rfl (lv_at hl 1 rfl) ?_
    refine lv_aload_n hx hb dX2_isLevel_5 rfl (lv_at hl 0 rfl) ?_
    refine c_gO hx hb hts hinX2 hown hK hP 3 (by decide) (hts (.fieldLink RX2 25 "FeedbackQueues" "levelCount" "I") (by decide +kernel)) rfl dX2_isLevel_6 ?_
    refine lv_icmp_ge (tgt := 16) hx hb dX2_isLevel_9 (by decide) (fun c_9 => ?_) (fun c_9 => ?_)
    · skip
      refine lv_iconst (v := 0) hx hb dX2_isLevel_16 (by decide) ?_
      have hF : F_X2_isLevel S p1 = (S, 0) := by simp only [F_X2_isLevel, if_neg c_1, if_pos c_9]
      rw [hF]
      exact c_zret hx hb hr hlocks narrow_b0 hP hS dX2_isLevel_17 (fun _ h => h)
    · skip
      refine lv_iconst (v := 1) hx hb dX2_isLevel_12 (by decide) ?_
      refine lv_goto (tgt := 17) hx hb dX2_isLevel_13 (by decide) ?_
      have hF : F_X2_isLevel S p1 = (S, 1) := by simp only [F_X2_isLevel, if_neg c_1, if_neg c_9]
      rw [hF]
      exact c_zret hx hb hr hlocks narrow_b1 hP hS dX2_isLevel_17 (fun _ h => h)
set_option maxHeartbeats 4000000 in
set_option maxRecDepth 100000 in
theorem k_X2_isTask (l : Launch) (D : va_G) (cy : Nat → ClassId) (ad : Nat → Nat) (S : Cs) (p1 : Int32)   : cMi l yX2_isTask wsX2_isTask { frames := 0, cells := 0, slots := 0, locals := 0 } D cy ad [.ref (ad 0), .int p1] S (F_X2_isTask S p1).1 (F_X2_isTask S p1).2 := by
  intro sz
  refine Met.ofW (cc := cX2_isTask) (maxL := 2) (ret := (some .boolean)) (by decide) rfl ?_
  intro p e s m args below meth c s₁ B hml hv
  obtain ⟨rfl, hsz, hP, hK, hap0, hN⟩ := hv
  have hx := B.exec
  have hb := B.bytes
  have hr := B.returns
  have hts := atoms_spec (ws := wsX2_isTask) B.pre
  have hown : s.vm.findClass RX2 = some m.cls := findClass_of_methodNamed B.named
  have hlocks := B.notSynchronized
  subst hsz
  have hap := gw_self (sz := s.heap.size) hap0
  generalize hAe : gA 48 ad s.heap.size = A at hap ⊢
  have hA : ∀ q : Nat, s.heap.size ≤ q → A q := fun q h => by rw [← hAe]; exact Or.inr h
  have hS : va_S A s.heap s.heap [] := va_S.rf
  have hinX2 : ∀ w ∈ wsX20, w ∈ wsX2_isTask := by decide +kernel
  have hl := lv_entry ([.ref (ad 0), .int p1]) (n := 2) (Nat.le_of_ble_eq_true rfl)
  rw [lg_entry_eq]
  generalize (lg_sl ([.ref (ad 0), .int p1]) ++ List.replicate (2 - (lg_sl ([.ref (ad 0), .int p1])).length) Slot.unset).toArray = ls at hl ⊢
  have hl : lv_has ls 2 [(0, .ref (ad 0)), (1, .int p1)] := hl
  obtain ⟨H, hH⟩ : ∃ H, H = s.heap := ⟨_, rfl⟩
  rw [← hH] at hP
  have hS : va_S A s.heap H [] := by rw [hH]; exact hS
  rw [← hH]
  generalize ([] : List Loc) = locs at hS ⊢
  refine lv_iload_n hx hb dX2_isTask_0 rfl (lv_at hl 1 rfl) ?_
  refine lv_if_lt (tgt := 16) hx hb dX2_isTask_1 (by decide) (fun c_1 => ?_) (fun c_1 => ?_)
  · skip
    refine lv_iconst (v := 0) hx hb dX2_isTask_16 (by decide) ?_
    have hF : F_X2_isTask S p1 = (S, 0) := by simp only [F_X2_isTask, if_pos c_1]
    rw [hF]
    exact c_zret hx hb hr hlocks narrow_b0 hP hS dX2_isTask_17 (fun _ h => h)
  · skip
    refine lv_iload_n hx hb dX2_isTask_4 rfl (lv_at hl 1 rfl) ?_
    refine lv_aload_n hx hb dX2_isTask_5 rfl (lv_at hl 0 rfl) ?_
    refine c_gO hx hb hts hinX2 hown hK hP 4 (by decide) (hts (.fieldLink RX2 29 "FeedbackQueues" "taskCount" "I") (by decide +kernel)) rfl dX2_isTask_6 ?_
    refine lv_icmp_ge (tgt := 16) hx hb dX2_isTask_9 (by decide) (fun c_9 => ?_) (fun c_9 => ?_)
    · skip
      refine lv_iconst (v := 0) hx hb dX2_isTask_16 (by decide) ?_
      have hF : F_X2_isTask S p1 = (S, 0) := by simp only [F_X2_isTask, if_neg c_1, if_pos c_9]
      rw [hF]
      exact c_zret hx hb hr hlocks narrow_b0 hP hS dX2_isTask_17 (fun _ h => h)
    · skip
      refine lv_iconst (v := 1) hx hb dX2_isTask_12 (by decide) ?_
      refine lv_goto (tgt := 17) hx hb dX2_isTask_13 (by decide) ?_
      have hF : F_X2_isTask S p1 = (S, 1) := by simp only [F_X2_isTask, if_neg c_1, if_neg c_9]
      rw [hF]
      exact c_zret hx hb hr hlocks narrow_b1 hP hS dX2_isTask_17 (fun _ h => h)
set_option maxHeartbeats 4000000 in
set_option maxRecDepth 100000 in
theorem k_X2_endTask (l : Launch) (D : va_G) (cy : Nat → ClassId) (ad : Nat → Nat) (S : Cs) (u : Nat) (p2 : Int32)  (hu : u < 16)  : cMv l yX2_endTask wsX2_endTask { frames := 0, cells := 0, slots := 0, locals := 0 } D cy ad [.ref (ad 0), .ref (ad (16 + 2 * u)), .int p2] S (F_X2_endTask S u p2) := by
  intro sz
  refine Met.ofW (cc := cX2_endTask) (maxL := 3) (ret := none) (by decide) rfl ?_
  intro p e s m args below meth c s₁ B hml hv
  obtain ⟨rfl, hsz, hP, hK, hap0, hN⟩ := hv
  have hx := B.exec
  have hb := B.bytes
  have hr := B.returns
  have hts := atoms_spec (ws := wsX2_endTask) B.pre
  have hown : s.vm.findClass RX2 = some m.cls := findClass_of_methodNamed B.named
  have hlocks := B.notSynchronized
  subst hsz
  have hap := gw_self (sz := s.heap.size) hap0
  generalize hAe : gA 48 ad s.heap.size = A at hap ⊢
  have hA : ∀ q : Nat, s.heap.size ≤ q → A q := fun q h => by rw [← hAe]; exact Or.inr h
  have hS : va_S A s.heap s.heap [] := va_S.rf
  have hinX1 : ∀ w ∈ wsX10, w ∈ wsX2_endTask := by decide +kernel
  have hinX2 : ∀ w ∈ wsX20, w ∈ wsX2_endTask := by decide +kernel
  have hl := lv_entry ([.ref (ad 0), .ref (ad (16 + 2 * u)), .int p2]) (n := 3) (Nat.le_of_ble_eq_true rfl)
  rw [lg_entry_eq]
  generalize (lg_sl ([.ref (ad 0), .ref (ad (16 + 2 * u)), .int p2]) ++ List.replicate (3 - (lg_sl ([.ref (ad 0), .ref (ad (16 + 2 * u)), .int p2])).length) Slot.unset).toArray = ls at hl ⊢
  have hl : lv_has ls 3 [(0, .ref (ad 0)), (1, .ref (ad (16 + 2 * u))), (2, .int p2)] := hl
  obtain ⟨H, hH⟩ : ∃ H, H = s.heap := ⟨_, rfl⟩
  rw [← hH] at hP
  have hS : va_S A s.heap H [] := by rw [hH]; exact hS
  rw [← hH]
  generalize ([] : List Loc) = locs at hS ⊢
  refine lv_aload_n hx hb dX2_endTask_0 rfl (lv_at hl 1 rfl) ?_
  refine lv_iconst (v := 4) hx hb dX2_endTask_1 (by decide) ?_
  refine c_pTN (i := u) (ty := .int) (v := 4) hx hb hts hinX1 hown hK hap hP hS hu 4 (by decide) (hN.fld (args := _) (a := "FeedbackQueues") (i := 118) (b := "FeedbackQueues$Task") (n := "state") (d := "I") (h' := "FeedbackQueues") (by decide +kernel)) rfl (by decide +kernel) rfl rfl (cTf_4 ad S u _) (Nat.le_of_ble_eq_true rfl) dX2_endTask_2 (fun H locs hP hS => ?_)
  obtain ⟨S1, eS1⟩ : ∃ z : Cs, z = sT S u 4 4 := ⟨_, rfl⟩
  rw [← eS1] at hP
  refine lv_aload_n hx hb dX2_endTask_5 rfl (lv_at hl 1 rfl) ?_
  refine lv_iload_n hx hb dX2_endTask_6 rfl (lv_at hl 2 rfl) ?_
  refine c_pTN (i := u) (ty := .int) (v := p2) hx hb hts hinX1 hown hK hap hP hS hu 15 (by decide) (hN.fld (args := _) (a := "FeedbackQueues") (i := 136) (b := "FeedbackQueues$Task") (n := "endedAt") (d := "I") (h' := "FeedbackQueues") (by decide +kernel)) rfl (by decide +kernel) rfl rfl (cTf_15 ad S1 u _) (Nat.le_of_ble_eq_true rfl) dX2_endTask_7 (fun H locs hP hS => ?_)
  obtain ⟨S2, eS2⟩ : ∃ z : Cs, z = sT S1 u 15 p2 := ⟨_, rfl⟩
  rw [← eS2] at hP
  refine lv_aload_n hx hb dX2_endTask_10 rfl (lv_at hl 0 rfl) ?_
  refine lv_dup hx hb dX2_endTask_11 rfl ?_
  refine c_gO hx hb hts hinX2 hown hK hP 11 (by decide) (hts (.fieldLink RX2 51 "FeedbackQueues" "endedCount" "I") (by decide +kernel)) rfl dX2_endTask_12 ?_
  refine lv_iconst (v := 1) hx hb dX2_endTask_15 (by decide) ?_
  refine lv_iadd hx hb dX2_endTask_16 ?_
  refine c_pO (ty := .int) (v := (cO S2 11) + 1) hx hb hts hinX2 hown hK hap hP hS 11 (by decide) (hts (.fieldLink RX2 51 "FeedbackQueues" "endedCount" "I") (by decide +kernel)) rfl (by decide +kernel) rfl rfl (cOf_11 ad S2 _) (Nat.le_of_ble_eq_true rfl) dX2_endTask_17 (fun H locs hP hS => ?_)
  obtain ⟨S3, eS3⟩ : ∃ z : Cs, z = sO S2 11 ((cO S2 11) + 1) := ⟨_, rfl⟩
  rw [← eS3] at hP
  have hF : F_X2_endTask S u p2 = S3 := by subst eS3 eS2 eS1; simp only [F_X2_endTask]
  rw [hF]
  exact c_vret hx hb hr hlocks hP hS dX2_endTask_20 (fun _ h => h)
set_option maxHeartbeats 4000000 in
set_option maxRecDepth 100000 in
theorem k_X2_standAtEnd (l : Launch) (D : va_G) (cy : Nat → ClassId) (ad : Nat → Nat) (S : Cs) (u : Nat)  (hu : u < 16) {N L b : Nat} (hok : okC N L b S)  : cMv l yX2_standAtEnd wsX2_standAtEnd { frames := 1, cells := 0, slots := 0, locals := 21 } D cy ad [.ref (ad 0), .ref (ad (16 + 2 * u))] S (F_X2_standAtEnd S u) := by
  intro sz
  refine Met.ofW (cc := cX2_standAtEnd) (maxL := 2) (ret := none) (by decide) rfl ?_
  intro p e s m args below meth c s₁ B hml hv
  obtain ⟨rfl, hsz, hP, hK, hap0, hN⟩ := hv
  have hx := B.exec
  have hb := B.bytes
  have hr := B.returns
  have hts := atoms_spec (ws := wsX2_standAtEnd) B.pre
  have hown : s.vm.findClass RX2 = some m.cls := findClass_of_methodNamed B.named
  have hlocks := B.notSynchronized
  subst hsz
  have hap := gw_self (sz := s.heap.size) hap0
  generalize hAe : gA 48 ad s.heap.size = A at hap ⊢
  have hA : ∀ q : Nat, s.heap.size ≤ q → A q := fun q h => by rw [← hAe]; exact Or.inr h
  have hS : va_S A s.heap s.heap [] := va_S.rf
  have hinX1 : ∀ w ∈ wsX10, w ∈ wsX2_standAtEnd := by decide +kernel
  have hinX2 : ∀ w ∈ wsX20, w ∈ wsX2_standAtEnd := by decide +kernel
  have hl := lv_entry ([.ref (ad 0), .ref (ad (16 + 2 * u))]) (n := 2) (Nat.le_of_ble_eq_true rfl)
  rw [lg_entry_eq]
  generalize (lg_sl ([.ref (ad 0), .ref (ad (16 + 2 * u))]) ++ List.replicate (2 - (lg_sl ([.ref (ad 0), .ref (ad (16 + 2 * u))])).length) Slot.unset).toArray = ls at hl ⊢
  have hl : lv_has ls 2 [(0, .ref (ad 0)), (1, .ref (ad (16 + 2 * u)))] := hl
  obtain ⟨H, hH⟩ : ∃ H, H = s.heap := ⟨_, rfl⟩
  rw [← hH] at hP
  have hS : va_S A s.heap H [] := by rw [hH]; exact hS
  rw [← hH]
  generalize ([] : List Loc) = locs at hS ⊢
  refine lv_aload_n hx hb dX2_standAtEnd_0 rfl (lv_at hl 1 rfl) ?_
  refine lv_iconst (v := 1) hx hb dX2_standAtEnd_1 (by decide) ?_
  refine c_pTN (i := u) (ty := .int) (v := 1) hx hb hts hinX1 hown hK hap hP hS hu 4 (by decide) (hN.fld (args := _) (a := "FeedbackQueues") (i := 118) (b := "FeedbackQueues$Task") (n := "state") (d := "I") (h' := "FeedbackQueues") (by decide +kernel)) rfl (by decide +kernel) rfl rfl (cTf_4 ad S u _) (Nat.le_of_ble_eq_true rfl) dX2_standAtEnd_2 (fun H locs hP hS => ?_)
  obtain ⟨S1, eS1⟩ : ∃ z : Cs, z = sT S u 4 1 := ⟨_, rfl⟩
  rw [← eS1] at hP
  have hok1 : okC N L b S1 := by rw [eS1]; exact okC_sT hok (by decide)
  refine lv_aload_n hx hb dX2_standAtEnd_5 rfl (lv_at hl 0 rfl) ?_
  refine c_gO hx hb hts hinX2 hown hK hP 0 (by decide) (hts (.fieldLink RX2 11 "FeedbackQueues" "levelRows" "[LFeedbackQueues$Level;") (by decide +kernel)) rfl dX2_standAtEnd_6 ?_
  refine lv_aload_n hx hb dX2_standAtEnd_9 rfl (lv_at hl 1 rfl) ?_
  refine c_gTN (i := u) hx hb hts hinX1 hown hK hP hu 5 (by decide) (hN.fld (args := _) (a := "FeedbackQueues") (i := 121) (b := "FeedbackQueues$Task") (n := "level") (d := "I") (h' := "FeedbackQueues") (by decide +kernel)) rfl dX2_standAtEnd_10 ?_
  refine c_aL (k := ((cT S1 u 5)).toNatClampNeg) hx hb hK hP (okC_ix hok1 hu) dX2_standAtEnd_13 ?_
  refine lv_aload_n hx hb dX2_standAtEnd_14 rfl (lv_at hl 1 rfl) ?_
  refine c_gTN (i := u) hx hb hts hinX1 hown hK hP hu 0 (by decide) (hN.fld (args := _) (a := "FeedbackQueues") (i := 150) (b := "FeedbackQueues$Task") (n := "number") (d := "I") (h' := "FeedbackQueues") (by decide +kernel)) rfl dX2_standAtEnd_15 ?_
  refine c_cNv (As := [.int (cT S1 u 0)]) (rest := []) (k := (4 + 2 * (((cT S1 u 5)).toNatClampNeg))) (ci := 0) (q := (RX0, TX0, 4)) ⟨hx, hb, hml, hown, hts⟩ (k_X0_addLast l D cy ad S1 (((cT S1 u 5)).toNatClampNeg) (cT S1 u 0) ((okC_ix hok1 hu).2.2) (okC_sz hok1 (okC_ix hok1 hu).2.2)) ⟨va_cnB (host := "FeedbackQueues") 1 hts gX2_standAtEnd_X0_addLast_n249 rfl rfl rfl (hN.mth (a := RX2) (i := 249) (x := yX0_addLast) (h' := "FeedbackQueues") (by decide +kernel)) (hts (.initialized RX0) (by decide +kernel)) (by decide +kernel) ⟨Nat.le_of_ble_eq_true rfl, Nat.le_of_ble_eq_true rfl⟩, hts (.instanceMethod yX0_addLast) (by decide +kernel), hts (.selects RX0 yX0_addLast yX0_addLast) (by decide +kernel)⟩ hK hap hA hN hP hS (by have h9 := ((okC_ix hok1 hu).2.2); omega) (cE_L cy ad S1 ((okC_ix hok1 hu).2.2)) rfl rfl hl.1 rfl (Nat.le_of_ble_eq_true rfl) dX2_standAtEnd_18 ⟨Nat.zero_le _, Nat.zero_le _⟩ (fun H locs hP hS => ?_)
  obtain ⟨S2, eS2⟩ : ∃ z : Cs, z = F_X0_addLast S1 (((cT S1 u 5)).toNatClampNeg) (cT S1 u 0) := ⟨_, rfl⟩
  rw [← eS2] at hP
  have hok2 : okC N L b S2 := by rw [eS2]; exact ok_X0_addLast hok1 ((okC_ix hok1 hu).2.2)
  have hF : F_X2_standAtEnd S u = S2 := by subst eS2 eS1; simp only [F_X2_standAtEnd]
  rw [hF]
  exact c_vret hx hb hr hlocks hP hS dX2_standAtEnd_21 (fun _ h => h)
set_option maxHeartbeats 4000000 in
set_option maxRecDepth 100000 in
theorem k_X2_goOnOrEnd (l : Launch) (D : va_G) (cy : Nat → ClassId) (ad : Nat → Nat) (S : Cs) (u : Nat)  (hu : u < 16) {N L b : Nat} (hok : okC N L b S)  : cMv l yX2_goOnOrEnd wsX2_goOnOrEnd { frames := 2, cells := 0, slots := 0, locals := 42 } D cy ad [.ref (ad 0), .ref (ad (16 + 2 * u))] S (F_X2_goOnOrEnd S u) := by
  intro sz
  refine Met.ofW (cc := cX2_goOnOrEnd) (maxL := 2) (ret := none) (by decide) rfl ?_
  intro p e s m args below meth c s₁ B hml hv
  obtain ⟨rfl, hsz, hP, hK, hap0, hN⟩ := hv
  have hx := B.exec
  have hb := B.bytes
  have hr := B.returns
  have hts := atoms_spec (ws := wsX2_goOnOrEnd) B.pre
  have hown : s.vm.findClass RX2 = some m.cls := findClass_of_methodNamed B.named
  have hlocks := B.notSynchronized
  subst hsz
  have hap := gw_self (sz := s.heap.size) hap0
  generalize hAe : gA 48 ad s.heap.size = A at hap ⊢
  have hA : ∀ q : Nat, s.heap.size ≤ q → A q := fun q h => by rw [← hAe]; exact Or.inr h
  have hS : va_S A s.heap s.heap [] := va_S.rf
  have hinX2 : ∀ w ∈ wsX20, w ∈ wsX2_goOnOrEnd := by decide +kernel
  have hl := lv_entry ([.ref (ad 0), .ref (ad (16 + 2 * u))]) (n := 2) (Nat.le_of_ble_eq_true rfl)
  rw [lg_entry_eq]
  generalize (lg_sl ([.ref (ad 0), .ref (ad (16 + 2 * u))]) ++ List.replicate (2 - (lg_sl ([.ref (ad 0), .ref (ad (16 + 2 * u))])).length) Slot.unset).toArray = ls at hl ⊢
  have hl : lv_has ls 2 [(0, .ref (ad 0)), (1, .ref (ad (16 + 2 * u)))] := hl
  obtain ⟨H, hH⟩ : ∃ H, H = s.heap := ⟨_, rfl⟩
  rw [← hH] at hP
  have hS : va_S A s.heap H [] := by rw [hH]; exact hS
  rw [← hH]
  generalize ([] : List Loc) = locs at hS ⊢
  refine lv_aload_n hx hb dX2_goOnOrEnd_0 rfl (lv_at hl 1 rfl) ?_
  refine c_cNi (As := []) (rest := []) (k := (16 + 2 * u)) (ci := 1) (q := (RX1, TX1, 19)) ⟨hx, hb, hml, hown, hts⟩ (k_X1_beginBurst l D cy ad S u hu (okC_g hok hu) (okC_b hok hu)) ⟨va_cnB (host := "FeedbackQueues") 0 hts gX2_goOnOrEnd_X1_beginBurst_n206 rfl rfl rfl (hN.mth (a := RX2) (i := 206) (x := yX1_beginBurst) (h' := "FeedbackQueues") (by decide +kernel)) (hts (.initialized RX1) (by decide +kernel)) (by decide +kernel) ⟨Nat.le_of_ble_eq_true rfl, Nat.le_of_ble_eq_true rfl⟩, hts (.instanceMethod yX1_beginBurst) (by decide +kernel), hts (.selects RX1 yX1_beginBurst yX1_beginBurst) (by decide +kernel)⟩ hK hap hA hN hP hS (by have h9 := (hu); omega) (cE_T cy ad S u) rfl rfl hl.1 rfl (Nat.le_of_ble_eq_true rfl) dX2_goOnOrEnd_1 ⟨Nat.zero_le _, Nat.zero_le _⟩ (fun H locs hP hS => ?_)
  obtain ⟨S1, eS1⟩ : ∃ z : Cs, z = (F_X1_beginBurst S u).1 := ⟨_, rfl⟩
  rw [← eS1] at hP
  have hok1 : okC N L b S1 := by rw [eS1]; exact ok_X1_beginBurst hok hu
  refine lv_if_eq (tgt := 15) hx hb dX2_goOnOrEnd_4 (by decide) (fun c_4 => ?_) (fun c_4 => ?_)
  · skip
    refine lv_aload_n hx hb dX2_goOnOrEnd_15 rfl (lv_at hl 0 rfl) ?_
    refine lv_aload_n hx hb dX2_goOnOrEnd_16 rfl (lv_at hl 1 rfl) ?_
    refine lv_aload_n hx hb dX2_goOnOrEnd_17 rfl (lv_at hl 0 rfl) ?_
    refine c_gO hx hb hts hinX2 hown hK hP 6 (by decide) (hts (.fieldLink RX2 35 "FeedbackQueues" "now" "I") (by decide +kernel)) rfl dX2_goOnOrEnd_18 ?_
    refine c_cVv (As := [.ref (ad (16 + 2 * u)), .int (cO S1 6)]) (rest := []) (k := 0) (ci := 2) (q := (RX2, TX2, 12)) ⟨hx, hb, hml, hown, hts⟩ (k_X2_endTask l D cy ad S1 u (cO S1 6) hu) (cwV 2 hts gX2_goOnOrEnd_X2_endTask rfl rfl rfl (by decide +kernel) ⟨Nat.le_of_ble_eq_true rfl, Nat.le_of_ble_eq_true rfl⟩) hK hap hA hN hP hS (by omega) (cE_O cy ad S1) rfl rfl hl.1 rfl (Nat.le_of_ble_eq_true rfl) dX2_goOnOrEnd_21 ⟨Nat.zero_le _, Nat.zero_le _⟩ (fun H locs hP hS => ?_)
    obtain ⟨S2, eS2⟩ : ∃ z : Cs, z = F_X2_endTask S1 u (cO S1 6) := ⟨_, rfl⟩
    rw [← eS2] at hP
    have hok2 : okC N L b S2 := by rw [eS2]; exact ok_X2_endTask hok1 hu
    have hF : F_X2_goOnOrEnd S u = S2 := by subst eS2 eS1; simp only [F_X2_goOnOrEnd, if_pos c_4]
    rw [hF]
    exact c_vret hx hb hr hlocks hP hS dX2_goOnOrEnd_24 (fun _ h => h)
  · skip
    refine lv_aload_n hx hb dX2_goOnOrEnd_7 rfl (lv_at hl 0 rfl) ?_
    refine lv_aload_n hx hb dX2_goOnOrEnd_8 rfl (lv_at hl 1 rfl) ?_
    refine c_cVv (As := [.ref (ad (16 + 2 * u))]) (rest := []) (k := 0) (ci := 2) (q := (RX2, TX2, 12)) ⟨hx, hb, hml, hown, hts⟩ (k_X2_standAtEnd l D cy ad S1 u hu hok1) (cwV 1 hts gX2_goOnOrEnd_X2_standAtEnd rfl rfl rfl (by decide +kernel) ⟨Nat.le_of_ble_eq_true rfl, Nat.le_of_ble_eq_true rfl⟩) hK hap hA hN hP hS (by omega) (cE_O cy ad S1) rfl rfl hl.1 rfl (Nat.le_of_ble_eq_true rfl) dX2_goOnOrEnd_9 ⟨Nat.zero_le _, Nat.zero_le _⟩ (fun H locs hP hS => ?_)
    obtain ⟨S3, eS3⟩ : ∃ z : Cs, z = F_X2_standAtEnd S1 u := ⟨_, rfl⟩
    rw [← eS3] at hP
    have hok3 : okC N L b S3 := by rw [eS3]; exact ok_X2_standAtEnd hok1 hu
    refine lv_goto (tgt := 24) hx hb dX2_goOnOrEnd_12 (by decide) ?_
    have hF : F_X2_goOnOrEnd S u = S3 := by subst eS3 eS1; simp only [F_X2_goOnOrEnd, if_neg c_4]
    rw [hF]
    exact c_vret hx hb hr hlocks hP hS dX2_goOnOrEnd_24 (fun _ h => h)
set_option maxHeartbeats 4000000 in
set_option maxRecDepth 100000 in
theorem k_X2_blockOrEnd (l : Launch) (D : va_G) (cy : Nat → ClassId) (ad : Nat → Nat) (S : Cs) (u : Nat)  (hu : u < 16) {N L b : Nat} (hok : okC N L b S)  : cMv l yX2_blockOrEnd wsX2_blockOrEnd { frames := 1, cells := 0, slots := 0, locals := 22 } D cy ad [.ref (ad 0), .ref (ad (16 + 2 * u))] S (F_X2_blockOrEnd S u) := by
  intro sz
  refine Met.ofW (cc := cX2_blockOrEnd) (maxL := 2) (ret := none) (by decide) rfl ?_
  intro p e s m args below meth c s₁ B hml hv
  obtain ⟨rfl, hsz, hP, hK, hap0, hN⟩ := hv
  have hx := B.exec
  have hb := B.bytes
  have hr := B.returns
  have hts := atoms_spec (ws := wsX2_blockOrEnd) B.pre
  have hown : s.vm.findClass RX2 = some m.cls := findClass_of_methodNamed B.named
  have hlocks := B.notSynchronized
  subst hsz
  have hap := gw_self (sz := s.heap.size) hap0
  generalize hAe : gA 48 ad s.heap.size = A at hap ⊢
  have hA : ∀ q : Nat, s.heap.size ≤ q → A q := fun q h => by rw [← hAe]; exact Or.inr h
  have hS : va_S A s.heap s.heap [] := va_S.rf
  have hinX1 : ∀ w ∈ wsX10, w ∈ wsX2_blockOrEnd := by decide +kernel
  have hinX2 : ∀ w ∈ wsX20, w ∈ wsX2_blockOrEnd := by decide +kernel
  have hl := lv_entry ([.ref (ad 0), .ref (ad (16 + 2 * u))]) (n := 2) (Nat.le_of_ble_eq_true rfl)
  rw [lg_entry_eq]
  generalize (lg_sl ([.ref (ad 0), .ref (ad (16 + 2 * u))]) ++ List.replicate (2 - (lg_sl ([.ref (ad 0), .ref (ad (16 + 2 * u))])).length) Slot.unset).toArray = ls at hl ⊢
  have hl : lv_has ls 2 [(0, .ref (ad 0)), (1, .ref (ad (16 + 2 * u)))] := hl
  obtain ⟨H, hH⟩ : ∃ H, H = s.heap := ⟨_, rfl⟩
  rw [← hH] at hP
  have hS : va_S A s.heap H [] := by rw [hH]; exact hS
  rw [← hH]
  generalize ([] : List Loc) = locs at hS ⊢
  refine lv_aload_n hx hb dX2_blockOrEnd_0 rfl (lv_at hl 1 rfl) ?_
  refine c_cNi (As := []) (rest := []) (k := (16 + 2 * u)) (ci := 1) (q := (RX1, TX1, 19)) ⟨hx, hb, hml, hown, hts⟩ (k_X1_beginBurst l D cy ad S u hu (okC_g hok hu) (okC_b hok hu)) ⟨va_cnB (host := "FeedbackQueues") 0 hts gX2_blockOrEnd_X1_beginBurst_n206 rfl rfl rfl (hN.mth (a := RX2) (i := 206) (x := yX1_beginBurst) (h' := "FeedbackQueues") (by decide +kernel)) (hts (.initialized RX1) (by decide +kernel)) (by decide +kernel) ⟨Nat.le_of_ble_eq_true rfl, Nat.le_of_ble_eq_true rfl⟩, hts (.instanceMethod yX1_beginBurst) (by decide +kernel), hts (.selects RX1 yX1_beginBurst yX1_beginBurst) (by decide +kernel)⟩ hK hap hA hN hP hS (by have h9 := (hu); omega) (cE_T cy ad S u) rfl rfl hl.1 rfl (Nat.le_of_ble_eq_true rfl) dX2_blockOrEnd_1 ⟨Nat.zero_le _, Nat.zero_le _⟩ (fun H locs hP hS => ?_)
  obtain ⟨S1, eS1⟩ : ∃ z : Cs, z = (F_X1_beginBurst S u).1 := ⟨_, rfl⟩
  rw [← eS1] at hP
  have hok1 : okC N L b S1 := by rw [eS1]; exact ok_X1_beginBurst hok hu
  refine lv_if_eq (tgt := 15) hx hb dX2_blockOrEnd_4 (by decide) (fun c_4 => ?_) (fun c_4 => ?_)
  · skip
    refine lv_aload_n hx hb dX2_blockOrEnd_15 rfl (lv_at hl 0 rfl) ?_
    refine lv_aload_n hx hb dX2_blockOrEnd_16 rfl (lv_at hl 1 rfl) ?_
    refine lv_aload_n hx hb dX2_blockOrEnd_17 rfl (lv_at hl 0 rfl) ?_
    refine c_gO hx hb hts hinX2 hown hK hP 6 (by decide) (hts (.fieldLink RX2 35 "FeedbackQueues" "now" "I") (by decide +kernel)) rfl dX2_blockOrEnd_18 ?_
    refine lv_iconst (v := 1) hx hb dX2_blockOrEnd_21 (by decide) ?_
    refine lv_iadd hx hb dX2_blockOrEnd_22 ?_
    refine c_cVv (As := [.ref (ad (16 + 2 * u)), .int ((cO S1 6) + 1)]) (rest := []) (k := 0) (ci := 2) (q := (RX2, TX2, 12)) ⟨hx, hb, hml, hown, hts⟩ (k_X2_endTask l D cy ad S1 u ((cO S1 6) + 1) hu) (cwV 2 hts gX2_blockOrEnd_X2_endTask rfl rfl rfl (by decide +kernel) ⟨Nat.le_of_ble_eq_true rfl, Nat.le_of_ble_eq_true rfl⟩) hK hap hA hN hP hS (by omega) (cE_O cy ad S1) rfl rfl hl.1 rfl (Nat.le_of_ble_eq_true rfl) dX2_blockOrEnd_23 ⟨Nat.zero_le _, Nat.zero_le _⟩ (fun H locs hP hS => ?_)
    obtain ⟨S2, eS2⟩ : ∃ z : Cs, z = F_X2_endTask S1 u ((cO S1 6) + 1) := ⟨_, rfl⟩
    rw [← eS2] at hP
    have hok2 : okC N L b S2 := by rw [eS2]; exact ok_X2_endTask hok1 hu
    have hF : F_X2_blockOrEnd S u = S2 := by subst eS2 eS1; simp only [F_X2_blockOrEnd, if_pos c_4]
    rw [hF]
    exact c_vret hx hb hr hlocks hP hS dX2_blockOrEnd_26 (fun _ h => h)
  · skip
    refine lv_aload_n hx hb dX2_blockOrEnd_7 rfl (lv_at hl 1 rfl) ?_
    refine lv_iconst (v := 3) hx hb dX2_blockOrEnd_8 (by decide) ?_
    refine c_pTN (i := u) (ty := .int) (v := 3) hx hb hts hinX1 hown hK hap hP hS hu 4 (by decide) (hN.fld (args := _) (a := "FeedbackQueues") (i := 118) (b := "FeedbackQueues$Task") (n := "state") (d := "I") (h' := "FeedbackQueues") (by decide +kernel)) rfl (by decide +kernel) rfl rfl (cTf_4 ad S1 u _) (Nat.le_of_ble_eq_true rfl) dX2_blockOrEnd_9 (fun H locs hP hS => ?_)
    obtain ⟨S3, eS3⟩ : ∃ z : Cs, z = sT S1 u 4 3 := ⟨_, rfl⟩
    rw [← eS3] at hP
    have hok3 : okC N L b S3 := by rw [eS3]; exact okC_sT hok1 (by decide)
    refine lv_goto (tgt := 26) hx hb dX2_blockOrEnd_12 (by decide) ?_
    have hF : F_X2_blockOrEnd S u = S3 := by subst eS3 eS1; simp only [F_X2_blockOrEnd, if_neg c_4]
    rw [hF]
    exact c_vret hx hb hr hlocks hP hS dX2_blockOrEnd_26 (fun _ h => h)
set_option maxHeartbeats 4000000 in
set_option maxRecDepth 100000 in
theorem k_X2_sendDown (l : Launch) (D : va_G) (cy : Nat → ClassId) (ad : Nat → Nat) (S : Cs) (u : Nat)  (hu : u < 16) {N L b : Nat} (hok : okC N L b S)  : cMv l yX2_sendDown wsX2_sendDown { frames := 2, cells := 0, slots := 0, locals := 42 } D cy ad [.ref (ad 0), .ref (ad (16 + 2 * u))] S (F_X2_sendDown S u) := by
  intro sz
  refine Met.ofW (cc := cX2_sendDown) (maxL := 2) (ret := none) (by decide) rfl ?_
  intro p e s m args below meth c s₁ B hml hv
  obtain ⟨rfl, hsz, hP, hK, hap0, hN⟩ := hv
  have hx := B.exec
  have hb := B.bytes
  have hr := B.returns
  have hts := atoms_spec (ws := wsX2_sendDown) B.pre
  have hown : s.vm.findClass RX2 = some m.cls := findClass_of_methodNamed B.named
  have hlocks := B.notSynchronized
  subst hsz
  have hap := gw_self (sz := s.heap.size) hap0
  generalize hAe : gA 48 ad s.heap.size = A at hap ⊢
  have hA : ∀ q : Nat, s.heap.size ≤ q → A q := fun q h => by rw [← hAe]; exact Or.inr h
  have hS : va_S A s.heap s.heap [] := va_S.rf
  have hinX0 : ∀ w ∈ wsX00, w ∈ wsX2_sendDown := by decide +kernel
  have hinX1 : ∀ w ∈ wsX10, w ∈ wsX2_sendDown := by decide +kernel
  have hinX2 : ∀ w ∈ wsX20, w ∈ wsX2_sendDown := by decide +kernel
  have hl := lv_entry ([.ref (ad 0), .ref (ad (16 + 2 * u))]) (n := 2) (Nat.le_of_ble_eq_true rfl)
  rw [lg_entry_eq]
  generalize (lg_sl ([.ref (ad 0), .ref (ad (16 + 2 * u))]) ++ List.replicate (2 - (lg_sl ([.ref (ad 0), .ref (ad (16 + 2 * u))])).length) Slot.unset).toArray = ls at hl ⊢
  have hl : lv_has ls 2 [(0, .ref (ad 0)), (1, .ref (ad (16 + 2 * u)))] := hl
  obtain ⟨H, hH⟩ : ∃ H, H = s.heap := ⟨_, rfl⟩
  rw [← hH] at hP
  have hS : va_S A s.heap H [] := by rw [hH]; exact hS
  rw [← hH]
  generalize ([] : List Loc) = locs at hS ⊢
  refine lv_aload_n hx hb dX2_sendDown_0 rfl (lv_at hl 1 rfl) ?_
  refine c_gTN (i := u) hx hb hts hinX1 hown hK hP hu 5 (by decide) (hN.fld (args := _) (a := "FeedbackQueues") (i := 121) (b := "FeedbackQueues$Task") (n := "level") (d := "I") (h' := "FeedbackQueues") (by decide +kernel)) rfl dX2_sendDown_1 ?_
  refine lv_aload_n hx hb dX2_sendDown_4 rfl (lv_at hl 0 rfl) ?_
  refine c_gO hx hb hts hinX2 hown hK hP 3 (by decide) (hts (.fieldLink RX2 25 "FeedbackQueues" "levelCount" "I") (by decide +kernel)) rfl dX2_sendDown_5 ?_
  refine lv_iconst (v := 1) hx hb dX2_sendDown_8 (by decide) ?_
  refine lv_isub hx hb dX2_sendDown_9 ?_
  refine lv_icmp_ge (tgt := 33) hx hb dX2_sendDown_10 (by decide) (fun c_10 => ?_) (fun c_10 => ?_)
  · skip
    refine lv_aload_n hx hb dX2_sendDown_33 rfl (lv_at hl 1 rfl) ?_
    refine lv_aload_n hx hb dX2_sendDown_34 rfl (lv_at hl 0 rfl) ?_
    refine c_gO hx hb hts hinX2 hown hK hP 0 (by decide) (hts (.fieldLink RX2 11 "FeedbackQueues" "levelRows" "[LFeedbackQueues$Level;") (by decide +kernel)) rfl dX2_sendDown_35 ?_
    refine lv_aload_n hx hb dX2_sendDown_38 rfl (lv_at hl 1 rfl) ?_
    refine c_gTN (i := u) hx hb hts hinX1 hown hK hP hu 5 (by decide) (hN.fld (args := _) (a := "FeedbackQueues") (i := 121) (b := "FeedbackQueues$Task") (n := "level") (d := "I") (h' := "FeedbackQueues") (by decide +kernel)) rfl dX2_sendDown_39 ?_
    refine c_aL (k := ((cT S u 5)).toNatClampNeg) hx hb hK hP (okC_ix hok hu) dX2_sendDown_42 ?_
    refine c_gLN (i := ((cT S u 5)).toNatClampNeg) hx hb hts hinX0 hown hK hP ((okC_ix hok hu).2.2) 1 (by decide) (hN.fld (args := _) (a := "FeedbackQueues") (i := 68) (b := "FeedbackQueues$Level") (n := "share") (d := "I") (h' := "FeedbackQueues") (by decide +kernel)) rfl dX2_sendDown_43 ?_
    refine c_pTN (i := u) (ty := .int) (v := cL S (((cT S u 5)).toNatClampNeg) 1) hx hb hts hinX1 hown hK hap hP hS hu 9 (by decide) (hN.fld (args := _) (a := "FeedbackQueues") (i := 197) (b := "FeedbackQueues$Task") (n := "shareLeft") (d := "I") (h' := "FeedbackQueues") (by decide +kernel)) rfl (by decide +kernel) rfl rfl (cTf_9 ad S u _) (Nat.le_of_ble_eq_true rfl) dX2_sendDown_46 (fun H locs hP hS => ?_)
    obtain ⟨S1, eS1⟩ : ∃ z : Cs, z = sT S u 9 (cL S (((cT S u 5)).toNatClampNeg) 1) := ⟨_, rfl⟩
    rw [← eS1] at hP
    have hok1 : okC N L b S1 := by rw [eS1]; exact okC_sT hok (by decide)
    refine lv_aload_n hx hb dX2_sendDown_49 rfl (lv_at hl 0 rfl) ?_
    refine lv_aload_n hx hb dX2_sendDown_50 rfl (lv_at hl 1 rfl) ?_
    refine c_cVv (As := [.ref (ad (16 + 2 * u))]) (rest := []) (k := 0) (ci := 2) (q := (RX2, TX2, 12)) ⟨hx, hb, hml, hown, hts⟩ (k_X2_standAtEnd l D cy ad S1 u hu hok1) (cwV 1 hts gX2_sendDown_X2_standAtEnd rfl rfl rfl (by decide +kernel) ⟨Nat.le_of_ble_eq_true rfl, Nat.le_of_ble_eq_true rfl⟩) hK hap hA hN hP hS (by omega) (cE_O cy ad S1) rfl rfl hl.1 rfl (Nat.le_of_ble_eq_true rfl) dX2_sendDown_51 ⟨Nat.zero_le _, Nat.zero_le _⟩ (fun H locs hP hS => ?_)
    obtain ⟨S2, eS2⟩ : ∃ z : Cs, z = F_X2_standAtEnd S1 u := ⟨_, rfl⟩
    rw [← eS2] at hP
    have hok2 : okC N L b S2 := by rw [eS2]; exact ok_X2_standAtEnd hok1 hu
    have hF : F_X2_sendDown S u = S2 := by subst eS2 eS1; simp only [F_X2_sendDown, if_pos c_10]
    rw [hF]
    exact c_vret hx hb hr hlocks hP hS dX2_sendDown_54 (fun _ h => h)
  · skip
    refine lv_aload_n hx hb dX2_sendDown_13 rfl (lv_at hl 1 rfl) ?_
    refine lv_dup hx hb dX2_sendDown_14 rfl ?_
    refine c_gTN (i := u) hx hb hts hinX1 hown hK hP hu 5 (by decide) (hN.fld (args := _) (a := "FeedbackQueues") (i := 121) (b := "FeedbackQueues$Task") (n := "level") (d := "I") (h' := "FeedbackQueues") (by decide +kernel)) rfl dX2_sendDown_15 ?_
    refine lv_iconst (v := 1) hx hb dX2_sendDown_18 (by decide) ?_
    refine lv_iadd hx hb dX2_sendDown_19 ?_
    refine c_pTN (i := u) (ty := .int) (v := (cT S u 5) + 1) hx hb hts hinX1 hown hK hap hP hS hu 5 (by decide) (hN.fld (args := _) (a := "FeedbackQueues") (i := 121) (b := "FeedbackQueues$Task") (n := "level") (d := "I") (h' := "FeedbackQueues") (by decide +kernel)) rfl (by decide +kernel) rfl rfl (cTf_5 ad S u _) (Nat.le_of_ble_eq_true rfl) dX2_sendDown_20 (fun H locs hP hS => ?_)
    obtain ⟨S3, eS3⟩ : ∃ z : Cs, z = sT S u 5 ((cT S u 5) + 1) := ⟨_, rfl⟩
    rw [← eS3] at hP
    have hok3 : okC N L b S3 := by rw [eS3]; exact okC_sT5 hok (okC_dn hok hu c_10)
    refine lv_aload_n hx hb dX2_sendDown_23 rfl (lv_at hl 1 rfl) ?_
    refine lv_dup hx hb dX2_sendDown_24 rfl ?_
    refine c_gTN (i := u) hx hb hts hinX1 hown hK hP hu 17 (by decide) (hN.fld (args := _) (a := "FeedbackQueues") (i := 142) (b := "FeedbackQueues$Task") (n := "timesDown") (d := "I") (h' := "FeedbackQueues") (by decide +kernel)) rfl dX2_sendDown_25 ?_
    refine lv_iconst (v := 1) hx hb dX2_sendDown_28 (by decide) ?_
    refine lv_iadd hx hb dX2_sendDown_29 ?_
    refine c_pTN (i := u) (ty := .int) (v := (cT S3 u 17) + 1) hx hb hts hinX1 hown hK hap hP hS hu 17 (by decide) (hN.fld (args := _) (a := "FeedbackQueues") (i := 142) (b := "FeedbackQueues$Task") (n := "timesDown") (d := "I") (h' := "FeedbackQueues") (by decide +kernel)) rfl (by decide +kernel) rfl rfl (cTf_17 ad S3 u _) (Nat.le_of_ble_eq_true rfl) dX2_sendDown_30 (fun H locs hP hS => ?_)
    obtain ⟨S4, eS4⟩ : ∃ z : Cs, z = sT S3 u 17 ((cT S3 u 17) + 1) := ⟨_, rfl⟩
    rw [← eS4] at hP
    have hok4 : okC N L b S4 := by rw [eS4]; exact okC_sT hok3 (by decide)
    refine lv_aload_n hx hb dX2_sendDown_33 rfl (lv_at hl 1 rfl) ?_
    refine lv_aload_n hx hb dX2_sendDown_34 rfl (lv_at hl 0 rfl) ?_
    refine c_gO hx hb hts hinX2 hown hK hP 0 (by decide) (hts (.fieldLink RX2 11 "FeedbackQueues" "levelRows" "[LFeedbackQueues$Level;") (by decide +kernel)) rfl dX2_sendDown_35 ?_
    refine lv_aload_n hx hb dX2_sendDown_38 rfl (lv_at hl 1 rfl) ?_
    refine c_gTN (i := u) hx hb hts hinX1 hown hK hP hu 5 (by decide) (hN.fld (args := _) (a := "FeedbackQueues") (i := 121) (b := "FeedbackQueues$Task") (n := "level") (d := "I") (h' := "FeedbackQueues") (by decide +kernel)) rfl dX2_sendDown_39 ?_
    refine c_aL (k := ((cT S4 u 5)).toNatClampNeg) hx hb hK hP (okC_ix hok4 hu) dX2_sendDown_42 ?_
    refine c_gLN (i := ((cT S4 u 5)).toNatClampNeg) hx hb hts hinX0 hown hK hP ((okC_ix hok4 hu).2.2) 1 (by decide) (hN.fld (args := _) (a := "FeedbackQueues") (i := 68) (b := "FeedbackQueues$Level") (n := "share") (d := "I") (h' := "FeedbackQueues") (by decide +kernel)) rfl dX2_sendDown_43 ?_
    refine c_pTN (i := u) (ty := .int) (v := cL S4 (((cT S4 u 5)).toNatClampNeg) 1) hx hb hts hinX1 hown hK hap hP hS hu 9 (by decide) (hN.fld (args := _) (a := "FeedbackQueues") (i := 197) (b := "FeedbackQueues$Task") (n := "shareLeft") (d := "I") (h' := "FeedbackQueues") (by decide +kernel)) rfl (by decide +kernel) rfl rfl (cTf_9 ad S4 u _) (Nat.le_of_ble_eq_true rfl) dX2_sendDown_46 (fun H locs hP hS => ?_)
    obtain ⟨S5, eS5⟩ : ∃ z : Cs, z = sT S4 u 9 (cL S4 (((cT S4 u 5)).toNatClampNeg) 1) := ⟨_, rfl⟩
    rw [← eS5] at hP
    have hok5 : okC N L b S5 := by rw [eS5]; exact okC_sT hok4 (by decide)
    refine lv_aload_n hx hb dX2_sendDown_49 rfl (lv_at hl 0 rfl) ?_
    refine lv_aload_n hx hb dX2_sendDown_50 rfl (lv_at hl 1 rfl) ?_
    refine c_cVv (As := [.ref (ad (16 + 2 * u))]) (rest := []) (k := 0) (ci := 2) (q := (RX2, TX2, 12)) ⟨hx, hb, hml, hown, hts⟩ (k_X2_standAtEnd l D cy ad S5 u hu hok5) (cwV 1 hts gX2_sendDown_X2_standAtEnd rfl rfl rfl (by decide +kernel) ⟨Nat.le_of_ble_eq_true rfl, Nat.le_of_ble_eq_true rfl⟩) hK hap hA hN hP hS (by omega) (cE_O cy ad S5) rfl rfl hl.1 rfl (Nat.le_of_ble_eq_true rfl) dX2_sendDown_51 ⟨Nat.zero_le _, Nat.zero_le _⟩ (fun H locs hP hS => ?_)
    obtain ⟨S6, eS6⟩ : ∃ z : Cs, z = F_X2_standAtEnd S5 u := ⟨_, rfl⟩
    rw [← eS6] at hP
    have hok6 : okC N L b S6 := by rw [eS6]; exact ok_X2_standAtEnd hok5 hu
    have hF : F_X2_sendDown S u = S6 := by subst eS6 eS5 eS4 eS3; simp only [F_X2_sendDown, if_neg c_10]
    rw [hF]
    exact c_vret hx hb hr hlocks hP hS dX2_sendDown_54 (fun _ h => h)
set_option maxHeartbeats 4000000 in
set_option maxRecDepth 100000 in
theorem k_X2_useTick (l : Launch) (D : va_G) (cy : Nat → ClassId) (ad : Nat → Nat) (S : Cs) (u : Nat)  (hu : u < 16) {N L b : Nat} (hok : okC N L b S)  : cMv l yX2_useTick wsX2_useTick { frames := 3, cells := 0, slots := 0, locals := 63 } D cy ad [.ref (ad 0), .ref (ad (16 + 2 * u))] S (F_X2_useTick S u) := by
  intro sz
  refine Met.ofW (cc := cX2_useTick) (maxL := 2) (ret := none) (by decide) rfl ?_
  intro p e s m args below meth c s₁ B hml hv
  obtain ⟨rfl, hsz, hP, hK, hap0, hN⟩ := hv
  have hx := B.exec
  have hb := B.bytes
  have hr := B.returns
  have hts := atoms_spec (ws := wsX2_useTick) B.pre
  have hown : s.vm.findClass RX2 = some m.cls := findClass_of_methodNamed B.named
  have hlocks := B.notSynchronized
  subst hsz
  have hap := gw_self (sz := s.heap.size) hap0
  generalize hAe : gA 48 ad s.heap.size = A at hap ⊢
  have hA : ∀ q : Nat, s.heap.size ≤ q → A q := fun q h => by rw [← hAe]; exact Or.inr h
  have hS : va_S A s.heap s.heap [] := va_S.rf
  have hinX1 : ∀ w ∈ wsX10, w ∈ wsX2_useTick := by decide +kernel
  have hinX2 : ∀ w ∈ wsX20, w ∈ wsX2_useTick := by decide +kernel
  have hl := lv_entry ([.ref (ad 0), .ref (ad (16 + 2 * u))]) (n := 2) (Nat.le_of_ble_eq_true rfl)
  rw [lg_entry_eq]
  generalize (lg_sl ([.ref (ad 0), .ref (ad (16 + 2 * u))]) ++ List.replicate (2 - (lg_sl ([.ref (ad 0), .ref (ad (16 + 2 * u))])).length) Slot.unset).toArray = ls at hl ⊢
  have hl : lv_has ls 2 [(0, .ref (ad 0)), (1, .ref (ad (16 + 2 * u)))] := hl
  obtain ⟨H, hH⟩ : ∃ H, H = s.heap := ⟨_, rfl⟩
  rw [← hH] at hP
  have hS : va_S A s.heap H [] := by rw [hH]; exact hS
  rw [← hH]
  generalize ([] : List Loc) = locs at hS ⊢
  refine lv_aload_n hx hb dX2_useTick_0 rfl (lv_at hl 1 rfl) ?_
  refine lv_dup hx hb dX2_useTick_1 rfl ?_
  refine c_gTN (i := u) hx hb hts hinX1 hown hK hP hu 11 (by decide) (hN.fld (args := _) (a := "FeedbackQueues") (i := 124) (b := "FeedbackQueues$Task") (n := "ticksRun") (d := "I") (h' := "FeedbackQueues") (by decide +kernel)) rfl dX2_useTick_2 ?_
  refine lv_iconst (v := 1) hx hb dX2_useTick_5 (by decide) ?_
  refine lv_iadd hx hb dX2_useTick_6 ?_
  refine c_pTN (i := u) (ty := .int) (v := (cT S u 11) + 1) hx hb hts hinX1 hown hK hap hP hS hu 11 (by decide) (hN.fld (args := _) (a := "FeedbackQueues") (i := 124) (b := "FeedbackQueues$Task") (n := "ticksRun") (d := "I") (h' := "FeedbackQueues") (by decide +kernel)) rfl (by decide +kernel) rfl rfl (cTf_11 ad S u _) (Nat.le_of_ble_eq_true rfl) dX2_useTick_7 (fun H locs hP hS => ?_)
  obtain ⟨S1, eS1⟩ : ∃ z : Cs, z = sT S u 11 ((cT S u 11) + 1) := ⟨_, rfl⟩
  rw [← eS1] at hP
  have hok1 : okC N L b S1 := by rw [eS1]; exact okC_sT hok (by decide)
  refine lv_aload_n hx hb dX2_useTick_10 rfl (lv_at hl 1 rfl) ?_
  refine lv_dup hx hb dX2_useTick_11 rfl ?_
  refine c_gTN (i := u) hx hb hts hinX1 hown hK hP hu 7 (by decide) (hN.fld (args := _) (a := "FeedbackQueues") (i := 203) (b := "FeedbackQueues$Task") (n := "burstLeft") (d := "I") (h' := "FeedbackQueues") (by decide +kernel)) rfl dX2_useTick_12 ?_
  refine lv_iconst (v := 1) hx hb dX2_useTick_15 (by decide) ?_
  refine lv_isub hx hb dX2_useTick_16 ?_
  refine c_pTN (i := u) (ty := .int) (v := (cT S1 u 7) - 1) hx hb hts hinX1 hown hK hap hP hS hu 7 (by decide) (hN.fld (args := _) (a := "FeedbackQueues") (i := 203) (b := "FeedbackQueues$Task") (n := "burstLeft") (d := "I") (h' := "FeedbackQueues") (by decide +kernel)) rfl (by decide +kernel) rfl rfl (cTf_7 ad S1 u _) (Nat.le_of_ble_eq_true rfl) dX2_useTick_17 (fun H locs hP hS => ?_)
  obtain ⟨S2, eS2⟩ : ∃ z : Cs, z = sT S1 u 7 ((cT S1 u 7) - 1) := ⟨_, rfl⟩
  rw [← eS2] at hP
  have hok2 : okC N L b S2 := by rw [eS2]; exact okC_sT hok1 (by decide)
  refine lv_aload_n hx hb dX2_useTick_20 rfl (lv_at hl 1 rfl) ?_
  refine lv_dup hx hb dX2_useTick_21 rfl ?_
  refine c_gTN (i := u) hx hb hts hinX1 hown hK hP hu 8 (by decide) (hN.fld (args := _) (a := "FeedbackQueues") (i := 240) (b := "FeedbackQueues$Task") (n := "quantumLeft") (d := "I") (h' := "FeedbackQueues") (by decide +kernel)) rfl dX2_useTick_22 ?_
  refine lv_iconst (v := 1) hx hb dX2_useTick_25 (by decide) ?_
  refine lv_isub hx hb dX2_useTick_26 ?_
  refine c_pTN (i := u) (ty := .int) (v := (cT S2 u 8) - 1) hx hb hts hinX1 hown hK hap hP hS hu 8 (by decide) (hN.fld (args := _) (a := "FeedbackQueues") (i := 240) (b := "FeedbackQueues$Task") (n := "quantumLeft") (d := "I") (h' := "FeedbackQueues") (by decide +kernel)) rfl (by decide +kernel) rfl rfl (cTf_8 ad S2 u _) (Nat.le_of_ble_eq_true rfl) dX2_useTick_27 (fun H locs hP hS => ?_)
  obtain ⟨S3, eS3⟩ : ∃ z : Cs, z = sT S2 u 8 ((cT S2 u 8) - 1) := ⟨_, rfl⟩
  rw [← eS3] at hP
  have hok3 : okC N L b S3 := by rw [eS3]; exact okC_sT hok2 (by decide)
  refine lv_aload_n hx hb dX2_useTick_30 rfl (lv_at hl 1 rfl) ?_
  refine lv_dup hx hb dX2_useTick_31 rfl ?_
  refine c_gTN (i := u) hx hb hts hinX1 hown hK hP hu 9 (by decide) (hN.fld (args := _) (a := "FeedbackQueues") (i := 197) (b := "FeedbackQueues$Task") (n := "shareLeft") (d := "I") (h' := "FeedbackQueues") (by decide +kernel)) rfl dX2_useTick_32 ?_
  refine lv_iconst (v := 1) hx hb dX2_useTick_35 (by decide) ?_
  refine lv_isub hx hb dX2_useTick_36 ?_
  refine c_pTN (i := u) (ty := .int) (v := (cT S3 u 9) - 1) hx hb hts hinX1 hown hK hap hP hS hu 9 (by decide) (hN.fld (args := _) (a := "FeedbackQueues") (i := 197) (b := "FeedbackQueues$Task") (n := "shareLeft") (d := "I") (h' := "FeedbackQueues") (by decide +kernel)) rfl (by decide +kernel) rfl rfl (cTf_9 ad S3 u _) (Nat.le_of_ble_eq_true rfl) dX2_useTick_37 (fun H locs hP hS => ?_)
  obtain ⟨S4, eS4⟩ : ∃ z : Cs, z = sT S3 u 9 ((cT S3 u 9) - 1) := ⟨_, rfl⟩
  rw [← eS4] at hP
  have hok4 : okC N L b S4 := by rw [eS4]; exact okC_sT hok3 (by decide)
  refine lv_aload_n hx hb dX2_useTick_40 rfl (lv_at hl 1 rfl) ?_
  refine c_gTN (i := u) hx hb hts hinX1 hown hK hP hu 7 (by decide) (hN.fld (args := _) (a := "FeedbackQueues") (i := 203) (b := "FeedbackQueues$Task") (n := "burstLeft") (d := "I") (h' := "FeedbackQueues") (by decide +kernel)) rfl dX2_useTick_41 ?_
  refine lv_if_ne (tgt := 55) hx hb dX2_useTick_44 (by decide) (fun c_44 => ?_) (fun c_44 => ?_)
  · skip
    refine lv_aload_n hx hb dX2_useTick_55 rfl (lv_at hl 1 rfl) ?_
    refine c_gTN (i := u) hx hb hts hinX1 hown hK hP hu 9 (by decide) (hN.fld (args := _) (a := "FeedbackQueues") (i := 197) (b := "FeedbackQueues$Task") (n := "shareLeft") (d := "I") (h' := "FeedbackQueues") (by decide +kernel)) rfl dX2_useTick_56 ?_
    refine lv_if_gt (tgt := 70) hx hb dX2_useTick_59 (by decide) (fun c_59 => ?_) (fun c_59 => ?_)
    · skip
      refine lv_aload_n hx hb dX2_useTick_70 rfl (lv_at hl 1 rfl) ?_
      refine c_gTN (i := u) hx hb hts hinX1 hown hK hP hu 8 (by decide) (hN.fld (args := _) (a := "FeedbackQueues") (i := 240) (b := "FeedbackQueues$Task") (n := "quantumLeft") (d := "I") (h' := "FeedbackQueues") (by decide +kernel)) rfl dX2_useTick_71 ?_
      refine lv_if_ne (tgt := 85) hx hb dX2_useTick_74 (by decide) (fun c_74 => ?_) (fun c_74 => ?_)
      · skip
        have hF : F_X2_useTick S u = S4 := by subst eS4 eS3 eS2 eS1; simp only [F_X2_useTick, if_neg c_44, if_pos c_59, if_neg c_74]
        rw [hF]
        exact c_vret hx hb hr hlocks hP hS dX2_useTick_85 (fun _ h => h)
      · skip
        refine lv_aload_n hx hb dX2_useTick_77 rfl (lv_at hl 0 rfl) ?_
        refine lv_aload_n hx hb dX2_useTick_78 rfl (lv_at hl 1 rfl) ?_
        refine c_cVv (As := [.ref (ad (16 + 2 * u))]) (rest := []) (k := 0) (ci := 2) (q := (RX2, TX2, 12)) ⟨hx, hb, hml, hown, hts⟩ (k_X2_standAtEnd l D cy ad S4 u hu hok4) (cwV 1 hts gX2_useTick_X2_standAtEnd rfl rfl rfl (by decide +kernel) ⟨Nat.le_of_ble_eq_true rfl, Nat.le_of_ble_eq_true rfl⟩) hK hap hA hN hP hS (by omega) (cE_O cy ad S4) rfl rfl hl.1 rfl (Nat.le_of_ble_eq_true rfl) dX2_useTick_79 ⟨Nat.zero_le _, Nat.zero_le _⟩ (fun H locs hP hS => ?_)
        obtain ⟨S5, eS5⟩ : ∃ z : Cs, z = F_X2_standAtEnd S4 u := ⟨_, rfl⟩
        rw [← eS5] at hP
        have hok5 : okC N L b S5 := by rw [eS5]; exact ok_X2_standAtEnd hok4 hu
        refine lv_goto (tgt := 86) hx hb dX2_useTick_82 (by decide) ?_
        refine lv_aload_n hx hb dX2_useTick_86 rfl (lv_at hl 0 rfl) ?_
        refine lv_null hx hb dX2_useTick_87 ?_
        refine c_pNn hx hb hts hinX2 hown hK hap hP hS (hts (.fieldLink RX2 38 "FeedbackQueues" "onProcessor" "LFeedbackQueues$Task;") (by decide +kernel)) dX2_useTick_88 (fun H locs hP hS => ?_)
        obtain ⟨S6, eS6⟩ : ∃ z : Cs, z = sN S5 none := ⟨_, rfl⟩
        rw [← eS6] at hP
        have hok6 : okC N L b S6 := by rw [eS6]; exact okC_sN0 hok5
        have hF : F_X2_useTick S u = S6 := by subst eS6 eS5 eS4 eS3 eS2 eS1; simp only [F_X2_useTick, if_neg c_44, if_pos c_59, if_pos c_74]
        rw [hF]
        exact c_vret hx hb hr hlocks hP hS dX2_useTick_91 (fun _ h => h)
    · skip
      refine lv_aload_n hx hb dX2_useTick_62 rfl (lv_at hl 0 rfl) ?_
      refine lv_aload_n hx hb dX2_useTick_63 rfl (lv_at hl 1 rfl) ?_
      refine c_cVv (As := [.ref (ad (16 + 2 * u))]) (rest := []) (k := 0) (ci := 2) (q := (RX2, TX2, 12)) ⟨hx, hb, hml, hown, hts⟩ (k_X2_sendDown l D cy ad S4 u hu hok4) (cwV 1 hts gX2_useTick_X2_sendDown rfl rfl rfl (by decide +kernel) ⟨Nat.le_of_ble_eq_true rfl, Nat.le_of_ble_eq_true rfl⟩) hK hap hA hN hP hS (by omega) (cE_O cy ad S4) rfl rfl hl.1 rfl (Nat.le_of_ble_eq_true rfl) dX2_useTick_64 ⟨Nat.zero_le _, Nat.zero_le _⟩ (fun H locs hP hS => ?_)
      obtain ⟨S7, eS7⟩ : ∃ z : Cs, z = F_X2_sendDown S4 u := ⟨_, rfl⟩
      rw [← eS7] at hP
      have hok7 : okC N L b S7 := by rw [eS7]; exact ok_X2_sendDown hok4 hu
      refine lv_goto (tgt := 86) hx hb dX2_useTick_67 (by decide) ?_
      refine lv_aload_n hx hb dX2_useTick_86 rfl (lv_at hl 0 rfl) ?_
      refine lv_null hx hb dX2_useTick_87 ?_
      refine c_pNn hx hb hts hinX2 hown hK hap hP hS (hts (.fieldLink RX2 38 "FeedbackQueues" "onProcessor" "LFeedbackQueues$Task;") (by decide +kernel)) dX2_useTick_88 (fun H locs hP hS => ?_)
      obtain ⟨S8, eS8⟩ : ∃ z : Cs, z = sN S7 none := ⟨_, rfl⟩
      rw [← eS8] at hP
      have hok8 : okC N L b S8 := by rw [eS8]; exact okC_sN0 hok7
      have hF : F_X2_useTick S u = S8 := by subst eS8 eS7 eS4 eS3 eS2 eS1; simp only [F_X2_useTick, if_neg c_44, if_neg c_59]
      rw [hF]
      exact c_vret hx hb hr hlocks hP hS dX2_useTick_91 (fun _ h => h)
  · skip
    refine lv_aload_n hx hb dX2_useTick_47 rfl (lv_at hl 0 rfl) ?_
    refine lv_aload_n hx hb dX2_useTick_48 rfl (lv_at hl 1 rfl) ?_
    refine c_cVv (As := [.ref (ad (16 + 2 * u))]) (rest := []) (k := 0) (ci := 2) (q := (RX2, TX2, 12)) ⟨hx, hb, hml, hown, hts⟩ (k_X2_blockOrEnd l D cy ad S4 u hu hok4) (cwV 1 hts gX2_useTick_X2_blockOrEnd rfl rfl rfl (by decide +kernel) ⟨Nat.le_of_ble_eq_true rfl, Nat.le_of_ble_eq_true rfl⟩) hK hap hA hN hP hS (by omega) (cE_O cy ad S4) rfl rfl hl.1 rfl (Nat.le_of_ble_eq_true rfl) dX2_useTick_49 ⟨Nat.zero_le _, Nat.zero_le _⟩ (fun H locs hP hS => ?_)
    obtain ⟨S9, eS9⟩ : ∃ z : Cs, z = F_X2_blockOrEnd S4 u := ⟨_, rfl⟩
    rw [← eS9] at hP
    have hok9 : okC N L b S9 := by rw [eS9]; exact ok_X2_blockOrEnd hok4 hu
    refine lv_goto (tgt := 86) hx hb dX2_useTick_52 (by decide) ?_
    refine lv_aload_n hx hb dX2_useTick_86 rfl (lv_at hl 0 rfl) ?_
    refine lv_null hx hb dX2_useTick_87 ?_
    refine c_pNn hx hb hts hinX2 hown hK hap hP hS (hts (.fieldLink RX2 38 "FeedbackQueues" "onProcessor" "LFeedbackQueues$Task;") (by decide +kernel)) dX2_useTick_88 (fun H locs hP hS => ?_)
    obtain ⟨S10, eS10⟩ : ∃ z : Cs, z = sN S9 none := ⟨_, rfl⟩
    rw [← eS10] at hP
    have hok10 : okC N L b S10 := by rw [eS10]; exact okC_sN0 hok9
    have hF : F_X2_useTick S u = S10 := by subst eS10 eS9 eS4 eS3 eS2 eS1; simp only [F_X2_useTick, if_pos c_44]
    rw [hF]
    exact c_vret hx hb hr hlocks hP hS dX2_useTick_91 (fun _ h => h)
set_option maxHeartbeats 4000000 in
set_option maxRecDepth 100000 in
theorem k_X2_isOneReadyAbove (l : Launch) (D : va_G) (cy : Nat → ClassId) (ad : Nat → Nat) (S : Cs) (p1 : Int32)  {N L b : Nat} (hok : okC N L b S) (hp : ub 6 p1) : cMi l yX2_isOneReadyAbove wsX2_isOneReadyAbove { frames := 0, cells := 0, slots := 0, locals := 0 } D cy ad [.ref (ad 0), .int p1] S (F_X2_isOneReadyAbove S p1).1 (F_X2_isOneReadyAbove S p1).2 := by
  intro sz
  refine Met.ofW (cc := cX2_isOneReadyAbove) (maxL := 3) (ret := (some .boolean)) (by decide) rfl ?_
  intro p e s m args below meth c s₁ B hml hv
  obtain ⟨rfl, hsz, hP, hK, hap0, hN⟩ := hv
  have hx := B.exec
  have hb := B.bytes
  have hr := B.returns
  have hts := atoms_spec (ws := wsX2_isOneReadyAbove) B.pre
  have hown : s.vm.findClass RX2 = some m.cls := findClass_of_methodNamed B.named
  have hlocks := B.notSynchronized
  subst hsz
  have hap := gw_self (sz := s.heap.size) hap0
  generalize hAe : gA 48 ad s.heap.size = A at hap ⊢
  have hA : ∀ q : Nat, s.heap.size ≤ q → A q := fun q h => by rw [← hAe]; exact Or.inr h
  have hS : va_S A s.heap s.heap [] := va_S.rf
  have hinX0 : ∀ w ∈ wsX00, w ∈ wsX2_isOneReadyAbove := by decide +kernel
  have hinX2 : ∀ w ∈ wsX20, w ∈ wsX2_isOneReadyAbove := by decide +kernel
  have hl := lv_entry ([.ref (ad 0), .int p1]) (n := 3) (Nat.le_of_ble_eq_true rfl)
  rw [lg_entry_eq]
  generalize (lg_sl ([.ref (ad 0), .int p1]) ++ List.replicate (3 - (lg_sl ([.ref (ad 0), .int p1])).length) Slot.unset).toArray = ls at hl ⊢
  have hl : lv_has ls 3 [(0, .ref (ad 0)), (1, .int p1)] := hl
  obtain ⟨H, hH⟩ : ∃ H, H = s.heap := ⟨_, rfl⟩
  rw [← hH] at hP
  have hS : va_S A s.heap H [] := by rw [hH]; exact hS
  rw [← hH]
  generalize ([] : List Loc) = locs at hS ⊢
  refine lv_iconst (v := 0) hx hb dX2_isOneReadyAbove_0 (by decide) ?_
  refine lv_istore_n (lv' := [(2, .int 0), (0, .ref (ad 0)), (1, .int p1)]) hx hb dX2_isOneReadyAbove_1 rfl hl (by decide) rfl (fun ls hl => ?_)
  have hp6 := ub_le hp (by omega)
  have lp_2 : ∀ (n t : Nat) (Z : Cs) (H : Heap) (locs : List Loc) (ls : Array Slot), t + n = (p1).toNatClampNeg → okC N L b Z → F_X2_isOneReadyAbove S p1 = L_X2_isOneReadyAbove_2 p1 n t Z → va_P D vwCl (cwl cy ad Z) H → va_S A s.heap H locs → lv_has ls 3 [(2, .int (nI t)), (0, .ref (ad 0)), (1, .int p1)] → W p l e (headSpec wsX2_isOneReadyAbove { frames := 0, cells := 0, slots := 0, locals := 0 }).room s m ([.ref (ad 0), .int p1] : List Value).toArray below meth c H locs 0 0 (MQ below (va_Qi (fun (x : Int32) (_ : Unit) => x = (F_X2_isOneReadyAbove S p1).2) (fun _ t => cPost D cy ad (F_X2_isOneReadyAbove S p1).1 t) A) ([.ref (ad 0), .int p1] : List Value).toArray s 0 0 A) (F0 m 2 ls []) := by
    intro n
    induction n with
    | zero =>
      intro t Z H locs ls hk hI hT hP hS hl
      refine lv_iload_n hx hb dX2_isOneReadyAbove_2 rfl (lv_at hl 0 rfl) ?_
      refine lv_iload_n hx hb dX2_isOneReadyAbove_3 rfl (lv_at hl 2 rfl) ?_
      refine lv_icmp_ge (tgt := 27) hx hb dX2_isOneReadyAbove_4 (by decide) (fun c_4 => ?_) (fun c_4 => ?_)
      rotate_left
      · exact absurd (by rw [ub_nI hp (by omega)]; exact nI_le (by omega) (by omega)) c_4
      refine lv_iconst (v := 0) hx hb dX2_isOneReadyAbove_27 (by decide) ?_
      have hF : F_X2_isOneReadyAbove S p1 = (Z, 0) := hT.trans (by simp only [L_X2_isOneReadyAbove_2])
      rw [hF]
      exact c_zret hx hb hr hlocks narrow_b0 hP hS dX2_isOneReadyAbove_28 (fun _ h => h)
    | succ n ih =>
      intro t Z H locs ls hk hI hT hP hS hl
      have ht : t < (p1).toNatClampNeg := by omega
      refine lv_iload_n hx hb dX2_isOneReadyAbove_2 rfl (lv_at hl 0 rfl) ?_
      refine lv_iload_n hx hb dX2_isOneReadyAbove_3 rfl (lv_at hl 2 rfl) ?_
      refine lv_icmp_ge (tgt := 27) hx hb dX2_isOneReadyAbove_4 (by decide) (fun c_4 => ?_) (fun c_4 => ?_)
      · exact absurd c_4 (by rw [ub_nI hp (by omega)]; exact nI_ge (by omega) (by omega))
      refine lv_aload_n hx hb dX2_isOneReadyAbove_7 rfl (lv_at hl 1 rfl) ?_
      refine c_gO hx hb hts hinX2 hown hK hP 0 (by decide) (hts (.fieldLink RX2 11 "FeedbackQueues" "levelRows" "[LFeedbackQueues$Level;") (by decide +kernel)) rfl dX2_isOneReadyAbove_8 ?_
      refine lv_iload_n hx hb dX2_isOneReadyAbove_11 rfl (lv_at hl 0 rfl) ?_
      refine c_aL (k := t) hx hb hK hP (ix_nI (by omega) (by omega)) dX2_isOneReadyAbove_12 ?_
      refine c_gLN (i := t) hx hb hts hinX0 hown hK hP ((ix_nI (by omega) (by omega)).2.2) 3 (by decide) (hN.fld (args := _) (a := "FeedbackQueues") (i := 227) (b := "FeedbackQueues$Level") (n := "size") (d := "I") (h' := "FeedbackQueues") (by decide +kernel)) rfl dX2_isOneReadyAbove_13 ?_
      refine lv_if_le (tgt := 21) hx hb dX2_isOneReadyAbove_16 (by decide) (fun c_16 => ?_) (fun c_16 => ?_)
      · skip
        refine lv_iinc (v := nI (t + 1)) (lv' := [(2, .int (nI (t + 1))), (0, .ref (ad 0)), (1, .int p1)]) hx hb dX2_isOneReadyAbove_21 hl (k := 0) rfl (inc_nI t) (by decide) rfl (fun ls hl => ?_)
        refine lv_goto (tgt := 2) hx hb dX2_isOneReadyAbove_24 (by decide) ?_
        exact ih (t + 1) Z H locs ls (by omega) (hI) (hT.trans (by simp only [L_X2_isOneReadyAbove_2, if_pos c_16])) hP hS (lv_sub hl [0, 1, 2] rfl)
      · skip
        refine lv_iconst (v := 1) hx hb dX2_isOneReadyAbove_19 (by decide) ?_
        have hF : F_X2_isOneReadyAbove S p1 = (Z, 1) := hT.trans (by simp only [L_X2_isOneReadyAbove_2, if_neg c_16])
        rw [hF]
        exact c_zret hx hb hr hlocks narrow_b1 hP hS dX2_isOneReadyAbove_20 (fun _ h => h)
  exact lp_2 ((p1).toNatClampNeg) 0 S H locs ls (by omega) (hok) (by simp only [F_X2_isOneReadyAbove]) hP hS (by rw [show nI 0 = 0 from by decide]; exact lv_sub hl [0, 1, 2] rfl)
set_option maxHeartbeats 4000000 in
set_option maxRecDepth 100000 in
theorem k_X2_countWaiting (l : Launch) (D : va_G) (cy : Nat → ClassId) (ad : Nat → Nat) (S : Cs)   {N L b : Nat} (hok : okC N L b S)  : cMv l yX2_countWaiting wsX2_countWaiting { frames := 0, cells := 0, slots := 0, locals := 0 } D cy ad [.ref (ad 0)] S (F_X2_countWaiting S ) := by
  intro sz
  refine Met.ofW (cc := cX2_countWaiting) (maxL := 3) (ret := none) (by decide) rfl ?_
  intro p e s m args below meth c s₁ B hml hv
  obtain ⟨rfl, hsz, hP, hK, hap0, hN⟩ := hv
  have hx := B.exec
  have hb := B.bytes
  have hr := B.returns
  have hts := atoms_spec (ws := wsX2_countWaiting) B.pre
  have hown : s.vm.findClass RX2 = some m.cls := findClass_of_methodNamed B.named
  have hlocks := B.notSynchronized
  subst hsz
  have hap := gw_self (sz := s.heap.size) hap0
  generalize hAe : gA 48 ad s.heap.size = A at hap ⊢
  have hA : ∀ q : Nat, s.heap.size ≤ q → A q := fun q h => by rw [← hAe]; exact Or.inr h
  have hS : va_S A s.heap s.heap [] := va_S.rf
  have hinX1 : ∀ w ∈ wsX10, w ∈ wsX2_countWaiting := by decide +kernel
  have hinX2 : ∀ w ∈ wsX20, w ∈ wsX2_countWaiting := by decide +kernel
  have hl := lv_entry ([.ref (ad 0)]) (n := 3) (Nat.le_of_ble_eq_true rfl)
  rw [lg_entry_eq]
  generalize (lg_sl ([.ref (ad 0)]) ++ List.replicate (3 - (lg_sl ([.ref (ad 0)])).length) Slot.unset).toArray = ls at hl ⊢
  have hl : lv_has ls 3 [(0, .ref (ad 0))] := hl
  obtain ⟨H, hH⟩ : ∃ H, H = s.heap := ⟨_, rfl⟩
  rw [← hH] at hP
  have hS : va_S A s.heap H [] := by rw [hH]; exact hS
  rw [← hH]
  generalize ([] : List Loc) = locs at hS ⊢
  refine lv_iconst (v := 0) hx hb dX2_countWaiting_0 (by decide) ?_
  refine lv_istore_n (lv' := [(1, .int 0), (0, .ref (ad 0))]) hx hb dX2_countWaiting_1 rfl hl (by decide) rfl (fun ls hl => ?_)
  have hNe : (cO S 4).toNatClampNeg = N := okC_N hok
  have hN16 : N ≤ 16 := hok.2.2.1
  have lp_2 : ∀ (Q : State → Prop) (n t : Nat) (Z : Cs) (H : Heap) (locs : List Loc) (ls : Array Slot), t + n = (cO S 4).toNatClampNeg → okC N L b Z → va_P D vwCl (cwl cy ad Z) H → va_S A s.heap H locs → lv_has ls 3 [(1, .int (nI t)), (0, .ref (ad 0))] → (∀ (H : Heap) (locs : List Loc) (ls : Array Slot), va_P D vwCl (cwl cy ad (itr B_X2_countWaiting_2 n t Z)) H → va_S A s.heap H locs → lv_has ls 3 [(1, .int (nI ((cO S 4).toNatClampNeg))), (0, .ref (ad 0))] → W p l e (headSpec wsX2_countWaiting { frames := 0, cells := 0, slots := 0, locals := 0 }).room s m ([.ref (ad 0)] : List Value).toArray below meth c H locs 0 0 Q (F0 m 72 ls [])) → W p l e (headSpec wsX2_countWaiting { frames := 0, cells := 0, slots := 0, locals := 0 }).room s m ([.ref (ad 0)] : List Value).toArray below meth c H locs 0 0 Q (F0 m 2 ls []) := by
    intro Q n
    induction n with
    | zero =>
      intro t Z H locs ls hk hI hP hS hl K
      refine lv_iload_n hx hb dX2_countWaiting_2 rfl (lv_at hl 0 rfl) ?_
      refine lv_aload_n hx hb dX2_countWaiting_3 rfl (lv_at hl 1 rfl) ?_
      refine c_gO hx hb hts hinX2 hown hK hP 4 (by decide) (hts (.fieldLink RX2 29 "FeedbackQueues" "taskCount" "I") (by decide +kernel)) rfl dX2_countWaiting_4 ?_
      refine lv_icmp_ge (tgt := 72) hx hb dX2_countWaiting_7 (by decide) (fun c_7 => ?_) (fun c_7 => ?_)
      rotate_left
      · exact absurd (by rw [show cO Z 4 = nI ((cO S 4).toNatClampNeg) from by rw [hNe]; exact hI.1]; exact nI_le (by omega) (by omega)) c_7
      have hiN : t = (cO S 4).toNatClampNeg := by omega
      rw [hiN] at hl
      exact K H locs ls hP hS (lv_sub hl [0, 1] rfl)
    | succ n ih =>
      intro t Z H locs ls hk hI hP hS hl K
      have ht : t < (cO S 4).toNatClampNeg := by omega
      refine lv_iload_n hx hb dX2_countWaiting_2 rfl (lv_at hl 0 rfl) ?_
      refine lv_aload_n hx hb dX2_countWaiting_3 rfl (lv_at hl 1 rfl) ?_
      refine c_gO hx hb hts hinX2 hown hK hP 4 (by decide) (hts (.fieldLink RX2 29 "FeedbackQueues" "taskCount" "I") (by decide +kernel)) rfl dX2_countWaiting_4 ?_
      refine lv_icmp_ge (tgt := 72) hx hb dX2_countWaiting_7 (by decide) (fun c_7 => ?_) (fun c_7 => ?_)
      · exact absurd c_7 (by rw [show cO Z 4 = nI ((cO S 4).toNatClampNeg) from by rw [hNe]; exact hI.1]; exact nI_ge (by omega) (by omega))
      refine lv_aload_n hx hb dX2_countWaiting_10 rfl (lv_at hl 1 rfl) ?_
      refine c_gO hx hb hts hinX2 hown hK hP 1 (by decide) (hts (.fieldLink RX2 17 "FeedbackQueues" "tasks" "[LFeedbackQueues$Task;") (by decide +kernel)) rfl dX2_countWaiting_11 ?_
      refine lv_iload_n hx hb dX2_countWaiting_14 rfl (lv_at hl 0 rfl) ?_
      refine c_aT (k := t) hx hb hK hP (ix_nI (by omega) (by omega)) dX2_countWaiting_15 ?_
      refine lv_astore_n (lv' := [(2, .ref (ad (16 + 2 * t))), (1, .int (nI t)), (0, .ref (ad 0))]) hx hb dX2_countWaiting_16 rfl hl (by decide) rfl (fun ls hl => ?_)
      refine lv_aload_n hx hb dX2_countWaiting_17 rfl (lv_at hl 0 rfl) ?_
      refine c_gTN (i := t) hx hb hts hinX1 hown hK hP ((ix_nI (by omega) (by omega)).2.2) 4 (by decide) (hN.fld (args := _) (a := "FeedbackQueues") (i := 118) (b := "FeedbackQueues$Task") (n := "state") (d := "I") (h' := "FeedbackQueues") (by decide +kernel)) rfl dX2_countWaiting_18 ?_
      refine lv_iconst (v := 1) hx hb dX2_countWaiting_21 (by decide) ?_
      refine lv_icmp_ne (tgt := 38) hx hb dX2_countWaiting_22 (by decide) (fun c_22 => ?_) (fun c_22 => ?_)
      · skip
        refine lv_aload_n hx hb dX2_countWaiting_38 rfl (lv_at hl 0 rfl) ?_
        refine c_gTN (i := t) hx hb hts hinX1 hown hK hP ((ix_nI (by omega) (by omega)).2.2) 4 (by decide) (hN.fld (args := _) (a := "FeedbackQueues") (i := 118) (b := "FeedbackQueues$Task") (n := "state") (d := "I") (h' := "FeedbackQueues") (by decide +kernel)) rfl dX2_countWaiting_39 ?_
        refine lv_iconst (v := 3) hx hb dX2_countWaiting_42 (by decide) ?_
        refine lv_icmp_ne (tgt := 66) hx hb dX2_countWaiting_43 (by decide) (fun c_43 => ?_) (fun c_43 => ?_)
        · skip
          refine lv_iinc (v := nI (t + 1)) (lv' := [(1, .int (nI (t + 1))), (2, .ref (ad (16 + 2 * t))), (0, .ref (ad 0))]) hx hb dX2_countWaiting_66 hl (k := 1) rfl (inc_nI t) (by decide) rfl (fun ls hl => ?_)
          refine lv_goto (tgt := 2) hx hb dX2_countWaiting_69 (by decide) ?_
          have hF : B_X2_countWaiting_2 t Z = Z := by simp only [B_X2_countWaiting_2, if_neg c_22, if_neg c_43]
          rw [← hF] at hP
          exact ih (t + 1) (B_X2_countWaiting_2 t Z) H locs ls (by omega) (ok_B_countWaiting hI (by omega)) hP hS (lv_sub hl [0, 2] rfl) K
        · skip
          refine lv_aload_n hx hb dX2_countWaiting_46 rfl (lv_at hl 0 rfl) ?_
          refine lv_dup hx hb dX2_countWaiting_47 rfl ?_
          refine c_gTN (i := t) hx hb hts hinX1 hown hK hP ((ix_nI (by omega) (by omega)).2.2) 13 (by decide) (hN.fld (args := _) (a := "FeedbackQueues") (i := 130) (b := "FeedbackQueues$Task") (n := "ticksBlocked") (d := "I") (h' := "FeedbackQueues") (by decide +kernel)) rfl dX2_countWaiting_48 ?_
          refine lv_iconst (v := 1) hx hb dX2_countWaiting_51 (by decide) ?_
          refine lv_iadd hx hb dX2_countWaiting_52 ?_
          refine c_pTN (i := t) (ty := .int) (v := (cT Z t 13) + 1) hx hb hts hinX1 hown hK hap hP hS ((ix_nI (by omega) (by omega)).2.2) 13 (by decide) (hN.fld (args := _) (a := "FeedbackQueues") (i := 130) (b := "FeedbackQueues$Task") (n := "ticksBlocked") (d := "I") (h' := "FeedbackQueues") (by decide +kernel)) rfl (by decide +kernel) rfl rfl (cTf_13 ad Z t _) (Nat.le_of_ble_eq_true rfl) dX2_countWaiting_53 (fun H locs hP hS => ?_)
          obtain ⟨S1, eS1⟩ : ∃ z : Cs, z = sT Z t 13 ((cT Z t 13) + 1) := ⟨_, rfl⟩
          rw [← eS1] at hP
          have hok1 : okC N L b S1 := by rw [eS1]; exact okC_sT hI (by decide)
          refine lv_aload_n hx hb dX2_countWaiting_56 rfl (lv_at hl 0 rfl) ?_
          refine lv_dup hx hb dX2_countWaiting_57 rfl ?_
          refine c_gTN (i := t) hx hb hts hinX1 hown hK hP ((ix_nI (by omega) (by omega)).2.2) 7 (by decide) (hN.fld (args := _) (a := "FeedbackQueues") (i := 203) (b := "FeedbackQueues$Task") (n := "burstLeft") (d := "I") (h' := "FeedbackQueues") (by decide +kernel)) rfl dX2_countWaiting_58 ?_
          refine lv_iconst (v := 1) hx hb dX2_countWaiting_61 (by decide) ?_
          refine lv_isub hx hb dX2_countWaiting_62 ?_
          refine c_pTN (i := t) (ty := .int) (v := (cT S1 t 7) - 1) hx hb hts hinX1 hown hK hap hP hS ((ix_nI (by omega) (by omega)).2.2) 7 (by decide) (hN.fld (args := _) (a := "FeedbackQueues") (i := 203) (b := "FeedbackQueues$Task") (n := "burstLeft") (d := "I") (h' := "FeedbackQueues") (by decide +kernel)) rfl (by decide +kernel) rfl rfl (cTf_7 ad S1 t _) (Nat.le_of_ble_eq_true rfl) dX2_countWaiting_63 (fun H locs hP hS => ?_)
          obtain ⟨S2, eS2⟩ : ∃ z : Cs, z = sT S1 t 7 ((cT S1 t 7) - 1) := ⟨_, rfl⟩
          rw [← eS2] at hP
          have hok2 : okC N L b S2 := by rw [eS2]; exact okC_sT hok1 (by decide)
          refine lv_iinc (v := nI (t + 1)) (lv' := [(1, .int (nI (t + 1))), (2, .ref (ad (16 + 2 * t))), (0, .ref (ad 0))]) hx hb dX2_countWaiting_66 hl (k := 1) rfl (inc_nI t) (by decide) rfl (fun ls hl => ?_)
          refine lv_goto (tgt := 2) hx hb dX2_countWaiting_69 (by decide) ?_
          have hF : B_X2_countWaiting_2 t Z = S2 := by subst eS2 eS1; simp only [B_X2_countWaiting_2, if_neg c_22, if_pos c_43]
          rw [← hF] at hP
          exact ih (t + 1) (B_X2_countWaiting_2 t Z) H locs ls (by omega) (ok_B_countWaiting hI (by omega)) hP hS (lv_sub hl [0, 2] rfl) K
      · skip
        refine lv_aload_n hx hb dX2_countWaiting_25 rfl (lv_at hl 0 rfl) ?_
        refine lv_dup hx hb dX2_countWaiting_26 rfl ?_
        refine c_gTN (i := t) hx hb hts hinX1 hown hK hP ((ix_nI (by omega) (by omega)).2.2) 12 (by decide) (hN.fld (args := _) (a := "FeedbackQueues") (i := 127) (b := "FeedbackQueues$Task") (n := "ticksReady") (d := "I") (h' := "FeedbackQueues") (by decide +kernel)) rfl dX2_countWaiting_27 ?_
        refine lv_iconst (v := 1) hx hb dX2_countWaiting_30 (by decide) ?_
        refine lv_iadd hx hb dX2_countWaiting_31 ?_
        refine c_pTN (i := t) (ty := .int) (v := (cT Z t 12) + 1) hx hb hts hinX1 hown hK hap hP hS ((ix_nI (by omega) (by omega)).2.2) 12 (by decide) (hN.fld (args := _) (a := "FeedbackQueues") (i := 127) (b := "FeedbackQueues$Task") (n := "ticksReady") (d := "I") (h' := "FeedbackQueues") (by decide +kernel)) rfl (by decide +kernel) rfl rfl (cTf_12 ad Z t _) (Nat.le_of_ble_eq_true rfl) dX2_countWaiting_32 (fun H locs hP hS => ?_)
        obtain ⟨S3, eS3⟩ : ∃ z : Cs, z = sT Z t 12 ((cT Z t 12) + 1) := ⟨_, rfl⟩
        rw [← eS3] at hP
        have hok3 : okC N L b S3 := by rw [eS3]; exact okC_sT hI (by decide)
        refine lv_goto (tgt := 66) hx hb dX2_countWaiting_35 (by decide) ?_
        refine lv_iinc (v := nI (t + 1)) (lv' := [(1, .int (nI (t + 1))), (2, .ref (ad (16 + 2 * t))), (0, .ref (ad 0))]) hx hb dX2_countWaiting_66 hl (k := 1) rfl (inc_nI t) (by decide) rfl (fun ls hl => ?_)
        refine lv_goto (tgt := 2) hx hb dX2_countWaiting_69 (by decide) ?_
        have hF : B_X2_countWaiting_2 t Z = S3 := by subst eS3; simp only [B_X2_countWaiting_2, if_pos c_22]
        rw [← hF] at hP
        exact ih (t + 1) (B_X2_countWaiting_2 t Z) H locs ls (by omega) (ok_B_countWaiting hI (by omega)) hP hS (lv_sub hl [0, 2] rfl) K
  refine lp_2 _ ((cO S 4).toNatClampNeg) 0 S H locs ls (by omega) (hok) hP hS (by rw [show nI 0 = 0 from by decide]; exact lv_sub hl [0, 1] rfl) (fun H locs ls hP hS hl => ?_)
  obtain ⟨S4, eS4⟩ : ∃ z : Cs, z = itr B_X2_countWaiting_2 ((cO S 4).toNatClampNeg) 0 S := ⟨_, rfl⟩
  rw [← eS4] at hP
  have hF : F_X2_countWaiting S  = S4 := by subst eS4; simp only [F_X2_countWaiting]
  rw [hF]
  exact c_vret hx hb hr hlocks hP hS dX2_countWaiting_72 (fun _ h => h)
set_option maxHeartbeats 4000000 in
set_option maxRecDepth 100000 in
theorem k_X2_letArrive (l : Launch) (D : va_G) (cy : Nat → ClassId) (ad : Nat → Nat) (S : Cs)   {N L b : Nat} (hok : okC N L b S)  : cMv l yX2_letArrive wsX2_letArrive { frames := 3, cells := 0, slots := 0, locals := 63 } D cy ad [.ref (ad 0)] S (F_X2_letArrive S ) := by
  intro sz
  refine Met.ofW (cc := cX2_letArrive) (maxL := 3) (ret := none) (by decide) rfl ?_
  intro p e s m args below meth c s₁ B hml hv
  obtain ⟨rfl, hsz, hP, hK, hap0, hN⟩ := hv
  have hx := B.exec
  have hb := B.bytes
  have hr := B.returns
  have hts := atoms_spec (ws := wsX2_letArrive) B.pre
  have hown : s.vm.findClass RX2 = some m.cls := findClass_of_methodNamed B.named
  have hlocks := B.notSynchronized
  subst hsz
  have hap := gw_self (sz := s.heap.size) hap0
  generalize hAe : gA 48 ad s.heap.size = A at hap ⊢
  have hA : ∀ q : Nat, s.heap.size ≤ q → A q := fun q h => by rw [← hAe]; exact Or.inr h
  have hS : va_S A s.heap s.heap [] := va_S.rf
  have hinX0 : ∀ w ∈ wsX00, w ∈ wsX2_letArrive := by decide +kernel
  have hinX1 : ∀ w ∈ wsX10, w ∈ wsX2_letArrive := by decide +kernel
  have hinX2 : ∀ w ∈ wsX20, w ∈ wsX2_letArrive := by decide +kernel
  have hl := lv_entry ([.ref (ad 0)]) (n := 3) (Nat.le_of_ble_eq_true rfl)
  rw [lg_entry_eq]
  generalize (lg_sl ([.ref (ad 0)]) ++ List.replicate (3 - (lg_sl ([.ref (ad 0)])).length) Slot.unset).toArray = ls at hl ⊢
  have hl : lv_has ls 3 [(0, .ref (ad 0))] := hl
  obtain ⟨H, hH⟩ : ∃ H, H = s.heap := ⟨_, rfl⟩
  rw [← hH] at hP
  have hS : va_S A s.heap H [] := by rw [hH]; exact hS
  rw [← hH]
  generalize ([] : List Loc) = locs at hS ⊢
  refine lv_iconst (v := 0) hx hb dX2_letArrive_0 (by decide) ?_
  refine lv_istore_n (lv' := [(1, .int 0), (0, .ref (ad 0))]) hx hb dX2_letArrive_1 rfl hl (by decide) rfl (fun ls hl => ?_)
  have hNe : (cO S 4).toNatClampNeg = N := okC_N hok
  have hN16 : N ≤ 16 := hok.2.2.1
  have lp_2 : ∀ (Q : State → Prop) (n t : Nat) (Z : Cs) (H : Heap) (locs : List Loc) (ls : Array Slot), t + n = (cO S 4).toNatClampNeg → okC N L b Z → va_P D vwCl (cwl cy ad Z) H → va_S A s.heap H locs → lv_has ls 3 [(1, .int (nI t)), (0, .ref (ad 0))] → (∀ (H : Heap) (locs : List Loc) (ls : Array Slot), va_P D vwCl (cwl cy ad (itr B_X2_letArrive_2 n t Z)) H → va_S A s.heap H locs → lv_has ls 3 [(1, .int (nI ((cO S 4).toNatClampNeg))), (0, .ref (ad 0))] → W p l e (headSpec wsX2_letArrive { frames := 3, cells := 0, slots := 0, locals := 63 }).room s m ([.ref (ad 0)] : List Value).toArray below meth c H locs 0 0 Q (F0 m 59 ls [])) → W p l e (headSpec wsX2_letArrive { frames := 3, cells := 0, slots := 0, locals := 63 }).room s m ([.ref (ad 0)] : List Value).toArray below meth c H locs 0 0 Q (F0 m 2 ls []) := by
    intro Q n
    induction n with
    | zero =>
      intro t Z H locs ls hk hI hP hS hl K
      refine lv_iload_n hx hb dX2_letArrive_2 rfl (lv_at hl 0 rfl) ?_
      refine lv_aload_n hx hb dX2_letArrive_3 rfl (lv_at hl 1 rfl) ?_
      refine c_gO hx hb hts hinX2 hown hK hP 4 (by decide) (hts (.fieldLink RX2 29 "FeedbackQueues" "taskCount" "I") (by decide +kernel)) rfl dX2_letArrive_4 ?_
      refine lv_icmp_ge (tgt := 59) hx hb dX2_letArrive_7 (by decide) (fun c_7 => ?_) (fun c_7 => ?_)
      rotate_left
      · exact absurd (by rw [show cO Z 4 = nI ((cO S 4).toNatClampNeg) from by rw [hNe]; exact hI.1]; exact nI_le (by omega) (by omega)) c_7
      have hiN : t = (cO S 4).toNatClampNeg := by omega
      rw [hiN] at hl
      exact K H locs ls hP hS (lv_sub hl [0, 1] rfl)
    | succ n ih =>
      intro t Z H locs ls hk hI hP hS hl K
      have ht : t < (cO S 4).toNatClampNeg := by omega
      refine lv_iload_n hx hb dX2_letArrive_2 rfl (lv_at hl 0 rfl) ?_
      refine lv_aload_n hx hb dX2_letArrive_3 rfl (lv_at hl 1 rfl) ?_
      refine c_gO hx hb hts hinX2 hown hK hP 4 (by decide) (hts (.fieldLink RX2 29 "FeedbackQueues" "taskCount" "I") (by decide +kernel)) rfl dX2_letArrive_4 ?_
      refine lv_icmp_ge (tgt := 59) hx hb dX2_letArrive_7 (by decide) (fun c_7 => ?_) (fun c_7 => ?_)
      · exact absurd c_7 (by rw [show cO Z 4 = nI ((cO S 4).toNatClampNeg) from by rw [hNe]; exact hI.1]; exact nI_ge (by omega) (by omega))
      refine lv_aload_n hx hb dX2_letArrive_10 rfl (lv_at hl 1 rfl) ?_
      refine c_gO hx hb hts hinX2 hown hK hP 1 (by decide) (hts (.fieldLink RX2 17 "FeedbackQueues" "tasks" "[LFeedbackQueues$Task;") (by decide +kernel)) rfl dX2_letArrive_11 ?_
      refine lv_iload_n hx hb dX2_letArrive_14 rfl (lv_at hl 0 rfl) ?_
      refine c_aT (k := t) hx hb hK hP (ix_nI (by omega) (by omega)) dX2_letArrive_15 ?_
      refine lv_astore_n (lv' := [(2, .ref (ad (16 + 2 * t))), (1, .int (nI t)), (0, .ref (ad 0))]) hx hb dX2_letArrive_16 rfl hl (by decide) rfl (fun ls hl => ?_)
      refine lv_aload_n hx hb dX2_letArrive_17 rfl (lv_at hl 0 rfl) ?_
      refine c_gTN (i := t) hx hb hts hinX1 hown hK hP ((ix_nI (by omega) (by omega)).2.2) 4 (by decide) (hN.fld (args := _) (a := "FeedbackQueues") (i := 118) (b := "FeedbackQueues$Task") (n := "state") (d := "I") (h' := "FeedbackQueues") (by decide +kernel)) rfl dX2_letArrive_18 ?_
      refine lv_if_ne (tgt := 53) hx hb dX2_letArrive_21 (by decide) (fun c_21 => ?_) (fun c_21 => ?_)
      · skip
        refine lv_iinc (v := nI (t + 1)) (lv' := [(1, .int (nI (t + 1))), (2, .ref (ad (16 + 2 * t))), (0, .ref (ad 0))]) hx hb dX2_letArrive_53 hl (k := 1) rfl (inc_nI t) (by decide) rfl (fun ls hl => ?_)
        refine lv_goto (tgt := 2) hx hb dX2_letArrive_56 (by decide) ?_
        have hF : B_X2_letArrive_2 t Z = Z := by simp only [B_X2_letArrive_2, if_neg c_21]
        rw [← hF] at hP
        exact ih (t + 1) (B_X2_letArrive_2 t Z) H locs ls (by omega) (ok_B_letArrive hI (by omega)) hP hS (lv_sub hl [0, 2] rfl) K
      · skip
        refine lv_aload_n hx hb dX2_letArrive_24 rfl (lv_at hl 0 rfl) ?_
        refine c_gTN (i := t) hx hb hts hinX1 hown hK hP ((ix_nI (by omega) (by omega)).2.2) 1 (by decide) (hN.fld (args := _) (a := "FeedbackQueues") (i := 194) (b := "FeedbackQueues$Task") (n := "arrival") (d := "I") (h' := "FeedbackQueues") (by decide +kernel)) rfl dX2_letArrive_25 ?_
        refine lv_aload_n hx hb dX2_letArrive_28 rfl (lv_at hl 2 rfl) ?_
        refine c_gO hx hb hts hinX2 hown hK hP 6 (by decide) (hts (.fieldLink RX2 35 "FeedbackQueues" "now" "I") (by decide +kernel)) rfl dX2_letArrive_29 ?_
        refine lv_icmp_ne (tgt := 53) hx hb dX2_letArrive_32 (by decide) (fun c_32 => ?_) (fun c_32 => ?_)
        · skip
          refine lv_iinc (v := nI (t + 1)) (lv' := [(1, .int (nI (t + 1))), (2, .ref (ad (16 + 2 * t))), (0, .ref (ad 0))]) hx hb dX2_letArrive_53 hl (k := 1) rfl (inc_nI t) (by decide) rfl (fun ls hl => ?_)
          refine lv_goto (tgt := 2) hx hb dX2_letArrive_56 (by decide) ?_
          have hF : B_X2_letArrive_2 t Z = Z := by simp only [B_X2_letArrive_2, if_pos c_21, if_neg c_32]
          rw [← hF] at hP
          exact ih (t + 1) (B_X2_letArrive_2 t Z) H locs ls (by omega) (ok_B_letArrive hI (by omega)) hP hS (lv_sub hl [0, 2] rfl) K
        · skip
          refine lv_aload_n hx hb dX2_letArrive_35 rfl (lv_at hl 0 rfl) ?_
          refine lv_aload_n hx hb dX2_letArrive_36 rfl (lv_at hl 2 rfl) ?_
          refine c_gO hx hb hts hinX2 hown hK hP 0 (by decide) (hts (.fieldLink RX2 11 "FeedbackQueues" "levelRows" "[LFeedbackQueues$Level;") (by decide +kernel)) rfl dX2_letArrive_37 ?_
          refine lv_iconst (v := 0) hx hb dX2_letArrive_40 (by decide) ?_
          refine c_aL (k := 0) hx hb hK hP (ix_lit (by decide) (by omega) (by omega)) dX2_letArrive_41 ?_
          refine c_gLN (i := 0) hx hb hts hinX0 hown hK hP (show 0 < 6 from by decide) 1 (by decide) (hN.fld (args := _) (a := "FeedbackQueues") (i := 68) (b := "FeedbackQueues$Level") (n := "share") (d := "I") (h' := "FeedbackQueues") (by decide +kernel)) rfl dX2_letArrive_42 ?_
          refine c_pTN (i := t) (ty := .int) (v := cL Z 0 1) hx hb hts hinX1 hown hK hap hP hS ((ix_nI (by omega) (by omega)).2.2) 9 (by decide) (hN.fld (args := _) (a := "FeedbackQueues") (i := 197) (b := "FeedbackQueues$Task") (n := "shareLeft") (d := "I") (h' := "FeedbackQueues") (by decide +kernel)) rfl (by decide +kernel) rfl rfl (cTf_9 ad Z t _) (Nat.le_of_ble_eq_true rfl) dX2_letArrive_45 (fun H locs hP hS => ?_)
          obtain ⟨S1, eS1⟩ : ∃ z : Cs, z = sT Z t 9 (cL Z 0 1) := ⟨_, rfl⟩
          rw [← eS1] at hP
          have hok1 : okC N L b S1 := by rw [eS1]; exact okC_sT hI (by decide)
          refine lv_aload_n hx hb dX2_letArrive_48 rfl (lv_at hl 2 rfl) ?_
          refine lv_aload_n hx hb dX2_letArrive_49 rfl (lv_at hl 0 rfl) ?_
          refine c_cVv (As := [.ref (ad (16 + 2 * t))]) (rest := []) (k := 0) (ci := 2) (q := (RX2, TX2, 12)) ⟨hx, hb, hml, hown, hts⟩ (k_X2_goOnOrEnd l D cy ad S1 t ((ix_nI (by omega) (by omega)).2.2) hok1) (cwV 1 hts gX2_letArrive_X2_goOnOrEnd rfl rfl rfl (by decide +kernel) ⟨Nat.le_of_ble_eq_true rfl, Nat.le_of_ble_eq_true rfl⟩) hK hap hA hN hP hS (by omega) (cE_O cy ad S1) rfl rfl hl.1 rfl (Nat.le_of_ble_eq_true rfl) dX2_letArrive_50 ⟨Nat.zero_le _, Nat.zero_le _⟩ (fun H locs hP hS => ?_)
          obtain ⟨S2, eS2⟩ : ∃ z : Cs, z = F_X2_goOnOrEnd S1 t := ⟨_, rfl⟩
          rw [← eS2] at hP
          have hok2 : okC N L b S2 := by rw [eS2]; exact ok_X2_goOnOrEnd hok1 ((ix_nI (by omega) (by omega)).2.2)
          refine lv_iinc (v := nI (t + 1)) (lv' := [(1, .int (nI (t + 1))), (2, .ref (ad (16 + 2 * t))), (0, .ref (ad 0))]) hx hb dX2_letArrive_53 hl (k := 1) rfl (inc_nI t) (by decide) rfl (fun ls hl => ?_)
          refine lv_goto (tgt := 2) hx hb dX2_letArrive_56 (by decide) ?_
          have hF : B_X2_letArrive_2 t Z = S2 := by subst eS2 eS1; simp only [B_X2_letArrive_2, if_pos c_21, if_pos c_32]
          rw [← hF] at hP
          exact ih (t + 1) (B_X2_letArrive_2 t Z) H locs ls (by omega) (ok_B_letArrive hI (by omega)) hP hS (lv_sub hl [0, 2] rfl) K
  refine lp_2 _ ((cO S 4).toNatClampNeg) 0 S H locs ls (by omega) (hok) hP hS (by rw [show nI 0 = 0 from by decide]; exact lv_sub hl [0, 1] rfl) (fun H locs ls hP hS hl => ?_)
  obtain ⟨S3, eS3⟩ : ∃ z : Cs, z = itr B_X2_letArrive_2 ((cO S 4).toNatClampNeg) 0 S := ⟨_, rfl⟩
  rw [← eS3] at hP
  have hF : F_X2_letArrive S  = S3 := by subst eS3; simp only [F_X2_letArrive]
  rw [hF]
  exact c_vret hx hb hr hlocks hP hS dX2_letArrive_59 (fun _ h => h)
set_option maxHeartbeats 4000000 in
set_option maxRecDepth 100000 in
theorem k_X2_letComeBack (l : Launch) (D : va_G) (cy : Nat → ClassId) (ad : Nat → Nat) (S : Cs)   {N L b : Nat} (hok : okC N L b S)  : cMv l yX2_letComeBack wsX2_letComeBack { frames := 3, cells := 0, slots := 0, locals := 63 } D cy ad [.ref (ad 0)] S (F_X2_letComeBack S ) := by
  intro sz
  refine Met.ofW (cc := cX2_letComeBack) (maxL := 3) (ret := none) (by decide) rfl ?_
  intro p e s m args below meth c s₁ B hml hv
  obtain ⟨rfl, hsz, hP, hK, hap0, hN⟩ := hv
  have hx := B.exec
  have hb := B.bytes
  have hr := B.returns
  have hts := atoms_spec (ws := wsX2_letComeBack) B.pre
  have hown : s.vm.findClass RX2 = some m.cls := findClass_of_methodNamed B.named
  have hlocks := B.notSynchronized
  subst hsz
  have hap := gw_self (sz := s.heap.size) hap0
  generalize hAe : gA 48 ad s.heap.size = A at hap ⊢
  have hA : ∀ q : Nat, s.heap.size ≤ q → A q := fun q h => by rw [← hAe]; exact Or.inr h
  have hS : va_S A s.heap s.heap [] := va_S.rf
  have hinX1 : ∀ w ∈ wsX10, w ∈ wsX2_letComeBack := by decide +kernel
  have hinX2 : ∀ w ∈ wsX20, w ∈ wsX2_letComeBack := by decide +kernel
  have hl := lv_entry ([.ref (ad 0)]) (n := 3) (Nat.le_of_ble_eq_true rfl)
  rw [lg_entry_eq]
  generalize (lg_sl ([.ref (ad 0)]) ++ List.replicate (3 - (lg_sl ([.ref (ad 0)])).length) Slot.unset).toArray = ls at hl ⊢
  have hl : lv_has ls 3 [(0, .ref (ad 0))] := hl
  obtain ⟨H, hH⟩ : ∃ H, H = s.heap := ⟨_, rfl⟩
  rw [← hH] at hP
  have hS : va_S A s.heap H [] := by rw [hH]; exact hS
  rw [← hH]
  generalize ([] : List Loc) = locs at hS ⊢
  refine lv_iconst (v := 0) hx hb dX2_letComeBack_0 (by decide) ?_
  refine lv_istore_n (lv' := [(1, .int 0), (0, .ref (ad 0))]) hx hb dX2_letComeBack_1 rfl hl (by decide) rfl (fun ls hl => ?_)
  have hNe : (cO S 4).toNatClampNeg = N := okC_N hok
  have hN16 : N ≤ 16 := hok.2.2.1
  have lp_2 : ∀ (Q : State → Prop) (n t : Nat) (Z : Cs) (H : Heap) (locs : List Loc) (ls : Array Slot), t + n = (cO S 4).toNatClampNeg → okC N L b Z → va_P D vwCl (cwl cy ad Z) H → va_S A s.heap H locs → lv_has ls 3 [(1, .int (nI t)), (0, .ref (ad 0))] → (∀ (H : Heap) (locs : List Loc) (ls : Array Slot), va_P D vwCl (cwl cy ad (itr B_X2_letComeBack_2 n t Z)) H → va_S A s.heap H locs → lv_has ls 3 [(1, .int (nI ((cO S 4).toNatClampNeg))), (0, .ref (ad 0))] → W p l e (headSpec wsX2_letComeBack { frames := 3, cells := 0, slots := 0, locals := 63 }).room s m ([.ref (ad 0)] : List Value).toArray below meth c H locs 0 0 Q (F0 m 43 ls [])) → W p l e (headSpec wsX2_letComeBack { frames := 3, cells := 0, slots := 0, locals := 63 }).room s m ([.ref (ad 0)] : List Value).toArray below meth c H locs 0 0 Q (F0 m 2 ls []) := by
    intro Q n
    induction n with
    | zero =>
      intro t Z H locs ls hk hI hP hS hl K
      refine lv_iload_n hx hb dX2_letComeBack_2 rfl (lv_at hl 0 rfl) ?_
      refine lv_aload_n hx hb dX2_letComeBack_3 rfl (lv_at hl 1 rfl) ?_
      refine c_gO hx hb hts hinX2 hown hK hP 4 (by decide) (hts (.fieldLink RX2 29 "FeedbackQueues" "taskCount" "I") (by decide +kernel)) rfl dX2_letComeBack_4 ?_
      refine lv_icmp_ge (tgt := 43) hx hb dX2_letComeBack_7 (by decide) (fun c_7 => ?_) (fun c_7 => ?_)
      rotate_left
      · exact absurd (by rw [show cO Z 4 = nI ((cO S 4).toNatClampNeg) from by rw [hNe]; exact hI.1]; exact nI_le (by omega) (by omega)) c_7
      have hiN : t = (cO S 4).toNatClampNeg := by omega
      rw [hiN] at hl
      exact K H locs ls hP hS (lv_sub hl [0, 1] rfl)
    | succ n ih =>
      intro t Z H locs ls hk hI hP hS hl K
      have ht : t < (cO S 4).toNatClampNeg := by omega
      refine lv_iload_n hx hb dX2_letComeBack_2 rfl (lv_at hl 0 rfl) ?_
      refine lv_aload_n hx hb dX2_letComeBack_3 rfl (lv_at hl 1 rfl) ?_
      refine c_gO hx hb hts hinX2 hown hK hP 4 (by decide) (hts (.fieldLink RX2 29 "FeedbackQueues" "taskCount" "I") (by decide +kernel)) rfl dX2_letComeBack_4 ?_
      refine lv_icmp_ge (tgt := 43) hx hb dX2_letComeBack_7 (by decide) (fun c_7 => ?_) (fun c_7 => ?_)
      · exact absurd c_7 (by rw [show cO Z 4 = nI ((cO S 4).toNatClampNeg) from by rw [hNe]; exact hI.1]; exact nI_ge (by omega) (by omega))
      refine lv_aload_n hx hb dX2_letComeBack_10 rfl (lv_at hl 1 rfl) ?_
      refine c_gO hx hb hts hinX2 hown hK hP 1 (by decide) (hts (.fieldLink RX2 17 "FeedbackQueues" "tasks" "[LFeedbackQueues$Task;") (by decide +kernel)) rfl dX2_letComeBack_11 ?_
      refine lv_iload_n hx hb dX2_letComeBack_14 rfl (lv_at hl 0 rfl) ?_
      refine c_aT (k := t) hx hb hK hP (ix_nI (by omega) (by omega)) dX2_letComeBack_15 ?_
      refine lv_astore_n (lv' := [(2, .ref (ad (16 + 2 * t))), (1, .int (nI t)), (0, .ref (ad 0))]) hx hb dX2_letComeBack_16 rfl hl (by decide) rfl (fun ls hl => ?_)
      refine lv_aload_n hx hb dX2_letComeBack_17 rfl (lv_at hl 0 rfl) ?_
      refine c_gTN (i := t) hx hb hts hinX1 hown hK hP ((ix_nI (by omega) (by omega)).2.2) 4 (by decide) (hN.fld (args := _) (a := "FeedbackQueues") (i := 118) (b := "FeedbackQueues$Task") (n := "state") (d := "I") (h' := "FeedbackQueues") (by decide +kernel)) rfl dX2_letComeBack_18 ?_
      refine lv_iconst (v := 3) hx hb dX2_letComeBack_21 (by decide) ?_
      refine lv_icmp_ne (tgt := 37) hx hb dX2_letComeBack_22 (by decide) (fun c_22 => ?_) (fun c_22 => ?_)
      · skip
        refine lv_iinc (v := nI (t + 1)) (lv' := [(1, .int (nI (t + 1))), (2, .ref (ad (16 + 2 * t))), (0, .ref (ad 0))]) hx hb dX2_letComeBack_37 hl (k := 1) rfl (inc_nI t) (by decide) rfl (fun ls hl => ?_)
        refine lv_goto (tgt := 2) hx hb dX2_letComeBack_40 (by decide) ?_
        have hF : B_X2_letComeBack_2 t Z = Z := by simp only [B_X2_letComeBack_2, if_neg c_22]
        rw [← hF] at hP
        exact ih (t + 1) (B_X2_letComeBack_2 t Z) H locs ls (by omega) (ok_B_letComeBack hI (by omega)) hP hS (lv_sub hl [0, 2] rfl) K
      · skip
        refine lv_aload_n hx hb dX2_letComeBack_25 rfl (lv_at hl 0 rfl) ?_
        refine c_gTN (i := t) hx hb hts hinX1 hown hK hP ((ix_nI (by omega) (by omega)).2.2) 7 (by decide) (hN.fld (args := _) (a := "FeedbackQueues") (i := 203) (b := "FeedbackQueues$Task") (n := "burstLeft") (d := "I") (h' := "FeedbackQueues") (by decide +kernel)) rfl dX2_letComeBack_26 ?_
        refine lv_if_ne (tgt := 37) hx hb dX2_letComeBack_29 (by decide) (fun c_29 => ?_) (fun c_29 => ?_)
        · skip
          refine lv_iinc (v := nI (t + 1)) (lv' := [(1, .int (nI (t + 1))), (2, .ref (ad (16 + 2 * t))), (0, .ref (ad 0))]) hx hb dX2_letComeBack_37 hl (k := 1) rfl (inc_nI t) (by decide) rfl (fun ls hl => ?_)
          refine lv_goto (tgt := 2) hx hb dX2_letComeBack_40 (by decide) ?_
          have hF : B_X2_letComeBack_2 t Z = Z := by simp only [B_X2_letComeBack_2, if_pos c_22, if_neg c_29]
          rw [← hF] at hP
          exact ih (t + 1) (B_X2_letComeBack_2 t Z) H locs ls (by omega) (ok_B_letComeBack hI (by omega)) hP hS (lv_sub hl [0, 2] rfl) K
        · skip
          refine lv_aload_n hx hb dX2_letComeBack_32 rfl (lv_at hl 2 rfl) ?_
          refine lv_aload_n hx hb dX2_letComeBack_33 rfl (lv_at hl 0 rfl) ?_
          refine c_cVv (As := [.ref (ad (16 + 2 * t))]) (rest := []) (k := 0) (ci := 2) (q := (RX2, TX2, 12)) ⟨hx, hb, hml, hown, hts⟩ (k_X2_goOnOrEnd l D cy ad Z t ((ix_nI (by omega) (by omega)).2.2) hI) (cwV 1 hts gX2_letComeBack_X2_goOnOrEnd rfl rfl rfl (by decide +kernel) ⟨Nat.le_of_ble_eq_true rfl, Nat.le_of_ble_eq_true rfl⟩) hK hap hA hN hP hS (by omega) (cE_O cy ad Z) rfl rfl hl.1 rfl (Nat.le_of_ble_eq_true rfl) dX2_letComeBack_34 ⟨Nat.zero_le _, Nat.zero_le _⟩ (fun H locs hP hS => ?_)
          obtain ⟨S1, eS1⟩ : ∃ z : Cs, z = F_X2_goOnOrEnd Z t := ⟨_, rfl⟩
          rw [← eS1] at hP
          have hok1 : okC N L b S1 := by rw [eS1]; exact ok_X2_goOnOrEnd hI ((ix_nI (by omega) (by omega)).2.2)
          refine lv_iinc (v := nI (t + 1)) (lv' := [(1, .int (nI (t + 1))), (2, .ref (ad (16 + 2 * t))), (0, .ref (ad 0))]) hx hb dX2_letComeBack_37 hl (k := 1) rfl (inc_nI t) (by decide) rfl (fun ls hl => ?_)
          refine lv_goto (tgt := 2) hx hb dX2_letComeBack_40 (by decide) ?_
          have hF : B_X2_letComeBack_2 t Z = S1 := by subst eS1; simp only [B_X2_letComeBack_2, if_pos c_22, if_pos c_29]
          rw [← hF] at hP
          exact ih (t + 1) (B_X2_letComeBack_2 t Z) H locs ls (by omega) (ok_B_letComeBack hI (by omega)) hP hS (lv_sub hl [0, 2] rfl) K
  refine lp_2 _ ((cO S 4).toNatClampNeg) 0 S H locs ls (by omega) (hok) hP hS (by rw [show nI 0 = 0 from by decide]; exact lv_sub hl [0, 1] rfl) (fun H locs ls hP hS hl => ?_)
  obtain ⟨S2, eS2⟩ : ∃ z : Cs, z = itr B_X2_letComeBack_2 ((cO S 4).toNatClampNeg) 0 S := ⟨_, rfl⟩
  rw [← eS2] at hP
  have hF : F_X2_letComeBack S  = S2 := by subst eS2; simp only [F_X2_letComeBack]
  rw [hF]
  exact c_vret hx hb hr hlocks hP hS dX2_letComeBack_43 (fun _ h => h)
set_option maxHeartbeats 4000000 in
set_option maxRecDepth 100000 in
theorem k_X2_bringAllUp (l : Launch) (D : va_G) (cy : Nat → ClassId) (ad : Nat → Nat) (S : Cs)   {N L b : Nat} (hok : okC N L b S)  : cMv l yX2_bringAllUp wsX2_bringAllUp { frames := 2, cells := 0, slots := 0, locals := 43 } D cy ad [.ref (ad 0)] S (F_X2_bringAllUp S ) := by
  intro sz
  refine Met.ofW (cc := cX2_bringAllUp) (maxL := 3) (ret := none) (by decide) rfl ?_
  intro p e s m args below meth c s₁ B hml hv
  obtain ⟨rfl, hsz, hP, hK, hap0, hN⟩ := hv
  have hx := B.exec
  have hb := B.bytes
  have hr := B.returns
  have hts := atoms_spec (ws := wsX2_bringAllUp) B.pre
  have hown : s.vm.findClass RX2 = some m.cls := findClass_of_methodNamed B.named
  have hlocks := B.notSynchronized
  subst hsz
  have hap := gw_self (sz := s.heap.size) hap0
  generalize hAe : gA 48 ad s.heap.size = A at hap ⊢
  have hA : ∀ q : Nat, s.heap.size ≤ q → A q := fun q h => by rw [← hAe]; exact Or.inr h
  have hS : va_S A s.heap s.heap [] := va_S.rf
  have hinX0 : ∀ w ∈ wsX00, w ∈ wsX2_bringAllUp := by decide +kernel
  have hinX1 : ∀ w ∈ wsX10, w ∈ wsX2_bringAllUp := by decide +kernel
  have hinX2 : ∀ w ∈ wsX20, w ∈ wsX2_bringAllUp := by decide +kernel
  have hl := lv_entry ([.ref (ad 0)]) (n := 3) (Nat.le_of_ble_eq_true rfl)
  rw [lg_entry_eq]
  generalize (lg_sl ([.ref (ad 0)]) ++ List.replicate (3 - (lg_sl ([.ref (ad 0)])).length) Slot.unset).toArray = ls at hl ⊢
  have hl : lv_has ls 3 [(0, .ref (ad 0))] := hl
  obtain ⟨H, hH⟩ : ∃ H, H = s.heap := ⟨_, rfl⟩
  rw [← hH] at hP
  have hS : va_S A s.heap H [] := by rw [hH]; exact hS
  rw [← hH]
  generalize ([] : List Loc) = locs at hS ⊢
  refine lv_aload_n hx hb dX2_bringAllUp_0 rfl (lv_at hl 0 rfl) ?_
  refine lv_dup hx hb dX2_bringAllUp_1 rfl ?_
  refine c_gO hx hb hts hinX2 hown hK hP 10 (by decide) (hts (.fieldLink RX2 48 "FeedbackQueues" "comeUpCount" "I") (by decide +kernel)) rfl dX2_bringAllUp_2 ?_
  refine lv_iconst (v := 1) hx hb dX2_bringAllUp_5 (by decide) ?_
  refine lv_iadd hx hb dX2_bringAllUp_6 ?_
  refine c_pO (ty := .int) (v := (cO S 10) + 1) hx hb hts hinX2 hown hK hap hP hS 10 (by decide) (hts (.fieldLink RX2 48 "FeedbackQueues" "comeUpCount" "I") (by decide +kernel)) rfl (by decide +kernel) rfl rfl (cOf_10 ad S _) (Nat.le_of_ble_eq_true rfl) dX2_bringAllUp_7 (fun H locs hP hS => ?_)
  obtain ⟨S1, eS1⟩ : ∃ z : Cs, z = sO S 10 ((cO S 10) + 1) := ⟨_, rfl⟩
  rw [← eS1] at hP
  have hok1 : okC N L b S1 := by rw [eS1]; exact okC_sO hok (by decide)
  refine lv_aload_n hx hb dX2_bringAllUp_10 rfl (lv_at hl 0 rfl) ?_
  refine c_gO hx hb hts hinX2 hown hK hP 0 (by decide) (hts (.fieldLink RX2 11 "FeedbackQueues" "levelRows" "[LFeedbackQueues$Level;") (by decide +kernel)) rfl dX2_bringAllUp_11 ?_
  refine lv_iconst (v := 0) hx hb dX2_bringAllUp_14 (by decide) ?_
  refine c_aL (k := 0) hx hb hK hP (ix_lit (by decide) (by omega) (by omega)) dX2_bringAllUp_15 ?_
  refine lv_astore_n (lv' := [(1, .ref (ad (4 + 2 * 0))), (0, .ref (ad 0))]) hx hb dX2_bringAllUp_16 rfl hl (by decide) rfl (fun ls hl => ?_)
  refine lv_iconst (v := 0) hx hb dX2_bringAllUp_17 (by decide) ?_
  refine lv_istore_n (lv' := [(2, .int 0), (1, .ref (ad (4 + 2 * 0))), (0, .ref (ad 0))]) hx hb dX2_bringAllUp_18 rfl hl (by decide) rfl (fun ls hl => ?_)
  have hNe : (cO S1 4).toNatClampNeg = N := okC_N hok1
  have hN16 : N ≤ 16 := hok1.2.2.1
  have lp_19 : ∀ (Q : State → Prop) (n t : Nat) (Z : Cs) (H : Heap) (locs : List Loc) (ls : Array Slot), t + n = (cO S1 4).toNatClampNeg → okC N L b Z → va_P D vwCl (cwl cy ad Z) H → va_S A s.heap H locs → lv_has ls 3 [(2, .int (nI t)), (1, .ref (ad (4 + 2 * 0))), (0, .ref (ad 0))] → (∀ (H : Heap) (locs : List Loc) (ls : Array Slot), va_P D vwCl (cwl cy ad (itr B_X2_bringAllUp_19 n t Z)) H → va_S A s.heap H locs → lv_has ls 3 [(2, .int (nI ((cO S1 4).toNatClampNeg))), (1, .ref (ad (4 + 2 * 0))), (0, .ref (ad 0))] → W p l e (headSpec wsX2_bringAllUp { frames := 2, cells := 0, slots := 0, locals := 43 }).room s m ([.ref (ad 0)] : List Value).toArray below meth c H locs 0 0 Q (F0 m 75 ls [])) → W p l e (headSpec wsX2_bringAllUp { frames := 2, cells := 0, slots := 0, locals := 43 }).room s m ([.ref (ad 0)] : List Value).toArray below meth c H locs 0 0 Q (F0 m 19 ls []) := by
    intro Q n
    induction n with
    | zero =>
      intro t Z H locs ls hk hI hP hS hl K
      refine lv_iload_n hx hb dX2_bringAllUp_19 rfl (lv_at hl 0 rfl) ?_
      refine lv_aload_n hx hb dX2_bringAllUp_20 rfl (lv_at hl 2 rfl) ?_
      refine c_gO hx hb hts hinX2 hown hK hP 4 (by decide) (hts (.fieldLink RX2 29 "FeedbackQueues" "taskCount" "I") (by decide +kernel)) rfl dX2_bringAllUp_21 ?_
      refine lv_icmp_ge (tgt := 75) hx hb dX2_bringAllUp_24 (by decide) (fun c_24 => ?_) (fun c_24 => ?_)
      rotate_left
      · exact absurd (by rw [show cO Z 4 = nI ((cO S1 4).toNatClampNeg) from by rw [hNe]; exact hI.1]; exact nI_le (by omega) (by omega)) c_24
      have hiN : t = (cO S1 4).toNatClampNeg := by omega
      rw [hiN] at hl
      exact K H locs ls hP hS (lv_sub hl [0, 1, 2] rfl)
    | succ n ih =>
      intro t Z H locs ls hk hI hP hS hl K
      have ht : t < (cO S1 4).toNatClampNeg := by omega
      refine lv_iload_n hx hb dX2_bringAllUp_19 rfl (lv_at hl 0 rfl) ?_
      refine lv_aload_n hx hb dX2_bringAllUp_20 rfl (lv_at hl 2 rfl) ?_
      refine c_gO hx hb hts hinX2 hown hK hP 4 (by decide) (hts (.fieldLink RX2 29 "FeedbackQueues" "taskCount" "I") (by decide +kernel)) rfl dX2_bringAllUp_21 ?_
      refine lv_icmp_ge (tgt := 75) hx hb dX2_bringAllUp_24 (by decide) (fun c_24 => ?_) (fun c_24 => ?_)
      · exact absurd c_24 (by rw [show cO Z 4 = nI ((cO S1 4).toNatClampNeg) from by rw [hNe]; exact hI.1]; exact nI_ge (by omega) (by omega))
      refine lv_aload_n hx hb dX2_bringAllUp_27 rfl (lv_at hl 2 rfl) ?_
      refine c_gO hx hb hts hinX2 hown hK hP 1 (by decide) (hts (.fieldLink RX2 17 "FeedbackQueues" "tasks" "[LFeedbackQueues$Task;") (by decide +kernel)) rfl dX2_bringAllUp_28 ?_
      refine lv_iload_n hx hb dX2_bringAllUp_31 rfl (lv_at hl 0 rfl) ?_
      refine c_aT (k := t) hx hb hK hP (ix_nI (by omega) (by omega)) dX2_bringAllUp_32 ?_
      refine c_gTN (i := t) hx hb hts hinX1 hown hK hP ((ix_nI (by omega) (by omega)).2.2) 4 (by decide) (hN.fld (args := _) (a := "FeedbackQueues") (i := 118) (b := "FeedbackQueues$Task") (n := "state") (d := "I") (h' := "FeedbackQueues") (by decide +kernel)) rfl dX2_bringAllUp_33 ?_
      refine lv_if_eq (tgt := 69) hx hb dX2_bringAllUp_36 (by decide) (fun c_36 => ?_) (fun c_36 => ?_)
      · skip
        refine lv_iinc (v := nI (t + 1)) (lv' := [(2, .int (nI (t + 1))), (1, .ref (ad (4 + 2 * 0))), (0, .ref (ad 0))]) hx hb dX2_bringAllUp_69 hl (k := 0) rfl (inc_nI t) (by decide) rfl (fun ls hl => ?_)
        refine lv_goto (tgt := 19) hx hb dX2_bringAllUp_72 (by decide) ?_
        have hF : B_X2_bringAllUp_19 t Z = Z := by simp only [B_X2_bringAllUp_19, if_pos c_36]
        rw [← hF] at hP
        exact ih (t + 1) (B_X2_bringAllUp_19 t Z) H locs ls (by omega) (ok_B_bringAllUp_19 hI (by omega)) hP hS (lv_sub hl [0, 1, 2] rfl) K
      · skip
        refine lv_aload_n hx hb dX2_bringAllUp_39 rfl (lv_at hl 2 rfl) ?_
        refine c_gO hx hb hts hinX2 hown hK hP 1 (by decide) (hts (.fieldLink RX2 17 "FeedbackQueues" "tasks" "[LFeedbackQueues$Task;") (by decide +kernel)) rfl dX2_bringAllUp_40 ?_
        refine lv_iload_n hx hb dX2_bringAllUp_43 rfl (lv_at hl 0 rfl) ?_
        refine c_aT (k := t) hx hb hK hP (ix_nI (by omega) (by omega)) dX2_bringAllUp_44 ?_
        refine c_gTN (i := t) hx hb hts hinX1 hown hK hP ((ix_nI (by omega) (by omega)).2.2) 4 (by decide) (hN.fld (args := _) (a := "FeedbackQueues") (i := 118) (b := "FeedbackQueues$Task") (n := "state") (d := "I") (h' := "FeedbackQueues") (by decide +kernel)) rfl dX2_bringAllUp_45 ?_
        refine lv_iconst (v := 4) hx hb dX2_bringAllUp_48 (by decide) ?_
        refine lv_icmp_eq (tgt := 69) hx hb dX2_bringAllUp_49 (by decide) (fun c_49 => ?_) (fun c_49 => ?_)
        · skip
          refine lv_iinc (v := nI (t + 1)) (lv' := [(2, .int (nI (t + 1))), (1, .ref (ad (4 + 2 * 0))), (0, .ref (ad 0))]) hx hb dX2_bringAllUp_69 hl (k := 0) rfl (inc_nI t) (by decide) rfl (fun ls hl => ?_)
          refine lv_goto (tgt := 19) hx hb dX2_bringAllUp_72 (by decide) ?_
          have hF : B_X2_bringAllUp_19 t Z = Z := by simp only [B_X2_bringAllUp_19, if_neg c_36, if_pos c_49]
          rw [← hF] at hP
          exact ih (t + 1) (B_X2_bringAllUp_19 t Z) H locs ls (by omega) (ok_B_bringAllUp_19 hI (by omega)) hP hS (lv_sub hl [0, 1, 2] rfl) K
        · skip
          refine lv_aload_n hx hb dX2_bringAllUp_52 rfl (lv_at hl 2 rfl) ?_
          refine c_gO hx hb hts hinX2 hown hK hP 1 (by decide) (hts (.fieldLink RX2 17 "FeedbackQueues" "tasks" "[LFeedbackQueues$Task;") (by decide +kernel)) rfl dX2_bringAllUp_53 ?_
          refine lv_iload_n hx hb dX2_bringAllUp_56 rfl (lv_at hl 0 rfl) ?_
          refine c_aT (k := t) hx hb hK hP (ix_nI (by omega) (by omega)) dX2_bringAllUp_57 ?_
          refine lv_aload_n hx hb dX2_bringAllUp_58 rfl (lv_at hl 1 rfl) ?_
          refine c_gLN (i := 0) hx hb hts hinX0 hown hK hP (show 0 < 6 from by decide) 0 (by decide) (hN.fld (args := _) (a := "FeedbackQueues") (i := 65) (b := "FeedbackQueues$Level") (n := "quantum") (d := "I") (h' := "FeedbackQueues") (by decide +kernel)) rfl dX2_bringAllUp_59 ?_
          refine lv_aload_n hx hb dX2_bringAllUp_62 rfl (lv_at hl 1 rfl) ?_
          refine c_gLN (i := 0) hx hb hts hinX0 hown hK hP (show 0 < 6 from by decide) 1 (by decide) (hN.fld (args := _) (a := "FeedbackQueues") (i := 68) (b := "FeedbackQueues$Level") (n := "share") (d := "I") (h' := "FeedbackQueues") (by decide +kernel)) rfl dX2_bringAllUp_63 ?_
          refine c_cNv (As := [.int (cL Z 0 0), .int (cL Z 0 1)]) (rest := []) (k := (16 + 2 * t)) (ci := 1) (q := (RX1, TX1, 19)) ⟨hx, hb, hml, hown, hts⟩ (k_X1_comeUp l D cy ad Z t (cL Z 0 0) (cL Z 0 1) ((ix_nI (by omega) (by omega)).2.2)) ⟨va_cnB (host := "FeedbackQueues") 2 hts gX2_bringAllUp_X1_comeUp_n186 rfl rfl rfl (hN.mth (a := RX2) (i := 186) (x := yX1_comeUp) (h' := "FeedbackQueues") (by decide +kernel)) (hts (.initialized RX1) (by decide +kernel)) (by decide +kernel) ⟨Nat.le_of_ble_eq_true rfl, Nat.le_of_ble_eq_true rfl⟩, hts (.instanceMethod yX1_comeUp) (by decide +kernel), hts (.selects RX1 yX1_comeUp yX1_comeUp) (by decide +kernel)⟩ hK hap hA hN hP hS (by have h9 := ((ix_nI (by omega) (by omega)).2.2); omega) (cE_T cy ad Z t) rfl rfl hl.1 rfl (Nat.le_of_ble_eq_true rfl) dX2_bringAllUp_66 ⟨Nat.zero_le _, Nat.zero_le _⟩ (fun H locs hP hS => ?_)
          obtain ⟨S2, eS2⟩ : ∃ z : Cs, z = F_X1_comeUp Z t (cL Z 0 0) (cL Z 0 1) := ⟨_, rfl⟩
          rw [← eS2] at hP
          have hok2 : okC N L b S2 := by rw [eS2]; exact ok_X1_comeUp hI ((ix_nI (by omega) (by omega)).2.2)
          refine lv_iinc (v := nI (t + 1)) (lv' := [(2, .int (nI (t + 1))), (1, .ref (ad (4 + 2 * 0))), (0, .ref (ad 0))]) hx hb dX2_bringAllUp_69 hl (k := 0) rfl (inc_nI t) (by decide) rfl (fun ls hl => ?_)
          refine lv_goto (tgt := 19) hx hb dX2_bringAllUp_72 (by decide) ?_
          have hF : B_X2_bringAllUp_19 t Z = S2 := by subst eS2; simp only [B_X2_bringAllUp_19, if_neg c_36, if_neg c_49]
          rw [← hF] at hP
          exact ih (t + 1) (B_X2_bringAllUp_19 t Z) H locs ls (by omega) (ok_B_bringAllUp_19 hI (by omega)) hP hS (lv_sub hl [0, 1, 2] rfl) K
  refine lp_19 _ ((cO S1 4).toNatClampNeg) 0 S1 H locs ls (by omega) (hok1) hP hS (by rw [show nI 0 = 0 from by decide]; exact lv_sub hl [0, 1, 2] rfl) (fun H locs ls hP hS hl => ?_)
  obtain ⟨S3, eS3⟩ : ∃ z : Cs, z = itr B_X2_bringAllUp_19 ((cO S1 4).toNatClampNeg) 0 S1 := ⟨_, rfl⟩
  rw [← eS3] at hP
  have hok3 : okC N L b S3 := by rw [eS3]; exact ok_itr_19 hok1 (by omega)
  refine lv_iconst (v := 1) hx hb dX2_bringAllUp_75 (by decide) ?_
  refine lv_istore_n (lv' := [(2, .int 1), (1, .ref (ad (4 + 2 * 0))), (0, .ref (ad 0))]) hx hb dX2_bringAllUp_76 rfl hl (by decide) rfl (fun ls hl => ?_)
  have hLe : (cO S3 3).toNatClampNeg = L := okC_L hok3
  have hL6 : L ≤ 6 := hok3.2.2.2.2.1
  have hL1 : 1 ≤ L := hok3.2.2.2.1
  have lp_77 : ∀ (Q : State → Prop) (n t : Nat) (Z : Cs) (H : Heap) (locs : List Loc) (ls : Array Slot), t + n = (cO S3 3).toNatClampNeg → (okC N L b Z ∧ 1 ≤ t) → va_P D vwCl (cwl cy ad Z) H → va_S A s.heap H locs → lv_has ls 3 [(2, .int (nI t)), (1, .ref (ad (4 + 2 * 0))), (0, .ref (ad 0))] → (∀ (H : Heap) (locs : List Loc) (ls : Array Slot), va_P D vwCl (cwl cy ad (itr B_X2_bringAllUp_77 n t Z)) H → va_S A s.heap H locs → lv_has ls 3 [(2, .int (nI ((cO S3 3).toNatClampNeg))), (1, .ref (ad (4 + 2 * 0))), (0, .ref (ad 0))] → W p l e (headSpec wsX2_bringAllUp { frames := 2, cells := 0, slots := 0, locals := 43 }).room s m ([.ref (ad 0)] : List Value).toArray below meth c H locs 0 0 Q (F0 m 110 ls [])) → W p l e (headSpec wsX2_bringAllUp { frames := 2, cells := 0, slots := 0, locals := 43 }).room s m ([.ref (ad 0)] : List Value).toArray below meth c H locs 0 0 Q (F0 m 77 ls []) := by
    intro Q n
    induction n with
    | zero =>
      intro t Z H locs ls hk hI hP hS hl K
      refine lv_iload_n hx hb dX2_bringAllUp_77 rfl (lv_at hl 0 rfl) ?_
      refine lv_aload_n hx hb dX2_bringAllUp_78 rfl (lv_at hl 2 rfl) ?_
      refine c_gO hx hb hts hinX2 hown hK hP 3 (by decide) (hts (.fieldLink RX2 25 "FeedbackQueues" "levelCount" "I") (by decide +kernel)) rfl dX2_bringAllUp_79 ?_
      refine lv_icmp_ge (tgt := 110) hx hb dX2_bringAllUp_82 (by decide) (fun c_82 => ?_) (fun c_82 => ?_)
      rotate_left
      · exact absurd (by rw [show cO Z 3 = nI ((cO S3 3).toNatClampNeg) from by rw [hLe]; exact hI.1.2.1]; exact nI_le (by omega) (by omega)) c_82
      have hiN : t = (cO S3 3).toNatClampNeg := by omega
      rw [hiN] at hl
      exact K H locs ls hP hS (lv_sub hl [0, 1, 2] rfl)
    | succ n ih =>
      intro t Z H locs ls hk hI hP hS hl K
      have ht : t < (cO S3 3).toNatClampNeg := by omega
      have ht1 := hI.2
      refine lv_iload_n hx hb dX2_bringAllUp_77 rfl (lv_at hl 0 rfl) ?_
      refine lv_aload_n hx hb dX2_bringAllUp_78 rfl (lv_at hl 2 rfl) ?_
      refine c_gO hx hb hts hinX2 hown hK hP 3 (by decide) (hts (.fieldLink RX2 25 "FeedbackQueues" "levelCount" "I") (by decide +kernel)) rfl dX2_bringAllUp_79 ?_
      refine lv_icmp_ge (tgt := 110) hx hb dX2_bringAllUp_82 (by decide) (fun c_82 => ?_) (fun c_82 => ?_)
      · exact absurd c_82 (by rw [show cO Z 3 = nI ((cO S3 3).toNatClampNeg) from by rw [hLe]; exact hI.1.2.1]; exact nI_ge (by omega) (by omega))
      refine lv_aload_n hx hb dX2_bringAllUp_85 rfl (lv_at hl 1 rfl) ?_
      refine lv_aload_n hx hb dX2_bringAllUp_86 rfl (lv_at hl 2 rfl) ?_
      refine c_gO hx hb hts hinX2 hown hK hP 0 (by decide) (hts (.fieldLink RX2 11 "FeedbackQueues" "levelRows" "[LFeedbackQueues$Level;") (by decide +kernel)) rfl dX2_bringAllUp_87 ?_
      refine lv_iload_n hx hb dX2_bringAllUp_90 rfl (lv_at hl 0 rfl) ?_
      refine c_aL (k := t) hx hb hK hP (ix_nI (by omega) (by omega)) dX2_bringAllUp_91 ?_
      refine c_cNv (As := [.ref (ad (4 + 2 * t))]) (rest := []) (k := (4 + 2 * 0)) (ci := 0) (q := (RX0, TX0, 4)) ⟨hx, hb, hml, hown, hts⟩ (k_X0_addAllOf l D cy ad Z 0 t (show 0 < 6 from by decide) ((ix_nI (by omega) (by omega)).2.2) (by omega) (okC_sz hI.1 (by omega)) (okC_sz hI.1 (by omega))) ⟨va_cnB (host := "FeedbackQueues") 1 hts gX2_bringAllUp_X0_addAllOf_n190 rfl rfl rfl (hN.mth (a := RX2) (i := 190) (x := yX0_addAllOf) (h' := "FeedbackQueues") (by decide +kernel)) (hts (.initialized RX0) (by decide +kernel)) (by decide +kernel) ⟨Nat.le_of_ble_eq_true rfl, Nat.le_of_ble_eq_true rfl⟩, hts (.instanceMethod yX0_addAllOf) (by decide +kernel), hts (.selects RX0 yX0_addAllOf yX0_addAllOf) (by decide +kernel)⟩ hK hap hA hN hP hS (by have h9 := (show 0 < 6 from by decide); omega) (cE_L cy ad Z (show 0 < 6 from by decide)) rfl rfl hl.1 rfl (Nat.le_of_ble_eq_true rfl) dX2_bringAllUp_92 ⟨Nat.zero_le _, Nat.zero_le _⟩ (fun H locs hP hS => ?_)
      obtain ⟨S4, eS4⟩ : ∃ z : Cs, z = F_X0_addAllOf Z 0 t := ⟨_, rfl⟩
      rw [← eS4] at hP
      have hok4 : okC N L b S4 := by rw [eS4]; exact ok_X0_addAllOf hI.1 (show 0 < 6 from by decide) ((ix_nI (by omega) (by omega)).2.2)
      refine lv_aload_n hx hb dX2_bringAllUp_95 rfl (lv_at hl 2 rfl) ?_
      refine c_gO hx hb hts hinX2 hown hK hP 0 (by decide) (hts (.fieldLink RX2 11 "FeedbackQueues" "levelRows" "[LFeedbackQueues$Level;") (by decide +kernel)) rfl dX2_bringAllUp_96 ?_
      refine lv_iload_n hx hb dX2_bringAllUp_99 rfl (lv_at hl 0 rfl) ?_
      refine c_aL (k := t) hx hb hK hP (ix_nI (by omega) (by omega)) dX2_bringAllUp_100 ?_
      refine c_cNv (As := []) (rest := []) (k := (4 + 2 * t)) (ci := 0) (q := (RX0, TX0, 4)) ⟨hx, hb, hml, hown, hts⟩ (k_X0_clear l D cy ad S4 t ((ix_nI (by omega) (by omega)).2.2)) ⟨va_cnB (host := "FeedbackQueues") 0 hts gX2_bringAllUp_X0_clear_n160 rfl rfl rfl (hN.mth (a := RX2) (i := 160) (x := yX0_clear) (h' := "FeedbackQueues") (by decide +kernel)) (hts (.initialized RX0) (by decide +kernel)) (by decide +kernel) ⟨Nat.le_of_ble_eq_true rfl, Nat.le_of_ble_eq_true rfl⟩, hts (.instanceMethod yX0_clear) (by decide +kernel), hts (.selects RX0 yX0_clear yX0_clear) (by decide +kernel)⟩ hK hap hA hN hP hS (by have h9 := ((ix_nI (by omega) (by omega)).2.2); omega) (cE_L cy ad S4 ((ix_nI (by omega) (by omega)).2.2)) rfl rfl hl.1 rfl (Nat.le_of_ble_eq_true rfl) dX2_bringAllUp_101 ⟨Nat.zero_le _, Nat.zero_le _⟩ (fun H locs hP hS => ?_)
      obtain ⟨S5, eS5⟩ : ∃ z : Cs, z = F_X0_clear S4 t := ⟨_, rfl⟩
      rw [← eS5] at hP
      have hok5 : okC N L b S5 := by rw [eS5]; exact ok_X0_clear hok4 ((ix_nI (by omega) (by omega)).2.2)
      refine lv_iinc (v := nI (t + 1)) (lv' := [(2, .int (nI (t + 1))), (1, .ref (ad (4 + 2 * 0))), (0, .ref (ad 0))]) hx hb dX2_bringAllUp_104 hl (k := 0) rfl (inc_nI t) (by decide) rfl (fun ls hl => ?_)
      refine lv_goto (tgt := 77) hx hb dX2_bringAllUp_107 (by decide) ?_
      have hF : B_X2_bringAllUp_77 t Z = S5 := by subst eS5 eS4; simp only [B_X2_bringAllUp_77]
      rw [← hF] at hP
      exact ih (t + 1) (B_X2_bringAllUp_77 t Z) H locs ls (by omega) (⟨ok_B_bringAllUp_77 hI.1 hI.2 (by omega), by omega⟩) hP hS (lv_sub hl [0, 1, 2] rfl) K
  refine lp_77 _ ((cO S3 3).toNatClampNeg - 1) 1 S3 H locs ls (by omega) (⟨hok3, Nat.le_refl 1⟩) hP hS (by rw [show nI 1 = 1 from by decide]; exact lv_sub hl [0, 1, 2] rfl) (fun H locs ls hP hS hl => ?_)
  obtain ⟨S6, eS6⟩ : ∃ z : Cs, z = itr B_X2_bringAllUp_77 ((cO S3 3).toNatClampNeg - 1) 1 S3 := ⟨_, rfl⟩
  rw [← eS6] at hP
  have hF : F_X2_bringAllUp S  = S6 := by subst eS6 eS3 eS1; simp only [F_X2_bringAllUp]
  rw [hF]
  exact c_vret hx hb hr hlocks hP hS dX2_bringAllUp_110 (fun _ h => h)
set_option maxHeartbeats 4000000 in
set_option maxRecDepth 100000 in
theorem k_X2_makeWay (l : Launch) (D : va_G) (cy : Nat → ClassId) (ad : Nat → Nat) (S : Cs)   {N L b : Nat} (hok : okC N L b S)  : cMv l yX2_makeWay wsX2_makeWay { frames := 1, cells := 0, slots := 0, locals := 22 } D cy ad [.ref (ad 0)] S (F_X2_makeWay S ) := by
  intro sz
  refine Met.ofW (cc := cX2_makeWay) (maxL := 1) (ret := none) (by decide) rfl ?_
  intro p e s m args below meth c s₁ B hml hv
  obtain ⟨rfl, hsz, hP, hK, hap0, hN⟩ := hv
  have hx := B.exec
  have hb := B.bytes
  have hr := B.returns
  have hts := atoms_spec (ws := wsX2_makeWay) B.pre
  have hown : s.vm.findClass RX2 = some m.cls := findClass_of_methodNamed B.named
  have hlocks := B.notSynchronized
  subst hsz
  have hap := gw_self (sz := s.heap.size) hap0
  generalize hAe : gA 48 ad s.heap.size = A at hap ⊢
  have hA : ∀ q : Nat, s.heap.size ≤ q → A q := fun q h => by rw [← hAe]; exact Or.inr h
  have hS : va_S A s.heap s.heap [] := va_S.rf
  have hinX1 : ∀ w ∈ wsX10, w ∈ wsX2_makeWay := by decide +kernel
  have hinX2 : ∀ w ∈ wsX20, w ∈ wsX2_makeWay := by decide +kernel
  have hl := lv_entry ([.ref (ad 0)]) (n := 1) (Nat.le_of_ble_eq_true rfl)
  rw [lg_entry_eq]
  generalize (lg_sl ([.ref (ad 0)]) ++ List.replicate (1 - (lg_sl ([.ref (ad 0)])).length) Slot.unset).toArray = ls at hl ⊢
  have hl : lv_has ls 1 [(0, .ref (ad 0))] := hl
  obtain ⟨H, hH⟩ : ∃ H, H = s.heap := ⟨_, rfl⟩
  rw [← hH] at hP
  have hS : va_S A s.heap H [] := by rw [hH]; exact hS
  rw [← hH]
  generalize ([] : List Loc) = locs at hS ⊢
  refine lv_aload_n hx hb dX2_makeWay_0 rfl (lv_at hl 0 rfl) ?_
  by_cases o_1 : cN S = none
  · skip
    refine c_gO hx hb hts hinX2 hown hK hP 7 (by decide) (hts (.fieldLink RX2 38 "FeedbackQueues" "onProcessor" "LFeedbackQueues$Task;") (by decide +kernel)) (cOf_7n ad o_1) dX2_makeWay_1 ?_
    refine lv_ifnullN (tgt := 21) hx hb dX2_makeWay_4 (by decide) ?_
    have hF : F_X2_makeWay S  = S := by simp only [F_X2_makeWay, if_pos o_1]
    rw [hF]
    exact c_vret hx hb hr hlocks hP hS dX2_makeWay_21 (fun _ h => h)
  · skip
    refine c_gO hx hb hts hinX2 hown hK hP 7 (by decide) (hts (.fieldLink RX2 38 "FeedbackQueues" "onProcessor" "LFeedbackQueues$Task;") (by decide +kernel)) (cOf_7s ad o_1) dX2_makeWay_1 ?_
    refine lv_ifnull hx hb dX2_makeWay_4 ?_
    refine lv_aload_n hx hb dX2_makeWay_7 rfl (lv_at hl 0 rfl) ?_
    refine lv_aload_n hx hb dX2_makeWay_8 rfl (lv_at hl 0 rfl) ?_
    refine c_gO hx hb hts hinX2 hown hK hP 7 (by decide) (hts (.fieldLink RX2 38 "FeedbackQueues" "onProcessor" "LFeedbackQueues$Task;") (by decide +kernel)) (cOf_7s ad o_1) dX2_makeWay_9 ?_
    refine c_gTN (i := cI S) hx hb hts hinX1 hown hK hP (okC_on hok o_1) 5 (by decide) (hN.fld (args := _) (a := "FeedbackQueues") (i := 121) (b := "FeedbackQueues$Task") (n := "level") (d := "I") (h' := "FeedbackQueues") (by decide +kernel)) rfl dX2_makeWay_12 ?_
    refine c_cVi (As := [.int (cT S (cI S) 5)]) (rest := []) (k := 0) (ci := 2) (q := (RX2, TX2, 12)) ⟨hx, hb, hml, hown, hts⟩ (k_X2_isOneReadyAbove l D cy ad S (cT S (cI S) 5)  hok (okC_u6 hok (okC_on hok o_1))) (cwV 1 hts gX2_makeWay_X2_isOneReadyAbove rfl rfl rfl (by decide +kernel) ⟨Nat.le_of_ble_eq_true rfl, Nat.le_of_ble_eq_true rfl⟩) hK hap hA hN hP hS (by omega) (cE_O cy ad S) rfl rfl hl.1 rfl (Nat.le_of_ble_eq_true rfl) dX2_makeWay_15 ⟨Nat.zero_le _, Nat.zero_le _⟩ (fun H locs hP hS => ?_)
    obtain ⟨S1, eS1⟩ : ∃ z : Cs, z = (F_X2_isOneReadyAbove S (cT S (cI S) 5)).1 := ⟨_, rfl⟩
    rw [← eS1] at hP
    have hok1 : okC N L b S1 := by rw [eS1]; exact ok_X2_isOneReadyAbove hok 
    have oS1 : ¬ cN S1 = none := by rw [eS1, isOne_fst]; exact o_1
    refine lv_if_ne (tgt := 22) hx hb dX2_makeWay_18 (by decide) (fun c_18 => ?_) (fun c_18 => ?_)
    · skip
      refine lv_aload_n hx hb dX2_makeWay_22 rfl (lv_at hl 0 rfl) ?_
      refine c_gO hx hb hts hinX2 hown hK hP 7 (by decide) (hts (.fieldLink RX2 38 "FeedbackQueues" "onProcessor" "LFeedbackQueues$Task;") (by decide +kernel)) (cOf_7s ad oS1) dX2_makeWay_23 ?_
      refine lv_iconst (v := 1) hx hb dX2_makeWay_26 (by decide) ?_
      refine c_pTN (i := cI S1) (ty := .int) (v := 1) hx hb hts hinX1 hown hK hap hP hS (okC_on hok1 oS1) 4 (by decide) (hN.fld (args := _) (a := "FeedbackQueues") (i := 118) (b := "FeedbackQueues$Task") (n := "state") (d := "I") (h' := "FeedbackQueues") (by decide +kernel)) rfl (by decide +kernel) rfl rfl (cTf_4 ad S1 (cI S1) _) (Nat.le_of_ble_eq_true rfl) dX2_makeWay_27 (fun H locs hP hS => ?_)
      obtain ⟨S2, eS2⟩ : ∃ z : Cs, z = sT S1 (cI S1) 4 1 := ⟨_, rfl⟩
      rw [← eS2] at hP
      have oS2 : ¬ cN S2 = none := by rw [eS2]; exact oS1
      have hok2 : okC N L b S2 := by rw [eS2]; exact okC_sT hok1 (by decide)
      refine lv_aload_n hx hb dX2_makeWay_30 rfl (lv_at hl 0 rfl) ?_
      refine c_gO hx hb hts hinX2 hown hK hP 7 (by decide) (hts (.fieldLink RX2 38 "FeedbackQueues" "onProcessor" "LFeedbackQueues$Task;") (by decide +kernel)) (cOf_7s ad oS2) dX2_makeWay_31 ?_
      refine lv_iconst (v := 1) hx hb dX2_makeWay_34 (by decide) ?_
      refine c_pTN (i := cI S2) (ty := .boolean) (v := 1) hx hb hts hinX1 hown hK hap hP hS (okC_on hok2 oS2) 10 (by decide) (hN.fld (args := _) (a := "FeedbackQueues") (i := 220) (b := "FeedbackQueues$Task") (n := "keepsQuantum") (d := "Z") (h' := "FeedbackQueues") (by decide +kernel)) rfl (by decide +kernel) rfl rfl (cTf_10 ad S2 (cI S2) _) (Nat.le_of_ble_eq_true rfl) dX2_makeWay_35 (fun H locs hP hS => ?_)
      obtain ⟨S3, eS3⟩ : ∃ z : Cs, z = sT S2 (cI S2) 10 1 := ⟨_, rfl⟩
      rw [← eS3] at hP
      have oS3 : ¬ cN S3 = none := by rw [eS3]; exact oS2
      have hok3 : okC N L b S3 := by rw [eS3]; exact okC_sT hok2 (by decide)
      refine lv_aload_n hx hb dX2_makeWay_38 rfl (lv_at hl 0 rfl) ?_
      refine c_gO hx hb hts hinX2 hown hK hP 7 (by decide) (hts (.fieldLink RX2 38 "FeedbackQueues" "onProcessor" "LFeedbackQueues$Task;") (by decide +kernel)) (cOf_7s ad oS3) dX2_makeWay_39 ?_
      refine lv_dup hx hb dX2_makeWay_42 rfl ?_
      refine c_gTN (i := cI S3) hx hb hts hinX1 hown hK hP (okC_on hok3 oS3) 18 (by decide) (hN.fld (args := _) (a := "FeedbackQueues") (i := 145) (b := "FeedbackQueues$Task") (n := "timesToFront") (d := "I") (h' := "FeedbackQueues") (by decide +kernel)) rfl dX2_makeWay_43 ?_
      refine lv_iconst (v := 1) hx hb dX2_makeWay_46 (by decide) ?_
      refine lv_iadd hx hb dX2_makeWay_47 ?_
      refine c_pTN (i := cI S3) (ty := .int) (v := (cT S3 (cI S3) 18) + 1) hx hb hts hinX1 hown hK hap hP hS (okC_on hok3 oS3) 18 (by decide) (hN.fld (args := _) (a := "FeedbackQueues") (i := 145) (b := "FeedbackQueues$Task") (n := "timesToFront") (d := "I") (h' := "FeedbackQueues") (by decide +kernel)) rfl (by decide +kernel) rfl rfl (cTf_18 ad S3 (cI S3) _) (Nat.le_of_ble_eq_true rfl) dX2_makeWay_48 (fun H locs hP hS => ?_)
      obtain ⟨S4, eS4⟩ : ∃ z : Cs, z = sT S3 (cI S3) 18 ((cT S3 (cI S3) 18) + 1) := ⟨_, rfl⟩
      rw [← eS4] at hP
      have oS4 : ¬ cN S4 = none := by rw [eS4]; exact oS3
      have hok4 : okC N L b S4 := by rw [eS4]; exact okC_sT hok3 (by decide)
      refine lv_aload_n hx hb dX2_makeWay_51 rfl (lv_at hl 0 rfl) ?_
      refine c_gO hx hb hts hinX2 hown hK hP 0 (by decide) (hts (.fieldLink RX2 11 "FeedbackQueues" "levelRows" "[LFeedbackQueues$Level;") (by decide +kernel)) rfl dX2_makeWay_52 ?_
      refine lv_aload_n hx hb dX2_makeWay_55 rfl (lv_at hl 0 rfl) ?_
      refine c_gO hx hb hts hinX2 hown hK hP 7 (by decide) (hts (.fieldLink RX2 38 "FeedbackQueues" "onProcessor" "LFeedbackQueues$Task;") (by decide +kernel)) (cOf_7s ad oS4) dX2_makeWay_56 ?_
      refine c_gTN (i := cI S4) hx hb hts hinX1 hown hK hP (okC_on hok4 oS4) 5 (by decide) (hN.fld (args := _) (a := "FeedbackQueues") (i := 121) (b := "FeedbackQueues$Task") (n := "level") (d := "I") (h' := "FeedbackQueues") (by decide +kernel)) rfl dX2_makeWay_59 ?_
      refine c_aL (k := ((cT S4 (cI S4) 5)).toNatClampNeg) hx hb hK hP (okC_ix hok4 (okC_on hok4 oS4)) dX2_makeWay_62 ?_
      refine lv_aload_n hx hb dX2_makeWay_63 rfl (lv_at hl 0 rfl) ?_
      refine c_gO hx hb hts hinX2 hown hK hP 7 (by decide) (hts (.fieldLink RX2 38 "FeedbackQueues" "onProcessor" "LFeedbackQueues$Task;") (by decide +kernel)) (cOf_7s ad oS4) dX2_makeWay_64 ?_
      refine c_gTN (i := cI S4) hx hb hts hinX1 hown hK hP (okC_on hok4 oS4) 0 (by decide) (hN.fld (args := _) (a := "FeedbackQueues") (i := 150) (b := "FeedbackQueues$Task") (n := "number") (d := "I") (h' := "FeedbackQueues") (by decide +kernel)) rfl dX2_makeWay_67 ?_
      refine c_cNv (As := [.int (cT S4 (cI S4) 0)]) (rest := []) (k := (4 + 2 * (((cT S4 (cI S4) 5)).toNatClampNeg))) (ci := 0) (q := (RX0, TX0, 4)) ⟨hx, hb, hml, hown, hts⟩ (k_X0_addFirst l D cy ad S4 (((cT S4 (cI S4) 5)).toNatClampNeg) (cT S4 (cI S4) 0) ((okC_ix hok4 (okC_on hok4 oS4)).2.2) (okC_sz hok4 (okC_ix hok4 (okC_on hok4 oS4)).2.2)) ⟨va_cnB (host := "FeedbackQueues") 1 hts gX2_makeWay_X0_addFirst_n224 rfl rfl rfl (hN.mth (a := RX2) (i := 224) (x := yX0_addFirst) (h' := "FeedbackQueues") (by decide +kernel)) (hts (.initialized RX0) (by decide +kernel)) (by decide +kernel) ⟨Nat.le_of_ble_eq_true rfl, Nat.le_of_ble_eq_true rfl⟩, hts (.instanceMethod yX0_addFirst) (by decide +kernel), hts (.selects RX0 yX0_addFirst yX0_addFirst) (by decide +kernel)⟩ hK hap hA hN hP hS (by have h9 := ((okC_ix hok4 (okC_on hok4 oS4)).2.2); omega) (cE_L cy ad S4 ((okC_ix hok4 (okC_on hok4 oS4)).2.2)) rfl rfl hl.1 rfl (Nat.le_of_ble_eq_true rfl) dX2_makeWay_70 ⟨Nat.zero_le _, Nat.zero_le _⟩ (fun H locs hP hS => ?_)
      obtain ⟨S5, eS5⟩ : ∃ z : Cs, z = F_X0_addFirst S4 (((cT S4 (cI S4) 5)).toNatClampNeg) (cT S4 (cI S4) 0) := ⟨_, rfl⟩
      rw [← eS5] at hP
      have hok5 : okC N L b S5 := by rw [eS5]; exact ok_X0_addFirst hok4 ((okC_ix hok4 (okC_on hok4 oS4)).2.2)
      refine lv_aload_n hx hb dX2_makeWay_73 rfl (lv_at hl 0 rfl) ?_
      refine lv_null hx hb dX2_makeWay_74 ?_
      refine c_pNn hx hb hts hinX2 hown hK hap hP hS (hts (.fieldLink RX2 38 "FeedbackQueues" "onProcessor" "LFeedbackQueues$Task;") (by decide +kernel)) dX2_makeWay_75 (fun H locs hP hS => ?_)
      obtain ⟨S6, eS6⟩ : ∃ z : Cs, z = sN S5 none := ⟨_, rfl⟩
      rw [← eS6] at hP
      have hok6 : okC N L b S6 := by rw [eS6]; exact okC_sN0 hok5
      have hF : F_X2_makeWay S  = S6 := by subst eS6 eS5 eS4 eS3 eS2 eS1; simp only [F_X2_makeWay, if_neg o_1, if_neg c_18]
      rw [hF]
      exact c_vret hx hb hr hlocks hP hS dX2_makeWay_78 (fun _ h => h)
    · skip
      have hF : F_X2_makeWay S  = S1 := by subst eS1; simp only [F_X2_makeWay, if_neg o_1, if_pos c_18]
      rw [hF]
      exact c_vret hx hb hr hlocks hP hS dX2_makeWay_21 (fun _ h => h)
set_option maxHeartbeats 4000000 in
set_option maxRecDepth 100000 in
theorem k_X2_switchTo (l : Launch) (D : va_G) (cy : Nat → ClassId) (ad : Nat → Nat) (S : Cs) (u : Nat)  (hu : u < 16) {N L b : Nat} (hok : okC N L b S) (hb30 : b < 2 ^ 30) (huN : u < N) : cMv l yX2_switchTo wsX2_switchTo { frames := 1, cells := 0, slots := 0, locals := 22 } D cy ad [.ref (ad 0), .ref (ad (16 + 2 * u))] S (F_X2_switchTo S u) := by
  intro sz
  refine Met.ofW (cc := cX2_switchTo) (maxL := 2) (ret := none) (by decide) rfl ?_
  intro p e s m args below meth c s₁ B hml hv
  obtain ⟨rfl, hsz, hP, hK, hap0, hN⟩ := hv
  have hx := B.exec
  have hb := B.bytes
  have hr := B.returns
  have hts := atoms_spec (ws := wsX2_switchTo) B.pre
  have hown : s.vm.findClass RX2 = some m.cls := findClass_of_methodNamed B.named
  have hlocks := B.notSynchronized
  subst hsz
  have hap := gw_self (sz := s.heap.size) hap0
  generalize hAe : gA 48 ad s.heap.size = A at hap ⊢
  have hA : ∀ q : Nat, s.heap.size ≤ q → A q := fun q h => by rw [← hAe]; exact Or.inr h
  have hS : va_S A s.heap s.heap [] := va_S.rf
  have hinX0 : ∀ w ∈ wsX00, w ∈ wsX2_switchTo := by decide +kernel
  have hinX1 : ∀ w ∈ wsX10, w ∈ wsX2_switchTo := by decide +kernel
  have hinX2 : ∀ w ∈ wsX20, w ∈ wsX2_switchTo := by decide +kernel
  have hl := lv_entry ([.ref (ad 0), .ref (ad (16 + 2 * u))]) (n := 2) (Nat.le_of_ble_eq_true rfl)
  rw [lg_entry_eq]
  generalize (lg_sl ([.ref (ad 0), .ref (ad (16 + 2 * u))]) ++ List.replicate (2 - (lg_sl ([.ref (ad 0), .ref (ad (16 + 2 * u))])).length) Slot.unset).toArray = ls at hl ⊢
  have hl : lv_has ls 2 [(0, .ref (ad 0)), (1, .ref (ad (16 + 2 * u)))] := hl
  obtain ⟨H, hH⟩ : ∃ H, H = s.heap := ⟨_, rfl⟩
  rw [← hH] at hP
  have hS : va_S A s.heap H [] := by rw [hH]; exact hS
  rw [← hH]
  generalize ([] : List Loc) = locs at hS ⊢
  refine lv_aload_n hx hb dX2_switchTo_0 rfl (lv_at hl 1 rfl) ?_
  refine lv_aload_n hx hb dX2_switchTo_1 rfl (lv_at hl 0 rfl) ?_
  refine c_gO hx hb hts hinX2 hown hK hP 6 (by decide) (hts (.fieldLink RX2 35 "FeedbackQueues" "now" "I") (by decide +kernel)) rfl dX2_switchTo_2 ?_
  refine lv_aload_n hx hb dX2_switchTo_5 rfl (lv_at hl 0 rfl) ?_
  refine c_gO hx hb hts hinX2 hown hK hP 0 (by decide) (hts (.fieldLink RX2 11 "FeedbackQueues" "levelRows" "[LFeedbackQueues$Level;") (by decide +kernel)) rfl dX2_switchTo_6 ?_
  refine lv_aload_n hx hb dX2_switchTo_9 rfl (lv_at hl 1 rfl) ?_
  refine c_gTN (i := u) hx hb hts hinX1 hown hK hP hu 5 (by decide) (hN.fld (args := _) (a := "FeedbackQueues") (i := 121) (b := "FeedbackQueues$Task") (n := "level") (d := "I") (h' := "FeedbackQueues") (by decide +kernel)) rfl dX2_switchTo_10 ?_
  refine c_aL (k := ((cT S u 5)).toNatClampNeg) hx hb hK hP (okC_ix hok hu) dX2_switchTo_13 ?_
  refine c_gLN (i := ((cT S u 5)).toNatClampNeg) hx hb hts hinX0 hown hK hP ((okC_ix hok hu).2.2) 0 (by decide) (hN.fld (args := _) (a := "FeedbackQueues") (i := 65) (b := "FeedbackQueues$Level") (n := "quantum") (d := "I") (h' := "FeedbackQueues") (by decide +kernel)) rfl dX2_switchTo_14 ?_
  refine c_cNv (As := [.int (cO S 6), .int (cL S (((cT S u 5)).toNatClampNeg) 0)]) (rest := []) (k := (16 + 2 * u)) (ci := 1) (q := (RX1, TX1, 19)) ⟨hx, hb, hml, hown, hts⟩ (k_X1_beginRunning l D cy ad S u (cO S 6) (cL S (((cT S u 5)).toNatClampNeg) 0) hu) ⟨va_cnB (host := "FeedbackQueues") 2 hts gX2_switchTo_X1_beginRunning_n237 rfl rfl rfl (hN.mth (a := RX2) (i := 237) (x := yX1_beginRunning) (h' := "FeedbackQueues") (by decide +kernel)) (hts (.initialized RX1) (by decide +kernel)) (by decide +kernel) ⟨Nat.le_of_ble_eq_true rfl, Nat.le_of_ble_eq_true rfl⟩, hts (.instanceMethod yX1_beginRunning) (by decide +kernel), hts (.selects RX1 yX1_beginRunning yX1_beginRunning) (by decide +kernel)⟩ hK hap hA hN hP hS (by have h9 := (hu); omega) (cE_T cy ad S u) rfl rfl hl.1 rfl (Nat.le_of_ble_eq_true rfl) dX2_switchTo_17 ⟨Nat.zero_le _, Nat.zero_le _⟩ (fun H locs hP hS => ?_)
  obtain ⟨S1, eS1⟩ : ∃ z : Cs, z = F_X1_beginRunning S u (cO S 6) (cL S (((cT S u 5)).toNatClampNeg) 0) := ⟨_, rfl⟩
  rw [← eS1] at hP
  have hok1 : okC N L b S1 := by rw [eS1]; exact ok_X1_beginRunning hok hu
  refine lv_aload_n hx hb dX2_switchTo_20 rfl (lv_at hl 0 rfl) ?_
  refine c_gO hx hb hts hinX2 hown hK hP 8 (by decide) (hts (.fieldLink RX2 42 "FeedbackQueues" "switchCount" "I") (by decide +kernel)) rfl dX2_switchTo_21 ?_
  refine lv_sipush (v := 400) hx hb dX2_switchTo_24 (by decide) ?_
  refine lv_icmp_ge (tgt := 51) hx hb dX2_switchTo_27 (by decide) (fun c_27 => ?_) (fun c_27 => ?_)
  · skip
    refine lv_aload_n hx hb dX2_switchTo_51 rfl (lv_at hl 0 rfl) ?_
    refine lv_dup hx hb dX2_switchTo_52 rfl ?_
    refine c_gO hx hb hts hinX2 hown hK hP 8 (by decide) (hts (.fieldLink RX2 42 "FeedbackQueues" "switchCount" "I") (by decide +kernel)) rfl dX2_switchTo_53 ?_
    refine lv_iconst (v := 1) hx hb dX2_switchTo_56 (by decide) ?_
    refine lv_iadd hx hb dX2_switchTo_57 ?_
    refine c_pO (ty := .int) (v := (cO S1 8) + 1) hx hb hts hinX2 hown hK hap hP hS 8 (by decide) (hts (.fieldLink RX2 42 "FeedbackQueues" "switchCount" "I") (by decide +kernel)) rfl (by decide +kernel) rfl rfl (cOf_8 ad S1 _) (Nat.le_of_ble_eq_true rfl) dX2_switchTo_58 (fun H locs hP hS => ?_)
    obtain ⟨S2, eS2⟩ : ∃ z : Cs, z = sO S1 8 ((cO S1 8) + 1) := ⟨_, rfl⟩
    rw [← eS2] at hP
    refine lv_aload_n hx hb dX2_switchTo_61 rfl (lv_at hl 0 rfl) ?_
    refine lv_aload_n hx hb dX2_switchTo_62 rfl (lv_at hl 1 rfl) ?_
    refine c_pNs (i := u) hx hb hts hinX2 hown hK hap hP hS (hts (.fieldLink RX2 38 "FeedbackQueues" "onProcessor" "LFeedbackQueues$Task;") (by decide +kernel)) dX2_switchTo_63 (fun H locs hP hS => ?_)
    obtain ⟨S3, eS3⟩ : ∃ z : Cs, z = sN S2 (some u) := ⟨_, rfl⟩
    rw [← eS3] at hP
    have hF : F_X2_switchTo S u = S3 := by subst eS3 eS2 eS1; simp only [F_X2_switchTo, if_pos c_27]
    rw [hF]
    exact c_vret hx hb hr hlocks hP hS dX2_switchTo_66 (fun _ h => h)
  · skip
    refine lv_aload_n hx hb dX2_switchTo_30 rfl (lv_at hl 0 rfl) ?_
    refine c_gO hx hb hts hinX2 hown hK hP 2 (by decide) (hts (.fieldLink RX2 21 "FeedbackQueues" "switchesKept" "[I") (by decide +kernel)) rfl dX2_switchTo_31 ?_
    refine lv_aload_n hx hb dX2_switchTo_34 rfl (lv_at hl 0 rfl) ?_
    refine c_gO hx hb hts hinX2 hown hK hP 8 (by decide) (hts (.fieldLink RX2 42 "FeedbackQueues" "switchCount" "I") (by decide +kernel)) rfl dX2_switchTo_35 ?_
    refine lv_bipush (v := 16) hx hb dX2_switchTo_38 (by decide) ?_
    refine lv_aload_n hx hb dX2_switchTo_40 rfl (lv_at hl 0 rfl) ?_
    refine c_gO hx hb hts hinX2 hown hK hP 6 (by decide) (hts (.fieldLink RX2 35 "FeedbackQueues" "now" "I") (by decide +kernel)) rfl dX2_switchTo_41 ?_
    refine lv_imul hx hb dX2_switchTo_44 ?_
    refine lv_aload_n hx hb dX2_switchTo_45 rfl (lv_at hl 1 rfl) ?_
    refine c_gTN (i := u) hx hb hts hinX1 hown hK hP hu 0 (by decide) (hN.fld (args := _) (a := "FeedbackQueues") (i := 150) (b := "FeedbackQueues$Task") (n := "number") (d := "I") (h' := "FeedbackQueues") (by decide +kernel)) rfl dX2_switchTo_46 ?_
    refine lv_iadd hx hb dX2_switchTo_49 ?_
    refine c_sW (k := ((cO S1 8)).toNatClampNeg) (v := (16 * (cO S1 6)) + (cT S1 u 0)) hx hb hK hap hP hS (okC_w hok1 hb30 c_27) dX2_switchTo_50 (fun H locs hP hS => ?_)
    obtain ⟨S4, eS4⟩ : ∃ z : Cs, z = sW S1 (((cO S1 8)).toNatClampNeg) ((16 * (cO S1 6)) + (cT S1 u 0)) := ⟨_, rfl⟩
    rw [← eS4] at hP
    have hok2 : okC N L b S4 := by rw [eS4]; exact okC_sW hok1
    refine lv_aload_n hx hb dX2_switchTo_51 rfl (lv_at hl 0 rfl) ?_
    refine lv_dup hx hb dX2_switchTo_52 rfl ?_
    refine c_gO hx hb hts hinX2 hown hK hP 8 (by decide) (hts (.fieldLink RX2 42 "FeedbackQueues" "switchCount" "I") (by decide +kernel)) rfl dX2_switchTo_53 ?_
    refine lv_iconst (v := 1) hx hb dX2_switchTo_56 (by decide) ?_
    refine lv_iadd hx hb dX2_switchTo_57 ?_
    refine c_pO (ty := .int) (v := (cO S4 8) + 1) hx hb hts hinX2 hown hK hap hP hS 8 (by decide) (hts (.fieldLink RX2 42 "FeedbackQueues" "switchCount" "I") (by decide +kernel)) rfl (by decide +kernel) rfl rfl (cOf_8 ad S4 _) (Nat.le_of_ble_eq_true rfl) dX2_switchTo_58 (fun H locs hP hS => ?_)
    obtain ⟨S5, eS5⟩ : ∃ z : Cs, z = sO S4 8 ((cO S4 8) + 1) := ⟨_, rfl⟩
    rw [← eS5] at hP
    refine lv_aload_n hx hb dX2_switchTo_61 rfl (lv_at hl 0 rfl) ?_
    refine lv_aload_n hx hb dX2_switchTo_62 rfl (lv_at hl 1 rfl) ?_
    refine c_pNs (i := u) hx hb hts hinX2 hown hK hap hP hS (hts (.fieldLink RX2 38 "FeedbackQueues" "onProcessor" "LFeedbackQueues$Task;") (by decide +kernel)) dX2_switchTo_63 (fun H locs hP hS => ?_)
    obtain ⟨S6, eS6⟩ : ∃ z : Cs, z = sN S5 (some u) := ⟨_, rfl⟩
    rw [← eS6] at hP
    have hF : F_X2_switchTo S u = S6 := by subst eS6 eS5 eS4 eS1; simp only [F_X2_switchTo, if_neg c_27]
    rw [hF]
    exact c_vret hx hb hr hlocks hP hS dX2_switchTo_66 (fun _ h => h)
set_option maxHeartbeats 4000000 in
set_option maxRecDepth 100000 in
theorem k_X2_switchToFirst (l : Launch) (D : va_G) (cy : Nat → ClassId) (ad : Nat → Nat) (S : Cs)   {N L b : Nat} (hok : okC N L b S) (hb30 : b < 2 ^ 30) : cMv l yX2_switchToFirst wsX2_switchToFirst { frames := 2, cells := 0, slots := 0, locals := 43 } D cy ad [.ref (ad 0)] S (F_X2_switchToFirst S ) := by
  intro sz
  refine Met.ofW (cc := cX2_switchToFirst) (maxL := 3) (ret := none) (by decide) rfl ?_
  intro p e s m args below meth c s₁ B hml hv
  obtain ⟨rfl, hsz, hP, hK, hap0, hN⟩ := hv
  have hx := B.exec
  have hb := B.bytes
  have hr := B.returns
  have hts := atoms_spec (ws := wsX2_switchToFirst) B.pre
  have hown : s.vm.findClass RX2 = some m.cls := findClass_of_methodNamed B.named
  have hlocks := B.notSynchronized
  subst hsz
  have hap := gw_self (sz := s.heap.size) hap0
  generalize hAe : gA 48 ad s.heap.size = A at hap ⊢
  have hA : ∀ q : Nat, s.heap.size ≤ q → A q := fun q h => by rw [← hAe]; exact Or.inr h
  have hS : va_S A s.heap s.heap [] := va_S.rf
  have hinX2 : ∀ w ∈ wsX20, w ∈ wsX2_switchToFirst := by decide +kernel
  have hl := lv_entry ([.ref (ad 0)]) (n := 3) (Nat.le_of_ble_eq_true rfl)
  rw [lg_entry_eq]
  generalize (lg_sl ([.ref (ad 0)]) ++ List.replicate (3 - (lg_sl ([.ref (ad 0)])).length) Slot.unset).toArray = ls at hl ⊢
  have hl : lv_has ls 3 [(0, .ref (ad 0))] := hl
  obtain ⟨H, hH⟩ : ∃ H, H = s.heap := ⟨_, rfl⟩
  rw [← hH] at hP
  have hS : va_S A s.heap H [] := by rw [hH]; exact hS
  rw [← hH]
  generalize ([] : List Loc) = locs at hS ⊢
  refine lv_iconst (v := 0) hx hb dX2_switchToFirst_0 (by decide) ?_
  refine lv_istore_n (lv' := [(1, .int 0), (0, .ref (ad 0))]) hx hb dX2_switchToFirst_1 rfl hl (by decide) rfl (fun ls hl => ?_)
  have hLe : (cO S 3).toNatClampNeg = L := okC_L hok
  have hL6 : L ≤ 6 := hok.2.2.2.2.1
  have hL1 : 1 ≤ L := hok.2.2.2.1
  have lp_2 : ∀ (n t : Nat) (Z : Cs) (H : Heap) (locs : List Loc) (ls : Array Slot), t + n = (cO S 3).toNatClampNeg → okC N L b Z → F_X2_switchToFirst S  = L_X2_switchToFirst_2 n t Z → va_P D vwCl (cwl cy ad Z) H → va_S A s.heap H locs → lv_has ls 3 [(1, .int (nI t)), (0, .ref (ad 0))] → W p l e (headSpec wsX2_switchToFirst { frames := 2, cells := 0, slots := 0, locals := 43 }).room s m ([.ref (ad 0)] : List Value).toArray below meth c H locs 0 0 (MQ below (va_Qv (fun _ : Unit => True) (fun _ t => cPost D cy ad (F_X2_switchToFirst S ) t) A) ([.ref (ad 0)] : List Value).toArray s 0 0 A) (F0 m 2 ls []) := by
    intro n
    induction n with
    | zero =>
      intro t Z H locs ls hk hI hT hP hS hl
      refine lv_iload_n hx hb dX2_switchToFirst_2 rfl (lv_at hl 0 rfl) ?_
      refine lv_aload_n hx hb dX2_switchToFirst_3 rfl (lv_at hl 1 rfl) ?_
      refine c_gO hx hb hts hinX2 hown hK hP 3 (by decide) (hts (.fieldLink RX2 25 "FeedbackQueues" "levelCount" "I") (by decide +kernel)) rfl dX2_switchToFirst_4 ?_
      refine lv_icmp_ge (tgt := 45) hx hb dX2_switchToFirst_7 (by decide) (fun c_7 => ?_) (fun c_7 => ?_)
      rotate_left
      · exact absurd (by rw [show cO Z 3 = nI ((cO S 3).toNatClampNeg) from by rw [hLe]; exact hI.2.1]; exact nI_le (by omega) (by omega)) c_7
      have hF : F_X2_switchToFirst S  = Z := hT.trans (by simp only [L_X2_switchToFirst_2])
      rw [hF]
      exact c_vret hx hb hr hlocks hP hS dX2_switchToFirst_45 (fun _ h => h)
    | succ n ih =>
      intro t Z H locs ls hk hI hT hP hS hl
      have ht : t < (cO S 3).toNatClampNeg := by omega
      refine lv_iload_n hx hb dX2_switchToFirst_2 rfl (lv_at hl 0 rfl) ?_
      refine lv_aload_n hx hb dX2_switchToFirst_3 rfl (lv_at hl 1 rfl) ?_
      refine c_gO hx hb hts hinX2 hown hK hP 3 (by decide) (hts (.fieldLink RX2 25 "FeedbackQueues" "levelCount" "I") (by decide +kernel)) rfl dX2_switchToFirst_4 ?_
      refine lv_icmp_ge (tgt := 45) hx hb dX2_switchToFirst_7 (by decide) (fun c_7 => ?_) (fun c_7 => ?_)
      · exact absurd c_7 (by rw [show cO Z 3 = nI ((cO S 3).toNatClampNeg) from by rw [hLe]; exact hI.2.1]; exact nI_ge (by omega) (by omega))
      refine lv_aload_n hx hb dX2_switchToFirst_10 rfl (lv_at hl 1 rfl) ?_
      refine c_gO hx hb hts hinX2 hown hK hP 0 (by decide) (hts (.fieldLink RX2 11 "FeedbackQueues" "levelRows" "[LFeedbackQueues$Level;") (by decide +kernel)) rfl dX2_switchToFirst_11 ?_
      refine lv_iload_n hx hb dX2_switchToFirst_14 rfl (lv_at hl 0 rfl) ?_
      refine c_aL (k := t) hx hb hK hP (ix_nI (by omega) (by omega)) dX2_switchToFirst_15 ?_
      refine c_cNi (As := []) (rest := []) (k := (4 + 2 * t)) (ci := 0) (q := (RX0, TX0, 4)) ⟨hx, hb, hml, hown, hts⟩ (k_X0_takeFirst l D cy ad Z t ((ix_nI (by omega) (by omega)).2.2) (okC_sz hI (by omega))) ⟨va_cnB (host := "FeedbackQueues") 0 hts gX2_switchToFirst_X0_takeFirst_n230 rfl rfl rfl (hN.mth (a := RX2) (i := 230) (x := yX0_takeFirst) (h' := "FeedbackQueues") (by decide +kernel)) (hts (.initialized RX0) (by decide +kernel)) (by decide +kernel) ⟨Nat.le_of_ble_eq_true rfl, Nat.le_of_ble_eq_true rfl⟩, hts (.instanceMethod yX0_takeFirst) (by decide +kernel), hts (.selects RX0 yX0_takeFirst yX0_takeFirst) (by decide +kernel)⟩ hK hap hA hN hP hS (by have h9 := ((ix_nI (by omega) (by omega)).2.2); omega) (cE_L cy ad Z ((ix_nI (by omega) (by omega)).2.2)) rfl rfl hl.1 rfl (Nat.le_of_ble_eq_true rfl) dX2_switchToFirst_16 ⟨Nat.zero_le _, Nat.zero_le _⟩ (fun H locs hP hS => ?_)
      obtain ⟨S1, eS1⟩ : ∃ z : Cs, z = (F_X0_takeFirst Z t).1 := ⟨_, rfl⟩
      rw [← eS1] at hP
      have hok1 : okC N L b S1 := by rw [eS1]; exact ok_X0_takeFirst hI ((ix_nI (by omega) (by omega)).2.2)
      refine lv_istore_n (lv' := [(2, .int ((F_X0_takeFirst Z t).2)), (1, .int (nI t)), (0, .ref (ad 0))]) hx hb dX2_switchToFirst_19 rfl hl (by decide) rfl (fun ls hl => ?_)
      refine lv_aload_n hx hb dX2_switchToFirst_20 rfl (lv_at hl 2 rfl) ?_
      refine lv_iload_n hx hb dX2_switchToFirst_21 rfl (lv_at hl 0 rfl) ?_
      refine c_cVi (As := [.int ((F_X0_takeFirst Z t).2)]) (rest := []) (k := 0) (ci := 2) (q := (RX2, TX2, 12)) ⟨hx, hb, hml, hown, hts⟩ (k_X2_isTask l D cy ad S1 ((F_X0_takeFirst Z t).2)) (cwV 1 hts gX2_switchToFirst_X2_isTask rfl rfl rfl (by decide +kernel) ⟨Nat.le_of_ble_eq_true rfl, Nat.le_of_ble_eq_true rfl⟩) hK hap hA hN hP hS (by omega) (cE_O cy ad S1) rfl rfl hl.1 rfl (Nat.le_of_ble_eq_true rfl) dX2_switchToFirst_22 ⟨Nat.zero_le _, Nat.zero_le _⟩ (fun H locs hP hS => ?_)
      obtain ⟨S2, eS2⟩ : ∃ z : Cs, z = (F_X2_isTask S1 ((F_X0_takeFirst Z t).2)).1 := ⟨_, rfl⟩
      rw [← eS2] at hP
      have hok2 : okC N L b S2 := by rw [eS2]; exact ok_X2_isTask hok1 
      refine lv_if_eq (tgt := 39) hx hb dX2_switchToFirst_25 (by decide) (fun c_25 => ?_) (fun c_25 => ?_)
      · skip
        refine lv_iinc (v := nI (t + 1)) (lv' := [(1, .int (nI (t + 1))), (2, .int ((F_X0_takeFirst Z t).2)), (0, .ref (ad 0))]) hx hb dX2_switchToFirst_39 hl (k := 1) rfl (inc_nI t) (by decide) rfl (fun ls hl => ?_)
        refine lv_goto (tgt := 2) hx hb dX2_switchToFirst_42 (by decide) ?_
        exact ih (t + 1) S2 H locs ls (by omega) (hok2) (hT.trans (by subst eS2 eS1; simp only [L_X2_switchToFirst_2, if_pos c_25])) hP hS (lv_sub hl [0, 2] rfl)
      · skip
        refine lv_aload_n hx hb dX2_switchToFirst_28 rfl (lv_at hl 2 rfl) ?_
        refine lv_aload_n hx hb dX2_switchToFirst_29 rfl (lv_at hl 2 rfl) ?_
        refine c_gO hx hb hts hinX2 hown hK hP 1 (by decide) (hts (.fieldLink RX2 17 "FeedbackQueues" "tasks" "[LFeedbackQueues$Task;") (by decide +kernel)) rfl dX2_switchToFirst_30 ?_
        refine lv_iload_n hx hb dX2_switchToFirst_33 rfl (lv_at hl 0 rfl) ?_
        refine c_aT (k := (((F_X0_takeFirst Z t).2)).toNatClampNeg) hx hb hK hP (isT_ix hok1 c_25) dX2_switchToFirst_34 ?_
        refine c_cVv (As := [.ref (ad (16 + 2 * ((((F_X0_takeFirst Z t).2)).toNatClampNeg)))]) (rest := []) (k := 0) (ci := 2) (q := (RX2, TX2, 12)) ⟨hx, hb, hml, hown, hts⟩ (k_X2_switchTo l D cy ad S2 ((((F_X0_takeFirst Z t).2)).toNatClampNeg) ((isT_ix hok1 c_25).2.2) hok2 hb30 (isT_N hok1 c_25)) (cwV 1 hts gX2_switchToFirst_X2_switchTo rfl rfl rfl (by decide +kernel) ⟨Nat.le_of_ble_eq_true rfl, Nat.le_of_ble_eq_true rfl⟩) hK hap hA hN hP hS (by omega) (cE_O cy ad S2) rfl rfl hl.1 rfl (Nat.le_of_ble_eq_true rfl) dX2_switchToFirst_35 ⟨Nat.zero_le _, Nat.zero_le _⟩ (fun H locs hP hS => ?_)
        obtain ⟨S3, eS3⟩ : ∃ z : Cs, z = F_X2_switchTo S2 ((((F_X0_takeFirst Z t).2)).toNatClampNeg) := ⟨_, rfl⟩
        rw [← eS3] at hP
        have hF : F_X2_switchToFirst S  = S3 := hT.trans (by subst eS3 eS2 eS1; simp only [L_X2_switchToFirst_2, if_neg c_25])
        rw [hF]
        exact c_vret hx hb hr hlocks hP hS dX2_switchToFirst_38 (fun _ h => h)
  exact lp_2 ((cO S 3).toNatClampNeg) 0 S H locs ls (by omega) (hok) (by simp only [F_X2_switchToFirst]) hP hS (by rw [show nI 0 = 0 from by decide]; exact lv_sub hl [0, 1] rfl)
set_option maxHeartbeats 4000000 in
set_option maxRecDepth 100000 in
theorem k_X2_doTick (l : Launch) (D : va_G) (cy : Nat → ClassId) (ad : Nat → Nat) (S : Cs)   {N L b : Nat} (hok : okC N L b S) (hb30 : b < 2 ^ 30) : cMv l yX2_doTick wsX2_doTick { frames := 4, cells := 0, slots := 0, locals := 85 } D cy ad [.ref (ad 0)] S (F_X2_doTick S ) := by
  intro sz
  refine Met.ofW (cc := cX2_doTick) (maxL := 1) (ret := none) (by decide) rfl ?_
  intro p e s m args below meth c s₁ B hml hv
  obtain ⟨rfl, hsz, hP, hK, hap0, hN⟩ := hv
  have hx := B.exec
  have hb := B.bytes
  have hr := B.returns
  have hts := atoms_spec (ws := wsX2_doTick) B.pre
  have hown : s.vm.findClass RX2 = some m.cls := findClass_of_methodNamed B.named
  have hlocks := B.notSynchronized
  subst hsz
  have hap := gw_self (sz := s.heap.size) hap0
  generalize hAe : gA 48 ad s.heap.size = A at hap ⊢
  have hA : ∀ q : Nat, s.heap.size ≤ q → A q := fun q h => by rw [← hAe]; exact Or.inr h
  have hS : va_S A s.heap s.heap [] := va_S.rf
  have hinX2 : ∀ w ∈ wsX20, w ∈ wsX2_doTick := by decide +kernel
  have hl := lv_entry ([.ref (ad 0)]) (n := 1) (Nat.le_of_ble_eq_true rfl)
  rw [lg_entry_eq]
  generalize (lg_sl ([.ref (ad 0)]) ++ List.replicate (1 - (lg_sl ([.ref (ad 0)])).length) Slot.unset).toArray = ls at hl ⊢
  have hl : lv_has ls 1 [(0, .ref (ad 0))] := hl
  obtain ⟨H, hH⟩ : ∃ H, H = s.heap := ⟨_, rfl⟩
  rw [← hH] at hP
  have hS : va_S A s.heap H [] := by rw [hH]; exact hS
  rw [← hH]
  generalize ([] : List Loc) = locs at hS ⊢
  have j_30 : ∀ (Y : Cs) (H : Heap) (locs : List Loc) (ls : Array Slot), okC N L b Y → F_X2_doTick S  = G_X2_doTick_30 Y  → va_P D vwCl (cwl cy ad Y) H → va_S A s.heap H locs → lv_has ls 1 [(0, .ref (ad 0))] → W p l e (headSpec wsX2_doTick { frames := 4, cells := 0, slots := 0, locals := 85 }).room s m ([.ref (ad 0)] : List Value).toArray below meth c H locs 0 0 (MQ below (va_Qv (fun _ : Unit => True) (fun _ t => cPost D cy ad (F_X2_doTick S ) t) A) ([.ref (ad 0)] : List Value).toArray s 0 0 A) (F0 m 30 ls []) := by
    intro Y H locs ls hokY hT hP hS hl
    refine lv_aload_n hx hb dX2_doTick_30 rfl (lv_at hl 0 rfl) ?_
    refine c_cVv (As := []) (rest := []) (k := 0) (ci := 2) (q := (RX2, TX2, 12)) ⟨hx, hb, hml, hown, hts⟩ (k_X2_letArrive l D cy ad Y   hokY) (cwV 0 hts gX2_doTick_X2_letArrive rfl rfl rfl (by decide +kernel) ⟨Nat.le_of_ble_eq_true rfl, Nat.le_of_ble_eq_true rfl⟩) hK hap hA hN hP hS (by omega) (cE_O cy ad Y) rfl rfl hl.1 rfl (Nat.le_of_ble_eq_true rfl) dX2_doTick_31 ⟨Nat.zero_le _, Nat.zero_le _⟩ (fun H locs hP hS => ?_)
    obtain ⟨S1, eS1⟩ : ∃ z : Cs, z = F_X2_letArrive Y := ⟨_, rfl⟩
    rw [← eS1] at hP
    have hok1 : okC N L b S1 := by rw [eS1]; exact ok_X2_letArrive hokY 
    refine lv_aload_n hx hb dX2_doTick_34 rfl (lv_at hl 0 rfl) ?_
    refine c_cVv (As := []) (rest := []) (k := 0) (ci := 2) (q := (RX2, TX2, 12)) ⟨hx, hb, hml, hown, hts⟩ (k_X2_letComeBack l D cy ad S1   hok1) (cwV 0 hts gX2_doTick_X2_letComeBack rfl rfl rfl (by decide +kernel) ⟨Nat.le_of_ble_eq_true rfl, Nat.le_of_ble_eq_true rfl⟩) hK hap hA hN hP hS (by omega) (cE_O cy ad S1) rfl rfl hl.1 rfl (Nat.le_of_ble_eq_true rfl) dX2_doTick_35 ⟨Nat.zero_le _, Nat.zero_le _⟩ (fun H locs hP hS => ?_)
    obtain ⟨S2, eS2⟩ : ∃ z : Cs, z = F_X2_letComeBack S1 := ⟨_, rfl⟩
    rw [← eS2] at hP
    have hok2 : okC N L b S2 := by rw [eS2]; exact ok_X2_letComeBack hok1 
    refine lv_aload_n hx hb dX2_doTick_38 rfl (lv_at hl 0 rfl) ?_
    refine c_cVv (As := []) (rest := []) (k := 0) (ci := 2) (q := (RX2, TX2, 12)) ⟨hx, hb, hml, hown, hts⟩ (k_X2_makeWay l D cy ad S2   hok2) (cwV 0 hts gX2_doTick_X2_makeWay rfl rfl rfl (by decide +kernel) ⟨Nat.le_of_ble_eq_true rfl, Nat.le_of_ble_eq_true rfl⟩) hK hap hA hN hP hS (by omega) (cE_O cy ad S2) rfl rfl hl.1 rfl (Nat.le_of_ble_eq_true rfl) dX2_doTick_39 ⟨Nat.zero_le _, Nat.zero_le _⟩ (fun H locs hP hS => ?_)
    obtain ⟨S3, eS3⟩ : ∃ z : Cs, z = F_X2_makeWay S2 := ⟨_, rfl⟩
    rw [← eS3] at hP
    have hok3 : okC N L b S3 := by rw [eS3]; exact ok_X2_makeWay hok2 
    refine lv_aload_n hx hb dX2_doTick_42 rfl (lv_at hl 0 rfl) ?_
    by_cases o_43 : cN S3 = none
    · skip
      refine c_gO hx hb hts hinX2 hown hK hP 7 (by decide) (hts (.fieldLink RX2 38 "FeedbackQueues" "onProcessor" "LFeedbackQueues$Task;") (by decide +kernel)) (cOf_7n ad o_43) dX2_doTick_43 ?_
      refine lv_ifnonnullN hx hb dX2_doTick_46 ?_
      refine lv_aload_n hx hb dX2_doTick_49 rfl (lv_at hl 0 rfl) ?_
      refine c_cVv (As := []) (rest := []) (k := 0) (ci := 2) (q := (RX2, TX2, 12)) ⟨hx, hb, hml, hown, hts⟩ (k_X2_switchToFirst l D cy ad S3   hok3 hb30) (cwV 0 hts gX2_doTick_X2_switchToFirst rfl rfl rfl (by decide +kernel) ⟨Nat.le_of_ble_eq_true rfl, Nat.le_of_ble_eq_true rfl⟩) hK hap hA hN hP hS (by omega) (cE_O cy ad S3) rfl rfl hl.1 rfl (Nat.le_of_ble_eq_true rfl) dX2_doTick_50 ⟨Nat.zero_le _, Nat.zero_le _⟩ (fun H locs hP hS => ?_)
      obtain ⟨S4, eS4⟩ : ∃ z : Cs, z = F_X2_switchToFirst S3 := ⟨_, rfl⟩
      rw [← eS4] at hP
      have hok4 : okC N L (b + 1) S4 := by rw [eS4]; exact ok_X2_switchToFirst hok3 hb30
      refine lv_aload_n hx hb dX2_doTick_53 rfl (lv_at hl 0 rfl) ?_
      refine c_cVv (As := []) (rest := []) (k := 0) (ci := 2) (q := (RX2, TX2, 12)) ⟨hx, hb, hml, hown, hts⟩ (k_X2_countWaiting l D cy ad S4   hok4) (cwV 0 hts gX2_doTick_X2_countWaiting rfl rfl rfl (by decide +kernel) ⟨Nat.le_of_ble_eq_true rfl, Nat.le_of_ble_eq_true rfl⟩) hK hap hA hN hP hS (by omega) (cE_O cy ad S4) rfl rfl hl.1 rfl (Nat.le_of_ble_eq_true rfl) dX2_doTick_54 ⟨Nat.zero_le _, Nat.zero_le _⟩ (fun H locs hP hS => ?_)
      obtain ⟨S5, eS5⟩ : ∃ z : Cs, z = F_X2_countWaiting S4 := ⟨_, rfl⟩
      rw [← eS5] at hP
      have hok5 : okC N L (b + 1) S5 := by rw [eS5]; exact ok_X2_countWaiting hok4 
      refine lv_aload_n hx hb dX2_doTick_57 rfl (lv_at hl 0 rfl) ?_
      by_cases o_58 : cN S5 = none
      · skip
        refine c_gO hx hb hts hinX2 hown hK hP 7 (by decide) (hts (.fieldLink RX2 38 "FeedbackQueues" "onProcessor" "LFeedbackQueues$Task;") (by decide +kernel)) (cOf_7n ad o_58) dX2_doTick_58 ?_
        refine lv_ifnonnullN hx hb dX2_doTick_61 ?_
        refine lv_aload_n hx hb dX2_doTick_64 rfl (lv_at hl 0 rfl) ?_
        refine lv_dup hx hb dX2_doTick_65 rfl ?_
        refine c_gO hx hb hts hinX2 hown hK hP 9 (by decide) (hts (.fieldLink RX2 45 "FeedbackQueues" "idleCount" "I") (by decide +kernel)) rfl dX2_doTick_66 ?_
        refine lv_iconst (v := 1) hx hb dX2_doTick_69 (by decide) ?_
        refine lv_iadd hx hb dX2_doTick_70 ?_
        refine c_pO (ty := .int) (v := (cO S5 9) + 1) hx hb hts hinX2 hown hK hap hP hS 9 (by decide) (hts (.fieldLink RX2 45 "FeedbackQueues" "idleCount" "I") (by decide +kernel)) rfl (by decide +kernel) rfl rfl (cOf_9 ad S5 _) (Nat.le_of_ble_eq_true rfl) dX2_doTick_71 (fun H locs hP hS => ?_)
        obtain ⟨S6, eS6⟩ : ∃ z : Cs, z = sO S5 9 ((cO S5 9) + 1) := ⟨_, rfl⟩
        rw [← eS6] at hP
        have oS6 : cN S6 = none := by rw [eS6]; exact o_58
        have hok6 : okC N L (b + 1) S6 := by rw [eS6]; exact okC_sO hok5 (by decide)
        refine lv_goto (tgt := 85) hx hb dX2_doTick_74 (by decide) ?_
        refine lv_aload_n hx hb dX2_doTick_85 rfl (lv_at hl 0 rfl) ?_
        refine lv_dup hx hb dX2_doTick_86 rfl ?_
        refine c_gO hx hb hts hinX2 hown hK hP 6 (by decide) (hts (.fieldLink RX2 35 "FeedbackQueues" "now" "I") (by decide +kernel)) rfl dX2_doTick_87 ?_
        refine lv_iconst (v := 1) hx hb dX2_doTick_90 (by decide) ?_
        refine lv_iadd hx hb dX2_doTick_91 ?_
        refine c_pO (ty := .int) (v := (cO S6 6) + 1) hx hb hts hinX2 hown hK hap hP hS 6 (by decide) (hts (.fieldLink RX2 35 "FeedbackQueues" "now" "I") (by decide +kernel)) rfl (by decide +kernel) rfl rfl (cOf_6 ad S6 _) (Nat.le_of_ble_eq_true rfl) dX2_doTick_92 (fun H locs hP hS => ?_)
        obtain ⟨S7, eS7⟩ : ∃ z : Cs, z = sO S6 6 ((cO S6 6) + 1) := ⟨_, rfl⟩
        rw [← eS7] at hP
        have oS7 : cN S7 = none := by rw [eS7]; exact oS6
        have hok7 : okC N L (b + 1) S7 := by rw [eS7]; exact okC_sO hok6 (by decide)
        have hF : F_X2_doTick S  = S7 := hT.trans (by subst eS7 eS6 eS5 eS4 eS3 eS2 eS1; simp only [G_X2_doTick_30, if_pos o_43, if_pos o_58])
        rw [hF]
        exact c_vret hx hb hr hlocks hP hS dX2_doTick_95 (fun _ h => h)
      · skip
        refine c_gO hx hb hts hinX2 hown hK hP 7 (by decide) (hts (.fieldLink RX2 38 "FeedbackQueues" "onProcessor" "LFeedbackQueues$Task;") (by decide +kernel)) (cOf_7s ad o_58) dX2_doTick_58 ?_
        refine lv_ifnonnull (tgt := 77) hx hb dX2_doTick_61 (by decide) ?_
        refine lv_aload_n hx hb dX2_doTick_77 rfl (lv_at hl 0 rfl) ?_
        refine lv_aload_n hx hb dX2_doTick_78 rfl (lv_at hl 0 rfl) ?_
        refine c_gO hx hb hts hinX2 hown hK hP 7 (by decide) (hts (.fieldLink RX2 38 "FeedbackQueues" "onProcessor" "LFeedbackQueues$Task;") (by decide +kernel)) (cOf_7s ad o_58) dX2_doTick_79 ?_
        refine c_cVv (As := [.ref (ad (16 + 2 * (cI S5)))]) (rest := []) (k := 0) (ci := 2) (q := (RX2, TX2, 12)) ⟨hx, hb, hml, hown, hts⟩ (k_X2_useTick l D cy ad S5 (cI S5) (okC_on hok5 o_58) hok5) (cwV 1 hts gX2_doTick_X2_useTick rfl rfl rfl (by decide +kernel) ⟨Nat.le_of_ble_eq_true rfl, Nat.le_of_ble_eq_true rfl⟩) hK hap hA hN hP hS (by omega) (cE_O cy ad S5) rfl rfl hl.1 rfl (Nat.le_of_ble_eq_true rfl) dX2_doTick_82 ⟨Nat.zero_le _, Nat.zero_le _⟩ (fun H locs hP hS => ?_)
        obtain ⟨S8, eS8⟩ : ∃ z : Cs, z = F_X2_useTick S5 (cI S5) := ⟨_, rfl⟩
        rw [← eS8] at hP
        have hok8 : okC N L (b + 1) S8 := by rw [eS8]; exact ok_X2_useTick hok5 (okC_on hok5 o_58)
        refine lv_aload_n hx hb dX2_doTick_85 rfl (lv_at hl 0 rfl) ?_
        refine lv_dup hx hb dX2_doTick_86 rfl ?_
        refine c_gO hx hb hts hinX2 hown hK hP 6 (by decide) (hts (.fieldLink RX2 35 "FeedbackQueues" "now" "I") (by decide +kernel)) rfl dX2_doTick_87 ?_
        refine lv_iconst (v := 1) hx hb dX2_doTick_90 (by decide) ?_
        refine lv_iadd hx hb dX2_doTick_91 ?_
        refine c_pO (ty := .int) (v := (cO S8 6) + 1) hx hb hts hinX2 hown hK hap hP hS 6 (by decide) (hts (.fieldLink RX2 35 "FeedbackQueues" "now" "I") (by decide +kernel)) rfl (by decide +kernel) rfl rfl (cOf_6 ad S8 _) (Nat.le_of_ble_eq_true rfl) dX2_doTick_92 (fun H locs hP hS => ?_)
        obtain ⟨S9, eS9⟩ : ∃ z : Cs, z = sO S8 6 ((cO S8 6) + 1) := ⟨_, rfl⟩
        rw [← eS9] at hP
        have hok9 : okC N L (b + 1) S9 := by rw [eS9]; exact okC_sO hok8 (by decide)
        have hF : F_X2_doTick S  = S9 := hT.trans (by subst eS9 eS8 eS5 eS4 eS3 eS2 eS1; simp only [G_X2_doTick_30, if_pos o_43, if_neg o_58])
        rw [hF]
        exact c_vret hx hb hr hlocks hP hS dX2_doTick_95 (fun _ h => h)
    · skip
      refine c_gO hx hb hts hinX2 hown hK hP 7 (by decide) (hts (.fieldLink RX2 38 "FeedbackQueues" "onProcessor" "LFeedbackQueues$Task;") (by decide +kernel)) (cOf_7s ad o_43) dX2_doTick_43 ?_
      refine lv_ifnonnull (tgt := 53) hx hb dX2_doTick_46 (by decide) ?_
      refine lv_aload_n hx hb dX2_doTick_53 rfl (lv_at hl 0 rfl) ?_
      refine c_cVv (As := []) (rest := []) (k := 0) (ci := 2) (q := (RX2, TX2, 12)) ⟨hx, hb, hml, hown, hts⟩ (k_X2_countWaiting l D cy ad S3   hok3) (cwV 0 hts gX2_doTick_X2_countWaiting rfl rfl rfl (by decide +kernel) ⟨Nat.le_of_ble_eq_true rfl, Nat.le_of_ble_eq_true rfl⟩) hK hap hA hN hP hS (by omega) (cE_O cy ad S3) rfl rfl hl.1 rfl (Nat.le_of_ble_eq_true rfl) dX2_doTick_54 ⟨Nat.zero_le _, Nat.zero_le _⟩ (fun H locs hP hS => ?_)
      obtain ⟨S10, eS10⟩ : ∃ z : Cs, z = F_X2_countWaiting S3 := ⟨_, rfl⟩
      rw [← eS10] at hP
      have hok10 : okC N L b S10 := by rw [eS10]; exact ok_X2_countWaiting hok3 
      refine lv_aload_n hx hb dX2_doTick_57 rfl (lv_at hl 0 rfl) ?_
      by_cases o_58 : cN S10 = none
      · skip
        refine c_gO hx hb hts hinX2 hown hK hP 7 (by decide) (hts (.fieldLink RX2 38 "FeedbackQueues" "onProcessor" "LFeedbackQueues$Task;") (by decide +kernel)) (cOf_7n ad o_58) dX2_doTick_58 ?_
        refine lv_ifnonnullN hx hb dX2_doTick_61 ?_
        refine lv_aload_n hx hb dX2_doTick_64 rfl (lv_at hl 0 rfl) ?_
        refine lv_dup hx hb dX2_doTick_65 rfl ?_
        refine c_gO hx hb hts hinX2 hown hK hP 9 (by decide) (hts (.fieldLink RX2 45 "FeedbackQueues" "idleCount" "I") (by decide +kernel)) rfl dX2_doTick_66 ?_
        refine lv_iconst (v := 1) hx hb dX2_doTick_69 (by decide) ?_
        refine lv_iadd hx hb dX2_doTick_70 ?_
        refine c_pO (ty := .int) (v := (cO S10 9) + 1) hx hb hts hinX2 hown hK hap hP hS 9 (by decide) (hts (.fieldLink RX2 45 "FeedbackQueues" "idleCount" "I") (by decide +kernel)) rfl (by decide +kernel) rfl rfl (cOf_9 ad S10 _) (Nat.le_of_ble_eq_true rfl) dX2_doTick_71 (fun H locs hP hS => ?_)
        obtain ⟨S11, eS11⟩ : ∃ z : Cs, z = sO S10 9 ((cO S10 9) + 1) := ⟨_, rfl⟩
        rw [← eS11] at hP
        have oS11 : cN S11 = none := by rw [eS11]; exact o_58
        have hok11 : okC N L b S11 := by rw [eS11]; exact okC_sO hok10 (by decide)
        refine lv_goto (tgt := 85) hx hb dX2_doTick_74 (by decide) ?_
        refine lv_aload_n hx hb dX2_doTick_85 rfl (lv_at hl 0 rfl) ?_
        refine lv_dup hx hb dX2_doTick_86 rfl ?_
        refine c_gO hx hb hts hinX2 hown hK hP 6 (by decide) (hts (.fieldLink RX2 35 "FeedbackQueues" "now" "I") (by decide +kernel)) rfl dX2_doTick_87 ?_
        refine lv_iconst (v := 1) hx hb dX2_doTick_90 (by decide) ?_
        refine lv_iadd hx hb dX2_doTick_91 ?_
        refine c_pO (ty := .int) (v := (cO S11 6) + 1) hx hb hts hinX2 hown hK hap hP hS 6 (by decide) (hts (.fieldLink RX2 35 "FeedbackQueues" "now" "I") (by decide +kernel)) rfl (by decide +kernel) rfl rfl (cOf_6 ad S11 _) (Nat.le_of_ble_eq_true rfl) dX2_doTick_92 (fun H locs hP hS => ?_)
        obtain ⟨S12, eS12⟩ : ∃ z : Cs, z = sO S11 6 ((cO S11 6) + 1) := ⟨_, rfl⟩
        rw [← eS12] at hP
        have oS12 : cN S12 = none := by rw [eS12]; exact oS11
        have hok12 : okC N L b S12 := by rw [eS12]; exact okC_sO hok11 (by decide)
        have hF : F_X2_doTick S  = S12 := hT.trans (by subst eS12 eS11 eS10 eS3 eS2 eS1; simp only [G_X2_doTick_30, if_neg o_43, if_pos o_58])
        rw [hF]
        exact c_vret hx hb hr hlocks hP hS dX2_doTick_95 (fun _ h => h)
      · skip
        refine c_gO hx hb hts hinX2 hown hK hP 7 (by decide) (hts (.fieldLink RX2 38 "FeedbackQueues" "onProcessor" "LFeedbackQueues$Task;") (by decide +kernel)) (cOf_7s ad o_58) dX2_doTick_58 ?_
        refine lv_ifnonnull (tgt := 77) hx hb dX2_doTick_61 (by decide) ?_
        refine lv_aload_n hx hb dX2_doTick_77 rfl (lv_at hl 0 rfl) ?_
        refine lv_aload_n hx hb dX2_doTick_78 rfl (lv_at hl 0 rfl) ?_
        refine c_gO hx hb hts hinX2 hown hK hP 7 (by decide) (hts (.fieldLink RX2 38 "FeedbackQueues" "onProcessor" "LFeedbackQueues$Task;") (by decide +kernel)) (cOf_7s ad o_58) dX2_doTick_79 ?_
        refine c_cVv (As := [.ref (ad (16 + 2 * (cI S10)))]) (rest := []) (k := 0) (ci := 2) (q := (RX2, TX2, 12)) ⟨hx, hb, hml, hown, hts⟩ (k_X2_useTick l D cy ad S10 (cI S10) (okC_on hok10 o_58) hok10) (cwV 1 hts gX2_doTick_X2_useTick rfl rfl rfl (by decide +kernel) ⟨Nat.le_of_ble_eq_true rfl, Nat.le_of_ble_eq_true rfl⟩) hK hap hA hN hP hS (by omega) (cE_O cy ad S10) rfl rfl hl.1 rfl (Nat.le_of_ble_eq_true rfl) dX2_doTick_82 ⟨Nat.zero_le _, Nat.zero_le _⟩ (fun H locs hP hS => ?_)
        obtain ⟨S13, eS13⟩ : ∃ z : Cs, z = F_X2_useTick S10 (cI S10) := ⟨_, rfl⟩
        rw [← eS13] at hP
        have hok13 : okC N L b S13 := by rw [eS13]; exact ok_X2_useTick hok10 (okC_on hok10 o_58)
        refine lv_aload_n hx hb dX2_doTick_85 rfl (lv_at hl 0 rfl) ?_
        refine lv_dup hx hb dX2_doTick_86 rfl ?_
        refine c_gO hx hb hts hinX2 hown hK hP 6 (by decide) (hts (.fieldLink RX2 35 "FeedbackQueues" "now" "I") (by decide +kernel)) rfl dX2_doTick_87 ?_
        refine lv_iconst (v := 1) hx hb dX2_doTick_90 (by decide) ?_
        refine lv_iadd hx hb dX2_doTick_91 ?_
        refine c_pO (ty := .int) (v := (cO S13 6) + 1) hx hb hts hinX2 hown hK hap hP hS 6 (by decide) (hts (.fieldLink RX2 35 "FeedbackQueues" "now" "I") (by decide +kernel)) rfl (by decide +kernel) rfl rfl (cOf_6 ad S13 _) (Nat.le_of_ble_eq_true rfl) dX2_doTick_92 (fun H locs hP hS => ?_)
        obtain ⟨S14, eS14⟩ : ∃ z : Cs, z = sO S13 6 ((cO S13 6) + 1) := ⟨_, rfl⟩
        rw [← eS14] at hP
        have hok14 : okC N L b S14 := by rw [eS14]; exact okC_sO hok13 (by decide)
        have hF : F_X2_doTick S  = S14 := hT.trans (by subst eS14 eS13 eS10 eS3 eS2 eS1; simp only [G_X2_doTick_30, if_neg o_43, if_neg o_58])
        rw [hF]
        exact c_vret hx hb hr hlocks hP hS dX2_doTick_95 (fun _ h => h)
  refine lv_aload_n hx hb dX2_doTick_0 rfl (lv_at hl 0 rfl) ?_
  refine c_gO hx hb hts hinX2 hown hK hP 5 (by decide) (hts (.fieldLink RX2 32 "FeedbackQueues" "periodTicks" "I") (by decide +kernel)) rfl dX2_doTick_1 ?_
  refine lv_if_eq (tgt := 30) hx hb dX2_doTick_4 (by decide) (fun c_4 => ?_) (fun c_4 => ?_)
  · skip
    exact j_30 S  H locs ls hok  (by simp only [F_X2_doTick, if_pos c_4]) hP hS (lv_sub hl [0] rfl)
  · skip
    refine lv_aload_n hx hb dX2_doTick_7 rfl (lv_at hl 0 rfl) ?_
    refine c_gO hx hb hts hinX2 hown hK hP 6 (by decide) (hts (.fieldLink RX2 35 "FeedbackQueues" "now" "I") (by decide +kernel)) rfl dX2_doTick_8 ?_
    refine lv_if_le (tgt := 30) hx hb dX2_doTick_11 (by decide) (fun c_11 => ?_) (fun c_11 => ?_)
    · skip
      exact j_30 S  H locs ls hok  (by simp only [F_X2_doTick, if_neg c_4, if_pos c_11]) hP hS (lv_sub hl [0] rfl)
    · skip
      refine lv_aload_n hx hb dX2_doTick_14 rfl (lv_at hl 0 rfl) ?_
      refine c_gO hx hb hts hinX2 hown hK hP 6 (by decide) (hts (.fieldLink RX2 35 "FeedbackQueues" "now" "I") (by decide +kernel)) rfl dX2_doTick_15 ?_
      refine lv_aload_n hx hb dX2_doTick_18 rfl (lv_at hl 0 rfl) ?_
      refine c_gO hx hb hts hinX2 hown hK hP 5 (by decide) (hts (.fieldLink RX2 32 "FeedbackQueues" "periodTicks" "I") (by decide +kernel)) rfl dX2_doTick_19 ?_
      refine lv_irem hx hb dX2_doTick_22 c_4 ?_
      refine lv_if_ne (tgt := 30) hx hb dX2_doTick_23 (by decide) (fun c_23 => ?_) (fun c_23 => ?_)
      · skip
        exact j_30 S  H locs ls hok  (by simp only [F_X2_doTick, if_neg c_4, if_neg c_11, if_neg c_23]) hP hS (lv_sub hl [0] rfl)
      · skip
        refine lv_aload_n hx hb dX2_doTick_26 rfl (lv_at hl 0 rfl) ?_
        refine c_cVv (As := []) (rest := []) (k := 0) (ci := 2) (q := (RX2, TX2, 12)) ⟨hx, hb, hml, hown, hts⟩ (k_X2_bringAllUp l D cy ad S   hok) (cwV 0 hts gX2_doTick_X2_bringAllUp rfl rfl rfl (by decide +kernel) ⟨Nat.le_of_ble_eq_true rfl, Nat.le_of_ble_eq_true rfl⟩) hK hap hA hN hP hS (by omega) (cE_O cy ad S) rfl rfl hl.1 rfl (Nat.le_of_ble_eq_true rfl) dX2_doTick_27 ⟨Nat.zero_le _, Nat.zero_le _⟩ (fun H locs hP hS => ?_)
        obtain ⟨S15, eS15⟩ : ∃ z : Cs, z = F_X2_bringAllUp S := ⟨_, rfl⟩
        rw [← eS15] at hP
        have hok15 : okC N L b S15 := by rw [eS15]; exact ok_X2_bringAllUp hok 
        exact j_30 S15  H locs ls hok15  (by subst eS15; simp only [F_X2_doTick, if_neg c_4, if_neg c_11, if_pos c_23]) hP hS (lv_sub hl [0] rfl)
set_option maxHeartbeats 4000000 in
set_option maxRecDepth 100000 in
theorem k_X2_startOver (l : Launch) (D : va_G) (cy : Nat → ClassId) (ad : Nat → Nat) (S : Cs)    : cMv l yX2_startOver wsX2_startOver { frames := 1, cells := 0, slots := 0, locals := 20 } D cy ad [.ref (ad 0)] S (F_X2_startOver S ) := by
  intro sz
  refine Met.ofW (cc := cX2_startOver) (maxL := 2) (ret := none) (by decide) rfl ?_
  intro p e s m args below meth c s₁ B hml hv
  obtain ⟨rfl, hsz, hP, hK, hap0, hN⟩ := hv
  have hx := B.exec
  have hb := B.bytes
  have hr := B.returns
  have hts := atoms_spec (ws := wsX2_startOver) B.pre
  have hown : s.vm.findClass RX2 = some m.cls := findClass_of_methodNamed B.named
  have hlocks := B.notSynchronized
  subst hsz
  have hap := gw_self (sz := s.heap.size) hap0
  generalize hAe : gA 48 ad s.heap.size = A at hap ⊢
  have hA : ∀ q : Nat, s.heap.size ≤ q → A q := fun q h => by rw [← hAe]; exact Or.inr h
  have hS : va_S A s.heap s.heap [] := va_S.rf
  have hinX2 : ∀ w ∈ wsX20, w ∈ wsX2_startOver := by decide +kernel
  have hl := lv_entry ([.ref (ad 0)]) (n := 2) (Nat.le_of_ble_eq_true rfl)
  rw [lg_entry_eq]
  generalize (lg_sl ([.ref (ad 0)]) ++ List.replicate (2 - (lg_sl ([.ref (ad 0)])).length) Slot.unset).toArray = ls at hl ⊢
  have hl : lv_has ls 2 [(0, .ref (ad 0))] := hl
  obtain ⟨H, hH⟩ : ∃ H, H = s.heap := ⟨_, rfl⟩
  rw [← hH] at hP
  have hS : va_S A s.heap H [] := by rw [hH]; exact hS
  rw [← hH]
  generalize ([] : List Loc) = locs at hS ⊢
  refine lv_aload_n hx hb dX2_startOver_0 rfl (lv_at hl 0 rfl) ?_
  refine lv_iconst (v := 0) hx hb dX2_startOver_1 (by decide) ?_
  refine c_pO (ty := .int) (v := 0) hx hb hts hinX2 hown hK hap hP hS 6 (by decide) (hts (.fieldLink RX2 35 "FeedbackQueues" "now" "I") (by decide +kernel)) rfl (by decide +kernel) rfl rfl (cOf_6 ad S _) (Nat.le_of_ble_eq_true rfl) dX2_startOver_2 (fun H locs hP hS => ?_)
  obtain ⟨S1, eS1⟩ : ∃ z : Cs, z = sO S 6 0 := ⟨_, rfl⟩
  rw [← eS1] at hP
  refine lv_aload_n hx hb dX2_startOver_5 rfl (lv_at hl 0 rfl) ?_
  refine lv_null hx hb dX2_startOver_6 ?_
  refine c_pNn hx hb hts hinX2 hown hK hap hP hS (hts (.fieldLink RX2 38 "FeedbackQueues" "onProcessor" "LFeedbackQueues$Task;") (by decide +kernel)) dX2_startOver_7 (fun H locs hP hS => ?_)
  obtain ⟨S2, eS2⟩ : ∃ z : Cs, z = sN S1 none := ⟨_, rfl⟩
  rw [← eS2] at hP
  refine lv_aload_n hx hb dX2_startOver_10 rfl (lv_at hl 0 rfl) ?_
  refine lv_iconst (v := 0) hx hb dX2_startOver_11 (by decide) ?_
  refine c_pO (ty := .int) (v := 0) hx hb hts hinX2 hown hK hap hP hS 8 (by decide) (hts (.fieldLink RX2 42 "FeedbackQueues" "switchCount" "I") (by decide +kernel)) rfl (by decide +kernel) rfl rfl (cOf_8 ad S2 _) (Nat.le_of_ble_eq_true rfl) dX2_startOver_12 (fun H locs hP hS => ?_)
  obtain ⟨S3, eS3⟩ : ∃ z : Cs, z = sO S2 8 0 := ⟨_, rfl⟩
  rw [← eS3] at hP
  refine lv_aload_n hx hb dX2_startOver_15 rfl (lv_at hl 0 rfl) ?_
  refine lv_iconst (v := 0) hx hb dX2_startOver_16 (by decide) ?_
  refine c_pO (ty := .int) (v := 0) hx hb hts hinX2 hown hK hap hP hS 9 (by decide) (hts (.fieldLink RX2 45 "FeedbackQueues" "idleCount" "I") (by decide +kernel)) rfl (by decide +kernel) rfl rfl (cOf_9 ad S3 _) (Nat.le_of_ble_eq_true rfl) dX2_startOver_17 (fun H locs hP hS => ?_)
  obtain ⟨S4, eS4⟩ : ∃ z : Cs, z = sO S3 9 0 := ⟨_, rfl⟩
  rw [← eS4] at hP
  refine lv_aload_n hx hb dX2_startOver_20 rfl (lv_at hl 0 rfl) ?_
  refine lv_iconst (v := 0) hx hb dX2_startOver_21 (by decide) ?_
  refine c_pO (ty := .int) (v := 0) hx hb hts hinX2 hown hK hap hP hS 10 (by decide) (hts (.fieldLink RX2 48 "FeedbackQueues" "comeUpCount" "I") (by decide +kernel)) rfl (by decide +kernel) rfl rfl (cOf_10 ad S4 _) (Nat.le_of_ble_eq_true rfl) dX2_startOver_22 (fun H locs hP hS => ?_)
  obtain ⟨S5, eS5⟩ : ∃ z : Cs, z = sO S4 10 0 := ⟨_, rfl⟩
  rw [← eS5] at hP
  refine lv_aload_n hx hb dX2_startOver_25 rfl (lv_at hl 0 rfl) ?_
  refine lv_iconst (v := 0) hx hb dX2_startOver_26 (by decide) ?_
  refine c_pO (ty := .int) (v := 0) hx hb hts hinX2 hown hK hap hP hS 11 (by decide) (hts (.fieldLink RX2 51 "FeedbackQueues" "endedCount" "I") (by decide +kernel)) rfl (by decide +kernel) rfl rfl (cOf_11 ad S5 _) (Nat.le_of_ble_eq_true rfl) dX2_startOver_27 (fun H locs hP hS => ?_)
  obtain ⟨S6, eS6⟩ : ∃ z : Cs, z = sO S5 11 0 := ⟨_, rfl⟩
  rw [← eS6] at hP
  refine lv_iconst (v := 0) hx hb dX2_startOver_30 (by decide) ?_
  refine lv_istore_n (lv' := [(1, .int 0), (0, .ref (ad 0))]) hx hb dX2_startOver_31 rfl hl (by decide) rfl (fun ls hl => ?_)
  have lp_32 : ∀ (Q : State → Prop) (n t : Nat) (Z : Cs) (H : Heap) (locs : List Loc) (ls : Array Slot), t + n = 6 → True → va_P D vwCl (cwl cy ad Z) H → va_S A s.heap H locs → lv_has ls 2 [(1, .int (nI t)), (0, .ref (ad 0))] → (∀ (H : Heap) (locs : List Loc) (ls : Array Slot), va_P D vwCl (cwl cy ad (itr B_X2_startOver_32 n t Z)) H → va_S A s.heap H locs → lv_has ls 2 [(1, .int (nI 6)), (0, .ref (ad 0))] → W p l e (headSpec wsX2_startOver { frames := 1, cells := 0, slots := 0, locals := 20 }).room s m ([.ref (ad 0)] : List Value).toArray below meth c H locs 0 0 Q (F0 m 53 ls [])) → W p l e (headSpec wsX2_startOver { frames := 1, cells := 0, slots := 0, locals := 20 }).room s m ([.ref (ad 0)] : List Value).toArray below meth c H locs 0 0 Q (F0 m 32 ls []) := by
    intro Q n
    induction n with
    | zero =>
      intro t Z H locs ls hk hI hP hS hl K
      refine lv_iload_n hx hb dX2_startOver_32 rfl (lv_at hl 0 rfl) ?_
      refine lv_bipush (v := 6) hx hb dX2_startOver_33 (by decide) ?_
      refine lv_icmp_ge (tgt := 53) hx hb dX2_startOver_35 (by decide) (fun c_35 => ?_) (fun c_35 => ?_)
      rotate_left
      · exact absurd (by rw [show (6 : Int32) = nI 6 from by decide]; exact nI_le (by omega) (by omega)) c_35
      have hiN : t = 6 := by omega
      rw [hiN] at hl
      exact K H locs ls hP hS (lv_sub hl [0, 1] rfl)
    | succ n ih =>
      intro t Z H locs ls hk hI hP hS hl K
      have ht : t < 6 := by omega
      refine lv_iload_n hx hb dX2_startOver_32 rfl (lv_at hl 0 rfl) ?_
      refine lv_bipush (v := 6) hx hb dX2_startOver_33 (by decide) ?_
      refine lv_icmp_ge (tgt := 53) hx hb dX2_startOver_35 (by decide) (fun c_35 => ?_) (fun c_35 => ?_)
      · exact absurd c_35 (by rw [show (6 : Int32) = nI 6 from by decide]; exact nI_ge (by omega) (by omega))
      refine lv_aload_n hx hb dX2_startOver_38 rfl (lv_at hl 1 rfl) ?_
      refine c_gO hx hb hts hinX2 hown hK hP 0 (by decide) (hts (.fieldLink RX2 11 "FeedbackQueues" "levelRows" "[LFeedbackQueues$Level;") (by decide +kernel)) rfl dX2_startOver_39 ?_
      refine lv_iload_n hx hb dX2_startOver_42 rfl (lv_at hl 0 rfl) ?_
      refine c_aL (k := t) hx hb hK hP (ix_nI (by omega) (by omega)) dX2_startOver_43 ?_
      refine c_cNv (As := []) (rest := []) (k := (4 + 2 * t)) (ci := 0) (q := (RX0, TX0, 4)) ⟨hx, hb, hml, hown, hts⟩ (k_X0_clear l D cy ad Z t ((ix_nI (by omega) (by omega)).2.2)) ⟨va_cnB (host := "FeedbackQueues") 0 hts gX2_startOver_X0_clear_n160 rfl rfl rfl (hN.mth (a := RX2) (i := 160) (x := yX0_clear) (h' := "FeedbackQueues") (by decide +kernel)) (hts (.initialized RX0) (by decide +kernel)) (by decide +kernel) ⟨Nat.le_of_ble_eq_true rfl, Nat.le_of_ble_eq_true rfl⟩, hts (.instanceMethod yX0_clear) (by decide +kernel), hts (.selects RX0 yX0_clear yX0_clear) (by decide +kernel)⟩ hK hap hA hN hP hS (by have h9 := ((ix_nI (by omega) (by omega)).2.2); omega) (cE_L cy ad Z ((ix_nI (by omega) (by omega)).2.2)) rfl rfl hl.1 rfl (Nat.le_of_ble_eq_true rfl) dX2_startOver_44 ⟨Nat.zero_le _, Nat.zero_le _⟩ (fun H locs hP hS => ?_)
      obtain ⟨S7, eS7⟩ : ∃ z : Cs, z = F_X0_clear Z t := ⟨_, rfl⟩
      rw [← eS7] at hP
      refine lv_iinc (v := nI (t + 1)) (lv' := [(1, .int (nI (t + 1))), (0, .ref (ad 0))]) hx hb dX2_startOver_47 hl (k := 0) rfl (inc_nI t) (by decide) rfl (fun ls hl => ?_)
      refine lv_goto (tgt := 32) hx hb dX2_startOver_50 (by decide) ?_
      have hF : B_X2_startOver_32 t Z = S7 := by subst eS7; simp only [B_X2_startOver_32]
      rw [← hF] at hP
      exact ih (t + 1) (B_X2_startOver_32 t Z) H locs ls (by omega) (trivial) hP hS (lv_sub hl [0, 1] rfl) K
  refine lp_32 _ (6) 0 S6 H locs ls (rfl) (trivial) hP hS (by rw [show nI 0 = 0 from by decide]; exact lv_sub hl [0, 1] rfl) (fun H locs ls hP hS hl => ?_)
  obtain ⟨S8, eS8⟩ : ∃ z : Cs, z = itr B_X2_startOver_32 6 0 S6 := ⟨_, rfl⟩
  rw [← eS8] at hP
  refine lv_iconst (v := 0) hx hb dX2_startOver_53 (by decide) ?_
  refine lv_istore_n (lv' := [(1, .int 0), (0, .ref (ad 0))]) hx hb dX2_startOver_54 rfl hl (by decide) rfl (fun ls hl => ?_)
  have lp_55 : ∀ (Q : State → Prop) (n t : Nat) (Z : Cs) (H : Heap) (locs : List Loc) (ls : Array Slot), t + n = 16 → True → va_P D vwCl (cwl cy ad Z) H → va_S A s.heap H locs → lv_has ls 2 [(1, .int (nI t)), (0, .ref (ad 0))] → (∀ (H : Heap) (locs : List Loc) (ls : Array Slot), va_P D vwCl (cwl cy ad (itr B_X2_startOver_55 n t Z)) H → va_S A s.heap H locs → lv_has ls 2 [(1, .int (nI 16)), (0, .ref (ad 0))] → W p l e (headSpec wsX2_startOver { frames := 1, cells := 0, slots := 0, locals := 20 }).room s m ([.ref (ad 0)] : List Value).toArray below meth c H locs 0 0 Q (F0 m 76 ls [])) → W p l e (headSpec wsX2_startOver { frames := 1, cells := 0, slots := 0, locals := 20 }).room s m ([.ref (ad 0)] : List Value).toArray below meth c H locs 0 0 Q (F0 m 55 ls []) := by
    intro Q n
    induction n with
    | zero =>
      intro t Z H locs ls hk hI hP hS hl K
      refine lv_iload_n hx hb dX2_startOver_55 rfl (lv_at hl 0 rfl) ?_
      refine lv_bipush (v := 16) hx hb dX2_startOver_56 (by decide) ?_
      refine lv_icmp_ge (tgt := 76) hx hb dX2_startOver_58 (by decide) (fun c_58 => ?_) (fun c_58 => ?_)
      rotate_left
      · exact absurd (by rw [show (16 : Int32) = nI 16 from by decide]; exact nI_le (by omega) (by omega)) c_58
      have hiN : t = 16 := by omega
      rw [hiN] at hl
      exact K H locs ls hP hS (lv_sub hl [0, 1] rfl)
    | succ n ih =>
      intro t Z H locs ls hk hI hP hS hl K
      have ht : t < 16 := by omega
      refine lv_iload_n hx hb dX2_startOver_55 rfl (lv_at hl 0 rfl) ?_
      refine lv_bipush (v := 16) hx hb dX2_startOver_56 (by decide) ?_
      refine lv_icmp_ge (tgt := 76) hx hb dX2_startOver_58 (by decide) (fun c_58 => ?_) (fun c_58 => ?_)
      · exact absurd c_58 (by rw [show (16 : Int32) = nI 16 from by decide]; exact nI_ge (by omega) (by omega))
      refine lv_aload_n hx hb dX2_startOver_61 rfl (lv_at hl 1 rfl) ?_
      refine c_gO hx hb hts hinX2 hown hK hP 1 (by decide) (hts (.fieldLink RX2 17 "FeedbackQueues" "tasks" "[LFeedbackQueues$Task;") (by decide +kernel)) rfl dX2_startOver_62 ?_
      refine lv_iload_n hx hb dX2_startOver_65 rfl (lv_at hl 0 rfl) ?_
      refine c_aT (k := t) hx hb hK hP (ix_nI (by omega) (by omega)) dX2_startOver_66 ?_
      refine c_cNv (As := []) (rest := []) (k := (16 + 2 * t)) (ci := 1) (q := (RX1, TX1, 19)) ⟨hx, hb, hml, hown, hts⟩ (k_X1_startOver l D cy ad Z t ((ix_nI (by omega) (by omega)).2.2)) ⟨va_cnB (host := "FeedbackQueues") 0 hts gX2_startOver_X1_startOver_n163 rfl rfl rfl (hN.mth (a := RX2) (i := 163) (x := yX1_startOver) (h' := "FeedbackQueues") (by decide +kernel)) (hts (.initialized RX1) (by decide +kernel)) (by decide +kernel) ⟨Nat.le_of_ble_eq_true rfl, Nat.le_of_ble_eq_true rfl⟩, hts (.instanceMethod yX1_startOver) (by decide +kernel), hts (.selects RX1 yX1_startOver yX1_startOver) (by decide +kernel)⟩ hK hap hA hN hP hS (by have h9 := ((ix_nI (by omega) (by omega)).2.2); omega) (cE_T cy ad Z t) rfl rfl hl.1 rfl (Nat.le_of_ble_eq_true rfl) dX2_startOver_67 ⟨Nat.zero_le _, Nat.zero_le _⟩ (fun H locs hP hS => ?_)
      obtain ⟨S9, eS9⟩ : ∃ z : Cs, z = F_X1_startOver Z t := ⟨_, rfl⟩
      rw [← eS9] at hP
      refine lv_iinc (v := nI (t + 1)) (lv' := [(1, .int (nI (t + 1))), (0, .ref (ad 0))]) hx hb dX2_startOver_70 hl (k := 0) rfl (inc_nI t) (by decide) rfl (fun ls hl => ?_)
      refine lv_goto (tgt := 55) hx hb dX2_startOver_73 (by decide) ?_
      have hF : B_X2_startOver_55 t Z = S9 := by subst eS9; simp only [B_X2_startOver_55]
      rw [← hF] at hP
      exact ih (t + 1) (B_X2_startOver_55 t Z) H locs ls (by omega) (trivial) hP hS (lv_sub hl [0, 1] rfl) K
  refine lp_55 _ (16) 0 S8 H locs ls (rfl) (trivial) hP hS (by rw [show nI 0 = 0 from by decide]; exact lv_sub hl [0, 1] rfl) (fun H locs ls hP hS hl => ?_)
  obtain ⟨S10, eS10⟩ : ∃ z : Cs, z = itr B_X2_startOver_55 16 0 S8 := ⟨_, rfl⟩
  rw [← eS10] at hP
  have hF : F_X2_startOver S  = S10 := by subst eS10 eS8 eS6 eS5 eS4 eS3 eS2 eS1; simp only [F_X2_startOver]
  rw [hF]
  exact c_vret hx hb hr hlocks hP hS dX2_startOver_76 (fun _ h => h)
