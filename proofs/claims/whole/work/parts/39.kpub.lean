set_option maxHeartbeats 4000000 in
set_option maxRecDepth 100000 in
theorem k_X2_restart (l : Launch) (D : va_G) (cy : Nat → ClassId) (ad : Nat → Nat) (S : Cs)    : cMv l yX2_restart wsX2_restart { frames := 2, cells := 0, slots := 0, locals := 41 } D cy ad [.ref (ad 0)] S (F_X2_restart S ) := by
  intro sz
  refine Met.ofW (cc := cX2_restart) (maxL := 1) (ret := none) (by decide) rfl ?_
  intro p e s m args below meth c s₁ B hml hv
  obtain ⟨rfl, hsz, hP, hK, hap0, hN⟩ := hv
  have hx := B.exec
  have hb := B.bytes
  have hr := B.returns
  have hts := atoms_spec (ws := wsX2_restart) B.pre
  have hown : s.vm.findClass RX2 = some m.cls := findClass_of_methodNamed B.named
  have hlocks := B.notSynchronized
  subst hsz
  have hap := gw_self (sz := s.heap.size) hap0
  generalize hAe : gA 48 ad s.heap.size = A at hap ⊢
  have hA : ∀ q : Nat, s.heap.size ≤ q → A q := fun q h => by rw [← hAe]; exact Or.inr h
  have hS : va_S A s.heap s.heap [] := va_S.rf
  have hl := lv_entry ([.ref (ad 0)]) (n := 1) (Nat.le_of_ble_eq_true rfl)
  rw [lg_entry_eq]
  generalize (lg_sl ([.ref (ad 0)]) ++ List.replicate (1 - (lg_sl ([.ref (ad 0)])).length) Slot.unset).toArray = ls at hl ⊢
  have hl : lv_has ls 1 [(0, .ref (ad 0))] := hl
  obtain ⟨H, hH⟩ : ∃ H, H = s.heap := ⟨_, rfl⟩
  rw [← hH] at hP
  have hS : va_S A s.heap H [] := by rw [hH]; exact hS
  rw [← hH]
  generalize ([] : List Loc) = locs at hS ⊢
  refine lv_aload_n hx hb dX2_restart_0 rfl (lv_at hl 0 rfl) ?_
  refine c_cVv (As := []) (rest := []) (k := 0) (ci := 2) (q := (RX2, TX2, 12)) ⟨hx, hb, hml, hown, hts⟩ (k_X2_startOver l D cy ad S) (cwV 0 hts gX2_restart_X2_startOver rfl rfl rfl (by decide +kernel) ⟨Nat.le_of_ble_eq_true rfl, Nat.le_of_ble_eq_true rfl⟩) hK hap hA hN hP hS (by omega) (cE_O cy ad S) rfl rfl hl.1 rfl (Nat.le_of_ble_eq_true rfl) dX2_restart_1 ⟨Nat.zero_le _, Nat.zero_le _⟩ (fun H locs hP hS => ?_)
  obtain ⟨S1, eS1⟩ : ∃ z : Cs, z = F_X2_startOver S := ⟨_, rfl⟩
  rw [← eS1] at hP
  have hF : F_X2_restart S  = S1 := by subst eS1; simp only [F_X2_restart]
  rw [hF]
  exact c_vret hx hb hr hlocks hP hS dX2_restart_4 (fun _ h => h)
set_option maxHeartbeats 4000000 in
set_option maxRecDepth 100000 in
theorem k_X2_time (l : Launch) (D : va_G) (cy : Nat → ClassId) (ad : Nat → Nat) (S : Cs)    : cMi l yX2_time wsX2_time { frames := 0, cells := 0, slots := 0, locals := 0 } D cy ad [.ref (ad 0)] S (F_X2_time S ).1 (F_X2_time S ).2 := by
  intro sz
  refine Met.ofW (cc := cX2_time) (maxL := 1) (ret := (some .int)) (by decide) rfl ?_
  intro p e s m args below meth c s₁ B hml hv
  obtain ⟨rfl, hsz, hP, hK, hap0, hN⟩ := hv
  have hx := B.exec
  have hb := B.bytes
  have hr := B.returns
  have hts := atoms_spec (ws := wsX2_time) B.pre
  have hown : s.vm.findClass RX2 = some m.cls := findClass_of_methodNamed B.named
  have hlocks := B.notSynchronized
  subst hsz
  have hap := gw_self (sz := s.heap.size) hap0
  generalize hAe : gA 48 ad s.heap.size = A at hap ⊢
  have hA : ∀ q : Nat, s.heap.size ≤ q → A q := fun q h => by rw [← hAe]; exact Or.inr h
  have hS : va_S A s.heap s.heap [] := va_S.rf
  have hinX2 : ∀ w ∈ wsX20, w ∈ wsX2_time := by decide +kernel
  have hl := lv_entry ([.ref (ad 0)]) (n := 1) (Nat.le_of_ble_eq_true rfl)
  rw [lg_entry_eq]
  generalize (lg_sl ([.ref (ad 0)]) ++ List.replicate (1 - (lg_sl ([.ref (ad 0)])).length) Slot.unset).toArray = ls at hl ⊢
  have hl : lv_has ls 1 [(0, .ref (ad 0))] := hl
  obtain ⟨H, hH⟩ : ∃ H, H = s.heap := ⟨_, rfl⟩
  rw [← hH] at hP
  have hS : va_S A s.heap H [] := by rw [hH]; exact hS
  rw [← hH]
  generalize ([] : List Loc) = locs at hS ⊢
  refine lv_aload_n hx hb dX2_time_0 rfl (lv_at hl 0 rfl) ?_
  refine c_gO hx hb hts hinX2 hown hK hP 6 (by decide) (hts (.fieldLink RX2 35 "FeedbackQueues" "now" "I") (by decide +kernel)) rfl dX2_time_1 ?_
  have hF : F_X2_time S  = (S, cO S 6) := by simp only [F_X2_time]
  rw [hF]
  exact c_iret hx hb hr hlocks hP hS dX2_time_4 (fun _ h => h)
set_option maxHeartbeats 4000000 in
set_option maxRecDepth 100000 in
theorem k_X2_running (l : Launch) (D : va_G) (cy : Nat → ClassId) (ad : Nat → Nat) (S : Cs)   {N L b : Nat} (hok : okC N L b S)  : cMi l yX2_running wsX2_running { frames := 0, cells := 0, slots := 0, locals := 0 } D cy ad [.ref (ad 0)] S (F_X2_running S ).1 (F_X2_running S ).2 := by
  intro sz
  refine Met.ofW (cc := cX2_running) (maxL := 1) (ret := (some .int)) (by decide) rfl ?_
  intro p e s m args below meth c s₁ B hml hv
  obtain ⟨rfl, hsz, hP, hK, hap0, hN⟩ := hv
  have hx := B.exec
  have hb := B.bytes
  have hr := B.returns
  have hts := atoms_spec (ws := wsX2_running) B.pre
  have hown : s.vm.findClass RX2 = some m.cls := findClass_of_methodNamed B.named
  have hlocks := B.notSynchronized
  subst hsz
  have hap := gw_self (sz := s.heap.size) hap0
  generalize hAe : gA 48 ad s.heap.size = A at hap ⊢
  have hA : ∀ q : Nat, s.heap.size ≤ q → A q := fun q h => by rw [← hAe]; exact Or.inr h
  have hS : va_S A s.heap s.heap [] := va_S.rf
  have hinX1 : ∀ w ∈ wsX10, w ∈ wsX2_running := by decide +kernel
  have hinX2 : ∀ w ∈ wsX20, w ∈ wsX2_running := by decide +kernel
  have hl := lv_entry ([.ref (ad 0)]) (n := 1) (Nat.le_of_ble_eq_true rfl)
  rw [lg_entry_eq]
  generalize (lg_sl ([.ref (ad 0)]) ++ List.replicate (1 - (lg_sl ([.ref (ad 0)])).length) Slot.unset).toArray = ls at hl ⊢
  have hl : lv_has ls 1 [(0, .ref (ad 0))] := hl
  obtain ⟨H, hH⟩ : ∃ H, H = s.heap := ⟨_, rfl⟩
  rw [← hH] at hP
  have hS : va_S A s.heap H [] := by rw [hH]; exact hS
  rw [← hH]
  generalize ([] : List Loc) = locs at hS ⊢
  refine lv_aload_n hx hb dX2_running_0 rfl (lv_at hl 0 rfl) ?_
  by_cases o_1 : cN S = none
  · skip
    refine c_gO hx hb hts hinX2 hown hK hP 7 (by decide) (hts (.fieldLink RX2 38 "FeedbackQueues" "onProcessor" "LFeedbackQueues$Task;") (by decide +kernel)) (cOf_7n ad o_1) dX2_running_1 ?_
    refine lv_ifnonnullN hx hb dX2_running_4 ?_
    refine lv_iconst (v := (-1)) hx hb dX2_running_7 (by decide) ?_
    refine lv_goto (tgt := 18) hx hb dX2_running_8 (by decide) ?_
    have hF : F_X2_running S  = (S, (-1)) := by simp only [F_X2_running, if_pos o_1]
    rw [hF]
    exact c_iret hx hb hr hlocks hP hS dX2_running_18 (fun _ h => h)
  · skip
    refine c_gO hx hb hts hinX2 hown hK hP 7 (by decide) (hts (.fieldLink RX2 38 "FeedbackQueues" "onProcessor" "LFeedbackQueues$Task;") (by decide +kernel)) (cOf_7s ad o_1) dX2_running_1 ?_
    refine lv_ifnonnull (tgt := 11) hx hb dX2_running_4 (by decide) ?_
    refine lv_aload_n hx hb dX2_running_11 rfl (lv_at hl 0 rfl) ?_
    refine c_gO hx hb hts hinX2 hown hK hP 7 (by decide) (hts (.fieldLink RX2 38 "FeedbackQueues" "onProcessor" "LFeedbackQueues$Task;") (by decide +kernel)) (cOf_7s ad o_1) dX2_running_12 ?_
    refine c_gTN (i := cI S) hx hb hts hinX1 hown hK hP (okC_on hok o_1) 0 (by decide) (hN.fld (args := _) (a := "FeedbackQueues") (i := 150) (b := "FeedbackQueues$Task") (n := "number") (d := "I") (h' := "FeedbackQueues") (by decide +kernel)) rfl dX2_running_15 ?_
    have hF : F_X2_running S  = (S, cT S (cI S) 0) := by simp only [F_X2_running, if_neg o_1]
    rw [hF]
    exact c_iret hx hb hr hlocks hP hS dX2_running_18 (fun _ h => h)
set_option maxHeartbeats 4000000 in
set_option maxRecDepth 100000 in
theorem k_X2_levels (l : Launch) (hlst : l.stackTraces = false) (D : va_G) (cy : Nat → ClassId) (ad sa : Nat → Nat) (S : Cs) (p1 : Int32)   : cXv l yX2_levels wsX2_levels { frames := 6, cells := 1, slots := 6, locals := 100 } D cy ad sa [.ref (ad 0), .int p1] S (F_X2_levels S p1) := by
  intro sz
  refine vx_ofW (cc := cX2_levels) (maxL := 3) (ret := none) (by decide) rfl ?_
  intro p e s m args below meth c s₁ B hml htab hv
  obtain ⟨rfl, ⟨hsz, hP, hK, hap0, hN⟩, hXs, hZu, hZn⟩ := hv
  have hx := B.exec
  have hb := B.bytes
  have hr := B.returns
  have hts := atoms_spec (ws := wsX2_levels) B.pre
  have hown : s.vm.findClass RX2 = some m.cls := findClass_of_methodNamed B.named
  have hlocks := B.notSynchronized
  subst hsz
  have hap := gw_self (sz := s.heap.size) hap0
  generalize hAe : gA 48 ad s.heap.size = A at hap hZu hZn ⊢
  have hA : ∀ q : Nat, s.heap.size ≤ q → A q := fun q h => by rw [← hAe]; exact Or.inr h
  have hS : va_S A s.heap s.heap [] := va_S.rf
  have hinX0 : ∀ w ∈ wsX00, w ∈ wsX2_levels := by decide +kernel
  have hinX2 : ∀ w ∈ wsX20, w ∈ wsX2_levels := by decide +kernel
  have hl := lv_entry ([.ref (ad 0), .int p1]) (n := 3) (Nat.le_of_ble_eq_true rfl)
  rw [lg_entry_eq]
  generalize (lg_sl ([.ref (ad 0), .int p1]) ++ List.replicate (3 - (lg_sl ([.ref (ad 0), .int p1])).length) Slot.unset).toArray = ls at hl ⊢
  have hl : lv_has ls 3 [(0, .ref (ad 0)), (1, .int p1)] := hl
  obtain ⟨H, hH⟩ : ∃ H, H = s.heap := ⟨_, rfl⟩
  rw [← hH] at hP
  have hS : va_S A s.heap H [] := by rw [hH]; exact hS
  rw [← hH]
  generalize ([] : List Loc) = locs at hS ⊢
  refine lv_iload_n hx hb dX2_levels_0 rfl (lv_at hl 1 rfl) ?_
  refine lv_iconst (v := 1) hx hb dX2_levels_1 (by decide) ?_
  refine lv_icmp_lt (tgt := 11) hx hb dX2_levels_2 (by decide) (fun c_2 => ?_) (fun c_2 => ?_)
  · skip
    have hF : F_X2_levels S p1 = (S, 0, 2) := by simp only [F_X2_levels, if_pos c_2]
    rw [hF]
    exact x_thr (kd := 2) (is := 60) (text := "there are 1 to 6 levels") hx hb hlst hown hXs hZu hZn hts (by decide) (by decide +kernel) (by decide +kernel) (by decide +kernel) (by decide +kernel) hP hS (hl.1.trans hml.symm) dX2_levels_11 dX2_levels_14 dX2_levels_15 dX2_levels_17 dX2_levels_20 htab (Nat.le_of_ble_eq_true rfl) (Nat.le_of_ble_eq_true rfl) (Nat.le_of_ble_eq_true rfl) (Nat.le_of_ble_eq_true rfl) hlocks
  · skip
    refine lv_iload_n hx hb dX2_levels_5 rfl (lv_at hl 1 rfl) ?_
    refine lv_bipush (v := 6) hx hb dX2_levels_6 (by decide) ?_
    refine lv_icmp_le (tgt := 21) hx hb dX2_levels_8 (by decide) (fun c_8 => ?_) (fun c_8 => ?_)
    · skip
      refine lv_aload_n hx hb dX2_levels_21 rfl (lv_at hl 0 rfl) ?_
      refine lv_iload_n hx hb dX2_levels_22 rfl (lv_at hl 1 rfl) ?_
      refine c_pO (ty := .int) (v := p1) hx hb hts hinX2 hown hK hap hP hS 3 (by decide) (hts (.fieldLink RX2 25 "FeedbackQueues" "levelCount" "I") (by decide +kernel)) rfl (by decide +kernel) rfl rfl (cOf_3 ad S _) (Nat.le_of_ble_eq_true rfl) dX2_levels_23 (fun H locs hP hS => ?_)
      obtain ⟨S1, eS1⟩ : ∃ z : Cs, z = sO S 3 p1 := ⟨_, rfl⟩
      rw [← eS1] at hP
      refine lv_iconst (v := 0) hx hb dX2_levels_26 (by decide) ?_
      refine lv_istore_n (lv' := [(2, .int 0), (0, .ref (ad 0)), (1, .int p1)]) hx hb dX2_levels_27 rfl hl (by decide) rfl (fun ls hl => ?_)
      have lp_28 : ∀ (Q : State → Prop) (n t : Nat) (Z : Cs) (H : Heap) (locs : List Loc) (ls : Array Slot), t + n = 6 → True → va_P D vwCl (cwl cy ad Z) H → va_S A s.heap H locs → lv_has ls 3 [(2, .int (nI t)), (0, .ref (ad 0)), (1, .int p1)] → (∀ (H : Heap) (locs : List Loc) (ls : Array Slot), va_P D vwCl (cwl cy ad (itr (B_X2_levels_28 p1) n t Z)) H → va_S A s.heap H locs → lv_has ls 3 [(2, .int (nI 6)), (0, .ref (ad 0)), (1, .int p1)] → W p l e (headSpec wsX2_levels { frames := 6, cells := 1, slots := 6, locals := 100 }).room s m ([.ref (ad 0), .int p1] : List Value).toArray below meth c H locs 0 0 Q (F0 m 60 ls [])) → W p l e (headSpec wsX2_levels { frames := 6, cells := 1, slots := 6, locals := 100 }).room s m ([.ref (ad 0), .int p1] : List Value).toArray below meth c H locs 0 0 Q (F0 m 28 ls []) := by
        intro Q n
        induction n with
        | zero =>
          intro t Z H locs ls hk hI hP hS hl K
          refine lv_iload_n hx hb dX2_levels_28 rfl (lv_at hl 0 rfl) ?_
          refine lv_bipush (v := 6) hx hb dX2_levels_29 (by decide) ?_
          refine lv_icmp_ge (tgt := 60) hx hb dX2_levels_31 (by decide) (fun c_31 => ?_) (fun c_31 => ?_)
          rotate_left
          · exact absurd (by rw [show (6 : Int32) = nI 6 from by decide]; exact nI_le (by omega) (by omega)) c_31
          have hiN : t = 6 := by omega
          rw [hiN] at hl
          exact K H locs ls hP hS (lv_sub hl [0, 1, 2] rfl)
        | succ n ih =>
          intro t Z H locs ls hk hI hP hS hl K
          have ht : t < 6 := by omega
          refine lv_iload_n hx hb dX2_levels_28 rfl (lv_at hl 0 rfl) ?_
          refine lv_bipush (v := 6) hx hb dX2_levels_29 (by decide) ?_
          refine lv_icmp_ge (tgt := 60) hx hb dX2_levels_31 (by decide) (fun c_31 => ?_) (fun c_31 => ?_)
          · exact absurd c_31 (by rw [show (6 : Int32) = nI 6 from by decide]; exact nI_ge (by omega) (by omega))
          refine lv_aload_n hx hb dX2_levels_34 rfl (lv_at hl 1 rfl) ?_
          refine c_gO hx hb hts hinX2 hown hK hP 0 (by decide) (hts (.fieldLink RX2 11 "FeedbackQueues" "levelRows" "[LFeedbackQueues$Level;") (by decide +kernel)) rfl dX2_levels_35 ?_
          refine lv_iload_n hx hb dX2_levels_38 rfl (lv_at hl 0 rfl) ?_
          refine c_aL (k := t) hx hb hK hP (ix_nI (by omega) (by omega)) dX2_levels_39 ?_
          refine lv_iconst (v := 1) hx hb dX2_levels_40 (by decide) ?_
          refine c_pLN (i := t) (ty := .int) (v := 1) hx hb hts hinX0 hown hK hap hP hS ((ix_nI (by omega) (by omega)).2.2) 0 (by decide) (hN.fld (args := _) (a := "FeedbackQueues") (i := 65) (b := "FeedbackQueues$Level") (n := "quantum") (d := "I") (h' := "FeedbackQueues") (by decide +kernel)) rfl (by decide +kernel) rfl rfl (cLf_0 ad Z t _) (Nat.le_of_ble_eq_true rfl) dX2_levels_41 (fun H locs hP hS => ?_)
          obtain ⟨S2, eS2⟩ : ∃ z : Cs, z = sL Z t 0 1 := ⟨_, rfl⟩
          rw [← eS2] at hP
          refine lv_aload_n hx hb dX2_levels_44 rfl (lv_at hl 1 rfl) ?_
          refine c_gO hx hb hts hinX2 hown hK hP 0 (by decide) (hts (.fieldLink RX2 11 "FeedbackQueues" "levelRows" "[LFeedbackQueues$Level;") (by decide +kernel)) rfl dX2_levels_45 ?_
          refine lv_iload_n hx hb dX2_levels_48 rfl (lv_at hl 0 rfl) ?_
          refine c_aL (k := t) hx hb hK hP (ix_nI (by omega) (by omega)) dX2_levels_49 ?_
          refine lv_iconst (v := 1) hx hb dX2_levels_50 (by decide) ?_
          refine c_pLN (i := t) (ty := .int) (v := 1) hx hb hts hinX0 hown hK hap hP hS ((ix_nI (by omega) (by omega)).2.2) 1 (by decide) (hN.fld (args := _) (a := "FeedbackQueues") (i := 68) (b := "FeedbackQueues$Level") (n := "share") (d := "I") (h' := "FeedbackQueues") (by decide +kernel)) rfl (by decide +kernel) rfl rfl (cLf_1 ad S2 t _) (Nat.le_of_ble_eq_true rfl) dX2_levels_51 (fun H locs hP hS => ?_)
          obtain ⟨S3, eS3⟩ : ∃ z : Cs, z = sL S2 t 1 1 := ⟨_, rfl⟩
          rw [← eS3] at hP
          refine lv_iinc (v := nI (t + 1)) (lv' := [(2, .int (nI (t + 1))), (0, .ref (ad 0)), (1, .int p1)]) hx hb dX2_levels_54 hl (k := 0) rfl (inc_nI t) (by decide) rfl (fun ls hl => ?_)
          refine lv_goto (tgt := 28) hx hb dX2_levels_57 (by decide) ?_
          have hF : B_X2_levels_28 p1 t Z = S3 := by subst eS3 eS2; simp only [B_X2_levels_28]
          rw [← hF] at hP
          exact ih (t + 1) (B_X2_levels_28 p1 t Z) H locs ls (by omega) (trivial) hP hS (lv_sub hl [0, 1, 2] rfl) K
      refine lp_28 _ (6) 0 S1 H locs ls (rfl) (trivial) hP hS (by rw [show nI 0 = 0 from by decide]; exact lv_sub hl [0, 1, 2] rfl) (fun H locs ls hP hS hl => ?_)
      obtain ⟨S4, eS4⟩ : ∃ z : Cs, z = itr (B_X2_levels_28 p1) 6 0 S1 := ⟨_, rfl⟩
      rw [← eS4] at hP
      refine lv_aload_n hx hb dX2_levels_60 rfl (lv_at hl 1 rfl) ?_
      refine lv_iconst (v := 0) hx hb dX2_levels_61 (by decide) ?_
      refine c_pO (ty := .int) (v := 0) hx hb hts hinX2 hown hK hap hP hS 4 (by decide) (hts (.fieldLink RX2 29 "FeedbackQueues" "taskCount" "I") (by decide +kernel)) rfl (by decide +kernel) rfl rfl (cOf_4 ad S4 _) (Nat.le_of_ble_eq_true rfl) dX2_levels_62 (fun H locs hP hS => ?_)
      obtain ⟨S5, eS5⟩ : ∃ z : Cs, z = sO S4 4 0 := ⟨_, rfl⟩
      rw [← eS5] at hP
      refine lv_aload_n hx hb dX2_levels_65 rfl (lv_at hl 1 rfl) ?_
      refine c_cVv (As := []) (rest := []) (k := 0) (ci := 2) (q := (RX2, TX2, 12)) ⟨hx, hb, hml, hown, hts⟩ (k_X2_startOver l D cy ad S5) (cwV 0 hts gX2_levels_X2_startOver rfl rfl rfl (by decide +kernel) ⟨Nat.le_of_ble_eq_true rfl, Nat.le_of_ble_eq_true rfl⟩) hK hap hA hN hP hS (by omega) (cE_O cy ad S5) rfl rfl hl.1 rfl (Nat.le_of_ble_eq_true rfl) dX2_levels_66 ⟨Nat.zero_le _, Nat.zero_le _⟩ (fun H locs hP hS => ?_)
      obtain ⟨S6, eS6⟩ : ∃ z : Cs, z = F_X2_startOver S5 := ⟨_, rfl⟩
      rw [← eS6] at hP
      have hF : F_X2_levels S p1 = (S6, 0, 0) := by subst eS6 eS5 eS4 eS1; simp only [F_X2_levels, if_neg c_2, if_pos c_8]
      rw [hF]
      exact x_vret hx hb hr hlocks hP hS dX2_levels_69
    · skip
      have hF : F_X2_levels S p1 = (S, 0, 2) := by simp only [F_X2_levels, if_neg c_2, if_neg c_8]
      rw [hF]
      exact x_thr (kd := 2) (is := 60) (text := "there are 1 to 6 levels") hx hb hlst hown hXs hZu hZn hts (by decide) (by decide +kernel) (by decide +kernel) (by decide +kernel) (by decide +kernel) hP hS (hl.1.trans hml.symm) dX2_levels_11 dX2_levels_14 dX2_levels_15 dX2_levels_17 dX2_levels_20 htab (Nat.le_of_ble_eq_true rfl) (Nat.le_of_ble_eq_true rfl) (Nat.le_of_ble_eq_true rfl) (Nat.le_of_ble_eq_true rfl) hlocks
set_option maxHeartbeats 4000000 in
set_option maxRecDepth 100000 in
theorem k_X2_level (l : Launch) (hlst : l.stackTraces = false) (D : va_G) (cy : Nat → ClassId) (ad sa : Nat → Nat) (S : Cs) (p1 : Int32) (p2 : Int32) (p3 : Int32)  {N L b : Nat} (hok : okC N L b S)  : cXv l yX2_level wsX2_level { frames := 6, cells := 1, slots := 6, locals := 100 } D cy ad sa [.ref (ad 0), .int p1, .int p2, .int p3] S (F_X2_level S p1 p2 p3) := by
  intro sz
  refine vx_ofW (cc := cX2_level) (maxL := 4) (ret := none) (by decide) rfl ?_
  intro p e s m args below meth c s₁ B hml htab hv
  obtain ⟨rfl, ⟨hsz, hP, hK, hap0, hN⟩, hXs, hZu, hZn⟩ := hv
  have hx := B.exec
  have hb := B.bytes
  have hr := B.returns
  have hts := atoms_spec (ws := wsX2_level) B.pre
  have hown : s.vm.findClass RX2 = some m.cls := findClass_of_methodNamed B.named
  have hlocks := B.notSynchronized
  subst hsz
  have hap := gw_self (sz := s.heap.size) hap0
  generalize hAe : gA 48 ad s.heap.size = A at hap hZu hZn ⊢
  have hA : ∀ q : Nat, s.heap.size ≤ q → A q := fun q h => by rw [← hAe]; exact Or.inr h
  have hS : va_S A s.heap s.heap [] := va_S.rf
  have hinX0 : ∀ w ∈ wsX00, w ∈ wsX2_level := by decide +kernel
  have hinX2 : ∀ w ∈ wsX20, w ∈ wsX2_level := by decide +kernel
  have hl := lv_entry ([.ref (ad 0), .int p1, .int p2, .int p3]) (n := 4) (Nat.le_of_ble_eq_true rfl)
  rw [lg_entry_eq]
  generalize (lg_sl ([.ref (ad 0), .int p1, .int p2, .int p3]) ++ List.replicate (4 - (lg_sl ([.ref (ad 0), .int p1, .int p2, .int p3])).length) Slot.unset).toArray = ls at hl ⊢
  have hl : lv_has ls 4 [(0, .ref (ad 0)), (1, .int p1), (2, .int p2), (3, .int p3)] := hl
  obtain ⟨H, hH⟩ : ∃ H, H = s.heap := ⟨_, rfl⟩
  rw [← hH] at hP
  have hS : va_S A s.heap H [] := by rw [hH]; exact hS
  rw [← hH]
  generalize ([] : List Loc) = locs at hS ⊢
  refine lv_aload_n hx hb dX2_level_0 rfl (lv_at hl 0 rfl) ?_
  refine lv_iload_n hx hb dX2_level_1 rfl (lv_at hl 1 rfl) ?_
  refine c_cVi (As := [.int p1]) (rest := []) (k := 0) (ci := 2) (q := (RX2, TX2, 12)) ⟨hx, hb, hml, hown, hts⟩ (k_X2_isLevel l D cy ad S p1) (cwV 1 hts gX2_level_X2_isLevel rfl rfl rfl (by decide +kernel) ⟨Nat.le_of_ble_eq_true rfl, Nat.le_of_ble_eq_true rfl⟩) hK hap hA hN hP hS (by omega) (cE_O cy ad S) rfl rfl hl.1 rfl (Nat.le_of_ble_eq_true rfl) dX2_level_2 ⟨Nat.zero_le _, Nat.zero_le _⟩ (fun H locs hP hS => ?_)
  obtain ⟨S1, eS1⟩ : ∃ z : Cs, z = (F_X2_isLevel S p1).1 := ⟨_, rfl⟩
  rw [← eS1] at hP
  have hok1 : okC N L b S1 := by rw [eS1]; exact ok_X2_isLevel hok 
  refine lv_if_ne (tgt := 18) hx hb dX2_level_5 (by decide) (fun c_5 => ?_) (fun c_5 => ?_)
  · skip
    refine lv_iload_n hx hb dX2_level_18 rfl (lv_at hl 2 rfl) ?_
    refine lv_iconst (v := 1) hx hb dX2_level_19 (by decide) ?_
    refine lv_icmp_lt (tgt := 29) hx hb dX2_level_20 (by decide) (fun c_20 => ?_) (fun c_20 => ?_)
    · skip
      have hF : F_X2_level S p1 p2 p3 = (S1, 0, 2) := by subst eS1; simp only [F_X2_level, if_neg c_5, if_pos c_20]
      rw [hF]
      exact x_thr (kd := 2) (is := 83) (text := "a quantum is 1 to 100") hx hb hlst hown hXs hZu hZn hts (by decide) (by decide +kernel) (by decide +kernel) (by decide +kernel) (by decide +kernel) hP hS (hl.1.trans hml.symm) dX2_level_29 dX2_level_32 dX2_level_33 dX2_level_35 dX2_level_38 htab (Nat.le_of_ble_eq_true rfl) (Nat.le_of_ble_eq_true rfl) (Nat.le_of_ble_eq_true rfl) (Nat.le_of_ble_eq_true rfl) hlocks
    · skip
      refine lv_iload_n hx hb dX2_level_23 rfl (lv_at hl 2 rfl) ?_
      refine lv_bipush (v := 100) hx hb dX2_level_24 (by decide) ?_
      refine lv_icmp_le (tgt := 39) hx hb dX2_level_26 (by decide) (fun c_26 => ?_) (fun c_26 => ?_)
      · skip
        refine lv_iload_n hx hb dX2_level_39 rfl (lv_at hl 3 rfl) ?_
        refine lv_iconst (v := 1) hx hb dX2_level_40 (by decide) ?_
        refine lv_icmp_lt (tgt := 51) hx hb dX2_level_41 (by decide) (fun c_41 => ?_) (fun c_41 => ?_)
        · skip
          have hF : F_X2_level S p1 p2 p3 = (S1, 0, 2) := by subst eS1; simp only [F_X2_level, if_neg c_5, if_neg c_20, if_pos c_26, if_pos c_41]
          rw [hF]
          exact x_thr (kd := 2) (is := 85) (text := "a share is 1 to 1000") hx hb hlst hown hXs hZu hZn hts (by decide) (by decide +kernel) (by decide +kernel) (by decide +kernel) (by decide +kernel) hP hS (hl.1.trans hml.symm) dX2_level_51 dX2_level_54 dX2_level_55 dX2_level_57 dX2_level_60 htab (Nat.le_of_ble_eq_true rfl) (Nat.le_of_ble_eq_true rfl) (Nat.le_of_ble_eq_true rfl) (Nat.le_of_ble_eq_true rfl) hlocks
        · skip
          refine lv_iload_n hx hb dX2_level_44 rfl (lv_at hl 3 rfl) ?_
          refine lv_sipush (v := 1000) hx hb dX2_level_45 (by decide) ?_
          refine lv_icmp_le (tgt := 61) hx hb dX2_level_48 (by decide) (fun c_48 => ?_) (fun c_48 => ?_)
          · skip
            refine lv_aload_n hx hb dX2_level_61 rfl (lv_at hl 0 rfl) ?_
            refine c_gO hx hb hts hinX2 hown hK hP 6 (by decide) (hts (.fieldLink RX2 35 "FeedbackQueues" "now" "I") (by decide +kernel)) rfl dX2_level_62 ?_
            refine lv_if_eq (tgt := 78) hx hb dX2_level_65 (by decide) (fun c_65 => ?_) (fun c_65 => ?_)
            · skip
              refine lv_aload_n hx hb dX2_level_78 rfl (lv_at hl 0 rfl) ?_
              refine c_gO hx hb hts hinX2 hown hK hP 0 (by decide) (hts (.fieldLink RX2 11 "FeedbackQueues" "levelRows" "[LFeedbackQueues$Level;") (by decide +kernel)) rfl dX2_level_79 ?_
              refine lv_iload_n hx hb dX2_level_82 rfl (lv_at hl 1 rfl) ?_
              refine c_aL (k := (p1).toNatClampNeg) hx hb hK hP (isL_ix hok c_5) dX2_level_83 ?_
              refine lv_iload_n hx hb dX2_level_84 rfl (lv_at hl 2 rfl) ?_
              refine c_pLN (i := (p1).toNatClampNeg) (ty := .int) (v := p2) hx hb hts hinX0 hown hK hap hP hS ((isL_ix hok c_5).2.2) 0 (by decide) (hN.fld (args := _) (a := "FeedbackQueues") (i := 65) (b := "FeedbackQueues$Level") (n := "quantum") (d := "I") (h' := "FeedbackQueues") (by decide +kernel)) rfl (by decide +kernel) rfl rfl (cLf_0 ad S1 ((p1).toNatClampNeg) _) (Nat.le_of_ble_eq_true rfl) dX2_level_85 (fun H locs hP hS => ?_)
              obtain ⟨S2, eS2⟩ : ∃ z : Cs, z = sL S1 ((p1).toNatClampNeg) 0 p2 := ⟨_, rfl⟩
              rw [← eS2] at hP
              have hok2 : okC N L b S2 := by rw [eS2]; exact okC_sL hok1 (by decide)
              refine lv_aload_n hx hb dX2_level_88 rfl (lv_at hl 0 rfl) ?_
              refine c_gO hx hb hts hinX2 hown hK hP 0 (by decide) (hts (.fieldLink RX2 11 "FeedbackQueues" "levelRows" "[LFeedbackQueues$Level;") (by decide +kernel)) rfl dX2_level_89 ?_
              refine lv_iload_n hx hb dX2_level_92 rfl (lv_at hl 1 rfl) ?_
              refine c_aL (k := (p1).toNatClampNeg) hx hb hK hP (isL_ix hok c_5) dX2_level_93 ?_
              refine lv_iload_n hx hb dX2_level_94 rfl (lv_at hl 3 rfl) ?_
              refine c_pLN (i := (p1).toNatClampNeg) (ty := .int) (v := p3) hx hb hts hinX0 hown hK hap hP hS ((isL_ix hok c_5).2.2) 1 (by decide) (hN.fld (args := _) (a := "FeedbackQueues") (i := 68) (b := "FeedbackQueues$Level") (n := "share") (d := "I") (h' := "FeedbackQueues") (by decide +kernel)) rfl (by decide +kernel) rfl rfl (cLf_1 ad S2 ((p1).toNatClampNeg) _) (Nat.le_of_ble_eq_true rfl) dX2_level_95 (fun H locs hP hS => ?_)
              obtain ⟨S3, eS3⟩ : ∃ z : Cs, z = sL S2 ((p1).toNatClampNeg) 1 p3 := ⟨_, rfl⟩
              rw [← eS3] at hP
              have hok3 : okC N L b S3 := by rw [eS3]; exact okC_sL hok2 (by decide)
              have hF : F_X2_level S p1 p2 p3 = (S3, 0, 0) := by subst eS3 eS2 eS1; simp only [F_X2_level, if_neg c_5, if_neg c_20, if_pos c_26, if_neg c_41, if_pos c_48, if_pos c_65]
              rw [hF]
              exact x_vret hx hb hr hlocks hP hS dX2_level_98
            · skip
              have hF : F_X2_level S p1 p2 p3 = (S1, 0, 3) := by subst eS1; simp only [F_X2_level, if_neg c_5, if_neg c_20, if_pos c_26, if_neg c_41, if_pos c_48, if_neg c_65]
              rw [hF]
              exact x_thr (kd := 3) (is := 89) (text := "the time isn't 0") hx hb hlst hown hXs hZu hZn hts (by decide) (by decide +kernel) (by decide +kernel) (by decide +kernel) (by decide +kernel) hP hS (hl.1.trans hml.symm) dX2_level_68 dX2_level_71 dX2_level_72 dX2_level_74 dX2_level_77 htab (Nat.le_of_ble_eq_true rfl) (Nat.le_of_ble_eq_true rfl) (Nat.le_of_ble_eq_true rfl) (Nat.le_of_ble_eq_true rfl) hlocks
          · skip
            have hF : F_X2_level S p1 p2 p3 = (S1, 0, 2) := by subst eS1; simp only [F_X2_level, if_neg c_5, if_neg c_20, if_pos c_26, if_neg c_41, if_neg c_48]
            rw [hF]
            exact x_thr (kd := 2) (is := 85) (text := "a share is 1 to 1000") hx hb hlst hown hXs hZu hZn hts (by decide) (by decide +kernel) (by decide +kernel) (by decide +kernel) (by decide +kernel) hP hS (hl.1.trans hml.symm) dX2_level_51 dX2_level_54 dX2_level_55 dX2_level_57 dX2_level_60 htab (Nat.le_of_ble_eq_true rfl) (Nat.le_of_ble_eq_true rfl) (Nat.le_of_ble_eq_true rfl) (Nat.le_of_ble_eq_true rfl) hlocks
      · skip
        have hF : F_X2_level S p1 p2 p3 = (S1, 0, 2) := by subst eS1; simp only [F_X2_level, if_neg c_5, if_neg c_20, if_neg c_26]
        rw [hF]
        exact x_thr (kd := 2) (is := 83) (text := "a quantum is 1 to 100") hx hb hlst hown hXs hZu hZn hts (by decide) (by decide +kernel) (by decide +kernel) (by decide +kernel) (by decide +kernel) hP hS (hl.1.trans hml.symm) dX2_level_29 dX2_level_32 dX2_level_33 dX2_level_35 dX2_level_38 htab (Nat.le_of_ble_eq_true rfl) (Nat.le_of_ble_eq_true rfl) (Nat.le_of_ble_eq_true rfl) (Nat.le_of_ble_eq_true rfl) hlocks
  · skip
    have hF : F_X2_level S p1 p2 p3 = (S1, 0, 1) := by subst eS1; simp only [F_X2_level, if_pos c_5]
    rw [hF]
    exact x_thr (kd := 1) (is := 80) (text := "there is no such level") hx hb hlst hown hXs hZu hZn hts (by decide) (by decide +kernel) (by decide +kernel) (by decide +kernel) (by decide +kernel) hP hS (hl.1.trans hml.symm) dX2_level_8 dX2_level_11 dX2_level_12 dX2_level_14 dX2_level_17 htab (Nat.le_of_ble_eq_true rfl) (Nat.le_of_ble_eq_true rfl) (Nat.le_of_ble_eq_true rfl) (Nat.le_of_ble_eq_true rfl) hlocks
set_option maxHeartbeats 4000000 in
set_option maxRecDepth 100000 in
theorem k_X2_period (l : Launch) (hlst : l.stackTraces = false) (D : va_G) (cy : Nat → ClassId) (ad sa : Nat → Nat) (S : Cs) (p1 : Int32)   : cXv l yX2_period wsX2_period { frames := 6, cells := 1, slots := 6, locals := 100 } D cy ad sa [.ref (ad 0), .int p1] S (F_X2_period S p1) := by
  intro sz
  refine vx_ofW (cc := cX2_period) (maxL := 2) (ret := none) (by decide) rfl ?_
  intro p e s m args below meth c s₁ B hml htab hv
  obtain ⟨rfl, ⟨hsz, hP, hK, hap0, hN⟩, hXs, hZu, hZn⟩ := hv
  have hx := B.exec
  have hb := B.bytes
  have hr := B.returns
  have hts := atoms_spec (ws := wsX2_period) B.pre
  have hown : s.vm.findClass RX2 = some m.cls := findClass_of_methodNamed B.named
  have hlocks := B.notSynchronized
  subst hsz
  have hap := gw_self (sz := s.heap.size) hap0
  generalize hAe : gA 48 ad s.heap.size = A at hap hZu hZn ⊢
  have hA : ∀ q : Nat, s.heap.size ≤ q → A q := fun q h => by rw [← hAe]; exact Or.inr h
  have hS : va_S A s.heap s.heap [] := va_S.rf
  have hinX2 : ∀ w ∈ wsX20, w ∈ wsX2_period := by decide +kernel
  have hl := lv_entry ([.ref (ad 0), .int p1]) (n := 2) (Nat.le_of_ble_eq_true rfl)
  rw [lg_entry_eq]
  generalize (lg_sl ([.ref (ad 0), .int p1]) ++ List.replicate (2 - (lg_sl ([.ref (ad 0), .int p1])).length) Slot.unset).toArray = ls at hl ⊢
  have hl : lv_has ls 2 [(0, .ref (ad 0)), (1, .int p1)] := hl
  obtain ⟨H, hH⟩ : ∃ H, H = s.heap := ⟨_, rfl⟩
  rw [← hH] at hP
  have hS : va_S A s.heap H [] := by rw [hH]; exact hS
  rw [← hH]
  generalize ([] : List Loc) = locs at hS ⊢
  refine lv_iload_n hx hb dX2_period_0 rfl (lv_at hl 1 rfl) ?_
  refine lv_if_lt (tgt := 11) hx hb dX2_period_1 (by decide) (fun c_1 => ?_) (fun c_1 => ?_)
  · skip
    have hF : F_X2_period S p1 = (S, 0, 2) := by simp only [F_X2_period, if_pos c_1]
    rw [hF]
    exact x_thr (kd := 2) (is := 92) (text := "a period is 0 to 10000") hx hb hlst hown hXs hZu hZn hts (by decide) (by decide +kernel) (by decide +kernel) (by decide +kernel) (by decide +kernel) hP hS (hl.1.trans hml.symm) dX2_period_11 dX2_period_14 dX2_period_15 dX2_period_17 dX2_period_20 htab (Nat.le_of_ble_eq_true rfl) (Nat.le_of_ble_eq_true rfl) (Nat.le_of_ble_eq_true rfl) (Nat.le_of_ble_eq_true rfl) hlocks
  · skip
    refine lv_iload_n hx hb dX2_period_4 rfl (lv_at hl 1 rfl) ?_
    refine lv_sipush (v := 10000) hx hb dX2_period_5 (by decide) ?_
    refine lv_icmp_le (tgt := 21) hx hb dX2_period_8 (by decide) (fun c_8 => ?_) (fun c_8 => ?_)
    · skip
      refine lv_aload_n hx hb dX2_period_21 rfl (lv_at hl 0 rfl) ?_
      refine c_gO hx hb hts hinX2 hown hK hP 6 (by decide) (hts (.fieldLink RX2 35 "FeedbackQueues" "now" "I") (by decide +kernel)) rfl dX2_period_22 ?_
      refine lv_if_eq (tgt := 38) hx hb dX2_period_25 (by decide) (fun c_25 => ?_) (fun c_25 => ?_)
      · skip
        refine lv_aload_n hx hb dX2_period_38 rfl (lv_at hl 0 rfl) ?_
        refine lv_iload_n hx hb dX2_period_39 rfl (lv_at hl 1 rfl) ?_
        refine c_pO (ty := .int) (v := p1) hx hb hts hinX2 hown hK hap hP hS 5 (by decide) (hts (.fieldLink RX2 32 "FeedbackQueues" "periodTicks" "I") (by decide +kernel)) rfl (by decide +kernel) rfl rfl (cOf_5 ad S _) (Nat.le_of_ble_eq_true rfl) dX2_period_40 (fun H locs hP hS => ?_)
        obtain ⟨S1, eS1⟩ : ∃ z : Cs, z = sO S 5 p1 := ⟨_, rfl⟩
        rw [← eS1] at hP
        have hF : F_X2_period S p1 = (S1, 0, 0) := by subst eS1; simp only [F_X2_period, if_neg c_1, if_pos c_8, if_pos c_25]
        rw [hF]
        exact x_vret hx hb hr hlocks hP hS dX2_period_43
      · skip
        have hF : F_X2_period S p1 = (S, 0, 3) := by simp only [F_X2_period, if_neg c_1, if_pos c_8, if_neg c_25]
        rw [hF]
        exact x_thr (kd := 3) (is := 89) (text := "the time isn't 0") hx hb hlst hown hXs hZu hZn hts (by decide) (by decide +kernel) (by decide +kernel) (by decide +kernel) (by decide +kernel) hP hS (hl.1.trans hml.symm) dX2_period_28 dX2_period_31 dX2_period_32 dX2_period_34 dX2_period_37 htab (Nat.le_of_ble_eq_true rfl) (Nat.le_of_ble_eq_true rfl) (Nat.le_of_ble_eq_true rfl) (Nat.le_of_ble_eq_true rfl) hlocks
    · skip
      have hF : F_X2_period S p1 = (S, 0, 2) := by simp only [F_X2_period, if_neg c_1, if_neg c_8]
      rw [hF]
      exact x_thr (kd := 2) (is := 92) (text := "a period is 0 to 10000") hx hb hlst hown hXs hZu hZn hts (by decide) (by decide +kernel) (by decide +kernel) (by decide +kernel) (by decide +kernel) hP hS (hl.1.trans hml.symm) dX2_period_11 dX2_period_14 dX2_period_15 dX2_period_17 dX2_period_20 htab (Nat.le_of_ble_eq_true rfl) (Nat.le_of_ble_eq_true rfl) (Nat.le_of_ble_eq_true rfl) (Nat.le_of_ble_eq_true rfl) hlocks
set_option maxHeartbeats 4000000 in
set_option maxRecDepth 100000 in
theorem k_X2_process (l : Launch) (hlst : l.stackTraces = false) (D : va_G) (cy : Nat → ClassId) (ad sa : Nat → Nat) (S : Cs) (p1 : Int32)  {N L b : Nat} (hok : okC N L b S)  : cXi l yX2_process wsX2_process { frames := 6, cells := 1, slots := 6, locals := 100 } D cy ad sa [.ref (ad 0), .int p1] S (F_X2_process S p1) := by
  intro sz
  refine vx_ofW (cc := cX2_process) (maxL := 2) (ret := (some .int)) (by decide) rfl ?_
  intro p e s m args below meth c s₁ B hml htab hv
  obtain ⟨rfl, ⟨hsz, hP, hK, hap0, hN⟩, hXs, hZu, hZn⟩ := hv
  have hx := B.exec
  have hb := B.bytes
  have hr := B.returns
  have hts := atoms_spec (ws := wsX2_process) B.pre
  have hown : s.vm.findClass RX2 = some m.cls := findClass_of_methodNamed B.named
  have hlocks := B.notSynchronized
  subst hsz
  have hap := gw_self (sz := s.heap.size) hap0
  generalize hAe : gA 48 ad s.heap.size = A at hap hZu hZn ⊢
  have hA : ∀ q : Nat, s.heap.size ≤ q → A q := fun q h => by rw [← hAe]; exact Or.inr h
  have hS : va_S A s.heap s.heap [] := va_S.rf
  have hinX2 : ∀ w ∈ wsX20, w ∈ wsX2_process := by decide +kernel
  have hl := lv_entry ([.ref (ad 0), .int p1]) (n := 2) (Nat.le_of_ble_eq_true rfl)
  rw [lg_entry_eq]
  generalize (lg_sl ([.ref (ad 0), .int p1]) ++ List.replicate (2 - (lg_sl ([.ref (ad 0), .int p1])).length) Slot.unset).toArray = ls at hl ⊢
  have hl : lv_has ls 2 [(0, .ref (ad 0)), (1, .int p1)] := hl
  obtain ⟨H, hH⟩ : ∃ H, H = s.heap := ⟨_, rfl⟩
  rw [← hH] at hP
  have hS : va_S A s.heap H [] := by rw [hH]; exact hS
  rw [← hH]
  generalize ([] : List Loc) = locs at hS ⊢
  refine lv_iload_n hx hb dX2_process_0 rfl (lv_at hl 1 rfl) ?_
  refine lv_if_lt (tgt := 11) hx hb dX2_process_1 (by decide) (fun c_1 => ?_) (fun c_1 => ?_)
  · skip
    have hF : F_X2_process S p1 = (S, 0, 2) := by simp only [F_X2_process, if_pos c_1]
    rw [hF]
    exact x_thr (kd := 2) (is := 94) (text := "an arrival is 0 to 20000") hx hb hlst hown hXs hZu hZn hts (by decide) (by decide +kernel) (by decide +kernel) (by decide +kernel) (by decide +kernel) hP hS (hl.1.trans hml.symm) dX2_process_11 dX2_process_14 dX2_process_15 dX2_process_17 dX2_process_20 htab (Nat.le_of_ble_eq_true rfl) (Nat.le_of_ble_eq_true rfl) (Nat.le_of_ble_eq_true rfl) (Nat.le_of_ble_eq_true rfl) hlocks
  · skip
    refine lv_iload_n hx hb dX2_process_4 rfl (lv_at hl 1 rfl) ?_
    refine lv_sipush (v := 20000) hx hb dX2_process_5 (by decide) ?_
    refine lv_icmp_le (tgt := 21) hx hb dX2_process_8 (by decide) (fun c_8 => ?_) (fun c_8 => ?_)
    · skip
      refine lv_aload_n hx hb dX2_process_21 rfl (lv_at hl 0 rfl) ?_
      refine c_gO hx hb hts hinX2 hown hK hP 6 (by decide) (hts (.fieldLink RX2 35 "FeedbackQueues" "now" "I") (by decide +kernel)) rfl dX2_process_22 ?_
      refine lv_if_eq (tgt := 38) hx hb dX2_process_25 (by decide) (fun c_25 => ?_) (fun c_25 => ?_)
      · skip
        refine lv_aload_n hx hb dX2_process_38 rfl (lv_at hl 0 rfl) ?_
        refine c_gO hx hb hts hinX2 hown hK hP 4 (by decide) (hts (.fieldLink RX2 29 "FeedbackQueues" "taskCount" "I") (by decide +kernel)) rfl dX2_process_39 ?_
        refine lv_bipush (v := 16) hx hb dX2_process_42 (by decide) ?_
        refine lv_icmp_lt (tgt := 49) hx hb dX2_process_44 (by decide) (fun c_44 => ?_) (fun c_44 => ?_)
        · skip
          refine lv_aload_n hx hb dX2_process_49 rfl (lv_at hl 0 rfl) ?_
          refine c_gO hx hb hts hinX2 hown hK hP 1 (by decide) (hts (.fieldLink RX2 17 "FeedbackQueues" "tasks" "[LFeedbackQueues$Task;") (by decide +kernel)) rfl dX2_process_50 ?_
          refine lv_aload_n hx hb dX2_process_53 rfl (lv_at hl 0 rfl) ?_
          refine c_gO hx hb hts hinX2 hown hK hP 4 (by decide) (hts (.fieldLink RX2 29 "FeedbackQueues" "taskCount" "I") (by decide +kernel)) rfl dX2_process_54 ?_
          refine c_aT (k := ((cO S 4)).toNatClampNeg) hx hb hK hP (okC_nt hok c_44) dX2_process_57 ?_
          refine lv_iload_n hx hb dX2_process_58 rfl (lv_at hl 1 rfl) ?_
          refine c_cNv (As := [.int p1]) (rest := []) (k := (16 + 2 * (((cO S 4)).toNatClampNeg))) (ci := 1) (q := (RX1, TX1, 19)) ⟨hx, hb, hml, hown, hts⟩ (k_X1_tellArrival l D cy ad S (((cO S 4)).toNatClampNeg) p1 ((okC_nt hok c_44).2.2)) ⟨va_cnB (host := "FeedbackQueues") 1 hts gX2_process_X1_tellArrival_n96 rfl rfl rfl (hN.mth (a := RX2) (i := 96) (x := yX1_tellArrival) (h' := "FeedbackQueues") (by decide +kernel)) (hts (.initialized RX1) (by decide +kernel)) (by decide +kernel) ⟨Nat.le_of_ble_eq_true rfl, Nat.le_of_ble_eq_true rfl⟩, hts (.instanceMethod yX1_tellArrival) (by decide +kernel), hts (.selects RX1 yX1_tellArrival yX1_tellArrival) (by decide +kernel)⟩ hK hap hA hN hP hS (by have h9 := ((okC_nt hok c_44).2.2); omega) (cE_T cy ad S (((cO S 4)).toNatClampNeg)) rfl rfl hl.1 rfl (Nat.le_of_ble_eq_true rfl) dX2_process_59 ⟨Nat.zero_le _, Nat.zero_le _⟩ (fun H locs hP hS => ?_)
          obtain ⟨S1, eS1⟩ : ∃ z : Cs, z = F_X1_tellArrival S (((cO S 4)).toNatClampNeg) p1 := ⟨_, rfl⟩
          rw [← eS1] at hP
          refine lv_aload_n hx hb dX2_process_62 rfl (lv_at hl 0 rfl) ?_
          refine lv_dup hx hb dX2_process_63 rfl ?_
          refine c_gO hx hb hts hinX2 hown hK hP 4 (by decide) (hts (.fieldLink RX2 29 "FeedbackQueues" "taskCount" "I") (by decide +kernel)) rfl dX2_process_64 ?_
          refine lv_iconst (v := 1) hx hb dX2_process_67 (by decide) ?_
          refine lv_iadd hx hb dX2_process_68 ?_
          refine c_pO (ty := .int) (v := (cO S1 4) + 1) hx hb hts hinX2 hown hK hap hP hS 4 (by decide) (hts (.fieldLink RX2 29 "FeedbackQueues" "taskCount" "I") (by decide +kernel)) rfl (by decide +kernel) rfl rfl (cOf_4 ad S1 _) (Nat.le_of_ble_eq_true rfl) dX2_process_69 (fun H locs hP hS => ?_)
          obtain ⟨S2, eS2⟩ : ∃ z : Cs, z = sO S1 4 ((cO S1 4) + 1) := ⟨_, rfl⟩
          rw [← eS2] at hP
          refine lv_aload_n hx hb dX2_process_72 rfl (lv_at hl 0 rfl) ?_
          refine c_gO hx hb hts hinX2 hown hK hP 4 (by decide) (hts (.fieldLink RX2 29 "FeedbackQueues" "taskCount" "I") (by decide +kernel)) rfl dX2_process_73 ?_
          refine lv_iconst (v := 1) hx hb dX2_process_76 (by decide) ?_
          refine lv_isub hx hb dX2_process_77 ?_
          have hF : F_X2_process S p1 = (S2, (cO S2 4) - 1, 0) := by subst eS2 eS1; simp only [F_X2_process, if_neg c_1, if_pos c_8, if_pos c_25, if_pos c_44]
          rw [hF]
          exact x_iret hx hb hr hlocks hP hS dX2_process_78
        · skip
          refine lv_iconst (v := (-1)) hx hb dX2_process_47 (by decide) ?_
          have hF : F_X2_process S p1 = (S, (-1), 0) := by simp only [F_X2_process, if_neg c_1, if_pos c_8, if_pos c_25, if_neg c_44]
          rw [hF]
          exact x_iret hx hb hr hlocks hP hS dX2_process_48
      · skip
        have hF : F_X2_process S p1 = (S, 0, 3) := by simp only [F_X2_process, if_neg c_1, if_pos c_8, if_neg c_25]
        rw [hF]
        exact x_thr (kd := 3) (is := 89) (text := "the time isn't 0") hx hb hlst hown hXs hZu hZn hts (by decide) (by decide +kernel) (by decide +kernel) (by decide +kernel) (by decide +kernel) hP hS (hl.1.trans hml.symm) dX2_process_28 dX2_process_31 dX2_process_32 dX2_process_34 dX2_process_37 htab (Nat.le_of_ble_eq_true rfl) (Nat.le_of_ble_eq_true rfl) (Nat.le_of_ble_eq_true rfl) (Nat.le_of_ble_eq_true rfl) hlocks
    · skip
      have hF : F_X2_process S p1 = (S, 0, 2) := by simp only [F_X2_process, if_neg c_1, if_neg c_8]
      rw [hF]
      exact x_thr (kd := 2) (is := 94) (text := "an arrival is 0 to 20000") hx hb hlst hown hXs hZu hZn hts (by decide) (by decide +kernel) (by decide +kernel) (by decide +kernel) (by decide +kernel) hP hS (hl.1.trans hml.symm) dX2_process_11 dX2_process_14 dX2_process_15 dX2_process_17 dX2_process_20 htab (Nat.le_of_ble_eq_true rfl) (Nat.le_of_ble_eq_true rfl) (Nat.le_of_ble_eq_true rfl) (Nat.le_of_ble_eq_true rfl) hlocks
set_option maxHeartbeats 4000000 in
set_option maxRecDepth 100000 in
theorem k_X2_burst (l : Launch) (hlst : l.stackTraces = false) (D : va_G) (cy : Nat → ClassId) (ad sa : Nat → Nat) (S : Cs) (p1 : Int32) (p2 : Int32)  {N L b : Nat} (hok : okC N L b S)  : cXi l yX2_burst wsX2_burst { frames := 6, cells := 1, slots := 6, locals := 100 } D cy ad sa [.ref (ad 0), .int p1, .int p2] S (F_X2_burst S p1 p2) := by
  intro sz
  refine vx_ofW (cc := cX2_burst) (maxL := 3) (ret := (some .int)) (by decide) rfl ?_
  intro p e s m args below meth c s₁ B hml htab hv
  obtain ⟨rfl, ⟨hsz, hP, hK, hap0, hN⟩, hXs, hZu, hZn⟩ := hv
  have hx := B.exec
  have hb := B.bytes
  have hr := B.returns
  have hts := atoms_spec (ws := wsX2_burst) B.pre
  have hown : s.vm.findClass RX2 = some m.cls := findClass_of_methodNamed B.named
  have hlocks := B.notSynchronized
  subst hsz
  have hap := gw_self (sz := s.heap.size) hap0
  generalize hAe : gA 48 ad s.heap.size = A at hap hZu hZn ⊢
  have hA : ∀ q : Nat, s.heap.size ≤ q → A q := fun q h => by rw [← hAe]; exact Or.inr h
  have hS : va_S A s.heap s.heap [] := va_S.rf
  have hinX2 : ∀ w ∈ wsX20, w ∈ wsX2_burst := by decide +kernel
  have hl := lv_entry ([.ref (ad 0), .int p1, .int p2]) (n := 3) (Nat.le_of_ble_eq_true rfl)
  rw [lg_entry_eq]
  generalize (lg_sl ([.ref (ad 0), .int p1, .int p2]) ++ List.replicate (3 - (lg_sl ([.ref (ad 0), .int p1, .int p2])).length) Slot.unset).toArray = ls at hl ⊢
  have hl : lv_has ls 3 [(0, .ref (ad 0)), (1, .int p1), (2, .int p2)] := hl
  obtain ⟨H, hH⟩ : ∃ H, H = s.heap := ⟨_, rfl⟩
  rw [← hH] at hP
  have hS : va_S A s.heap H [] := by rw [hH]; exact hS
  rw [← hH]
  generalize ([] : List Loc) = locs at hS ⊢
  refine lv_aload_n hx hb dX2_burst_0 rfl (lv_at hl 0 rfl) ?_
  refine lv_iload_n hx hb dX2_burst_1 rfl (lv_at hl 1 rfl) ?_
  refine c_cVi (As := [.int p1]) (rest := []) (k := 0) (ci := 2) (q := (RX2, TX2, 12)) ⟨hx, hb, hml, hown, hts⟩ (k_X2_isTask l D cy ad S p1) (cwV 1 hts gX2_burst_X2_isTask rfl rfl rfl (by decide +kernel) ⟨Nat.le_of_ble_eq_true rfl, Nat.le_of_ble_eq_true rfl⟩) hK hap hA hN hP hS (by omega) (cE_O cy ad S) rfl rfl hl.1 rfl (Nat.le_of_ble_eq_true rfl) dX2_burst_2 ⟨Nat.zero_le _, Nat.zero_le _⟩ (fun H locs hP hS => ?_)
  obtain ⟨S1, eS1⟩ : ∃ z : Cs, z = (F_X2_isTask S p1).1 := ⟨_, rfl⟩
  rw [← eS1] at hP
  have hok1 : okC N L b S1 := by rw [eS1]; exact ok_X2_isTask hok 
  refine lv_if_ne (tgt := 18) hx hb dX2_burst_5 (by decide) (fun c_5 => ?_) (fun c_5 => ?_)
  · skip
    refine lv_iload_n hx hb dX2_burst_18 rfl (lv_at hl 2 rfl) ?_
    refine lv_iconst (v := 1) hx hb dX2_burst_19 (by decide) ?_
    refine lv_icmp_lt (tgt := 30) hx hb dX2_burst_20 (by decide) (fun c_20 => ?_) (fun c_20 => ?_)
    · skip
      have hF : F_X2_burst S p1 p2 = (S1, 0, 2) := by subst eS1; simp only [F_X2_burst, if_neg c_5, if_pos c_20]
      rw [hF]
      exact x_thr (kd := 2) (is := 104) (text := "a burst is 1 to 5000 ticks") hx hb hlst hown hXs hZu hZn hts (by decide) (by decide +kernel) (by decide +kernel) (by decide +kernel) (by decide +kernel) hP hS (hl.1.trans hml.symm) dX2_burst_30 dX2_burst_33 dX2_burst_34 dX2_burst_36 dX2_burst_39 htab (Nat.le_of_ble_eq_true rfl) (Nat.le_of_ble_eq_true rfl) (Nat.le_of_ble_eq_true rfl) (Nat.le_of_ble_eq_true rfl) hlocks
    · skip
      refine lv_iload_n hx hb dX2_burst_23 rfl (lv_at hl 2 rfl) ?_
      refine lv_sipush (v := 5000) hx hb dX2_burst_24 (by decide) ?_
      refine lv_icmp_le (tgt := 40) hx hb dX2_burst_27 (by decide) (fun c_27 => ?_) (fun c_27 => ?_)
      · skip
        refine lv_aload_n hx hb dX2_burst_40 rfl (lv_at hl 0 rfl) ?_
        refine c_gO hx hb hts hinX2 hown hK hP 6 (by decide) (hts (.fieldLink RX2 35 "FeedbackQueues" "now" "I") (by decide +kernel)) rfl dX2_burst_41 ?_
        refine lv_if_eq (tgt := 57) hx hb dX2_burst_44 (by decide) (fun c_44 => ?_) (fun c_44 => ?_)
        · skip
          refine lv_aload_n hx hb dX2_burst_57 rfl (lv_at hl 0 rfl) ?_
          refine c_gO hx hb hts hinX2 hown hK hP 1 (by decide) (hts (.fieldLink RX2 17 "FeedbackQueues" "tasks" "[LFeedbackQueues$Task;") (by decide +kernel)) rfl dX2_burst_58 ?_
          refine lv_iload_n hx hb dX2_burst_61 rfl (lv_at hl 1 rfl) ?_
          refine c_aT (k := (p1).toNatClampNeg) hx hb hK hP (isT_ix hok c_5) dX2_burst_62 ?_
          refine lv_iload_n hx hb dX2_burst_63 rfl (lv_at hl 2 rfl) ?_
          refine c_cNi (As := [.int p2]) (rest := []) (k := (16 + 2 * ((p1).toNatClampNeg))) (ci := 1) (q := (RX1, TX1, 19)) ⟨hx, hb, hml, hown, hts⟩ (k_X1_tellBurst l D cy ad S1 ((p1).toNatClampNeg) p2 ((isT_ix hok c_5).2.2) (okC_b hok1 (isT_ix hok c_5).2.2)) ⟨va_cnB (host := "FeedbackQueues") 1 hts gX2_burst_X1_tellBurst_n106 rfl rfl rfl (hN.mth (a := RX2) (i := 106) (x := yX1_tellBurst) (h' := "FeedbackQueues") (by decide +kernel)) (hts (.initialized RX1) (by decide +kernel)) (by decide +kernel) ⟨Nat.le_of_ble_eq_true rfl, Nat.le_of_ble_eq_true rfl⟩, hts (.instanceMethod yX1_tellBurst) (by decide +kernel), hts (.selects RX1 yX1_tellBurst yX1_tellBurst) (by decide +kernel)⟩ hK hap hA hN hP hS (by have h9 := ((isT_ix hok c_5).2.2); omega) (cE_T cy ad S1 ((p1).toNatClampNeg)) rfl rfl hl.1 rfl (Nat.le_of_ble_eq_true rfl) dX2_burst_64 ⟨Nat.zero_le _, Nat.zero_le _⟩ (fun H locs hP hS => ?_)
          obtain ⟨S2, eS2⟩ : ∃ z : Cs, z = (F_X1_tellBurst S1 ((p1).toNatClampNeg) p2).1 := ⟨_, rfl⟩
          rw [← eS2] at hP
          have hF : F_X2_burst S p1 p2 = (S2, (F_X1_tellBurst S1 ((p1).toNatClampNeg) p2).2, 0) := by subst eS2 eS1; simp only [F_X2_burst, if_neg c_5, if_neg c_20, if_pos c_27, if_pos c_44]
          rw [hF]
          exact x_iret hx hb hr hlocks hP hS dX2_burst_67
        · skip
          have hF : F_X2_burst S p1 p2 = (S1, 0, 3) := by subst eS1; simp only [F_X2_burst, if_neg c_5, if_neg c_20, if_pos c_27, if_neg c_44]
          rw [hF]
          exact x_thr (kd := 3) (is := 89) (text := "the time isn't 0") hx hb hlst hown hXs hZu hZn hts (by decide) (by decide +kernel) (by decide +kernel) (by decide +kernel) (by decide +kernel) hP hS (hl.1.trans hml.symm) dX2_burst_47 dX2_burst_50 dX2_burst_51 dX2_burst_53 dX2_burst_56 htab (Nat.le_of_ble_eq_true rfl) (Nat.le_of_ble_eq_true rfl) (Nat.le_of_ble_eq_true rfl) (Nat.le_of_ble_eq_true rfl) hlocks
      · skip
        have hF : F_X2_burst S p1 p2 = (S1, 0, 2) := by subst eS1; simp only [F_X2_burst, if_neg c_5, if_neg c_20, if_neg c_27]
        rw [hF]
        exact x_thr (kd := 2) (is := 104) (text := "a burst is 1 to 5000 ticks") hx hb hlst hown hXs hZu hZn hts (by decide) (by decide +kernel) (by decide +kernel) (by decide +kernel) (by decide +kernel) hP hS (hl.1.trans hml.symm) dX2_burst_30 dX2_burst_33 dX2_burst_34 dX2_burst_36 dX2_burst_39 htab (Nat.le_of_ble_eq_true rfl) (Nat.le_of_ble_eq_true rfl) (Nat.le_of_ble_eq_true rfl) (Nat.le_of_ble_eq_true rfl) hlocks
  · skip
    have hF : F_X2_burst S p1 p2 = (S1, 0, 1) := by subst eS1; simp only [F_X2_burst, if_pos c_5]
    rw [hF]
    exact x_thr (kd := 1) (is := 102) (text := "there is no such process") hx hb hlst hown hXs hZu hZn hts (by decide) (by decide +kernel) (by decide +kernel) (by decide +kernel) (by decide +kernel) hP hS (hl.1.trans hml.symm) dX2_burst_8 dX2_burst_11 dX2_burst_12 dX2_burst_14 dX2_burst_17 htab (Nat.le_of_ble_eq_true rfl) (Nat.le_of_ble_eq_true rfl) (Nat.le_of_ble_eq_true rfl) (Nat.le_of_ble_eq_true rfl) hlocks
set_option maxHeartbeats 4000000 in
set_option maxRecDepth 100000 in
theorem k_X2_run (l : Launch) (hlst : l.stackTraces = false) (D : va_G) (cy : Nat → ClassId) (ad sa : Nat → Nat) (S : Cs) (p1 : Int32)  {N L b : Nat} (hok : okC N L b S) (hb30 : b + 30000 < 2 ^ 30) : cXi l yX2_run wsX2_run { frames := 6, cells := 1, slots := 6, locals := 105 } D cy ad sa [.ref (ad 0), .int p1] S (F_X2_run S p1) := by
  intro sz
  refine vx_ofW (cc := cX2_run) (maxL := 4) (ret := (some .int)) (by decide) rfl ?_
  intro p e s m args below meth c s₁ B hml htab hv
  obtain ⟨rfl, ⟨hsz, hP, hK, hap0, hN⟩, hXs, hZu, hZn⟩ := hv
  have hx := B.exec
  have hb := B.bytes
  have hr := B.returns
  have hts := atoms_spec (ws := wsX2_run) B.pre
  have hown : s.vm.findClass RX2 = some m.cls := findClass_of_methodNamed B.named
  have hlocks := B.notSynchronized
  subst hsz
  have hap := gw_self (sz := s.heap.size) hap0
  generalize hAe : gA 48 ad s.heap.size = A at hap hZu hZn ⊢
  have hA : ∀ q : Nat, s.heap.size ≤ q → A q := fun q h => by rw [← hAe]; exact Or.inr h
  have hS : va_S A s.heap s.heap [] := va_S.rf
  have hinX2 : ∀ w ∈ wsX20, w ∈ wsX2_run := by decide +kernel
  have hl := lv_entry ([.ref (ad 0), .int p1]) (n := 4) (Nat.le_of_ble_eq_true rfl)
  rw [lg_entry_eq]
  generalize (lg_sl ([.ref (ad 0), .int p1]) ++ List.replicate (4 - (lg_sl ([.ref (ad 0), .int p1])).length) Slot.unset).toArray = ls at hl ⊢
  have hl : lv_has ls 4 [(0, .ref (ad 0)), (1, .int p1)] := hl
  obtain ⟨H, hH⟩ : ∃ H, H = s.heap := ⟨_, rfl⟩
  rw [← hH] at hP
  have hS : va_S A s.heap H [] := by rw [hH]; exact hS
  rw [← hH]
  generalize ([] : List Loc) = locs at hS ⊢
  refine lv_iload_n hx hb dX2_run_0 rfl (lv_at hl 1 rfl) ?_
  refine lv_if_lt (tgt := 11) hx hb dX2_run_1 (by decide) (fun c_1 => ?_) (fun c_1 => ?_)
  · skip
    have hF : F_X2_run S p1 = (S, 0, 2) := by simp only [F_X2_run, if_pos c_1]
    rw [hF]
    exact x_thr (kd := 2) (is := 110) (text := "0 to 30000 ticks are done at once") hx hb hlst hown hXs hZu hZn hts (by decide) (by decide +kernel) (by decide +kernel) (by decide +kernel) (by decide +kernel) hP hS (hl.1.trans hml.symm) dX2_run_11 dX2_run_14 dX2_run_15 dX2_run_17 dX2_run_20 htab (Nat.le_of_ble_eq_true rfl) (Nat.le_of_ble_eq_true rfl) (Nat.le_of_ble_eq_true rfl) (Nat.le_of_ble_eq_true rfl) hlocks
  · skip
    refine lv_iload_n hx hb dX2_run_4 rfl (lv_at hl 1 rfl) ?_
    refine lv_sipush (v := 30000) hx hb dX2_run_5 (by decide) ?_
    refine lv_icmp_le (tgt := 21) hx hb dX2_run_8 (by decide) (fun c_8 => ?_) (fun c_8 => ?_)
    · skip
      refine lv_aload_n hx hb dX2_run_21 rfl (lv_at hl 0 rfl) ?_
      refine c_gO hx hb hts hinX2 hown hK hP 6 (by decide) (hts (.fieldLink RX2 35 "FeedbackQueues" "now" "I") (by decide +kernel)) rfl dX2_run_22 ?_
      refine lv_iload_n hx hb dX2_run_25 rfl (lv_at hl 1 rfl) ?_
      refine lv_iadd hx hb dX2_run_26 ?_
      refine lv_ldc (v := 100000) hx hb hown (hts (.constant RX2 112 (100000)) (by decide +kernel)) dX2_run_27 ?_
      refine lv_icmp_le (tgt := 42) hx hb dX2_run_29 (by decide) (fun c_29 => ?_) (fun c_29 => ?_)
      · skip
        refine lv_aload_n hx hb dX2_run_42 rfl (lv_at hl 0 rfl) ?_
        refine c_gO hx hb hts hinX2 hown hK hP 9 (by decide) (hts (.fieldLink RX2 45 "FeedbackQueues" "idleCount" "I") (by decide +kernel)) rfl dX2_run_43 ?_
        refine lv_istore_n (lv' := [(2, .int (cO S 9)), (0, .ref (ad 0)), (1, .int p1)]) hx hb dX2_run_46 rfl hl (by decide) rfl (fun ls hl => ?_)
        refine lv_iconst (v := 0) hx hb dX2_run_47 (by decide) ?_
        refine lv_istore_n (lv' := [(3, .int 0), (2, .int (cO S 9)), (0, .ref (ad 0)), (1, .int p1)]) hx hb dX2_run_48 rfl hl (by decide) rfl (fun ls hl => ?_)
        have hp9 := le_ix (n := 30000) (by decide) (by omega) c_1 c_8
        have hpn : p1 = nI (p1).toNatClampNeg := hp9.nI
        have hp3 := hp9.2.2
        have lp_49 : ∀ (Q : State → Prop) (n t : Nat) (Z : Cs) (H : Heap) (locs : List Loc) (ls : Array Slot), t + n = (p1).toNatClampNeg → okC N L (b + t) Z → va_P D vwCl (cwl cy ad Z) H → va_S A s.heap H locs → lv_has ls 4 [(3, .int (nI t)), (2, .int (cO S 9)), (0, .ref (ad 0)), (1, .int p1)] → (∀ (H : Heap) (locs : List Loc) (ls : Array Slot), va_P D vwCl (cwl cy ad (itr (B_X2_run_49 p1) n t Z)) H → va_S A s.heap H locs → lv_has ls 4 [(3, .int (nI ((p1).toNatClampNeg))), (2, .int (cO S 9)), (0, .ref (ad 0)), (1, .int p1)] → W p l e (headSpec wsX2_run { frames := 6, cells := 1, slots := 6, locals := 105 }).room s m ([.ref (ad 0), .int p1] : List Value).toArray below meth c H locs 0 0 Q (F0 m 64 ls [])) → W p l e (headSpec wsX2_run { frames := 6, cells := 1, slots := 6, locals := 105 }).room s m ([.ref (ad 0), .int p1] : List Value).toArray below meth c H locs 0 0 Q (F0 m 49 ls []) := by
          intro Q n
          induction n with
          | zero =>
            intro t Z H locs ls hk hI hP hS hl K
            refine lv_iload_n hx hb dX2_run_49 rfl (lv_at hl 0 rfl) ?_
            refine lv_iload_n hx hb dX2_run_50 rfl (lv_at hl 3 rfl) ?_
            refine lv_icmp_ge (tgt := 64) hx hb dX2_run_51 (by decide) (fun c_51 => ?_) (fun c_51 => ?_)
            rotate_left
            · exact absurd (by rw [hpn]; exact nI_le (by omega) (by omega)) c_51
            have hiN : t = (p1).toNatClampNeg := by omega
            rw [hiN] at hl
            exact K H locs ls hP hS (lv_sub hl [0, 1, 2, 3] rfl)
          | succ n ih =>
            intro t Z H locs ls hk hI hP hS hl K
            have ht : t < (p1).toNatClampNeg := by omega
            refine lv_iload_n hx hb dX2_run_49 rfl (lv_at hl 0 rfl) ?_
            refine lv_iload_n hx hb dX2_run_50 rfl (lv_at hl 3 rfl) ?_
            refine lv_icmp_ge (tgt := 64) hx hb dX2_run_51 (by decide) (fun c_51 => ?_) (fun c_51 => ?_)
            · exact absurd c_51 (by rw [hpn]; exact nI_ge (by omega) (by omega))
            refine lv_aload_n hx hb dX2_run_54 rfl (lv_at hl 2 rfl) ?_
            refine c_cVv (As := []) (rest := []) (k := 0) (ci := 2) (q := (RX2, TX2, 12)) ⟨hx, hb, hml, hown, hts⟩ (k_X2_doTick l D cy ad Z   hI (by omega)) (cwV 0 hts gX2_run_X2_doTick rfl rfl rfl (by decide +kernel) ⟨Nat.le_of_ble_eq_true rfl, Nat.le_of_ble_eq_true rfl⟩) hK hap hA hN hP hS (by omega) (cE_O cy ad Z) rfl rfl hl.1 rfl (Nat.le_of_ble_eq_true rfl) dX2_run_55 ⟨Nat.zero_le _, Nat.zero_le _⟩ (fun H locs hP hS => ?_)
            obtain ⟨S1, eS1⟩ : ∃ z : Cs, z = F_X2_doTick Z := ⟨_, rfl⟩
            rw [← eS1] at hP
            have hok1 : okC N L (b + (t + 1)) S1 := by rw [eS1]; exact ok_X2_doTick hI (show b + t < 2 ^ 30 from by omega)
            refine lv_iinc (v := nI (t + 1)) (lv' := [(3, .int (nI (t + 1))), (2, .int (cO S 9)), (0, .ref (ad 0)), (1, .int p1)]) hx hb dX2_run_58 hl (k := 0) rfl (inc_nI t) (by decide) rfl (fun ls hl => ?_)
            refine lv_goto (tgt := 49) hx hb dX2_run_61 (by decide) ?_
            have hF : B_X2_run_49 p1 t Z = S1 := by subst eS1; simp only [B_X2_run_49]
            rw [← hF] at hP
            exact ih (t + 1) (B_X2_run_49 p1 t Z) H locs ls (by omega) (ok_X2_doTick hI (show b + t < 2 ^ 30 from by omega)) hP hS (lv_sub hl [0, 1, 2, 3] rfl) K
        refine lp_49 _ ((p1).toNatClampNeg) 0 S H locs ls (by omega) (hok) hP hS (by rw [show nI 0 = 0 from by decide]; exact lv_sub hl [0, 1, 2, 3] rfl) (fun H locs ls hP hS hl => ?_)
        obtain ⟨S2, eS2⟩ : ∃ z : Cs, z = itr (B_X2_run_49 p1) ((p1).toNatClampNeg) 0 S := ⟨_, rfl⟩
        rw [← eS2] at hP
        refine lv_aload_n hx hb dX2_run_64 rfl (lv_at hl 2 rfl) ?_
        refine c_gO hx hb hts hinX2 hown hK hP 9 (by decide) (hts (.fieldLink RX2 45 "FeedbackQueues" "idleCount" "I") (by decide +kernel)) rfl dX2_run_65 ?_
        refine lv_iload_n hx hb dX2_run_68 rfl (lv_at hl 1 rfl) ?_
        refine lv_isub hx hb dX2_run_69 ?_
        have hF : F_X2_run S p1 = (S2, (cO S2 9) - (cO S 9), 0) := by subst eS2; simp only [F_X2_run, if_neg c_1, if_pos c_8, if_pos c_29]
        rw [hF]
        exact x_iret hx hb hr hlocks hP hS dX2_run_70
      · skip
        have hF : F_X2_run S p1 = (S, 0, 2) := by simp only [F_X2_run, if_neg c_1, if_pos c_8, if_neg c_29]
        rw [hF]
        exact x_thr (kd := 2) (is := 113) (text := "the time would be above 100000") hx hb hlst hown hXs hZu hZn hts (by decide) (by decide +kernel) (by decide +kernel) (by decide +kernel) (by decide +kernel) hP hS (hl.1.trans hml.symm) dX2_run_32 dX2_run_35 dX2_run_36 dX2_run_38 dX2_run_41 htab (Nat.le_of_ble_eq_true rfl) (Nat.le_of_ble_eq_true rfl) (Nat.le_of_ble_eq_true rfl) (Nat.le_of_ble_eq_true rfl) hlocks
    · skip
      have hF : F_X2_run S p1 = (S, 0, 2) := by simp only [F_X2_run, if_neg c_1, if_neg c_8]
      rw [hF]
      exact x_thr (kd := 2) (is := 110) (text := "0 to 30000 ticks are done at once") hx hb hlst hown hXs hZu hZn hts (by decide) (by decide +kernel) (by decide +kernel) (by decide +kernel) (by decide +kernel) hP hS (hl.1.trans hml.symm) dX2_run_11 dX2_run_14 dX2_run_15 dX2_run_17 dX2_run_20 htab (Nat.le_of_ble_eq_true rfl) (Nat.le_of_ble_eq_true rfl) (Nat.le_of_ble_eq_true rfl) (Nat.le_of_ble_eq_true rfl) hlocks
set_option maxHeartbeats 4000000 in
set_option maxRecDepth 100000 in
theorem k_X2_told (l : Launch) (hlst : l.stackTraces = false) (D : va_G) (cy : Nat → ClassId) (ad sa : Nat → Nat) (S : Cs) (p1 : Int32) (p2 : Int32)  {N L b : Nat} (hok : okC N L b S)  : cXi l yX2_told wsX2_told { frames := 6, cells := 1, slots := 6, locals := 100 } D cy ad sa [.ref (ad 0), .int p1, .int p2] S (F_X2_told S p1 p2) := by
  intro sz
  refine vx_ofW (cc := cX2_told) (maxL := 4) (ret := (some .int)) (by decide) rfl ?_
  intro p e s m args below meth c s₁ B hml htab hv
  obtain ⟨rfl, ⟨hsz, hP, hK, hap0, hN⟩, hXs, hZu, hZn⟩ := hv
  have hx := B.exec
  have hb := B.bytes
  have hr := B.returns
  have hts := atoms_spec (ws := wsX2_told) B.pre
  have hown : s.vm.findClass RX2 = some m.cls := findClass_of_methodNamed B.named
  have hlocks := B.notSynchronized
  subst hsz
  have hap := gw_self (sz := s.heap.size) hap0
  generalize hAe : gA 48 ad s.heap.size = A at hap hZu hZn ⊢
  have hA : ∀ q : Nat, s.heap.size ≤ q → A q := fun q h => by rw [← hAe]; exact Or.inr h
  have hS : va_S A s.heap s.heap [] := va_S.rf
  have hinX1 : ∀ w ∈ wsX10, w ∈ wsX2_told := by decide +kernel
  have hinX2 : ∀ w ∈ wsX20, w ∈ wsX2_told := by decide +kernel
  have hl := lv_entry ([.ref (ad 0), .int p1, .int p2]) (n := 4) (Nat.le_of_ble_eq_true rfl)
  rw [lg_entry_eq]
  generalize (lg_sl ([.ref (ad 0), .int p1, .int p2]) ++ List.replicate (4 - (lg_sl ([.ref (ad 0), .int p1, .int p2])).length) Slot.unset).toArray = ls at hl ⊢
  have hl : lv_has ls 4 [(0, .ref (ad 0)), (1, .int p1), (2, .int p2)] := hl
  obtain ⟨H, hH⟩ : ∃ H, H = s.heap := ⟨_, rfl⟩
  rw [← hH] at hP
  have hS : va_S A s.heap H [] := by rw [hH]; exact hS
  rw [← hH]
  generalize ([] : List Loc) = locs at hS ⊢
  refine lv_aload_n hx hb dX2_told_0 rfl (lv_at hl 0 rfl) ?_
  refine lv_iload_n hx hb dX2_told_1 rfl (lv_at hl 1 rfl) ?_
  refine c_cVi (As := [.int p1]) (rest := []) (k := 0) (ci := 2) (q := (RX2, TX2, 12)) ⟨hx, hb, hml, hown, hts⟩ (k_X2_isTask l D cy ad S p1) (cwV 1 hts gX2_told_X2_isTask rfl rfl rfl (by decide +kernel) ⟨Nat.le_of_ble_eq_true rfl, Nat.le_of_ble_eq_true rfl⟩) hK hap hA hN hP hS (by omega) (cE_O cy ad S) rfl rfl hl.1 rfl (Nat.le_of_ble_eq_true rfl) dX2_told_2 ⟨Nat.zero_le _, Nat.zero_le _⟩ (fun H locs hP hS => ?_)
  obtain ⟨S1, eS1⟩ : ∃ z : Cs, z = (F_X2_isTask S p1).1 := ⟨_, rfl⟩
  rw [← eS1] at hP
  have hok1 : okC N L b S1 := by rw [eS1]; exact ok_X2_isTask hok 
  refine lv_if_ne (tgt := 18) hx hb dX2_told_5 (by decide) (fun c_5 => ?_) (fun c_5 => ?_)
  · skip
    refine lv_aload_n hx hb dX2_told_18 rfl (lv_at hl 0 rfl) ?_
    refine c_gO hx hb hts hinX2 hown hK hP 1 (by decide) (hts (.fieldLink RX2 17 "FeedbackQueues" "tasks" "[LFeedbackQueues$Task;") (by decide +kernel)) rfl dX2_told_19 ?_
    refine lv_iload_n hx hb dX2_told_22 rfl (lv_at hl 1 rfl) ?_
    refine c_aT (k := (p1).toNatClampNeg) hx hb hK hP (isT_ix hok c_5) dX2_told_23 ?_
    refine lv_astore_n (lv' := [(3, .ref (ad (16 + 2 * ((p1).toNatClampNeg)))), (0, .ref (ad 0)), (1, .int p1), (2, .int p2)]) hx hb dX2_told_24 rfl hl (by decide) rfl (fun ls hl => ?_)
    refine lv_iload_n hx hb dX2_told_25 rfl (lv_at hl 3 rfl) ?_
    by_cases c_26_0 : p2 = 0
    · skip
      refine lv_tableIn (off := 54) (tgt := 80) hx hb dX2_told_26 (by rw [c_26_0]; decide) (by rw [c_26_0]; decide) (by rw [c_26_0]; rfl) (by decide) ?_
      refine lv_aload_n hx hb dX2_told_80 rfl (lv_at hl 0 rfl) ?_
      refine c_gTN (i := (p1).toNatClampNeg) hx hb hts hinX1 hown hK hP ((isT_ix hok c_5).2.2) 4 (by decide) (hN.fld (args := _) (a := "FeedbackQueues") (i := 118) (b := "FeedbackQueues$Task") (n := "state") (d := "I") (h' := "FeedbackQueues") (by decide +kernel)) rfl dX2_told_81 ?_
      have hF : F_X2_told S p1 p2 = (S1, cT S1 ((p1).toNatClampNeg) 4, 0) := by subst eS1; simp only [F_X2_told, if_neg c_5, if_pos c_26_0]
      rw [hF]
      exact x_iret hx hb hr hlocks hP hS dX2_told_84
    · skip
      by_cases c_26_1 : p2 = 1
      · skip
        refine lv_tableIn (off := 59) (tgt := 85) hx hb dX2_told_26 (by rw [c_26_1]; decide) (by rw [c_26_1]; decide) (by rw [c_26_1]; rfl) (by decide) ?_
        refine lv_aload_n hx hb dX2_told_85 rfl (lv_at hl 0 rfl) ?_
        refine c_gTN (i := (p1).toNatClampNeg) hx hb hts hinX1 hown hK hP ((isT_ix hok c_5).2.2) 5 (by decide) (hN.fld (args := _) (a := "FeedbackQueues") (i := 121) (b := "FeedbackQueues$Task") (n := "level") (d := "I") (h' := "FeedbackQueues") (by decide +kernel)) rfl dX2_told_86 ?_
        have hF : F_X2_told S p1 p2 = (S1, cT S1 ((p1).toNatClampNeg) 5, 0) := by subst eS1; simp only [F_X2_told, if_neg c_5, if_neg c_26_0, if_pos c_26_1]
        rw [hF]
        exact x_iret hx hb hr hlocks hP hS dX2_told_89
      · skip
        by_cases c_26_2 : p2 = 2
        · skip
          refine lv_tableIn (off := 64) (tgt := 90) hx hb dX2_told_26 (by rw [c_26_2]; decide) (by rw [c_26_2]; decide) (by rw [c_26_2]; rfl) (by decide) ?_
          refine lv_aload_n hx hb dX2_told_90 rfl (lv_at hl 0 rfl) ?_
          refine c_gTN (i := (p1).toNatClampNeg) hx hb hts hinX1 hown hK hP ((isT_ix hok c_5).2.2) 11 (by decide) (hN.fld (args := _) (a := "FeedbackQueues") (i := 124) (b := "FeedbackQueues$Task") (n := "ticksRun") (d := "I") (h' := "FeedbackQueues") (by decide +kernel)) rfl dX2_told_91 ?_
          have hF : F_X2_told S p1 p2 = (S1, cT S1 ((p1).toNatClampNeg) 11, 0) := by subst eS1; simp only [F_X2_told, if_neg c_5, if_neg c_26_0, if_neg c_26_1, if_pos c_26_2]
          rw [hF]
          exact x_iret hx hb hr hlocks hP hS dX2_told_94
        · skip
          by_cases c_26_3 : p2 = 3
          · skip
            refine lv_tableIn (off := 69) (tgt := 95) hx hb dX2_told_26 (by rw [c_26_3]; decide) (by rw [c_26_3]; decide) (by rw [c_26_3]; rfl) (by decide) ?_
            refine lv_aload_n hx hb dX2_told_95 rfl (lv_at hl 0 rfl) ?_
            refine c_gTN (i := (p1).toNatClampNeg) hx hb hts hinX1 hown hK hP ((isT_ix hok c_5).2.2) 12 (by decide) (hN.fld (args := _) (a := "FeedbackQueues") (i := 127) (b := "FeedbackQueues$Task") (n := "ticksReady") (d := "I") (h' := "FeedbackQueues") (by decide +kernel)) rfl dX2_told_96 ?_
            have hF : F_X2_told S p1 p2 = (S1, cT S1 ((p1).toNatClampNeg) 12, 0) := by subst eS1; simp only [F_X2_told, if_neg c_5, if_neg c_26_0, if_neg c_26_1, if_neg c_26_2, if_pos c_26_3]
            rw [hF]
            exact x_iret hx hb hr hlocks hP hS dX2_told_99
          · skip
            by_cases c_26_4 : p2 = 4
            · skip
              refine lv_tableIn (off := 74) (tgt := 100) hx hb dX2_told_26 (by rw [c_26_4]; decide) (by rw [c_26_4]; decide) (by rw [c_26_4]; rfl) (by decide) ?_
              refine lv_aload_n hx hb dX2_told_100 rfl (lv_at hl 0 rfl) ?_
              refine c_gTN (i := (p1).toNatClampNeg) hx hb hts hinX1 hown hK hP ((isT_ix hok c_5).2.2) 13 (by decide) (hN.fld (args := _) (a := "FeedbackQueues") (i := 130) (b := "FeedbackQueues$Task") (n := "ticksBlocked") (d := "I") (h' := "FeedbackQueues") (by decide +kernel)) rfl dX2_told_101 ?_
              have hF : F_X2_told S p1 p2 = (S1, cT S1 ((p1).toNatClampNeg) 13, 0) := by subst eS1; simp only [F_X2_told, if_neg c_5, if_neg c_26_0, if_neg c_26_1, if_neg c_26_2, if_neg c_26_3, if_pos c_26_4]
              rw [hF]
              exact x_iret hx hb hr hlocks hP hS dX2_told_104
            · skip
              by_cases c_26_5 : p2 = 5
              · skip
                refine lv_tableIn (off := 79) (tgt := 105) hx hb dX2_told_26 (by rw [c_26_5]; decide) (by rw [c_26_5]; decide) (by rw [c_26_5]; rfl) (by decide) ?_
                refine lv_aload_n hx hb dX2_told_105 rfl (lv_at hl 0 rfl) ?_
                refine c_gTN (i := (p1).toNatClampNeg) hx hb hts hinX1 hown hK hP ((isT_ix hok c_5).2.2) 14 (by decide) (hN.fld (args := _) (a := "FeedbackQueues") (i := 133) (b := "FeedbackQueues$Task") (n := "firstRun") (d := "I") (h' := "FeedbackQueues") (by decide +kernel)) rfl dX2_told_106 ?_
                have hF : F_X2_told S p1 p2 = (S1, cT S1 ((p1).toNatClampNeg) 14, 0) := by subst eS1; simp only [F_X2_told, if_neg c_5, if_neg c_26_0, if_neg c_26_1, if_neg c_26_2, if_neg c_26_3, if_neg c_26_4, if_pos c_26_5]
                rw [hF]
                exact x_iret hx hb hr hlocks hP hS dX2_told_109
              · skip
                by_cases c_26_6 : p2 = 6
                · skip
                  refine lv_tableIn (off := 84) (tgt := 110) hx hb dX2_told_26 (by rw [c_26_6]; decide) (by rw [c_26_6]; decide) (by rw [c_26_6]; rfl) (by decide) ?_
                  refine lv_aload_n hx hb dX2_told_110 rfl (lv_at hl 0 rfl) ?_
                  refine c_gTN (i := (p1).toNatClampNeg) hx hb hts hinX1 hown hK hP ((isT_ix hok c_5).2.2) 15 (by decide) (hN.fld (args := _) (a := "FeedbackQueues") (i := 136) (b := "FeedbackQueues$Task") (n := "endedAt") (d := "I") (h' := "FeedbackQueues") (by decide +kernel)) rfl dX2_told_111 ?_
                  have hF : F_X2_told S p1 p2 = (S1, cT S1 ((p1).toNatClampNeg) 15, 0) := by subst eS1; simp only [F_X2_told, if_neg c_5, if_neg c_26_0, if_neg c_26_1, if_neg c_26_2, if_neg c_26_3, if_neg c_26_4, if_neg c_26_5, if_pos c_26_6]
                  rw [hF]
                  exact x_iret hx hb hr hlocks hP hS dX2_told_114
                · skip
                  by_cases c_26_7 : p2 = 7
                  · skip
                    refine lv_tableIn (off := 89) (tgt := 115) hx hb dX2_told_26 (by rw [c_26_7]; decide) (by rw [c_26_7]; decide) (by rw [c_26_7]; rfl) (by decide) ?_
                    refine lv_aload_n hx hb dX2_told_115 rfl (lv_at hl 0 rfl) ?_
                    refine c_gTN (i := (p1).toNatClampNeg) hx hb hts hinX1 hown hK hP ((isT_ix hok c_5).2.2) 16 (by decide) (hN.fld (args := _) (a := "FeedbackQueues") (i := 139) (b := "FeedbackQueues$Task") (n := "timesSwitchedTo") (d := "I") (h' := "FeedbackQueues") (by decide +kernel)) rfl dX2_told_116 ?_
                    have hF : F_X2_told S p1 p2 = (S1, cT S1 ((p1).toNatClampNeg) 16, 0) := by subst eS1; simp only [F_X2_told, if_neg c_5, if_neg c_26_0, if_neg c_26_1, if_neg c_26_2, if_neg c_26_3, if_neg c_26_4, if_neg c_26_5, if_neg c_26_6, if_pos c_26_7]
                    rw [hF]
                    exact x_iret hx hb hr hlocks hP hS dX2_told_119
                  · skip
                    by_cases c_26_8 : p2 = 8
                    · skip
                      refine lv_tableIn (off := 94) (tgt := 120) hx hb dX2_told_26 (by rw [c_26_8]; decide) (by rw [c_26_8]; decide) (by rw [c_26_8]; rfl) (by decide) ?_
                      refine lv_aload_n hx hb dX2_told_120 rfl (lv_at hl 0 rfl) ?_
                      refine c_gTN (i := (p1).toNatClampNeg) hx hb hts hinX1 hown hK hP ((isT_ix hok c_5).2.2) 17 (by decide) (hN.fld (args := _) (a := "FeedbackQueues") (i := 142) (b := "FeedbackQueues$Task") (n := "timesDown") (d := "I") (h' := "FeedbackQueues") (by decide +kernel)) rfl dX2_told_121 ?_
                      have hF : F_X2_told S p1 p2 = (S1, cT S1 ((p1).toNatClampNeg) 17, 0) := by subst eS1; simp only [F_X2_told, if_neg c_5, if_neg c_26_0, if_neg c_26_1, if_neg c_26_2, if_neg c_26_3, if_neg c_26_4, if_neg c_26_5, if_neg c_26_6, if_neg c_26_7, if_pos c_26_8]
                      rw [hF]
                      exact x_iret hx hb hr hlocks hP hS dX2_told_124
                    · skip
                      by_cases c_26_9 : p2 = 9
                      · skip
                        refine lv_tableIn (off := 99) (tgt := 125) hx hb dX2_told_26 (by rw [c_26_9]; decide) (by rw [c_26_9]; decide) (by rw [c_26_9]; rfl) (by decide) ?_
                        refine lv_aload_n hx hb dX2_told_125 rfl (lv_at hl 0 rfl) ?_
                        refine c_gTN (i := (p1).toNatClampNeg) hx hb hts hinX1 hown hK hP ((isT_ix hok c_5).2.2) 18 (by decide) (hN.fld (args := _) (a := "FeedbackQueues") (i := 145) (b := "FeedbackQueues$Task") (n := "timesToFront") (d := "I") (h' := "FeedbackQueues") (by decide +kernel)) rfl dX2_told_126 ?_
                        have hF : F_X2_told S p1 p2 = (S1, cT S1 ((p1).toNatClampNeg) 18, 0) := by subst eS1; simp only [F_X2_told, if_neg c_5, if_neg c_26_0, if_neg c_26_1, if_neg c_26_2, if_neg c_26_3, if_neg c_26_4, if_neg c_26_5, if_neg c_26_6, if_neg c_26_7, if_neg c_26_8, if_pos c_26_9]
                        rw [hF]
                        exact x_iret hx hb hr hlocks hP hS dX2_told_129
                      · skip
                        refine lv_tableOut (tgt := 130) hx hb dX2_told_26 (sw_out (n := 10) (by decide) (fun k hk => by
                            rcases (show k = 0 ∨ k = 1 ∨ k = 2 ∨ k = 3 ∨ k = 4 ∨ k = 5 ∨ k = 6 ∨ k = 7 ∨ k = 8 ∨ k = 9 from by omega) with rfl | rfl | rfl | rfl | rfl | rfl | rfl | rfl | rfl | rfl
                            · exact fun z => c_26_0 (z.trans (by decide))
                            · exact fun z => c_26_1 (z.trans (by decide))
                            · exact fun z => c_26_2 (z.trans (by decide))
                            · exact fun z => c_26_3 (z.trans (by decide))
                            · exact fun z => c_26_4 (z.trans (by decide))
                            · exact fun z => c_26_5 (z.trans (by decide))
                            · exact fun z => c_26_6 (z.trans (by decide))
                            · exact fun z => c_26_7 (z.trans (by decide))
                            · exact fun z => c_26_8 (z.trans (by decide))
                            · exact fun z => c_26_9 (z.trans (by decide))
                            )) (by decide) ?_
                        have hF : F_X2_told S p1 p2 = (S1, 0, 2) := by subst eS1; simp only [F_X2_told, if_neg c_5, if_neg c_26_0, if_neg c_26_1, if_neg c_26_2, if_neg c_26_3, if_neg c_26_4, if_neg c_26_5, if_neg c_26_6, if_neg c_26_7, if_neg c_26_8, if_neg c_26_9]
                        rw [hF]
                        exact x_thr (kd := 2) (is := 148) (text := "what is 0 to 9") hx hb hlst hown hXs hZu hZn hts (by decide) (by decide +kernel) (by decide +kernel) (by decide +kernel) (by decide +kernel) hP hS (hl.1.trans hml.symm) dX2_told_130 dX2_told_133 dX2_told_134 dX2_told_136 dX2_told_139 htab (Nat.le_of_ble_eq_true rfl) (Nat.le_of_ble_eq_true rfl) (Nat.le_of_ble_eq_true rfl) (Nat.le_of_ble_eq_true rfl) hlocks
  · skip
    have hF : F_X2_told S p1 p2 = (S1, 0, 1) := by subst eS1; simp only [F_X2_told, if_pos c_5]
    rw [hF]
    exact x_thr (kd := 1) (is := 102) (text := "there is no such process") hx hb hlst hown hXs hZu hZn hts (by decide) (by decide +kernel) (by decide +kernel) (by decide +kernel) (by decide +kernel) hP hS (hl.1.trans hml.symm) dX2_told_8 dX2_told_11 dX2_told_12 dX2_told_14 dX2_told_17 htab (Nat.le_of_ble_eq_true rfl) (Nat.le_of_ble_eq_true rfl) (Nat.le_of_ble_eq_true rfl) (Nat.le_of_ble_eq_true rfl) hlocks
set_option maxHeartbeats 4000000 in
set_option maxRecDepth 100000 in
theorem k_X2_queued (l : Launch) (hlst : l.stackTraces = false) (D : va_G) (cy : Nat → ClassId) (ad sa : Nat → Nat) (S : Cs) (p1 : Int32) (p2 : Int32)  {N L b : Nat} (hok : okC N L b S)  : cXi l yX2_queued wsX2_queued { frames := 6, cells := 1, slots := 6, locals := 100 } D cy ad sa [.ref (ad 0), .int p1, .int p2] S (F_X2_queued S p1 p2) := by
  intro sz
  refine vx_ofW (cc := cX2_queued) (maxL := 3) (ret := (some .int)) (by decide) rfl ?_
  intro p e s m args below meth c s₁ B hml htab hv
  obtain ⟨rfl, ⟨hsz, hP, hK, hap0, hN⟩, hXs, hZu, hZn⟩ := hv
  have hx := B.exec
  have hb := B.bytes
  have hr := B.returns
  have hts := atoms_spec (ws := wsX2_queued) B.pre
  have hown : s.vm.findClass RX2 = some m.cls := findClass_of_methodNamed B.named
  have hlocks := B.notSynchronized
  subst hsz
  have hap := gw_self (sz := s.heap.size) hap0
  generalize hAe : gA 48 ad s.heap.size = A at hap hZu hZn ⊢
  have hA : ∀ q : Nat, s.heap.size ≤ q → A q := fun q h => by rw [← hAe]; exact Or.inr h
  have hS : va_S A s.heap s.heap [] := va_S.rf
  have hinX2 : ∀ w ∈ wsX20, w ∈ wsX2_queued := by decide +kernel
  have hl := lv_entry ([.ref (ad 0), .int p1, .int p2]) (n := 3) (Nat.le_of_ble_eq_true rfl)
  rw [lg_entry_eq]
  generalize (lg_sl ([.ref (ad 0), .int p1, .int p2]) ++ List.replicate (3 - (lg_sl ([.ref (ad 0), .int p1, .int p2])).length) Slot.unset).toArray = ls at hl ⊢
  have hl : lv_has ls 3 [(0, .ref (ad 0)), (1, .int p1), (2, .int p2)] := hl
  obtain ⟨H, hH⟩ : ∃ H, H = s.heap := ⟨_, rfl⟩
  rw [← hH] at hP
  have hS : va_S A s.heap H [] := by rw [hH]; exact hS
  rw [← hH]
  generalize ([] : List Loc) = locs at hS ⊢
  refine lv_aload_n hx hb dX2_queued_0 rfl (lv_at hl 0 rfl) ?_
  refine lv_iload_n hx hb dX2_queued_1 rfl (lv_at hl 1 rfl) ?_
  refine c_cVi (As := [.int p1]) (rest := []) (k := 0) (ci := 2) (q := (RX2, TX2, 12)) ⟨hx, hb, hml, hown, hts⟩ (k_X2_isLevel l D cy ad S p1) (cwV 1 hts gX2_queued_X2_isLevel rfl rfl rfl (by decide +kernel) ⟨Nat.le_of_ble_eq_true rfl, Nat.le_of_ble_eq_true rfl⟩) hK hap hA hN hP hS (by omega) (cE_O cy ad S) rfl rfl hl.1 rfl (Nat.le_of_ble_eq_true rfl) dX2_queued_2 ⟨Nat.zero_le _, Nat.zero_le _⟩ (fun H locs hP hS => ?_)
  obtain ⟨S1, eS1⟩ : ∃ z : Cs, z = (F_X2_isLevel S p1).1 := ⟨_, rfl⟩
  rw [← eS1] at hP
  have hok1 : okC N L b S1 := by rw [eS1]; exact ok_X2_isLevel hok 
  refine lv_if_ne (tgt := 18) hx hb dX2_queued_5 (by decide) (fun c_5 => ?_) (fun c_5 => ?_)
  · skip
    refine lv_aload_n hx hb dX2_queued_18 rfl (lv_at hl 0 rfl) ?_
    refine c_gO hx hb hts hinX2 hown hK hP 0 (by decide) (hts (.fieldLink RX2 11 "FeedbackQueues" "levelRows" "[LFeedbackQueues$Level;") (by decide +kernel)) rfl dX2_queued_19 ?_
    refine lv_iload_n hx hb dX2_queued_22 rfl (lv_at hl 1 rfl) ?_
    refine c_aL (k := (p1).toNatClampNeg) hx hb hK hP (isL_ix hok c_5) dX2_queued_23 ?_
    refine lv_iload_n hx hb dX2_queued_24 rfl (lv_at hl 2 rfl) ?_
    refine c_cNi (As := [.int p2]) (rest := []) (k := (4 + 2 * ((p1).toNatClampNeg))) (ci := 0) (q := (RX0, TX0, 4)) ⟨hx, hb, hml, hown, hts⟩ (k_X0_at l D cy ad S1 ((p1).toNatClampNeg) p2 ((isL_ix hok c_5).2.2) (okC_sz hok1 (isL_ix hok c_5).2.2)) ⟨va_cnB (host := "FeedbackQueues") 1 hts gX2_queued_X0_at_n153 rfl rfl rfl (hN.mth (a := RX2) (i := 153) (x := yX0_at) (h' := "FeedbackQueues") (by decide +kernel)) (hts (.initialized RX0) (by decide +kernel)) (by decide +kernel) ⟨Nat.le_of_ble_eq_true rfl, Nat.le_of_ble_eq_true rfl⟩, hts (.instanceMethod yX0_at) (by decide +kernel), hts (.selects RX0 yX0_at yX0_at) (by decide +kernel)⟩ hK hap hA hN hP hS (by have h9 := ((isL_ix hok c_5).2.2); omega) (cE_L cy ad S1 ((isL_ix hok c_5).2.2)) rfl rfl hl.1 rfl (Nat.le_of_ble_eq_true rfl) dX2_queued_25 ⟨Nat.zero_le _, Nat.zero_le _⟩ (fun H locs hP hS => ?_)
    obtain ⟨S2, eS2⟩ : ∃ z : Cs, z = (F_X0_at S1 ((p1).toNatClampNeg) p2).1 := ⟨_, rfl⟩
    rw [← eS2] at hP
    have hF : F_X2_queued S p1 p2 = (S2, (F_X0_at S1 ((p1).toNatClampNeg) p2).2, 0) := by subst eS2 eS1; simp only [F_X2_queued, if_neg c_5]
    rw [hF]
    exact x_iret hx hb hr hlocks hP hS dX2_queued_28
  · skip
    have hF : F_X2_queued S p1 p2 = (S1, 0, 1) := by subst eS1; simp only [F_X2_queued, if_pos c_5]
    rw [hF]
    exact x_thr (kd := 1) (is := 80) (text := "there is no such level") hx hb hlst hown hXs hZu hZn hts (by decide) (by decide +kernel) (by decide +kernel) (by decide +kernel) (by decide +kernel) hP hS (hl.1.trans hml.symm) dX2_queued_8 dX2_queued_11 dX2_queued_12 dX2_queued_14 dX2_queued_17 htab (Nat.le_of_ble_eq_true rfl) (Nat.le_of_ble_eq_true rfl) (Nat.le_of_ble_eq_true rfl) (Nat.le_of_ble_eq_true rfl) hlocks
set_option maxHeartbeats 4000000 in
set_option maxRecDepth 100000 in
theorem k_X2_all (l : Launch) (hlst : l.stackTraces = false) (D : va_G) (cy : Nat → ClassId) (ad sa : Nat → Nat) (S : Cs) (p1 : Int32)   : cXi l yX2_all wsX2_all { frames := 6, cells := 1, slots := 6, locals := 100 } D cy ad sa [.ref (ad 0), .int p1] S (F_X2_all S p1) := by
  intro sz
  refine vx_ofW (cc := cX2_all) (maxL := 2) (ret := (some .int)) (by decide) rfl ?_
  intro p e s m args below meth c s₁ B hml htab hv
  obtain ⟨rfl, ⟨hsz, hP, hK, hap0, hN⟩, hXs, hZu, hZn⟩ := hv
  have hx := B.exec
  have hb := B.bytes
  have hr := B.returns
  have hts := atoms_spec (ws := wsX2_all) B.pre
  have hown : s.vm.findClass RX2 = some m.cls := findClass_of_methodNamed B.named
  have hlocks := B.notSynchronized
  subst hsz
  have hap := gw_self (sz := s.heap.size) hap0
  generalize hAe : gA 48 ad s.heap.size = A at hap hZu hZn ⊢
  have hA : ∀ q : Nat, s.heap.size ≤ q → A q := fun q h => by rw [← hAe]; exact Or.inr h
  have hS : va_S A s.heap s.heap [] := va_S.rf
  have hinX2 : ∀ w ∈ wsX20, w ∈ wsX2_all := by decide +kernel
  have hl := lv_entry ([.ref (ad 0), .int p1]) (n := 2) (Nat.le_of_ble_eq_true rfl)
  rw [lg_entry_eq]
  generalize (lg_sl ([.ref (ad 0), .int p1]) ++ List.replicate (2 - (lg_sl ([.ref (ad 0), .int p1])).length) Slot.unset).toArray = ls at hl ⊢
  have hl : lv_has ls 2 [(0, .ref (ad 0)), (1, .int p1)] := hl
  obtain ⟨H, hH⟩ : ∃ H, H = s.heap := ⟨_, rfl⟩
  rw [← hH] at hP
  have hS : va_S A s.heap H [] := by rw [hH]; exact hS
  rw [← hH]
  generalize ([] : List Loc) = locs at hS ⊢
  refine lv_iload_n hx hb dX2_all_0 rfl (lv_at hl 1 rfl) ?_
  by_cases c_1_0 : p1 = 0
  · skip
    refine lv_tableIn (off := 31) (tgt := 32) hx hb dX2_all_1 (by rw [c_1_0]; decide) (by rw [c_1_0]; decide) (by rw [c_1_0]; rfl) (by decide) ?_
    refine lv_aload_n hx hb dX2_all_32 rfl (lv_at hl 0 rfl) ?_
    refine c_gO hx hb hts hinX2 hown hK hP 8 (by decide) (hts (.fieldLink RX2 42 "FeedbackQueues" "switchCount" "I") (by decide +kernel)) rfl dX2_all_33 ?_
    have hF : F_X2_all S p1 = (S, cO S 8, 0) := by simp only [F_X2_all, if_pos c_1_0]
    rw [hF]
    exact x_iret hx hb hr hlocks hP hS dX2_all_36
  · skip
    by_cases c_1_1 : p1 = 1
    · skip
      refine lv_tableIn (off := 36) (tgt := 37) hx hb dX2_all_1 (by rw [c_1_1]; decide) (by rw [c_1_1]; decide) (by rw [c_1_1]; rfl) (by decide) ?_
      refine lv_aload_n hx hb dX2_all_37 rfl (lv_at hl 0 rfl) ?_
      refine c_gO hx hb hts hinX2 hown hK hP 9 (by decide) (hts (.fieldLink RX2 45 "FeedbackQueues" "idleCount" "I") (by decide +kernel)) rfl dX2_all_38 ?_
      have hF : F_X2_all S p1 = (S, cO S 9, 0) := by simp only [F_X2_all, if_neg c_1_0, if_pos c_1_1]
      rw [hF]
      exact x_iret hx hb hr hlocks hP hS dX2_all_41
    · skip
      by_cases c_1_2 : p1 = 2
      · skip
        refine lv_tableIn (off := 41) (tgt := 42) hx hb dX2_all_1 (by rw [c_1_2]; decide) (by rw [c_1_2]; decide) (by rw [c_1_2]; rfl) (by decide) ?_
        refine lv_aload_n hx hb dX2_all_42 rfl (lv_at hl 0 rfl) ?_
        refine c_gO hx hb hts hinX2 hown hK hP 10 (by decide) (hts (.fieldLink RX2 48 "FeedbackQueues" "comeUpCount" "I") (by decide +kernel)) rfl dX2_all_43 ?_
        have hF : F_X2_all S p1 = (S, cO S 10, 0) := by simp only [F_X2_all, if_neg c_1_0, if_neg c_1_1, if_pos c_1_2]
        rw [hF]
        exact x_iret hx hb hr hlocks hP hS dX2_all_46
      · skip
        by_cases c_1_3 : p1 = 3
        · skip
          refine lv_tableIn (off := 46) (tgt := 47) hx hb dX2_all_1 (by rw [c_1_3]; decide) (by rw [c_1_3]; decide) (by rw [c_1_3]; rfl) (by decide) ?_
          refine lv_aload_n hx hb dX2_all_47 rfl (lv_at hl 0 rfl) ?_
          refine c_gO hx hb hts hinX2 hown hK hP 11 (by decide) (hts (.fieldLink RX2 51 "FeedbackQueues" "endedCount" "I") (by decide +kernel)) rfl dX2_all_48 ?_
          have hF : F_X2_all S p1 = (S, cO S 11, 0) := by simp only [F_X2_all, if_neg c_1_0, if_neg c_1_1, if_neg c_1_2, if_pos c_1_3]
          rw [hF]
          exact x_iret hx hb hr hlocks hP hS dX2_all_51
        · skip
          refine lv_tableOut (tgt := 52) hx hb dX2_all_1 (sw_out (n := 4) (by decide) (fun k hk => by
              rcases (show k = 0 ∨ k = 1 ∨ k = 2 ∨ k = 3 from by omega) with rfl | rfl | rfl | rfl
              · exact fun z => c_1_0 (z.trans (by decide))
              · exact fun z => c_1_1 (z.trans (by decide))
              · exact fun z => c_1_2 (z.trans (by decide))
              · exact fun z => c_1_3 (z.trans (by decide))
              )) (by decide) ?_
          have hF : F_X2_all S p1 = (S, 0, 2) := by simp only [F_X2_all, if_neg c_1_0, if_neg c_1_1, if_neg c_1_2, if_neg c_1_3]
          rw [hF]
          exact x_thr (kd := 2) (is := 156) (text := "what is 0 to 3") hx hb hlst hown hXs hZu hZn hts (by decide) (by decide +kernel) (by decide +kernel) (by decide +kernel) (by decide +kernel) hP hS (hl.1.trans hml.symm) dX2_all_52 dX2_all_55 dX2_all_56 dX2_all_58 dX2_all_61 htab (Nat.le_of_ble_eq_true rfl) (Nat.le_of_ble_eq_true rfl) (Nat.le_of_ble_eq_true rfl) (Nat.le_of_ble_eq_true rfl) hlocks
set_option maxHeartbeats 4000000 in
set_option maxRecDepth 100000 in
theorem k_X2_switched (l : Launch) (hlst : l.stackTraces = false) (D : va_G) (cy : Nat → ClassId) (ad sa : Nat → Nat) (S : Cs) (p1 : Int32)   : cXi l yX2_switched wsX2_switched { frames := 6, cells := 1, slots := 6, locals := 100 } D cy ad sa [.ref (ad 0), .int p1] S (F_X2_switched S p1) := by
  intro sz
  refine vx_ofW (cc := cX2_switched) (maxL := 2) (ret := (some .int)) (by decide) rfl ?_
  intro p e s m args below meth c s₁ B hml htab hv
  obtain ⟨rfl, ⟨hsz, hP, hK, hap0, hN⟩, hXs, hZu, hZn⟩ := hv
  have hx := B.exec
  have hb := B.bytes
  have hr := B.returns
  have hts := atoms_spec (ws := wsX2_switched) B.pre
  have hown : s.vm.findClass RX2 = some m.cls := findClass_of_methodNamed B.named
  have hlocks := B.notSynchronized
  subst hsz
  have hap := gw_self (sz := s.heap.size) hap0
  generalize hAe : gA 48 ad s.heap.size = A at hap hZu hZn ⊢
  have hA : ∀ q : Nat, s.heap.size ≤ q → A q := fun q h => by rw [← hAe]; exact Or.inr h
  have hS : va_S A s.heap s.heap [] := va_S.rf
  have hinX2 : ∀ w ∈ wsX20, w ∈ wsX2_switched := by decide +kernel
  have hl := lv_entry ([.ref (ad 0), .int p1]) (n := 2) (Nat.le_of_ble_eq_true rfl)
  rw [lg_entry_eq]
  generalize (lg_sl ([.ref (ad 0), .int p1]) ++ List.replicate (2 - (lg_sl ([.ref (ad 0), .int p1])).length) Slot.unset).toArray = ls at hl ⊢
  have hl : lv_has ls 2 [(0, .ref (ad 0)), (1, .int p1)] := hl
  obtain ⟨H, hH⟩ : ∃ H, H = s.heap := ⟨_, rfl⟩
  rw [← hH] at hP
  have hS : va_S A s.heap H [] := by rw [hH]; exact hS
  rw [← hH]
  generalize ([] : List Loc) = locs at hS ⊢
  refine lv_iload_n hx hb dX2_switched_0 rfl (lv_at hl 1 rfl) ?_
  refine lv_if_lt (tgt := 19) hx hb dX2_switched_1 (by decide) (fun c_1 => ?_) (fun c_1 => ?_)
  · skip
    have hF : F_X2_switched S p1 = (S, 0, 1) := by simp only [F_X2_switched, if_pos c_1]
    rw [hF]
    exact x_thr (kd := 1) (is := 158) (text := "this switch is not kept") hx hb hlst hown hXs hZu hZn hts (by decide) (by decide +kernel) (by decide +kernel) (by decide +kernel) (by decide +kernel) hP hS (hl.1.trans hml.symm) dX2_switched_19 dX2_switched_22 dX2_switched_23 dX2_switched_25 dX2_switched_28 htab (Nat.le_of_ble_eq_true rfl) (Nat.le_of_ble_eq_true rfl) (Nat.le_of_ble_eq_true rfl) (Nat.le_of_ble_eq_true rfl) hlocks
  · skip
    refine lv_iload_n hx hb dX2_switched_4 rfl (lv_at hl 1 rfl) ?_
    refine lv_aload_n hx hb dX2_switched_5 rfl (lv_at hl 0 rfl) ?_
    refine c_gO hx hb hts hinX2 hown hK hP 8 (by decide) (hts (.fieldLink RX2 42 "FeedbackQueues" "switchCount" "I") (by decide +kernel)) rfl dX2_switched_6 ?_
    refine lv_icmp_ge (tgt := 19) hx hb dX2_switched_9 (by decide) (fun c_9 => ?_) (fun c_9 => ?_)
    · skip
      have hF : F_X2_switched S p1 = (S, 0, 1) := by simp only [F_X2_switched, if_neg c_1, if_pos c_9]
      rw [hF]
      exact x_thr (kd := 1) (is := 158) (text := "this switch is not kept") hx hb hlst hown hXs hZu hZn hts (by decide) (by decide +kernel) (by decide +kernel) (by decide +kernel) (by decide +kernel) hP hS (hl.1.trans hml.symm) dX2_switched_19 dX2_switched_22 dX2_switched_23 dX2_switched_25 dX2_switched_28 htab (Nat.le_of_ble_eq_true rfl) (Nat.le_of_ble_eq_true rfl) (Nat.le_of_ble_eq_true rfl) (Nat.le_of_ble_eq_true rfl) hlocks
    · skip
      refine lv_iload_n hx hb dX2_switched_12 rfl (lv_at hl 1 rfl) ?_
      refine lv_sipush (v := 400) hx hb dX2_switched_13 (by decide) ?_
      refine lv_icmp_lt (tgt := 29) hx hb dX2_switched_16 (by decide) (fun c_16 => ?_) (fun c_16 => ?_)
      · skip
        refine lv_aload_n hx hb dX2_switched_29 rfl (lv_at hl 0 rfl) ?_
        refine c_gO hx hb hts hinX2 hown hK hP 2 (by decide) (hts (.fieldLink RX2 21 "FeedbackQueues" "switchesKept" "[I") (by decide +kernel)) rfl dX2_switched_30 ?_
        refine lv_iload_n hx hb dX2_switched_33 rfl (lv_at hl 1 rfl) ?_
        refine c_iW (k := (p1).toNatClampNeg) hx hb hK hP (sw_ix c_1 c_16) dX2_switched_34 ?_
        have hF : F_X2_switched S p1 = (S, cW S ((p1).toNatClampNeg), 0) := by simp only [F_X2_switched, if_neg c_1, if_neg c_9, if_pos c_16]
        rw [hF]
        exact x_iret hx hb hr hlocks hP hS dX2_switched_35
      · skip
        have hF : F_X2_switched S p1 = (S, 0, 1) := by simp only [F_X2_switched, if_neg c_1, if_neg c_9, if_neg c_16]
        rw [hF]
        exact x_thr (kd := 1) (is := 158) (text := "this switch is not kept") hx hb hlst hown hXs hZu hZn hts (by decide) (by decide +kernel) (by decide +kernel) (by decide +kernel) (by decide +kernel) hP hS (hl.1.trans hml.symm) dX2_switched_19 dX2_switched_22 dX2_switched_23 dX2_switched_25 dX2_switched_28 htab (Nat.le_of_ble_eq_true rfl) (Nat.le_of_ble_eq_true rfl) (Nat.le_of_ble_eq_true rfl) (Nat.le_of_ble_eq_true rfl) hlocks
