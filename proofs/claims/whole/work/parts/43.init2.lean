set_option maxHeartbeats 1000000 in
set_option maxRecDepth 100000 in
theorem k_X2_init (l : Launch) (D : va_G) (cy : Nat → ClassId) (h0 sz : Nat) : Met l yX2_init wsX2_init { frames := 2, cells := 47, slots := 1038, locals := 41 } (va_Pc [.ref h0] (fun U => U.heap.size = sz ∧ va_P D vwCl [(h0, .inr (2, [.null, .null, .null, .int 0, .int 0, .int 0, .int 0, .null, .int 0, .int 0, .int 0, .int 0]))] U.heap ∧ va_K D vwCl (tyL cy) U ∧ Nst U ∧ va_AO RX0 U ∧ va_AO RX1 U ∧ va_D (fun _ => True) [(h0, .inr (2, [.null, .null, .null, .int 0, .int 0, .int 0, .int 0, .null, .int 0, .int 0, .int 0, .int 0]))])) (va_Qv (fun ad : Nat → Nat => ad 0 = h0) (fun ad t => va_P D vwCl (cwl cy ad cs0) t.heap ∧ gw_ap 48 ad (va_A [(h0, .inr (2, [.null, .null, .null, .int 0, .int 0, .int 0, .int 0, .null, .int 0, .int 0, .int 0, .int 0]))] sz)) (va_A [(h0, .inr (2, [.null, .null, .null, .int 0, .int 0, .int 0, .int 0, .null, .int 0, .int 0, .int 0, .int 0]))] sz)) 47 1038 (va_A [(h0, .inr (2, [.null, .null, .null, .int 0, .int 0, .int 0, .int 0, .null, .int 0, .int 0, .int 0, .int 0]))] sz) := by
  refine Met.ofW (cc := cX2_init) (maxL := 2) (ret := none) (by decide) rfl ?_
  intro p e s m args below meth c s₁ B hml hv
  obtain ⟨rfl, hsz, hP, hK, hN, hAO0, hAO1, hD0⟩ := hv
  have hx := B.exec
  have hb := B.bytes
  have hr := B.returns
  have hts := atoms_spec (ws := wsX2_init) B.pre
  have hown : s.vm.findClass RX2 = some m.cls := findClass_of_methodNamed B.named
  have hlocks := B.notSynchronized
  have hin : meth.name = "<init>" := (name_of_methodNamed B.named B.method).1
  have hinX : ∀ w ∈ wsX20, w ∈ wsX2_init := by decide +kernel
  subst hsz
  have hD := hD0.self (sz := s.heap.size)
  generalize hAe : va_A [(h0, .inr (2, [.null, .null, .null, .int 0, .int 0, .int 0, .int 0, .null, .int 0, .int 0, .int 0, .int 0]))] s.heap.size = A at hD ⊢
  have hA : ∀ q : Nat, s.heap.size ≤ q → A q := fun q h => by rw [← hAe]; exact Or.inr h
  have hS : va_S A s.heap s.heap [] := va_S.rf
  have hl := lv_entry ([.ref h0]) (n := 2) (Nat.le_of_ble_eq_true rfl)
  rw [lg_entry_eq]
  generalize (lg_sl ([.ref h0]) ++ List.replicate (2 - (lg_sl ([.ref h0])).length) Slot.unset).toArray = ls at hl ⊢
  have hl : lv_has ls 2 [(0, .ref h0)] := hl
  refine lv_aload_n hx hb dX2_init_0 rfl (lv_at hl 0 rfl) ?_
  refine W.objInit hx hb hown (hts (.methodLink RX2 1 objectInit) (by decide +kernel)) (hts (.instanceMethod objectInit) (by decide +kernel)) (hts _ (List.mem_cons_of_mem _ (List.mem_append_left _ (List.mem_append_left _ (List.mem_append_left _ (List.mem_append_left _ (List.mem_of_getElem? (i := 2) rfl))))))) rfl (by rw [hml]; exact hl.1) rfl dX2_init_1 (Nat.le_of_ble_eq_true rfl) (Nat.le_of_ble_eq_true rfl) ?_
  refine W.eq (g2 := F0 m 4 ls []) rfl ?_
  refine lv_aload_n hx hb dX2_init_4 rfl (lv_at hl 0 rfl) ?_
  refine lv_bipush (v := 6) hx hb dX2_init_5 (by decide) ?_
  refine va_newq (C := RX0) (N' := 6) hx hb hown (hts (.classLink RX2 9 RX0) (by decide +kernel)) hAO0 hK hP hD hS hA (by decide) (by decide) (by decide) (Nat.le_of_ble_eq_true rfl) (Nat.le_of_ble_eq_true rfl) dX2_init_7 (fun q1 cA H hK1 hP hD hS => ?_)
  have hcA : cA = cy 2 := ca_lev hK hK1
  subst hcA
  have hP : va_P D vwCl [(h0, .inr (2, [.null, .null, .null, .int 0, .int 0, .int 0, .int 0, .null, .int 0, .int 0, .int 0, .int 0])), (q1, .inl (cy 2, 6, .inr (.inr (.inr (.inr (fun _ => none))))))] H := hP
  have hD : va_D A [(h0, .inr (2, [.null, .null, .null, .int 0, .int 0, .int 0, .int 0, .null, .int 0, .int 0, .int 0, .int 0])), (q1, .inl (cy 2, 6, .inr (.inr (.inr (.inr (fun _ => none))))))] := hD
  refine W.widen (k := 1) (n := 6) (by omega) (by omega) ?_
  refine va_putF (D := D) (ci := 2) (v := .ref q1) (ty := .array (.object "FeedbackQueues$Level")) (C := RX2) (T := TX2) (N := 12) hx hb hts hinX tyX2 tyX2_ok nmX2 hown hK hP hD hS 0 rfl rfl 0 (by decide) (hts (.fieldLink RX2 11 "FeedbackQueues" "levelRows" "[LFeedbackQueues$Level;") (by decide +kernel)) (fun _ h9 => h9) rfl hin rfl (by decide +kernel) rfl rfl (Nat.le_of_ble_eq_true rfl) dX2_init_10 (fun H locs hP hD hS => ?_)
  have hP : va_P D vwCl [(h0, .inr (2, [.ref q1, .null, .null, .int 0, .int 0, .int 0, .int 0, .null, .int 0, .int 0, .int 0, .int 0])), (q1, .inl (cy 2, 6, .inr (.inr (.inr (.inr (fun _ => none))))))] H := hP
  have hD : va_D A [(h0, .inr (2, [.ref q1, .null, .null, .int 0, .int 0, .int 0, .int 0, .null, .int 0, .int 0, .int 0, .int 0])), (q1, .inl (cy 2, 6, .inr (.inr (.inr (.inr (fun _ => none))))))] := hD
  refine lv_aload_n hx hb dX2_init_13 rfl (lv_at hl 0 rfl) ?_
  refine lv_bipush (v := 16) hx hb dX2_init_14 (by decide) ?_
  refine va_newq (C := RX1) (N' := 16) hx hb hown (hts (.classLink RX2 15 RX1) (by decide +kernel)) hAO1 hK hP hD hS hA (by decide) (by decide) (by decide) (Nat.le_of_ble_eq_true rfl) (Nat.le_of_ble_eq_true rfl) dX2_init_16 (fun q2 cA H hK1 hP hD hS => ?_)
  have hcA : cA = cy 3 := ca_tsk hK hK1
  subst hcA
  have hP : va_P D vwCl [(h0, .inr (2, [.ref q1, .null, .null, .int 0, .int 0, .int 0, .int 0, .null, .int 0, .int 0, .int 0, .int 0])), (q1, .inl (cy 2, 6, .inr (.inr (.inr (.inr (fun _ => none)))))), (q2, .inl (cy 3, 16, .inr (.inr (.inr (.inr (fun _ => none))))))] H := hP
  have hD : va_D A [(h0, .inr (2, [.ref q1, .null, .null, .int 0, .int 0, .int 0, .int 0, .null, .int 0, .int 0, .int 0, .int 0])), (q1, .inl (cy 2, 6, .inr (.inr (.inr (.inr (fun _ => none)))))), (q2, .inl (cy 3, 16, .inr (.inr (.inr (.inr (fun _ => none))))))] := hD
  refine W.widen (k := 2) (n := 22) (by omega) (by omega) ?_
  refine va_putF (D := D) (ci := 2) (v := .ref q2) (ty := .array (.object "FeedbackQueues$Task")) (C := RX2) (T := TX2) (N := 12) hx hb hts hinX tyX2 tyX2_ok nmX2 hown hK hP hD hS 0 rfl rfl 1 (by decide) (hts (.fieldLink RX2 17 "FeedbackQueues" "tasks" "[LFeedbackQueues$Task;") (by decide +kernel)) (fun _ h9 => h9) rfl hin rfl (by decide +kernel) rfl rfl (Nat.le_of_ble_eq_true rfl) dX2_init_19 (fun H locs hP hD hS => ?_)
  have hP : va_P D vwCl [(h0, .inr (2, [.ref q1, .ref q2, .null, .int 0, .int 0, .int 0, .int 0, .null, .int 0, .int 0, .int 0, .int 0])), (q1, .inl (cy 2, 6, .inr (.inr (.inr (.inr (fun _ => none)))))), (q2, .inl (cy 3, 16, .inr (.inr (.inr (.inr (fun _ => none))))))] H := hP
  have hD : va_D A [(h0, .inr (2, [.ref q1, .ref q2, .null, .int 0, .int 0, .int 0, .int 0, .null, .int 0, .int 0, .int 0, .int 0])), (q1, .inl (cy 2, 6, .inr (.inr (.inr (.inr (fun _ => none)))))), (q2, .inl (cy 3, 16, .inr (.inr (.inr (.inr (fun _ => none))))))] := hD
  refine lv_aload_n hx hb dX2_init_22 rfl (lv_at hl 0 rfl) ?_
  refine lv_sipush (v := 400) hx hb dX2_init_23 (by decide) ?_
  have harr : (Cond.arrayClass .int).before ([.ref h0] : List Value).toArray s = true := hts (.arrayClass .int) (by decide +kernel)
  refine va_newa (atype := .int) (a0 := (400, .inl (fun _ => 0))) (N' := 400) hx hb harr (ty := .int) rfl hK hP hD hS hA (fun _ => rfl) (by decide) (by decide) (by decide) (Nat.le_of_ble_eq_true rfl) (Nat.le_of_ble_eq_true rfl) dX2_init_26 (fun q3 cA H hK1 hP hD hS => ?_)
  have hcA : cA = cy 0 := ca_int hK hK1
  subst hcA
  have hP : va_P D vwCl [(h0, .inr (2, [.ref q1, .ref q2, .null, .int 0, .int 0, .int 0, .int 0, .null, .int 0, .int 0, .int 0, .int 0])), (q1, .inl (cy 2, 6, .inr (.inr (.inr (.inr (fun _ => none)))))), (q2, .inl (cy 3, 16, .inr (.inr (.inr (.inr (fun _ => none)))))), (q3, .inl (cy 0, 400, .inl (fun _ => 0)))] H := hP
  have hD : va_D A [(h0, .inr (2, [.ref q1, .ref q2, .null, .int 0, .int 0, .int 0, .int 0, .null, .int 0, .int 0, .int 0, .int 0])), (q1, .inl (cy 2, 6, .inr (.inr (.inr (.inr (fun _ => none)))))), (q2, .inl (cy 3, 16, .inr (.inr (.inr (.inr (fun _ => none)))))), (q3, .inl (cy 0, 400, .inl (fun _ => 0)))] := hD
  refine W.widen (k := 3) (n := 422) (by omega) (by omega) ?_
  refine va_putF (D := D) (ci := 2) (v := .ref q3) (ty := .array .int) (C := RX2) (T := TX2) (N := 12) hx hb hts hinX tyX2 tyX2_ok nmX2 hown hK hP hD hS 0 rfl rfl 2 (by decide) (hts (.fieldLink RX2 21 "FeedbackQueues" "switchesKept" "[I") (by decide +kernel)) (fun _ h9 => h9) rfl hin rfl (by decide +kernel) rfl rfl (Nat.le_of_ble_eq_true rfl) dX2_init_28 (fun H locs hP hD hS => ?_)
  have hP : va_P D vwCl [(h0, .inr (2, [.ref q1, .ref q2, .ref q3, .int 0, .int 0, .int 0, .int 0, .null, .int 0, .int 0, .int 0, .int 0])), (q1, .inl (cy 2, 6, .inr (.inr (.inr (.inr (fun _ => none)))))), (q2, .inl (cy 3, 16, .inr (.inr (.inr (.inr (fun _ => none)))))), (q3, .inl (cy 0, 400, .inl (fun _ => 0)))] H := hP
  have hD : va_D A [(h0, .inr (2, [.ref q1, .ref q2, .ref q3, .int 0, .int 0, .int 0, .int 0, .null, .int 0, .int 0, .int 0, .int 0])), (q1, .inl (cy 2, 6, .inr (.inr (.inr (.inr (fun _ => none)))))), (q2, .inl (cy 3, 16, .inr (.inr (.inr (.inr (fun _ => none)))))), (q3, .inl (cy 0, 400, .inl (fun _ => 0)))] := hD
  refine lv_aload_n hx hb dX2_init_31 rfl (lv_at hl 0 rfl) ?_
  refine lv_iconst (v := 1) hx hb dX2_init_32 (by decide) ?_
  refine va_put (D := D) (ci := 2) (v := .int 1) (ty := .int) (C := RX2) (T := TX2) (N := 12) hx hb hts hinX tyX2 tyX2_ok nmX2 hown hK hP hD hS 0 rfl rfl 3 (by decide) (hts (.fieldLink RX2 25 "FeedbackQueues" "levelCount" "I") (by decide +kernel)) (fun _ h9 => h9) rfl (by decide +kernel) rfl rfl (Nat.le_of_ble_eq_true rfl) dX2_init_33 (fun H locs hP hD hS => ?_)
  have hP : va_P D vwCl [(h0, .inr (2, [.ref q1, .ref q2, .ref q3, .int 1, .int 0, .int 0, .int 0, .null, .int 0, .int 0, .int 0, .int 0])), (q1, .inl (cy 2, 6, .inr (.inr (.inr (.inr (fun _ => none)))))), (q2, .inl (cy 3, 16, .inr (.inr (.inr (.inr (fun _ => none)))))), (q3, .inl (cy 0, 400, .inl (fun _ => 0)))] H := hP
  have hD : va_D A [(h0, .inr (2, [.ref q1, .ref q2, .ref q3, .int 1, .int 0, .int 0, .int 0, .null, .int 0, .int 0, .int 0, .int 0])), (q1, .inl (cy 2, 6, .inr (.inr (.inr (.inr (fun _ => none)))))), (q2, .inl (cy 3, 16, .inr (.inr (.inr (.inr (fun _ => none)))))), (q3, .inl (cy 0, 400, .inl (fun _ => 0)))] := hD
  refine lv_aload_n hx hb dX2_init_36 rfl (lv_at hl 0 rfl) ?_
  refine lv_iconst (v := 0) hx hb dX2_init_37 (by decide) ?_
  refine va_put (D := D) (ci := 2) (v := .int 0) (ty := .int) (C := RX2) (T := TX2) (N := 12) hx hb hts hinX tyX2 tyX2_ok nmX2 hown hK hP hD hS 0 rfl rfl 4 (by decide) (hts (.fieldLink RX2 29 "FeedbackQueues" "taskCount" "I") (by decide +kernel)) (fun _ h9 => h9) rfl (by decide +kernel) rfl rfl (Nat.le_of_ble_eq_true rfl) dX2_init_38 (fun H locs hP hD hS => ?_)
  have hP : va_P D vwCl [(h0, .inr (2, [.ref q1, .ref q2, .ref q3, .int 1, .int 0, .int 0, .int 0, .null, .int 0, .int 0, .int 0, .int 0])), (q1, .inl (cy 2, 6, .inr (.inr (.inr (.inr (fun _ => none)))))), (q2, .inl (cy 3, 16, .inr (.inr (.inr (.inr (fun _ => none)))))), (q3, .inl (cy 0, 400, .inl (fun _ => 0)))] H := hP
  have hD : va_D A [(h0, .inr (2, [.ref q1, .ref q2, .ref q3, .int 1, .int 0, .int 0, .int 0, .null, .int 0, .int 0, .int 0, .int 0])), (q1, .inl (cy 2, 6, .inr (.inr (.inr (.inr (fun _ => none)))))), (q2, .inl (cy 3, 16, .inr (.inr (.inr (.inr (fun _ => none)))))), (q3, .inl (cy 0, 400, .inl (fun _ => 0)))] := hD
  refine lv_aload_n hx hb dX2_init_41 rfl (lv_at hl 0 rfl) ?_
  refine lv_iconst (v := 0) hx hb dX2_init_42 (by decide) ?_
  refine va_put (D := D) (ci := 2) (v := .int 0) (ty := .int) (C := RX2) (T := TX2) (N := 12) hx hb hts hinX tyX2 tyX2_ok nmX2 hown hK hP hD hS 0 rfl rfl 5 (by decide) (hts (.fieldLink RX2 32 "FeedbackQueues" "periodTicks" "I") (by decide +kernel)) (fun _ h9 => h9) rfl (by decide +kernel) rfl rfl (Nat.le_of_ble_eq_true rfl) dX2_init_43 (fun H locs hP hD hS => ?_)
  have hP : va_P D vwCl [(h0, .inr (2, [.ref q1, .ref q2, .ref q3, .int 1, .int 0, .int 0, .int 0, .null, .int 0, .int 0, .int 0, .int 0])), (q1, .inl (cy 2, 6, .inr (.inr (.inr (.inr (fun _ => none)))))), (q2, .inl (cy 3, 16, .inr (.inr (.inr (.inr (fun _ => none)))))), (q3, .inl (cy 0, 400, .inl (fun _ => 0)))] H := hP
  have hD : va_D A [(h0, .inr (2, [.ref q1, .ref q2, .ref q3, .int 1, .int 0, .int 0, .int 0, .null, .int 0, .int 0, .int 0, .int 0])), (q1, .inl (cy 2, 6, .inr (.inr (.inr (.inr (fun _ => none)))))), (q2, .inl (cy 3, 16, .inr (.inr (.inr (.inr (fun _ => none)))))), (q3, .inl (cy 0, 400, .inl (fun _ => 0)))] := hD
  refine lv_aload_n hx hb dX2_init_46 rfl (lv_at hl 0 rfl) ?_
  refine lv_iconst (v := 0) hx hb dX2_init_47 (by decide) ?_
  refine va_put (D := D) (ci := 2) (v := .int 0) (ty := .int) (C := RX2) (T := TX2) (N := 12) hx hb hts hinX tyX2 tyX2_ok nmX2 hown hK hP hD hS 0 rfl rfl 6 (by decide) (hts (.fieldLink RX2 35 "FeedbackQueues" "now" "I") (by decide +kernel)) (fun _ h9 => h9) rfl (by decide +kernel) rfl rfl (Nat.le_of_ble_eq_true rfl) dX2_init_48 (fun H locs hP hD hS => ?_)
  have hP : va_P D vwCl [(h0, .inr (2, [.ref q1, .ref q2, .ref q3, .int 1, .int 0, .int 0, .int 0, .null, .int 0, .int 0, .int 0, .int 0])), (q1, .inl (cy 2, 6, .inr (.inr (.inr (.inr (fun _ => none)))))), (q2, .inl (cy 3, 16, .inr (.inr (.inr (.inr (fun _ => none)))))), (q3, .inl (cy 0, 400, .inl (fun _ => 0)))] H := hP
  have hD : va_D A [(h0, .inr (2, [.ref q1, .ref q2, .ref q3, .int 1, .int 0, .int 0, .int 0, .null, .int 0, .int 0, .int 0, .int 0])), (q1, .inl (cy 2, 6, .inr (.inr (.inr (.inr (fun _ => none)))))), (q2, .inl (cy 3, 16, .inr (.inr (.inr (.inr (fun _ => none)))))), (q3, .inl (cy 0, 400, .inl (fun _ => 0)))] := hD
  refine lv_aload_n hx hb dX2_init_51 rfl (lv_at hl 0 rfl) ?_
  refine lv_null hx hb dX2_init_52 ?_
  refine va_put (D := D) (ci := 2) (v := .null) (ty := .object "FeedbackQueues$Task") (C := RX2) (T := TX2) (N := 12) hx hb hts hinX tyX2 tyX2_ok nmX2 hown hK hP hD hS 0 rfl rfl 7 (by decide) (hts (.fieldLink RX2 38 "FeedbackQueues" "onProcessor" "LFeedbackQueues$Task;") (by decide +kernel)) (fun _ h9 => h9) rfl (by decide +kernel) rfl rfl (Nat.le_of_ble_eq_true rfl) dX2_init_53 (fun H locs hP hD hS => ?_)
  have hP : va_P D vwCl [(h0, .inr (2, [.ref q1, .ref q2, .ref q3, .int 1, .int 0, .int 0, .int 0, .null, .int 0, .int 0, .int 0, .int 0])), (q1, .inl (cy 2, 6, .inr (.inr (.inr (.inr (fun _ => none)))))), (q2, .inl (cy 3, 16, .inr (.inr (.inr (.inr (fun _ => none)))))), (q3, .inl (cy 0, 400, .inl (fun _ => 0)))] H := hP
  have hD : va_D A [(h0, .inr (2, [.ref q1, .ref q2, .ref q3, .int 1, .int 0, .int 0, .int 0, .null, .int 0, .int 0, .int 0, .int 0])), (q1, .inl (cy 2, 6, .inr (.inr (.inr (.inr (fun _ => none)))))), (q2, .inl (cy 3, 16, .inr (.inr (.inr (.inr (fun _ => none)))))), (q3, .inl (cy 0, 400, .inl (fun _ => 0)))] := hD
  refine lv_aload_n hx hb dX2_init_56 rfl (lv_at hl 0 rfl) ?_
  refine lv_iconst (v := 0) hx hb dX2_init_57 (by decide) ?_
  refine va_put (D := D) (ci := 2) (v := .int 0) (ty := .int) (C := RX2) (T := TX2) (N := 12) hx hb hts hinX tyX2 tyX2_ok nmX2 hown hK hP hD hS 0 rfl rfl 8 (by decide) (hts (.fieldLink RX2 42 "FeedbackQueues" "switchCount" "I") (by decide +kernel)) (fun _ h9 => h9) rfl (by decide +kernel) rfl rfl (Nat.le_of_ble_eq_true rfl) dX2_init_58 (fun H locs hP hD hS => ?_)
  have hP : va_P D vwCl [(h0, .inr (2, [.ref q1, .ref q2, .ref q3, .int 1, .int 0, .int 0, .int 0, .null, .int 0, .int 0, .int 0, .int 0])), (q1, .inl (cy 2, 6, .inr (.inr (.inr (.inr (fun _ => none)))))), (q2, .inl (cy 3, 16, .inr (.inr (.inr (.inr (fun _ => none)))))), (q3, .inl (cy 0, 400, .inl (fun _ => 0)))] H := hP
  have hD : va_D A [(h0, .inr (2, [.ref q1, .ref q2, .ref q3, .int 1, .int 0, .int 0, .int 0, .null, .int 0, .int 0, .int 0, .int 0])), (q1, .inl (cy 2, 6, .inr (.inr (.inr (.inr (fun _ => none)))))), (q2, .inl (cy 3, 16, .inr (.inr (.inr (.inr (fun _ => none)))))), (q3, .inl (cy 0, 400, .inl (fun _ => 0)))] := hD
  refine lv_aload_n hx hb dX2_init_61 rfl (lv_at hl 0 rfl) ?_
  refine lv_iconst (v := 0) hx hb dX2_init_62 (by decide) ?_
  refine va_put (D := D) (ci := 2) (v := .int 0) (ty := .int) (C := RX2) (T := TX2) (N := 12) hx hb hts hinX tyX2 tyX2_ok nmX2 hown hK hP hD hS 0 rfl rfl 9 (by decide) (hts (.fieldLink RX2 45 "FeedbackQueues" "idleCount" "I") (by decide +kernel)) (fun _ h9 => h9) rfl (by decide +kernel) rfl rfl (Nat.le_of_ble_eq_true rfl) dX2_init_63 (fun H locs hP hD hS => ?_)
  have hP : va_P D vwCl [(h0, .inr (2, [.ref q1, .ref q2, .ref q3, .int 1, .int 0, .int 0, .int 0, .null, .int 0, .int 0, .int 0, .int 0])), (q1, .inl (cy 2, 6, .inr (.inr (.inr (.inr (fun _ => none)))))), (q2, .inl (cy 3, 16, .inr (.inr (.inr (.inr (fun _ => none)))))), (q3, .inl (cy 0, 400, .inl (fun _ => 0)))] H := hP
  have hD : va_D A [(h0, .inr (2, [.ref q1, .ref q2, .ref q3, .int 1, .int 0, .int 0, .int 0, .null, .int 0, .int 0, .int 0, .int 0])), (q1, .inl (cy 2, 6, .inr (.inr (.inr (.inr (fun _ => none)))))), (q2, .inl (cy 3, 16, .inr (.inr (.inr (.inr (fun _ => none)))))), (q3, .inl (cy 0, 400, .inl (fun _ => 0)))] := hD
  refine lv_aload_n hx hb dX2_init_66 rfl (lv_at hl 0 rfl) ?_
  refine lv_iconst (v := 0) hx hb dX2_init_67 (by decide) ?_
  refine va_put (D := D) (ci := 2) (v := .int 0) (ty := .int) (C := RX2) (T := TX2) (N := 12) hx hb hts hinX tyX2 tyX2_ok nmX2 hown hK hP hD hS 0 rfl rfl 10 (by decide) (hts (.fieldLink RX2 48 "FeedbackQueues" "comeUpCount" "I") (by decide +kernel)) (fun _ h9 => h9) rfl (by decide +kernel) rfl rfl (Nat.le_of_ble_eq_true rfl) dX2_init_68 (fun H locs hP hD hS => ?_)
  have hP : va_P D vwCl [(h0, .inr (2, [.ref q1, .ref q2, .ref q3, .int 1, .int 0, .int 0, .int 0, .null, .int 0, .int 0, .int 0, .int 0])), (q1, .inl (cy 2, 6, .inr (.inr (.inr (.inr (fun _ => none)))))), (q2, .inl (cy 3, 16, .inr (.inr (.inr (.inr (fun _ => none)))))), (q3, .inl (cy 0, 400, .inl (fun _ => 0)))] H := hP
  have hD : va_D A [(h0, .inr (2, [.ref q1, .ref q2, .ref q3, .int 1, .int 0, .int 0, .int 0, .null, .int 0, .int 0, .int 0, .int 0])), (q1, .inl (cy 2, 6, .inr (.inr (.inr (.inr (fun _ => none)))))), (q2, .inl (cy 3, 16, .inr (.inr (.inr (.inr (fun _ => none)))))), (q3, .inl (cy 0, 400, .inl (fun _ => 0)))] := hD
  refine lv_aload_n hx hb dX2_init_71 rfl (lv_at hl 0 rfl) ?_
  refine lv_iconst (v := 0) hx hb dX2_init_72 (by decide) ?_
  refine va_put (D := D) (ci := 2) (v := .int 0) (ty := .int) (C := RX2) (T := TX2) (N := 12) hx hb hts hinX tyX2 tyX2_ok nmX2 hown hK hP hD hS 0 rfl rfl 11 (by decide) (hts (.fieldLink RX2 51 "FeedbackQueues" "endedCount" "I") (by decide +kernel)) (fun _ h9 => h9) rfl (by decide +kernel) rfl rfl (Nat.le_of_ble_eq_true rfl) dX2_init_73 (fun H locs hP hD hS => ?_)
  have hP : va_P D vwCl [(h0, .inr (2, [.ref q1, .ref q2, .ref q3, .int 1, .int 0, .int 0, .int 0, .null, .int 0, .int 0, .int 0, .int 0])), (q1, .inl (cy 2, 6, .inr (.inr (.inr (.inr (fun _ => none)))))), (q2, .inl (cy 3, 16, .inr (.inr (.inr (.inr (fun _ => none)))))), (q3, .inl (cy 0, 400, .inl (fun _ => 0)))] H := hP
  have hD : va_D A [(h0, .inr (2, [.ref q1, .ref q2, .ref q3, .int 1, .int 0, .int 0, .int 0, .null, .int 0, .int 0, .int 0, .int 0])), (q1, .inl (cy 2, 6, .inr (.inr (.inr (.inr (fun _ => none)))))), (q2, .inl (cy 3, 16, .inr (.inr (.inr (.inr (fun _ => none)))))), (q3, .inl (cy 0, 400, .inl (fun _ => 0)))] := hD
  obtain ⟨ad, had⟩ : ∃ ad : Nat → Nat, ad = (fun k => [h0, q1, q2, q3].getD k 0) := ⟨_, rfl⟩
  have hPg : va_P D vwCl [(h0, .inr (2, [.ref q1, .ref q2, .ref q3, .int 1, .int 0, .int 0, .int 0, .null, .int 0, .int 0, .int 0, .int 0])), (q1, .inl (cy 2, 6, .inr (.inr (.inr (.inr (cR ad 4 0)))))), (q2, .inl (cy 3, 16, .inr (.inr (.inr (.inr (cR ad 16 0)))))), (q3, .inl (cy 0, 400, .inl (fun _ => 0)))] H := by rw [cR_0, cR_0]; exact hP
  have hPg : va_P D vwCl (gw 4 ad (cG cy ad 0 0)) H := by rw [had] at hPg ⊢; exact hPg
  have hD9 : va_D A [(h0, .inr (2, [.ref q1, .ref q2, .ref q3, .int 1, .int 0, .int 0, .int 0, .null, .int 0, .int 0, .int 0, .int 0])), (q1, .inl (cy 2, 6, .inr (.inr (.inr (.inr (cR ad 4 0)))))), (q2, .inl (cy 3, 16, .inr (.inr (.inr (.inr (cR ad 16 0)))))), (q3, .inl (cy 0, 400, .inl (fun _ => 0)))] := by rw [cR_0, cR_0]; exact hD
  have hap : gw_ap 4 ad A := gw_Dof (E := cG cy ad 0 0) (by rw [had] at hD9 ⊢; exact hD9)
  have h00 : ad 0 = h0 := by rw [had]; rfl
  clear had hD hP hD9
  have hinX0 : ∀ w ∈ wsX00, w ∈ wsX2_init := by decide +kernel
  have hinX1 : ∀ w ∈ wsX10, w ∈ wsX2_init := by decide +kernel
  refine lv_iconst (v := 0) hx hb dX2_init_76 (by decide) ?_
  refine lv_istore_n (lv' := [(1, .int 0), (0, .ref h0)]) hx hb dX2_init_77 rfl hl (by decide) rfl (fun ls hl => ?_)
  have lpL : ∀ (Q : State → Prop) (n i : Nat) (ad : Nat → Nat) (H : Heap) (locs : List Loc) (ls : Array Slot), i + n = 6 → ad 0 = h0 → gw_ap (4 + 2 * i) ad A → va_P D vwCl (gw (4 + 2 * i) ad (cG cy ad i 0)) H → va_S A s.heap H locs → lv_has ls 2 [(1, .int (nI i)), (0, .ref h0)] →
      (∀ (ad : Nat → Nat) (H : Heap) (locs : List Loc) (ls : Array Slot), ad 0 = h0 → gw_ap 16 ad A → va_P D vwCl (gw 16 ad (cG cy ad 6 0)) H → va_S A s.heap H locs → lv_has ls 2 [(1, .int (nI 6)), (0, .ref h0)] → W p l e (headSpec wsX2_init { frames := 2, cells := 47, slots := 1038, locals := 41 }).room s m ([.ref h0] : List Value).toArray below meth c H locs 15 542 Q (F0 m 103 ls [])) →
      W p l e (headSpec wsX2_init { frames := 2, cells := 47, slots := 1038, locals := 41 }).room s m ([.ref h0] : List Value).toArray below meth c H locs (3 + 2 * i) (422 + 20 * i) Q (F0 m 78 ls []) := by
    intro Q n
    induction n with
    | zero =>
      intro i ad H locs ls hi h00 hap hPg hS hl K
      obtain rfl : i = 6 := by omega
      refine lv_iload_n hx hb dX2_init_78 rfl (lv_at hl 0 rfl) ?_
      refine lv_bipush (v := 6) hx hb dX2_init_79 (by decide) ?_
      refine lv_icmp_ge (tgt := 103) hx hb dX2_init_81 (by decide) (fun _ => ?_) (fun h => absurd (by decide) h)
      exact K ad H locs ls h00 hap hPg hS (lv_sub hl [0, 1] rfl)
    | succ n ih =>
      intro i ad H locs ls hi h00 hap hPg hS hl K
      have hi6 : i < 6 := by omega
      refine lv_iload_n hx hb dX2_init_78 rfl (lv_at hl 0 rfl) ?_
      refine lv_bipush (v := 6) hx hb dX2_init_79 (by decide) ?_
      refine lv_icmp_ge (tgt := 103) hx hb dX2_init_81 (by decide) (fun h => absurd h (by rw [show (6 : Int32) = nI 6 from by decide]; exact nI_ge hi6 (by omega))) (fun _ => ?_)
      refine lv_aload_n hx hb dX2_init_84 rfl (lv_at hl 1 rfl) ?_
      refine va_get (C := RX2) (T := TX2) (N := 12) (ci := 2) hx hb hts hinX hown hK hPg 0 (fs := cOf ad cs0) ((gw_get (by omega)).trans (by rw [h00]; rfl)) rfl 0 (by decide) (hts (.fieldLink RX2 11 "FeedbackQueues" "levelRows" "[LFeedbackQueues$Level;") (by decide +kernel)) (fun _ h9 => h9) (v := .ref (ad 1)) rfl dX2_init_85 ?_
      refine lv_iload_n hx hb dX2_init_88 rfl (lv_at hl 0 rfl) ?_
      refine va_new (ci := 0) (fs := [.int 0, .int 0, .null, .int 0]) (C := RX0) (T := TX0) (N := 4) hx hb hts hinX0 tyX0 tyX0_ok hown (hts (.classLink RX2 9 RX0) (by decide +kernel)) (hts (.instantiable RX0 4) (by decide +kernel)) (hts (.initialized RX0) (by decide +kernel)) hK hPg (gw_D hap _) hS hA rfl (fun j hj => by rcases (show j = 0 ∨ j = 1 ∨ j = 2 ∨ j = 3 by omega) with rfl | rfl | rfl | rfl <;> rfl) (show 3 + 2 * i + 1 ≤ 47 by omega) (show 422 + 20 * i + 4 ≤ 1038 by omega) dX2_init_89 (fun q1 H hP hD hS => ?_)
      refine lv_dup hx hb dX2_init_92 rfl ?_
      have hat1 : (gw (4 + 2 * i) ad (cG cy ad i 0) ++ [(q1, .inr (0, [.int 0, .int 0, .null, .int 0]))])[4 + 2 * i]? = some (q1, .inr (0, [.int 0, .int 0, .null, .int 0])) := by rw [List.getElem?_append_right (by rw [gw_len]; omega), gw_len]; simp
      have hPc : va_P D vwCl [(q1, .inr (0, [.int 0, .int 0, .null, .int 0]))] H := hP.sub [4 + 2 * i] (by simp [hat1])
      have hDc : va_D A [(q1, .inr (0, [.int 0, .int 0, .null, .int 0]))] := hD.sub [4 + 2 * i] (by simp [va_nd]) (by simp [hat1])
      have hFc := va_free (wc := [(q1, .inr (0, [.int 0, .int 0, .null, .int 0]))]) hD hS hA [4 + 2 * i] (by simp [hat1])
      refine va_callv (va_runIN (As := []) (rest := [.ref q1, .int (nI i), .ref (ad 1)]) ⟨hx, hb, hml, hown, hts⟩ (k_X0_init l D cy q1 H.size) ⟨va_cnB (host := "FeedbackQueues") 0 hts gX2_init_X0_init_n54 rfl rfl rfl (hN.mth (a := RX2) (i := 54) (x := yX0_init) (h' := "FeedbackQueues") (by decide +kernel)) (hts (.initialized RX0) (by decide +kernel)) (by decide +kernel) ⟨Nat.le_of_ble_eq_true rfl, Nat.le_of_ble_eq_true rfl⟩, rfl, hts (.instanceMethod yX0_init) (by decide +kernel)⟩
        ⟨fun a U g mk q => by obtain ⟨q0, q1, qP, qK, qD⟩ := q; exact ⟨q0, q1, qP, va_K.moved (u := U) (U := U.calling g mk a) (Vm.Alike.refl U.vm) qK, qD⟩, fun U hU hW => ⟨rfl, by rw [hU], by rw [hU]; exact hPc, va_K.moved hW.alike hK, ⟨hDc.1, fun _ _ _ => trivial⟩⟩⟩ rfl rfl hl.1 rfl (Nat.le_of_ble_eq_true rfl) dX2_init_93 ⟨show 3 + 2 * i + 1 + 1 ≤ 47 by omega, show 422 + 20 * i + 4 + 16 ≤ 1038 by omega⟩) hS (fun q _ h => hFc q h) hFc (fun q2 t H1 locs1 ht hvm _ hB hz hk1 hS1 => ?_)
      obtain ⟨hP1, hD1⟩ := hB
      rw [ht] at hP1
      obtain ⟨hP2, hap2⟩ := gw_join hP hD hk1 hFc hP1 hD1
      refine va_astq hx hb hK hP2 (gw_D hap2 _) hS1 1 2 (4 + 2 * i) 0 (cA := cy 2) (r := (RX0, TX0, 4)) (n := 6) (v := q1) (f := cR ad 4 i) (vs := [.int 1, .int 1, .ref q2, .int 0]) ((gw_get (by omega)).trans ?_) rfl ((gw_get (by omega)).trans ?_) rfl (i := nI i) (ix_nI hi6 (by omega)).vp dX2_init_96 (fun H locs hP hD hS => ?_)
      · rw [va_up_ne _ _ (by omega), va_up_ne _ _ (by omega), va_up_ne _ _ (by omega), va_up_ne _ _ (by omega)]; rfl
      · rw [va_up_ne _ _ (by omega), va_up_self, va_up_ne _ _ (by omega), va_up_self]
      rw [show ad 1 = va_up (va_up ad (4 + 2 * i) q1) (4 + 2 * i + 1) q2 1 from by rw [va_up_ne _ _ (by omega), va_up_ne _ _ (by omega)], gw_set, nI_clamp (by omega), cG_lev hi6] at hP
      have h01 : va_up (va_up ad (4 + 2 * i) q1) (4 + 2 * i + 1) q2 0 = h0 := by rw [va_up_ne _ _ (by omega), va_up_ne _ _ (by omega)]; exact h00
      rw [show 4 + 2 * i + 1 + 1 = 4 + 2 * (i + 1) by omega] at hap2
      generalize va_up (va_up ad (4 + 2 * i) q1) (4 + 2 * i + 1) q2 = ad2 at hP hap2 h01
      refine lv_iinc (v := nI (i + 1)) (lv' := [(1, .int (nI (i + 1))), (0, .ref h0)]) hx hb dX2_init_97 hl (k := 0) rfl (inc_nI i) (by decide) rfl (fun ls hl => ?_)
      refine lv_goto (tgt := 78) hx hb dX2_init_100 (by decide) ?_
      refine W.widen (k := 3 + 2 * (i + 1)) (n := 422 + 20 * (i + 1)) (by omega) (by omega) ?_
      exact ih (i + 1) ad2 H locs ls (by omega) h01 hap2 hP hS hl K
  have lpT : ∀ (Q : State → Prop) (n i : Nat) (ad : Nat → Nat) (H : Heap) (locs : List Loc) (ls : Array Slot), i + n = 16 → ad 0 = h0 → gw_ap (16 + 2 * i) ad A → va_P D vwCl (gw (16 + 2 * i) ad (cG cy ad 6 i)) H → va_S A s.heap H locs → lv_has ls 2 [(1, .int (nI i)), (0, .ref h0)] →
      (∀ (ad : Nat → Nat) (H : Heap) (locs : List Loc) (ls : Array Slot), ad 0 = h0 → gw_ap 48 ad A → va_P D vwCl (gw 48 ad (cG cy ad 6 16)) H → va_S A s.heap H locs → lv_has ls 2 [(1, .int (nI 16)), (0, .ref h0)] → W p l e (headSpec wsX2_init { frames := 2, cells := 47, slots := 1038, locals := 41 }).room s m ([.ref h0] : List Value).toArray below meth c H locs 47 1038 Q (F0 m 131 ls [])) →
      W p l e (headSpec wsX2_init { frames := 2, cells := 47, slots := 1038, locals := 41 }).room s m ([.ref h0] : List Value).toArray below meth c H locs (15 + 2 * i) (542 + 31 * i) Q (F0 m 105 ls []) := by
    intro Q n
    induction n with
    | zero =>
      intro i ad H locs ls hi h00 hap hPg hS hl K
      obtain rfl : i = 16 := by omega
      refine lv_iload_n hx hb dX2_init_105 rfl (lv_at hl 0 rfl) ?_
      refine lv_bipush (v := 16) hx hb dX2_init_106 (by decide) ?_
      refine lv_icmp_ge (tgt := 131) hx hb dX2_init_108 (by decide) (fun _ => ?_) (fun h => absurd (by decide) h)
      exact K ad H locs ls h00 hap hPg hS (lv_sub hl [0, 1] rfl)
    | succ n ih =>
      intro i ad H locs ls hi h00 hap hPg hS hl K
      have hi6 : i < 16 := by omega
      refine lv_iload_n hx hb dX2_init_105 rfl (lv_at hl 0 rfl) ?_
      refine lv_bipush (v := 16) hx hb dX2_init_106 (by decide) ?_
      refine lv_icmp_ge (tgt := 131) hx hb dX2_init_108 (by decide) (fun h => absurd h (by rw [show (16 : Int32) = nI 16 from by decide]; exact nI_ge hi6 (by omega))) (fun _ => ?_)
      refine lv_aload_n hx hb dX2_init_111 rfl (lv_at hl 1 rfl) ?_
      refine va_get (C := RX2) (T := TX2) (N := 12) (ci := 2) hx hb hts hinX hown hK hPg 0 (fs := cOf ad cs0) ((gw_get (by omega)).trans (by rw [h00]; rfl)) rfl 1 (by decide) (hts (.fieldLink RX2 17 "FeedbackQueues" "tasks" "[LFeedbackQueues$Task;") (by decide +kernel)) (fun _ h9 => h9) (v := .ref (ad 2)) rfl dX2_init_112 ?_
      refine lv_iload_n hx hb dX2_init_115 rfl (lv_at hl 0 rfl) ?_
      refine va_new (ci := 1) (fs := [.int 0, .int 0, .null, .int 0, .int 0, .int 0, .int 0, .int 0, .int 0, .int 0, .int 0, .int 0, .int 0, .int 0, .int 0, .int 0, .int 0, .int 0, .int 0]) (C := RX1) (T := TX1) (N := 19) hx hb hts hinX1 tyX1 tyX1_ok hown (hts (.classLink RX2 15 RX1) (by decide +kernel)) (hts (.instantiable RX1 19) (by decide +kernel)) (hts (.initialized RX1) (by decide +kernel)) hK hPg (gw_D hap _) hS hA rfl (fun j hj => by rcases (show j = 0 ∨ j = 1 ∨ j = 2 ∨ j = 3 ∨ j = 4 ∨ j = 5 ∨ j = 6 ∨ j = 7 ∨ j = 8 ∨ j = 9 ∨ j = 10 ∨ j = 11 ∨ j = 12 ∨ j = 13 ∨ j = 14 ∨ j = 15 ∨ j = 16 ∨ j = 17 ∨ j = 18 by omega) with rfl | rfl | rfl | rfl | rfl | rfl | rfl | rfl | rfl | rfl | rfl | rfl | rfl | rfl | rfl | rfl | rfl | rfl | rfl <;> rfl) (show 15 + 2 * i + 1 ≤ 47 by omega) (show 542 + 31 * i + 19 ≤ 1038 by omega) dX2_init_116 (fun q1 H hP hD hS => ?_)
      refine lv_dup hx hb dX2_init_119 rfl ?_
      refine lv_iload_n hx hb dX2_init_120 rfl (lv_at hl 0 rfl) ?_
      have hat1 : (gw (16 + 2 * i) ad (cG cy ad 6 i) ++ [(q1, .inr (1, [.int 0, .int 0, .null, .int 0, .int 0, .int 0, .int 0, .int 0, .int 0, .int 0, .int 0, .int 0, .int 0, .int 0, .int 0, .int 0, .int 0, .int 0, .int 0]))])[16 + 2 * i]? = some (q1, .inr (1, [.int 0, .int 0, .null, .int 0, .int 0, .int 0, .int 0, .int 0, .int 0, .int 0, .int 0, .int 0, .int 0, .int 0, .int 0, .int 0, .int 0, .int 0, .int 0])) := by rw [List.getElem?_append_right (by rw [gw_len]; omega), gw_len]; simp
      have hPc : va_P D vwCl [(q1, .inr (1, [.int 0, .int 0, .null, .int 0, .int 0, .int 0, .int 0, .int 0, .int 0, .int 0, .int 0, .int 0, .int 0, .int 0, .int 0, .int 0, .int 0, .int 0, .int 0]))] H := hP.sub [16 + 2 * i] (by simp [hat1])
      have hDc : va_D A [(q1, .inr (1, [.int 0, .int 0, .null, .int 0, .int 0, .int 0, .int 0, .int 0, .int 0, .int 0, .int 0, .int 0, .int 0, .int 0, .int 0, .int 0, .int 0, .int 0, .int 0]))] := hD.sub [16 + 2 * i] (by simp [va_nd]) (by simp [hat1])
      have hFc := va_free (wc := [(q1, .inr (1, [.int 0, .int 0, .null, .int 0, .int 0, .int 0, .int 0, .int 0, .int 0, .int 0, .int 0, .int 0, .int 0, .int 0, .int 0, .int 0, .int 0, .int 0, .int 0]))]) hD hS hA [16 + 2 * i] (by simp [hat1])
      refine va_callv (va_runIN (As := [.int (nI i)]) (rest := [.ref q1, .int (nI i), .ref (ad 2)]) ⟨hx, hb, hml, hown, hts⟩ (k_X1_init l D cy q1 H.size (nI i)) ⟨va_cnB (host := "FeedbackQueues") 1 hts gX2_init_X1_init_n55 rfl rfl rfl (hN.mth (a := RX2) (i := 55) (x := yX1_init) (h' := "FeedbackQueues") (by decide +kernel)) (hts (.initialized RX1) (by decide +kernel)) (by decide +kernel) ⟨Nat.le_of_ble_eq_true rfl, Nat.le_of_ble_eq_true rfl⟩, rfl, hts (.instanceMethod yX1_init) (by decide +kernel)⟩
        ⟨fun a U g mk q => by obtain ⟨q0, q1, qP, qK, qD⟩ := q; exact ⟨q0, q1, qP, va_K.moved (u := U) (U := U.calling g mk a) (Vm.Alike.refl U.vm) qK, qD⟩, fun U hU hW => ⟨rfl, by rw [hU], by rw [hU]; exact hPc, va_K.moved hW.alike hK, ⟨hDc.1, fun _ _ _ => trivial⟩⟩⟩ rfl rfl hl.1 rfl (Nat.le_of_ble_eq_true rfl) dX2_init_121 ⟨show 15 + 2 * i + 1 + 1 ≤ 47 by omega, show 542 + 31 * i + 19 + 12 ≤ 1038 by omega⟩) hS (fun q _ h => hFc q h) hFc (fun q2 t H1 locs1 ht hvm _ hB hz hk1 hS1 => ?_)
      obtain ⟨hP1, hD1⟩ := hB
      rw [ht] at hP1
      obtain ⟨hP2, hap2⟩ := gw_join hP hD hk1 hFc hP1 hD1
      refine va_astq hx hb hK hP2 (gw_D hap2 _) hS1 2 3 (16 + 2 * i) 1 (cA := cy 3) (r := (RX1, TX1, 19)) (n := 16) (v := q1) (f := cR ad 16 i) (vs := [.int (nI i), .int 0, .ref q2, .int 0, .int 0, .int 0, .int 0, .int 0, .int 0, .int 0, .int 0, .int 0, .int 0, .int 0, .int (-1), .int (-1), .int 0, .int 0, .int 0]) ((gw_get (by omega)).trans ?_) rfl ((gw_get (by omega)).trans ?_) rfl (i := nI i) (ix_nI hi6 (by omega)).vp dX2_init_124 (fun H locs hP hD hS => ?_)
      · rw [va_up_ne _ _ (by omega), va_up_ne _ _ (by omega), va_up_ne _ _ (by omega), va_up_ne _ _ (by omega)]; rfl
      · rw [va_up_ne _ _ (by omega), va_up_self, va_up_ne _ _ (by omega), va_up_self]
      rw [show ad 2 = va_up (va_up ad (16 + 2 * i) q1) (16 + 2 * i + 1) q2 2 from by rw [va_up_ne _ _ (by omega), va_up_ne _ _ (by omega)], gw_set, nI_clamp (by omega), cG_tsk hi6] at hP
      have h01 : va_up (va_up ad (16 + 2 * i) q1) (16 + 2 * i + 1) q2 0 = h0 := by rw [va_up_ne _ _ (by omega), va_up_ne _ _ (by omega)]; exact h00
      rw [show 16 + 2 * i + 1 + 1 = 16 + 2 * (i + 1) by omega] at hap2
      generalize va_up (va_up ad (16 + 2 * i) q1) (16 + 2 * i + 1) q2 = ad2 at hP hap2 h01
      refine lv_iinc (v := nI (i + 1)) (lv' := [(1, .int (nI (i + 1))), (0, .ref h0)]) hx hb dX2_init_125 hl (k := 0) rfl (inc_nI i) (by decide) rfl (fun ls hl => ?_)
      refine lv_goto (tgt := 105) hx hb dX2_init_128 (by decide) ?_
      refine W.widen (k := 15 + 2 * (i + 1)) (n := 542 + 31 * (i + 1)) (by omega) (by omega) ?_
      exact ih (i + 1) ad2 H locs ls (by omega) h01 hap2 hP hS hl K
  refine lpL _ 6 0 ad H locs ls rfl h00 hap hPg hS (by rw [show nI 0 = 0 from by decide]; exact hl) (fun ad H locs ls h00 hap hPg hS hl => ?_)
  refine lv_iconst (v := 0) hx hb dX2_init_103 (by decide) ?_
  refine lv_istore_n (lv' := [(1, .int 0), (0, .ref h0)]) hx hb dX2_init_104 rfl hl (by decide) rfl (fun ls hl => ?_)
  refine lpT _ 16 0 ad H locs ls rfl h00 hap hPg hS (by rw [show nI 0 = 0 from by decide]; exact hl) (fun ad H locs ls h00 hap hPg hS hl => ?_)
  refine W.vret hx hb hr (fun t ht _ => ⟨⟨ad, rfl, h00, by rw [ht]; exact cG_all hPg, hap⟩, hS.F ht⟩) (fun q hq => hS.2.2 q hq) dX2_init_131
