theorem ap_sub {n : Nat} {ad : Nat → Nat} {A B : Nat → Prop} (h : gw_ap n ad B) (hBA : ∀ q, B q → A q) : gw_ap n ad A := ⟨h.1, fun k hk => hBA _ (h.2 k hk)⟩
set_option maxHeartbeats 2000000 in
set_option maxRecDepth 100000 in
theorem whole_start {p : Program} {e : Env} {s : State} {m : MethodId} {below : List Frame} {meth : Method} {c : Code} (l : Launch) (hlst : l.stackTraces = false) {b L : Nat} {xs : Nat → Int32} (hL : L ≤ 2048) (C0 : lw_At p s m meth c b L xs) : W p l e room_1 s m #[Value.ref b] below meth c s.heap [] 0 0 (lw_Z below #[Value.ref b] s) (entryFrame m ([Value.ref b] : List Value).toArray 7) := by
  obtain ⟨hx, hb, hr, hml, hown, hts, hX, hbl, hlocks, hgv⟩ := id C0
  obtain ⟨D, cy, hK⟩ := k_all hts
  have hN := nst_s hts
  obtain ⟨sa, hXs⟩ := xst_s hts hgv
  obtain ⟨hU, hNn⟩ := zu_s hts hgv
  have hAO0 : va_AO RX0 s := va_AO.of (hts (.arrayOver (.object RX0)) (by decide +kernel))
  have hAO1 : va_AO RX1 s := va_AO.of (hts (.arrayOver (.object RX1)) (by decide +kernel))
  have htsL : ∀ w ∈ wsL_law, w.before #[Value.ref b] s = true := fun w h => hts w (wsL_law_in w h)
  obtain ⟨A, hAe⟩ : ∃ A : Nat → Prop, A = fun q => s.heap.size ≤ q := ⟨_, rfl⟩
  have hAA : ∀ q : Nat, s.heap.size ≤ q → A q := fun q h => by rw [hAe]; exact h
  have hS : va_S A s.heap s.heap [] := va_S.rf
  have hP : va_P D vwCl [] s.heap := fun k q h => by simp at h
  have hD : va_D A [] := ⟨fun i j p q h => by simp at h, fun k q h => by simp at h⟩
  have hl := lv_entry ([.ref b]) (n := 7) (Nat.le_of_ble_eq_true rfl)
  rw [lg_entry_eq]
  generalize (lg_sl ([.ref b]) ++ List.replicate (7 - (lg_sl ([.ref b])).length) Slot.unset).toArray = ls at hl ⊢
  have hl : lv_has ls 7 [(0, .ref b)] := hl
  refine va_new (ci := 2) (fs := [.null, .null, .null, .int 0, .int 0, .int 0, .int 0, .null, .int 0, .int 0, .int 0, .int 0]) (C := RX2) (T := TX2) (N := 12) hx hb hts in_wsX20 tyX2 tyX2_ok hown (hts (.classLink RL 8 RX2) (by decide +kernel)) (hts (.instantiable RX2 12) (by decide +kernel)) (hts (.initialized RX2) (by decide +kernel)) hK hP hD hS hAA rfl (fun j hj => by rcases (show j = 0 ∨ j = 1 ∨ j = 2 ∨ j = 3 ∨ j = 4 ∨ j = 5 ∨ j = 6 ∨ j = 7 ∨ j = 8 ∨ j = 9 ∨ j = 10 ∨ j = 11 by omega) with rfl | rfl | rfl | rfl | rfl | rfl | rfl | rfl | rfl | rfl | rfl | rfl <;> rfl) (Nat.le_of_ble_eq_true rfl) (Nat.le_of_ble_eq_true rfl) dL_law_0 (fun q0 H hP hD hS => ?_)
  have hP : va_P D vwCl [(q0, .inr (2, [.null, .null, .null, .int 0, .int 0, .int 0, .int 0, .null, .int 0, .int 0, .int 0, .int 0]))] H := hP
  have hD : va_D A [(q0, .inr (2, [.null, .null, .null, .int 0, .int 0, .int 0, .int 0, .null, .int 0, .int 0, .int 0, .int 0]))] := hD
  refine W.widen (k := 1) (n := 12) (by omega) (by omega) ?_
  refine lv_dup hx hb dL_law_3 rfl ?_
  have hFc := va_free (wc := [(q0, .inr (2, [.null, .null, .null, .int 0, .int 0, .int 0, .int 0, .null, .int 0, .int 0, .int 0, .int 0]))]) hD hS hAA [0] rfl
  refine va_callv (va_runI (As := []) (rest := [.ref q0]) ⟨hx, hb, hml, hown, htsL⟩ (k_X2_init l D cy q0 H.size) (cwI 0 htsL gL_law_X2_init rfl rfl rfl (hts (.initialized RX2) (by decide +kernel)) (hts (.methodLink RL 49 yX2_init) (by decide +kernel)) (hts (.instanceMethod yX2_init) (by decide +kernel)) rfl (by decide +kernel) ⟨Nat.le_of_ble_eq_true rfl, Nat.le_of_ble_eq_true rfl⟩)
    ⟨fun a U g mk q => by obtain ⟨q0, q1, qP, qK, qN, qA, qB, qD⟩ := q; exact ⟨q0, q1, qP, va_K.moved (u := U) (U := U.calling g mk a) (Vm.Alike.refl U.vm) qK, Nst.same (u := U) rfl qN, va_AO.moved (u := U) (U := U.calling g mk a) (Vm.Alike.refl U.vm) qA, va_AO.moved (u := U) (U := U.calling g mk a) (Vm.Alike.refl U.vm) qB, qD⟩, fun U hu hW => ⟨rfl, by rw [hu], by rw [hu]; exact hP, va_K.moved hW.alike hK, hN.warm hW, va_AO.moved hW.alike hAO0, va_AO.moved hW.alike hAO1, ⟨hD.1, fun _ _ _ => trivial⟩⟩⟩ rfl rfl hl.1 rfl (lv_room (Nat.le_of_ble_eq_true rfl)) dL_law_4 ⟨Nat.le_of_ble_eq_true rfl, Nat.le_of_ble_eq_true rfl⟩) hS (fun q _ h => hFc q h) hFc (fun ad t H1 locs ht hvm h00 hB hz1 hk1 hS => ?_)
  obtain ⟨hPc, hapc⟩ := hB
  rw [ht] at hPc
  have hap : gw_ap 48 ad A := ap_sub hapc hFc
  subst h00
  refine W.widen (k := 48) (n := 1050) (by omega) (by omega) ?_
  refine lv_astore_n (lv' := [(1, .ref (ad 0)), (0, .ref b)]) hx hb dL_law_7 rfl hl (by decide) rfl (fun ls hl => ?_)
  -- the model
  refine va_new (ci := 3) (fs := [.int 0, .int 0, .null, .null, .int 0, .int 0, .null, .null, .null, .int 0, .int 0, .null, .null, .null, .null, .null, .null, .null, .null, .null, .null, .null, .null, .null]) (C := RX3) (T := TX3) (N := 24) hx hb hts in_wsX30 tyX3 tyX3_ok hown (hts (.classLink RL 50 RX3) (by decide +kernel)) (hts (.instantiable RX3 24) (by decide +kernel)) (hts (.initialized RX3) (by decide +kernel)) hK hPc (gw_D hap _) hS hAA rfl (fun j hj => by rcases (show j = 0 ∨ j = 1 ∨ j = 2 ∨ j = 3 ∨ j = 4 ∨ j = 5 ∨ j = 6 ∨ j = 7 ∨ j = 8 ∨ j = 9 ∨ j = 10 ∨ j = 11 ∨ j = 12 ∨ j = 13 ∨ j = 14 ∨ j = 15 ∨ j = 16 ∨ j = 17 ∨ j = 18 ∨ j = 19 ∨ j = 20 ∨ j = 21 ∨ j = 22 ∨ j = 23 by omega) with rfl | rfl | rfl | rfl | rfl | rfl | rfl | rfl | rfl | rfl | rfl | rfl | rfl | rfl | rfl | rfl | rfl | rfl | rfl | rfl | rfl | rfl | rfl | rfl <;> rfl) (Nat.le_of_ble_eq_true rfl) (Nat.le_of_ble_eq_true rfl) dL_law_8 (fun q1 H hP2 hD2 hS => ?_)
  refine W.widen (k := 49) (n := 1074) (by omega) (by omega) ?_
  refine lv_dup hx hb dL_law_11 rfl ?_
  have hlen : (cwl cy ad cs0).length = 48 := gw_len 48 ad _
  have hat1 : (cwl cy ad cs0 ++ [(q1, .inr (3, [.int 0, .int 0, .null, .null, .int 0, .int 0, .null, .null, .null, .int 0, .int 0, .null, .null, .null, .null, .null, .null, .null, .null, .null, .null, .null, .null, .null]))])[48]? = some (q1, .inr (3, [.int 0, .int 0, .null, .null, .int 0, .int 0, .null, .null, .null, .int 0, .int 0, .null, .null, .null, .null, .null, .null, .null, .null, .null, .null, .null, .null, .null])) := by rw [List.getElem?_append_right (by omega), hlen]; rfl
  have hPm : va_P D vwCl [(q1, .inr (3, [.int 0, .int 0, .null, .null, .int 0, .int 0, .null, .null, .null, .int 0, .int 0, .null, .null, .null, .null, .null, .null, .null, .null, .null, .null, .null, .null, .null]))] H := hP2.sub [48] (by simp [hat1])
  have hDm : va_D A [(q1, .inr (3, [.int 0, .int 0, .null, .null, .int 0, .int 0, .null, .null, .null, .int 0, .int 0, .null, .null, .null, .null, .null, .null, .null, .null, .null, .null, .null, .null, .null]))] := hD2.sub [48] (by simp [va_nd]) (by simp [hat1])
  have hFm := va_free (wc := [(q1, .inr (3, [.int 0, .int 0, .null, .null, .int 0, .int 0, .null, .null, .null, .int 0, .int 0, .null, .null, .null, .null, .null, .null, .null, .null, .null, .null, .null, .null, .null]))]) hD2 hS hAA [48] (by simp [hat1])
  refine va_callv (va_runI (As := []) (rest := [.ref q1]) ⟨hx, hb, hml, hown, htsL⟩ (k_X3_init l D cy q1 H.size) (cwI 0 htsL gL_law_X3_init rfl rfl rfl (hts (.initialized RX3) (by decide +kernel)) (hts (.methodLink RL 52 yX3_init) (by decide +kernel)) (hts (.instanceMethod yX3_init) (by decide +kernel)) rfl (by decide +kernel) ⟨Nat.le_of_ble_eq_true rfl, Nat.le_of_ble_eq_true rfl⟩)
    ⟨fun a U g mk q => by obtain ⟨q0, q1, qP, qK, qD⟩ := q; exact ⟨q0, q1, qP, va_K.moved (u := U) (U := U.calling g mk a) (Vm.Alike.refl U.vm) qK, qD⟩, fun U hu hW => ⟨rfl, by rw [hu], by rw [hu]; exact hPm, va_K.moved hW.alike hK, ⟨hDm.1, fun _ _ _ => trivial⟩⟩⟩ rfl rfl hl.1 rfl (lv_room (Nat.le_of_ble_eq_true rfl)) dL_law_12 ⟨Nat.le_of_ble_eq_true rfl, Nat.le_of_ble_eq_true rfl⟩) hS (fun q _ h => hFm q h) hFm (fun am t H2 locs ht hvm h00 hB hz2 hk2 hS => ?_)
  obtain ⟨hPm2, hapm⟩ := hB
  rw [ht] at hPm2
  subst h00
  have hamap : gw_ap 19 am A := ap_sub hapm hFm
  have atc : ∀ k, k < 48 → (cwl cy ad cs0 ++ [(am 0, .inr (3, [.int 0, .int 0, .null, .null, .int 0, .int 0, .null, .null, .null, .int 0, .int 0, .null, .null, .null, .null, .null, .null, .null, .null, .null, .null, .null, .null, .null]))])[k]? = some (ad k, cE cy ad cs0 k) := fun k hk => by rw [List.getElem?_append_left (by omega)]; exact gw_get hk
  have nA : ∀ k, k < 48 → ¬ va_A [(am 0, .inr (3, [.int 0, .int 0, .null, .null, .int 0, .int 0, .null, .null, .null, .int 0, .int 0, .null, .null, .null, .null, .null, .null, .null, .null, .null, .null, .null, .null, .null]))] H.size (ad k) := fun k hk hA => by
    rcases hA with ⟨j, e, h⟩ | h
    · have hj : j < 1 := (List.getElem?_eq_some_iff.mp h).1
      rw [show j = 0 by omega] at h
      have h' := congrArg Prod.fst (Option.some.inj h)
      have := hD2.1 k 48 _ _ (atc k hk) hat1 h'.symm
      omega
    · exact absurd (vx_lt hP2 (atc k hk)) (by omega)
  have hPc2 : va_P D vwCl (cwl cy ad cs0) H2 := by
    intro k q hq
    obtain ⟨h1, rfl⟩ := gw_some hq
    exact (hP2 k _ (atc k h1)).kept (hk2 _ (vx_lt hP2 (atc k h1)) (nA k h1))
  have hcm : ∀ i j, i < 48 → j < 19 → ad i ≠ am j := fun i j hi hj h9 => nA i hi (h9 ▸ hapm.2 j hj)
  refine W.widen (k := 67) (n := 2104) (by omega) (by omega) ?_
  refine lv_astore_n (lv' := [(2, .ref (am 0)), (1, .ref (ad 0)), (0, .ref b)]) hx hb dL_law_15 rfl hl (by decide) rfl (fun ls hl => ?_)
  refine lv_iconst (v := 1) hx hb dL_law_16 (by decide) ?_
  have harr : (Cond.arrayClass .long).before #[Value.ref b] s = true := hts (.arrayClass .long) (by decide +kernel)
  have hD3 : va_D A (cwl cy ad cs0 ++ mwl cy am (F_X3_set ms0 1)) := va_D.app (gw_D hap _) (gw_D hamap _) (fun i j p q hi hj => by
    obtain ⟨h1, rfl⟩ := gw_some hi
    obtain ⟨h2, rfl⟩ := gw_some hj
    exact hcm i j h1 h2)
  refine va_newa (atype := .long) (a0 := (1, .inr (.inl (fun _ => 0)))) (N' := 1) hx hb harr (ty := .long) rfl hK (hPc2.app hPm2) hD3 hS hAA (fun _ => rfl) (by decide) (by decide) (by decide) (Nat.le_of_ble_eq_true rfl) (Nat.le_of_ble_eq_true rfl) dL_law_17 (fun ao cA H3 hK1 hP3 hD4 hS => ?_)
  have hcA : cA = cy 4 := ca_long hK hK1
  subst hcA
  have hl67 : (cwl cy ad cs0 ++ mwl cy am (F_X3_set ms0 1)).length = 67 := by rw [List.length_append, hlen]; show 48 + (gw 19 am _).length = 67; rw [gw_len]
  have at3 : ∀ k q, (cwl cy ad cs0 ++ mwl cy am (F_X3_set ms0 1))[k]? = some q → ((cwl cy ad cs0 ++ mwl cy am (F_X3_set ms0 1)) ++ [(ao, .inl (cy 4, 1, .inr (.inl (fun _ => (0 : Int64)))))])[k]? = some q := fun k q h => by
    rw [List.getElem?_append_left (by have := (List.getElem?_eq_some_iff.mp h).1; omega)]; exact h
  have atC : ∀ k q, (cwl cy ad cs0)[k]? = some q → (cwl cy ad cs0 ++ mwl cy am (F_X3_set ms0 1))[k]? = some q := fun k q h => by
    rw [List.getElem?_append_left (by have := (List.getElem?_eq_some_iff.mp h).1; omega)]; exact h
  have atM : ∀ k q, (mwl cy am (F_X3_set ms0 1))[k]? = some q → (cwl cy ad cs0 ++ mwl cy am (F_X3_set ms0 1))[48 + k]? = some q := fun k q h => by
    rw [List.getElem?_append_right (by omega), hlen, show 48 + k - 48 = k by omega]; exact h
  have atO : ((cwl cy ad cs0 ++ mwl cy am (F_X3_set ms0 1)) ++ [(ao, .inl (cy 4, 1, .inr (.inl (fun _ => (0 : Int64)))))])[67]? = some (ao, .inl (cy 4, 1, .inr (.inl (fun _ => (0 : Int64))))) := by
    rw [List.getElem?_append_right (by omega), hl67]; rfl
  have hLP : lwP D cy ad am ao cs0 (F_X3_set ms0 1) 0 H3 := by
    refine ⟨fun k q h => hP3 k q (at3 k q (atC k q h)), fun k q h => hP3 (48 + k) q (at3 _ q (atM k q h)), fun _ => 0, rfl, fun k q h => ?_⟩
    have hk0 : k < 1 := (List.getElem?_eq_some_iff.mp h).1
    rw [show k = 0 by omega] at h
    cases h
    exact hP3 67 _ atO
  have hLA : lwA ad am ao A := by
    refine ⟨hap, hamap, hD4.2 67 _ atO, hcm, fun i hi h9 => ?_, fun j hj h9 => ?_⟩
    · have := hD4.1 i 67 _ _ (at3 i _ (atC i _ (gw_get hi))) atO h9
      omega
    · have := hD4.1 (48 + j) 67 _ _ (at3 _ _ (atM j _ (gw_get hj))) atO h9
      omega
  refine W.widen (k := 68) (n := 2105) (by omega) (by omega) ?_
  refine lv_astore_n (lv' := [(3, .ref ao), (2, .ref (am 0)), (1, .ref (ad 0)), (0, .ref b)]) hx hb dL_law_19 rfl hl (by decide) rfl (fun ls hl => ?_)
  refine lv_iconst (v := 0) hx hb dL_law_20 (by decide) ?_
  refine lv_istore (lv' := [(4, .int 0), (3, .ref ao), (2, .ref (am 0)), (1, .ref (ad 0)), (0, .ref b)]) hx hb dL_law_21 hl (by decide) rfl (fun ls hl => ?_)
  subst hAe
  exact law_loop (sa := sa) ⟨hx, hb, hml, hown, htsL, hK, hLA, hN, hXs, hU, hNn, hX, hbl, hlst, hL⟩ hr hlocks 513 0 cs0 (F_X3_set ms0 1) 0 H3 locs ls (by omega) (by omega) Inv_0 hLP hS (by rw [show nI (4 * 0) = 0 from by decide]; exact hl)
