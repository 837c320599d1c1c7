/-- what the law's walk stands on -/
def lwK (p : Program) (l : Launch) (s : State) (m : MethodId) (c : Code) (b L : Nat) (xs : Nat → Int32) (D : va_G) (cy : Nat → ClassId) (ad am sa : Nat → Nat) (ao : Nat) : Prop :=
  p.tables.exec = Jvm.exec ∧ c.code = code ∧ c.maxLocals = 7 ∧ s.vm.findClass RL = some m.cls ∧ (∀ w ∈ wsL_law, w.before #[Value.ref b] s = true) ∧ va_K D vwCl (tyL cy) s ∧ lwA ad am ao (fun q => s.heap.size ≤ q) ∧ Nst s ∧ Xst sa s ∧ xZu (fun q => s.heap.size ≤ q) s s.heap ∧ xZn (fun q => s.heap.size ≤ q) s s.heap ∧ va_X b L xs s s.heap ∧ b < s.heap.size ∧ l.stackTraces = false ∧ L ≤ 2048
theorem hc_0 {ks : List Nat} {kd : Nat} (hk : ks.length < 1000) (h : hc ks kd = 0) : kd = 0 := by
  unfold hc at h
  by_cases e : kd = 0
  · exact e
  · rw [if_neg e] at h
    have := List.idxOf_le_length (a := kd) (l := ks)
    exact absurd h (nI_ne0 (by omega) (by omega))
theorem sc_in {t L k : Nat} (h : 4 * t + k < L) (hL : L ≤ 2048) : ix (nI (4 * t) + nI k) (4 * t + k) L := by rw [nI_add]; exact ix_nI h (by omega)

set_option maxHeartbeats 2000000 in
set_option maxRecDepth 100000 in
theorem lc_levels {p : Program} {l : Launch} {e : Env} {s : State} {m : MethodId} {below : List Frame} {meth : Method} {c : Code} {b L : Nat} {xs : Nat → Int32} {D : va_G} {cy : Nat → ClassId} {ad am sa : Nat → Nat} {ao : Nat} {Q : State → Prop} (C : lwK p l s m c b L xs D cy ad am sa ao) {t bb cells slots : Nat} {S : Cs} {M : Ms} {v : Int64} {H : Heap} {locs : List Loc} {ls : Array Slot} (hI : Inv bb S M) (hbb : bb + 30000 < 2 ^ 30) (ht : 4 * t + 4 ≤ L) (hP : lwP D cy ad am ao S M v H) (hS : va_S (fun q => s.heap.size ≤ q) s.heap H locs) (hl : lv_has ls 7 [(4, .int (nI (4 * t))), (3, .ref ao), (2, .ref (am 0)), (1, .ref (ad 0)), (0, .ref b)]) (hcel : cells + 1 ≤ room_1.cells ∧ slots + 6 ≤ room_1.slots)
    (K : ∀ (S : Cs) (M : Ms) (v : Int64) (H : Heap) (locs : List Loc) (ls : Array Slot), Inv (bb + 30000) S M → lwP D cy ad am ao S M v H → va_S (fun q => s.heap.size ≤ q) s.heap H locs → lv_has ls 7 [(4, .int (nI (4 * t))), (3, .ref ao), (2, .ref (am 0)), (1, .ref (ad 0)), (0, .ref b)] → W p l e room_1 s m #[Value.ref b] below meth c H locs (cells + 1) (slots + 6) Q (F0 m 701 ls [])) : W p l e room_1 s m #[Value.ref b] below meth c H locs cells slots Q (F0 m 104 ls []) := by
  obtain ⟨hx, hb, hml, hown, hts, hK, hA, hN, hX, hU, hNn, hXs, hbl, hlst, hL⟩ := C
  have hAA : ∀ q : Nat, s.heap.size ≤ q → (fun q : Nat => s.heap.size ≤ q) q := fun _ h => h
  obtain ⟨N9, L9, T9, hT, hC, hM, h9, hti, -, -⟩ := id hI
  have hc1 := hcel.1
  have hc2 := hcel.2
  have hc3 : cells ≤ room_1.cells := by omega
  have hc4 : slots ≤ room_1.slots := by omega
  have hV : Vr (bb + 30000) [2] (F_X2_levels S (xs (4 * t + 1))) (F_X3_levels M (xs (4 * t + 1))) 0 := by exact ⟨(V_levels hI).1, (V_levels hI).2.1, Inv_mono (V_levels hI).2.2 (by omega)⟩
  refine lv_aload_n hx hb dL_law_104 rfl (lv_at hl 3 rfl) ?_
  refine lv_aload_n hx hb dL_law_105 rfl (lv_at hl 4 rfl) ?_
  refine lv_iload hx hb dL_law_106 (lv_at hl 0 rfl) ?_
  refine lv_iconst (v := 1) hx hb dL_law_108 (by decide) ?_
  refine lv_iadd hx hb dL_law_109 ?_
  refine va_sld (i := nI (4 * t) + 1) hx hb hXs hbl (Nat.not_le.mpr hbl) hS (sc_in (k := 1) (by omega) hL).vp dL_law_110 ?_
  rw [show (nI (4 * t) + 1 : Int32).toNatClampNeg = 4 * t + 1 from (sc_in (k := 1) (L := L) (by omega) hL).2.1]
  refine l_hv (As := [.ref (ad 0), .int (xs (4 * t + 1))]) (rest := []) ⟨hx, hb, hml, hown, hts⟩ (k_L_levels l hlst D cy ad sa S (xs (4 * t + 1))) (vx_cwSW 2 hts gL_law_L_levels rfl rfl rfl (by decide +kernel) ⟨Nat.le_of_ble_eq_true rfl, Nat.le_of_ble_eq_true rfl⟩) hK hA hAA hN hX hU hNn hP hS rfl hl.1 rfl (Nat.le_of_ble_eq_true rfl) dL_law_111 hcel (fun H locs hP hS => ?_)
  refine lv_istore (lv' := [(5, .int (hc [2] (F_X2_levels S (xs (4 * t + 1))).2.2)), (4, .int (nI (4 * t))), (3, .ref ao), (2, .ref (am 0)), (1, .ref (ad 0)), (0, .ref b)]) hx hb dL_law_114 hl (by decide) rfl (fun ls hl => ?_)
  refine lv_aload_n hx hb dL_law_116 rfl (lv_at hl 3 rfl) ?_
  refine lv_aload_n hx hb dL_law_117 rfl (lv_at hl 5 rfl) ?_
  refine lv_iload hx hb dL_law_118 (lv_at hl 1 rfl) ?_
  refine lv_iconst (v := 1) hx hb dL_law_120 (by decide) ?_
  refine lv_iadd hx hb dL_law_121 ?_
  refine va_sld (i := nI (4 * t) + 1) hx hb hXs hbl (Nat.not_le.mpr hbl) hS (sc_in (k := 1) (by omega) hL).vp dL_law_122 ?_
  rw [show (nI (4 * t) + 1 : Int32).toNatClampNeg = 4 * t + 1 from (sc_in (k := 1) (L := L) (by omega) hL).2.1]
  refine l_mv (As := [.int (xs (4 * t + 1))]) (rest := []) ⟨hx, hb, hml, hown, hts⟩ (k_X3_levels l D cy am (M) (xs (4 * t + 1))) (cwV 1 hts gL_law_X3_levels rfl rfl rfl (by decide +kernel) ⟨Nat.le_of_ble_eq_true rfl, Nat.le_of_ble_eq_true rfl⟩) hK hA hAA hP hS rfl hl.1 rfl (Nat.le_of_ble_eq_true rfl) dL_law_123 ⟨hc1, hc2⟩ (fun H locs hP hS => ?_)
  refine lv_aload_n hx hb dL_law_126 rfl (lv_at hl 3 rfl) ?_
  refine l_mi (As := []) (rest := []) ⟨hx, hb, hml, hown, hts⟩ (k_X3_thrown l D cy am ((F_X3_levels M (xs (4 * t + 1)))) ) (cwV 0 hts gL_law_X3_thrown rfl rfl rfl (by decide +kernel) ⟨Nat.le_of_ble_eq_true rfl, Nat.le_of_ble_eq_true rfl⟩) hK hA hAA hP hS rfl hl.1 rfl (Nat.le_of_ble_eq_true rfl) dL_law_127 ⟨hc1, hc2⟩ (fun H locs hP hS => ?_)
  refine lv_iload hx hb dL_law_130 (lv_at hl 0 rfl) ?_
  refine lv_icmp_eq (tgt := 137) hx hb dL_law_132 (by decide) (fun _ => ?_) (fun z => absurd hV.1 z)
  refine lv_goto (tgt := 701) hx hb dL_law_137 (by decide) ?_
  exact K (F_X2_levels S (xs (4 * t + 1))).1 (F_X3_levels M (xs (4 * t + 1))) v H locs ls (hV.2.2) hP hS (lv_sub hl [1, 2, 3, 4, 5] rfl)
set_option maxHeartbeats 2000000 in
set_option maxRecDepth 100000 in
theorem lc_level {p : Program} {l : Launch} {e : Env} {s : State} {m : MethodId} {below : List Frame} {meth : Method} {c : Code} {b L : Nat} {xs : Nat → Int32} {D : va_G} {cy : Nat → ClassId} {ad am sa : Nat → Nat} {ao : Nat} {Q : State → Prop} (C : lwK p l s m c b L xs D cy ad am sa ao) {t bb cells slots : Nat} {S : Cs} {M : Ms} {v : Int64} {H : Heap} {locs : List Loc} {ls : Array Slot} (hI : Inv bb S M) (hbb : bb + 30000 < 2 ^ 30) (ht : 4 * t + 4 ≤ L) (hP : lwP D cy ad am ao S M v H) (hS : va_S (fun q => s.heap.size ≤ q) s.heap H locs) (hl : lv_has ls 7 [(4, .int (nI (4 * t))), (3, .ref ao), (2, .ref (am 0)), (1, .ref (ad 0)), (0, .ref b)]) (hcel : cells + 1 ≤ room_1.cells ∧ slots + 6 ≤ room_1.slots)
    (K : ∀ (S : Cs) (M : Ms) (v : Int64) (H : Heap) (locs : List Loc) (ls : Array Slot), Inv (bb + 30000) S M → lwP D cy ad am ao S M v H → va_S (fun q => s.heap.size ≤ q) s.heap H locs → lv_has ls 7 [(4, .int (nI (4 * t))), (3, .ref ao), (2, .ref (am 0)), (1, .ref (ad 0)), (0, .ref b)] → W p l e room_1 s m #[Value.ref b] below meth c H locs (cells + 1) (slots + 6) Q (F0 m 701 ls [])) : W p l e room_1 s m #[Value.ref b] below meth c H locs cells slots Q (F0 m 140 ls []) := by
  obtain ⟨hx, hb, hml, hown, hts, hK, hA, hN, hX, hU, hNn, hXs, hbl, hlst, hL⟩ := C
  have hAA : ∀ q : Nat, s.heap.size ≤ q → (fun q : Nat => s.heap.size ≤ q) q := fun _ h => h
  obtain ⟨N9, L9, T9, hT, hC, hM, h9, hti, -, -⟩ := id hI
  have hc1 := hcel.1
  have hc2 := hcel.2
  have hc3 : cells ≤ room_1.cells := by omega
  have hc4 : slots ≤ room_1.slots := by omega
  have hV : Vr (bb + 30000) [1, 2, 3] (F_X2_level S (xs (4 * t + 1)) (xs (4 * t + 2)) (xs (4 * t + 3))) (F_X3_level M (xs (4 * t + 1)) (xs (4 * t + 2)) (xs (4 * t + 3))) 0 := by exact ⟨(V_level hI).1, (V_level hI).2.1, Inv_mono (V_level hI).2.2 (by omega)⟩
  refine lv_aload_n hx hb dL_law_140 rfl (lv_at hl 3 rfl) ?_
  refine lv_aload_n hx hb dL_law_141 rfl (lv_at hl 4 rfl) ?_
  refine lv_iload hx hb dL_law_142 (lv_at hl 0 rfl) ?_
  refine lv_iconst (v := 1) hx hb dL_law_144 (by decide) ?_
  refine lv_iadd hx hb dL_law_145 ?_
  refine va_sld (i := nI (4 * t) + 1) hx hb hXs hbl (Nat.not_le.mpr hbl) hS (sc_in (k := 1) (by omega) hL).vp dL_law_146 ?_
  rw [show (nI (4 * t) + 1 : Int32).toNatClampNeg = 4 * t + 1 from (sc_in (k := 1) (L := L) (by omega) hL).2.1]
  refine lv_aload_n hx hb dL_law_147 rfl (lv_at hl 4 rfl) ?_
  refine lv_iload hx hb dL_law_148 (lv_at hl 0 rfl) ?_
  refine lv_iconst (v := 2) hx hb dL_law_150 (by decide) ?_
  refine lv_iadd hx hb dL_law_151 ?_
  refine va_sld (i := nI (4 * t) + 2) hx hb hXs hbl (Nat.not_le.mpr hbl) hS (sc_in (k := 2) (by omega) hL).vp dL_law_152 ?_
  rw [show (nI (4 * t) + 2 : Int32).toNatClampNeg = 4 * t + 2 from (sc_in (k := 2) (L := L) (by omega) hL).2.1]
  refine lv_aload_n hx hb dL_law_153 rfl (lv_at hl 4 rfl) ?_
  refine lv_iload hx hb dL_law_154 (lv_at hl 0 rfl) ?_
  refine lv_iconst (v := 3) hx hb dL_law_156 (by decide) ?_
  refine lv_iadd hx hb dL_law_157 ?_
  refine va_sld (i := nI (4 * t) + 3) hx hb hXs hbl (Nat.not_le.mpr hbl) hS (sc_in (k := 3) (by omega) hL).vp dL_law_158 ?_
  rw [show (nI (4 * t) + 3 : Int32).toNatClampNeg = 4 * t + 3 from (sc_in (k := 3) (L := L) (by omega) hL).2.1]
  refine l_hv (As := [.ref (ad 0), .int (xs (4 * t + 1)), .int (xs (4 * t + 2)), .int (xs (4 * t + 3))]) (rest := []) ⟨hx, hb, hml, hown, hts⟩ (k_L_level l hlst D cy ad sa S (xs (4 * t + 1)) (xs (4 * t + 2)) (xs (4 * t + 3)) hC) (vx_cwSW 4 hts gL_law_L_level rfl rfl rfl (by decide +kernel) ⟨Nat.le_of_ble_eq_true rfl, Nat.le_of_ble_eq_true rfl⟩) hK hA hAA hN hX hU hNn hP hS rfl hl.1 rfl (Nat.le_of_ble_eq_true rfl) dL_law_159 hcel (fun H locs hP hS => ?_)
  refine lv_istore (lv' := [(5, .int (hc [1, 2, 3] (F_X2_level S (xs (4 * t + 1)) (xs (4 * t + 2)) (xs (4 * t + 3))).2.2)), (4, .int (nI (4 * t))), (3, .ref ao), (2, .ref (am 0)), (1, .ref (ad 0)), (0, .ref b)]) hx hb dL_law_162 hl (by decide) rfl (fun ls hl => ?_)
  refine lv_aload_n hx hb dL_law_164 rfl (lv_at hl 3 rfl) ?_
  refine lv_aload_n hx hb dL_law_165 rfl (lv_at hl 5 rfl) ?_
  refine lv_iload hx hb dL_law_166 (lv_at hl 1 rfl) ?_
  refine lv_iconst (v := 1) hx hb dL_law_168 (by decide) ?_
  refine lv_iadd hx hb dL_law_169 ?_
  refine va_sld (i := nI (4 * t) + 1) hx hb hXs hbl (Nat.not_le.mpr hbl) hS (sc_in (k := 1) (by omega) hL).vp dL_law_170 ?_
  rw [show (nI (4 * t) + 1 : Int32).toNatClampNeg = 4 * t + 1 from (sc_in (k := 1) (L := L) (by omega) hL).2.1]
  refine lv_aload_n hx hb dL_law_171 rfl (lv_at hl 5 rfl) ?_
  refine lv_iload hx hb dL_law_172 (lv_at hl 1 rfl) ?_
  refine lv_iconst (v := 2) hx hb dL_law_174 (by decide) ?_
  refine lv_iadd hx hb dL_law_175 ?_
  refine va_sld (i := nI (4 * t) + 2) hx hb hXs hbl (Nat.not_le.mpr hbl) hS (sc_in (k := 2) (by omega) hL).vp dL_law_176 ?_
  rw [show (nI (4 * t) + 2 : Int32).toNatClampNeg = 4 * t + 2 from (sc_in (k := 2) (L := L) (by omega) hL).2.1]
  refine lv_aload_n hx hb dL_law_177 rfl (lv_at hl 5 rfl) ?_
  refine lv_iload hx hb dL_law_178 (lv_at hl 1 rfl) ?_
  refine lv_iconst (v := 3) hx hb dL_law_180 (by decide) ?_
  refine lv_iadd hx hb dL_law_181 ?_
  refine va_sld (i := nI (4 * t) + 3) hx hb hXs hbl (Nat.not_le.mpr hbl) hS (sc_in (k := 3) (by omega) hL).vp dL_law_182 ?_
  rw [show (nI (4 * t) + 3 : Int32).toNatClampNeg = 4 * t + 3 from (sc_in (k := 3) (L := L) (by omega) hL).2.1]
  refine l_mv (As := [.int (xs (4 * t + 1)), .int (xs (4 * t + 2)), .int (xs (4 * t + 3))]) (rest := []) ⟨hx, hb, hml, hown, hts⟩ (k_X3_level l D cy am (M) (xs (4 * t + 1)) (xs (4 * t + 2)) (xs (4 * t + 3)) hM) (cwV 3 hts gL_law_X3_level rfl rfl rfl (by decide +kernel) ⟨Nat.le_of_ble_eq_true rfl, Nat.le_of_ble_eq_true rfl⟩) hK hA hAA hP hS rfl hl.1 rfl (Nat.le_of_ble_eq_true rfl) dL_law_183 ⟨hc1, hc2⟩ (fun H locs hP hS => ?_)
  refine lv_aload_n hx hb dL_law_186 rfl (lv_at hl 3 rfl) ?_
  refine l_mi (As := []) (rest := []) ⟨hx, hb, hml, hown, hts⟩ (k_X3_thrown l D cy am ((F_X3_level M (xs (4 * t + 1)) (xs (4 * t + 2)) (xs (4 * t + 3)))) ) (cwV 0 hts gL_law_X3_thrown rfl rfl rfl (by decide +kernel) ⟨Nat.le_of_ble_eq_true rfl, Nat.le_of_ble_eq_true rfl⟩) hK hA hAA hP hS rfl hl.1 rfl (Nat.le_of_ble_eq_true rfl) dL_law_187 ⟨hc1, hc2⟩ (fun H locs hP hS => ?_)
  refine lv_iload hx hb dL_law_190 (lv_at hl 0 rfl) ?_
  refine lv_icmp_eq (tgt := 197) hx hb dL_law_192 (by decide) (fun _ => ?_) (fun z => absurd hV.1 z)
  refine lv_goto (tgt := 701) hx hb dL_law_197 (by decide) ?_
  exact K (F_X2_level S (xs (4 * t + 1)) (xs (4 * t + 2)) (xs (4 * t + 3))).1 (F_X3_level M (xs (4 * t + 1)) (xs (4 * t + 2)) (xs (4 * t + 3))) v H locs ls (hV.2.2) hP hS (lv_sub hl [1, 2, 3, 4, 5] rfl)
set_option maxHeartbeats 2000000 in
set_option maxRecDepth 100000 in
theorem lc_period {p : Program} {l : Launch} {e : Env} {s : State} {m : MethodId} {below : List Frame} {meth : Method} {c : Code} {b L : Nat} {xs : Nat → Int32} {D : va_G} {cy : Nat → ClassId} {ad am sa : Nat → Nat} {ao : Nat} {Q : State → Prop} (C : lwK p l s m c b L xs D cy ad am sa ao) {t bb cells slots : Nat} {S : Cs} {M : Ms} {v : Int64} {H : Heap} {locs : List Loc} {ls : Array Slot} (hI : Inv bb S M) (hbb : bb + 30000 < 2 ^ 30) (ht : 4 * t + 4 ≤ L) (hP : lwP D cy ad am ao S M v H) (hS : va_S (fun q => s.heap.size ≤ q) s.heap H locs) (hl : lv_has ls 7 [(4, .int (nI (4 * t))), (3, .ref ao), (2, .ref (am 0)), (1, .ref (ad 0)), (0, .ref b)]) (hcel : cells + 1 ≤ room_1.cells ∧ slots + 6 ≤ room_1.slots)
    (K : ∀ (S : Cs) (M : Ms) (v : Int64) (H : Heap) (locs : List Loc) (ls : Array Slot), Inv (bb + 30000) S M → lwP D cy ad am ao S M v H → va_S (fun q => s.heap.size ≤ q) s.heap H locs → lv_has ls 7 [(4, .int (nI (4 * t))), (3, .ref ao), (2, .ref (am 0)), (1, .ref (ad 0)), (0, .ref b)] → W p l e room_1 s m #[Value.ref b] below meth c H locs (cells + 1) (slots + 6) Q (F0 m 701 ls [])) : W p l e room_1 s m #[Value.ref b] below meth c H locs cells slots Q (F0 m 200 ls []) := by
  obtain ⟨hx, hb, hml, hown, hts, hK, hA, hN, hX, hU, hNn, hXs, hbl, hlst, hL⟩ := C
  have hAA : ∀ q : Nat, s.heap.size ≤ q → (fun q : Nat => s.heap.size ≤ q) q := fun _ h => h
  obtain ⟨N9, L9, T9, hT, hC, hM, h9, hti, -, -⟩ := id hI
  have hc1 := hcel.1
  have hc2 := hcel.2
  have hc3 : cells ≤ room_1.cells := by omega
  have hc4 : slots ≤ room_1.slots := by omega
  have hV : Vr (bb + 30000) [2, 3] (F_X2_period S (xs (4 * t + 1))) (F_X3_period M (xs (4 * t + 1))) 0 := by exact ⟨(V_period hI).1, (V_period hI).2.1, Inv_mono (V_period hI).2.2 (by omega)⟩
  refine lv_aload_n hx hb dL_law_200 rfl (lv_at hl 3 rfl) ?_
  refine lv_aload_n hx hb dL_law_201 rfl (lv_at hl 4 rfl) ?_
  refine lv_iload hx hb dL_law_202 (lv_at hl 0 rfl) ?_
  refine lv_iconst (v := 1) hx hb dL_law_204 (by decide) ?_
  refine lv_iadd hx hb dL_law_205 ?_
  refine va_sld (i := nI (4 * t) + 1) hx hb hXs hbl (Nat.not_le.mpr hbl) hS (sc_in (k := 1) (by omega) hL).vp dL_law_206 ?_
  rw [show (nI (4 * t) + 1 : Int32).toNatClampNeg = 4 * t + 1 from (sc_in (k := 1) (L := L) (by omega) hL).2.1]
  refine l_hv (As := [.ref (ad 0), .int (xs (4 * t + 1))]) (rest := []) ⟨hx, hb, hml, hown, hts⟩ (k_L_period l hlst D cy ad sa S (xs (4 * t + 1))) (vx_cwSW 2 hts gL_law_L_period rfl rfl rfl (by decide +kernel) ⟨Nat.le_of_ble_eq_true rfl, Nat.le_of_ble_eq_true rfl⟩) hK hA hAA hN hX hU hNn hP hS rfl hl.1 rfl (Nat.le_of_ble_eq_true rfl) dL_law_207 hcel (fun H locs hP hS => ?_)
  refine lv_istore (lv' := [(5, .int (hc [2, 3] (F_X2_period S (xs (4 * t + 1))).2.2)), (4, .int (nI (4 * t))), (3, .ref ao), (2, .ref (am 0)), (1, .ref (ad 0)), (0, .ref b)]) hx hb dL_law_210 hl (by decide) rfl (fun ls hl => ?_)
  refine lv_aload_n hx hb dL_law_212 rfl (lv_at hl 3 rfl) ?_
  refine lv_aload_n hx hb dL_law_213 rfl (lv_at hl 5 rfl) ?_
  refine lv_iload hx hb dL_law_214 (lv_at hl 1 rfl) ?_
  refine lv_iconst (v := 1) hx hb dL_law_216 (by decide) ?_
  refine lv_iadd hx hb dL_law_217 ?_
  refine va_sld (i := nI (4 * t) + 1) hx hb hXs hbl (Nat.not_le.mpr hbl) hS (sc_in (k := 1) (by omega) hL).vp dL_law_218 ?_
  rw [show (nI (4 * t) + 1 : Int32).toNatClampNeg = 4 * t + 1 from (sc_in (k := 1) (L := L) (by omega) hL).2.1]
  refine l_mv (As := [.int (xs (4 * t + 1))]) (rest := []) ⟨hx, hb, hml, hown, hts⟩ (k_X3_period l D cy am (M) (xs (4 * t + 1))) (cwV 1 hts gL_law_X3_period rfl rfl rfl (by decide +kernel) ⟨Nat.le_of_ble_eq_true rfl, Nat.le_of_ble_eq_true rfl⟩) hK hA hAA hP hS rfl hl.1 rfl (Nat.le_of_ble_eq_true rfl) dL_law_219 ⟨hc1, hc2⟩ (fun H locs hP hS => ?_)
  refine lv_aload_n hx hb dL_law_222 rfl (lv_at hl 3 rfl) ?_
  refine l_mi (As := []) (rest := []) ⟨hx, hb, hml, hown, hts⟩ (k_X3_thrown l D cy am ((F_X3_period M (xs (4 * t + 1)))) ) (cwV 0 hts gL_law_X3_thrown rfl rfl rfl (by decide +kernel) ⟨Nat.le_of_ble_eq_true rfl, Nat.le_of_ble_eq_true rfl⟩) hK hA hAA hP hS rfl hl.1 rfl (Nat.le_of_ble_eq_true rfl) dL_law_223 ⟨hc1, hc2⟩ (fun H locs hP hS => ?_)
  refine lv_iload hx hb dL_law_226 (lv_at hl 0 rfl) ?_
  refine lv_icmp_eq (tgt := 233) hx hb dL_law_228 (by decide) (fun _ => ?_) (fun z => absurd hV.1 z)
  refine lv_goto (tgt := 701) hx hb dL_law_233 (by decide) ?_
  exact K (F_X2_period S (xs (4 * t + 1))).1 (F_X3_period M (xs (4 * t + 1))) v H locs ls (hV.2.2) hP hS (lv_sub hl [1, 2, 3, 4, 5] rfl)
set_option maxHeartbeats 2000000 in
set_option maxRecDepth 100000 in
theorem lc_process {p : Program} {l : Launch} {e : Env} {s : State} {m : MethodId} {below : List Frame} {meth : Method} {c : Code} {b L : Nat} {xs : Nat → Int32} {D : va_G} {cy : Nat → ClassId} {ad am sa : Nat → Nat} {ao : Nat} {Q : State → Prop} (C : lwK p l s m c b L xs D cy ad am sa ao) {t bb cells slots : Nat} {S : Cs} {M : Ms} {v : Int64} {H : Heap} {locs : List Loc} {ls : Array Slot} (hI : Inv bb S M) (hbb : bb + 30000 < 2 ^ 30) (ht : 4 * t + 4 ≤ L) (hP : lwP D cy ad am ao S M v H) (hS : va_S (fun q => s.heap.size ≤ q) s.heap H locs) (hl : lv_has ls 7 [(4, .int (nI (4 * t))), (3, .ref ao), (2, .ref (am 0)), (1, .ref (ad 0)), (0, .ref b)]) (hcel : cells + 1 ≤ room_1.cells ∧ slots + 6 ≤ room_1.slots)
    (K : ∀ (S : Cs) (M : Ms) (v : Int64) (H : Heap) (locs : List Loc) (ls : Array Slot), Inv (bb + 30000) S M → lwP D cy ad am ao S M v H → va_S (fun q => s.heap.size ≤ q) s.heap H locs → lv_has ls 7 [(4, .int (nI (4 * t))), (3, .ref ao), (2, .ref (am 0)), (1, .ref (ad 0)), (0, .ref b)] → W p l e room_1 s m #[Value.ref b] below meth c H locs (cells + 1) (slots + 6) Q (F0 m 701 ls [])) : W p l e room_1 s m #[Value.ref b] below meth c H locs cells slots Q (F0 m 236 ls []) := by
  obtain ⟨hx, hb, hml, hown, hts, hK, hA, hN, hX, hU, hNn, hXs, hbl, hlst, hL⟩ := C
  have hAA : ∀ q : Nat, s.heap.size ≤ q → (fun q : Nat => s.heap.size ≤ q) q := fun _ h => h
  obtain ⟨N9, L9, T9, hT, hC, hM, h9, hti, -, -⟩ := id hI
  have hc1 := hcel.1
  have hc2 := hcel.2
  have hc3 : cells ≤ room_1.cells := by omega
  have hc4 : slots ≤ room_1.slots := by omega
  have hV : Vr (bb + 30000) [2, 3] (F_X2_process S (xs (4 * t + 1))) (F_X3_process M (xs (4 * t + 1))).1 (F_X3_process M (xs (4 * t + 1))).2 := by exact ⟨(V_process hI).1, (V_process hI).2.1, Inv_mono (V_process hI).2.2 (by omega)⟩
  refine lv_aload_n hx hb dL_law_236 rfl (lv_at hl 3 rfl) ?_
  refine lv_aload_n hx hb dL_law_237 rfl (lv_at hl 4 rfl) ?_
  refine lv_iload hx hb dL_law_238 (lv_at hl 0 rfl) ?_
  refine lv_iconst (v := 1) hx hb dL_law_240 (by decide) ?_
  refine lv_iadd hx hb dL_law_241 ?_
  refine va_sld (i := nI (4 * t) + 1) hx hb hXs hbl (Nat.not_le.mpr hbl) hS (sc_in (k := 1) (by omega) hL).vp dL_law_242 ?_
  rw [show (nI (4 * t) + 1 : Int32).toNatClampNeg = 4 * t + 1 from (sc_in (k := 1) (L := L) (by omega) hL).2.1]
  refine lv_aload_n hx hb dL_law_243 rfl (lv_at hl 1 rfl) ?_
  refine l_hi (As := [.ref (ad 0), .int (xs (4 * t + 1)), .ref ao]) (rest := []) ⟨hx, hb, hml, hown, hts⟩ (k_L_process l hlst D cy ad sa ao v S (xs (4 * t + 1)) hC) (vx_cwSW 3 hts gL_law_L_process rfl rfl rfl (by decide +kernel) ⟨Nat.le_of_ble_eq_true rfl, Nat.le_of_ble_eq_true rfl⟩) hK hA hAA hN hX hU hNn hP hS rfl hl.1 rfl (Nat.le_of_ble_eq_true rfl) dL_law_244 hcel (fun H locs hP hS => ?_)
  refine lv_istore (lv' := [(5, .int (hc [2, 3] (F_X2_process S (xs (4 * t + 1))).2.2)), (4, .int (nI (4 * t))), (3, .ref ao), (2, .ref (am 0)), (1, .ref (ad 0)), (0, .ref b)]) hx hb dL_law_247 hl (by decide) rfl (fun ls hl => ?_)
  refine lv_aload_n hx hb dL_law_249 rfl (lv_at hl 3 rfl) ?_
  refine lv_aload_n hx hb dL_law_250 rfl (lv_at hl 5 rfl) ?_
  refine lv_iload hx hb dL_law_251 (lv_at hl 1 rfl) ?_
  refine lv_iconst (v := 1) hx hb dL_law_253 (by decide) ?_
  refine lv_iadd hx hb dL_law_254 ?_
  refine va_sld (i := nI (4 * t) + 1) hx hb hXs hbl (Nat.not_le.mpr hbl) hS (sc_in (k := 1) (by omega) hL).vp dL_law_255 ?_
  rw [show (nI (4 * t) + 1 : Int32).toNatClampNeg = 4 * t + 1 from (sc_in (k := 1) (L := L) (by omega) hL).2.1]
  refine l_mi (As := [.int (xs (4 * t + 1))]) (rest := []) ⟨hx, hb, hml, hown, hts⟩ (k_X3_process l D cy am (M) (xs (4 * t + 1)) hM) (cwV 1 hts gL_law_X3_process rfl rfl rfl (by decide +kernel) ⟨Nat.le_of_ble_eq_true rfl, Nat.le_of_ble_eq_true rfl⟩) hK hA hAA hP hS rfl hl.1 rfl (Nat.le_of_ble_eq_true rfl) dL_law_256 ⟨hc1, hc2⟩ (fun H locs hP hS => ?_)
  refine lv_istore (lv' := [(6, .int (F_X3_process M (xs (4 * t + 1))).2), (5, .int (hc [2, 3] (F_X2_process S (xs (4 * t + 1))).2.2)), (4, .int (nI (4 * t))), (3, .ref ao), (2, .ref (am 0)), (1, .ref (ad 0)), (0, .ref b)]) hx hb dL_law_259 hl (by decide) rfl (fun ls hl => ?_)
  refine lv_aload_n hx hb dL_law_261 rfl (lv_at hl 4 rfl) ?_
  refine l_mi (As := []) (rest := []) ⟨hx, hb, hml, hown, hts⟩ (k_X3_thrown l D cy am ((F_X3_process M (xs (4 * t + 1))).1) ) (cwV 0 hts gL_law_X3_thrown rfl rfl rfl (by decide +kernel) ⟨Nat.le_of_ble_eq_true rfl, Nat.le_of_ble_eq_true rfl⟩) hK hA hAA hP hS rfl hl.1 rfl (Nat.le_of_ble_eq_true rfl) dL_law_262 ⟨hc1, hc2⟩ (fun H locs hP hS => ?_)
  refine lv_iload hx hb dL_law_265 (lv_at hl 1 rfl) ?_
  refine lv_icmp_eq (tgt := 272) hx hb dL_law_267 (by decide) (fun _ => ?_) (fun z => absurd hV.1 z)
  refine lv_iload hx hb dL_law_272 (lv_at hl 1 rfl) ?_
  refine lv_if_ne (tgt := 289) hx hb dL_law_274 (by decide) (fun _ => ?_) (fun z => ?_)
  rotate_left
  · have hk0 := hc_0 (ks := [2, 3]) (by decide) z
    refine lv_aload_n hx hb dL_law_277 rfl (lv_at hl 3 rfl) ?_
    refine lv_iconst (v := 0) hx hb dL_law_278 (by decide) ?_
    refine o_get hx hb hK hP.2.2 dL_law_279 ?_
    refine lv_iload hx hb dL_law_280 (lv_at hl 0 rfl) ?_
    refine lv_i2l hx hb dL_law_282 rfl ?_
    refine W.lcmp hx hb dL_law_283 ?_
    rw [if_pos hk0, hV.2.1 hk0, show lg_cmp (F_X3_process M (xs (4 * t + 1))).2.toInt64 (F_X3_process M (xs (4 * t + 1))).2.toInt64 = 0 from by simp [lg_cmp]]
    refine lv_if_eq (tgt := 289) hx hb dL_law_284 (by decide) (fun _ => ?_) (fun z => absurd rfl z)
    refine lv_goto (tgt := 701) hx hb dL_law_289 (by decide) ?_
    exact K (F_X2_process S (xs (4 * t + 1))).1 (F_X3_process M (xs (4 * t + 1))).1 _ H locs ls hV.2.2 hP hS (lv_sub hl [2, 3, 4, 5, 6] rfl)
  skip
  refine lv_goto (tgt := 701) hx hb dL_law_289 (by decide) ?_
  exact K (F_X2_process S (xs (4 * t + 1))).1 (F_X3_process M (xs (4 * t + 1))).1 (if (F_X2_process S (xs (4 * t + 1))).2.2 = 0 then (F_X2_process S (xs (4 * t + 1))).2.1.toInt64 else v) H locs ls (hV.2.2) hP hS (lv_sub hl [2, 3, 4, 5, 6] rfl)
set_option maxHeartbeats 2000000 in
set_option maxRecDepth 100000 in
theorem lc_burst {p : Program} {l : Launch} {e : Env} {s : State} {m : MethodId} {below : List Frame} {meth : Method} {c : Code} {b L : Nat} {xs : Nat → Int32} {D : va_G} {cy : Nat → ClassId} {ad am sa : Nat → Nat} {ao : Nat} {Q : State → Prop} (C : lwK p l s m c b L xs D cy ad am sa ao) {t bb cells slots : Nat} {S : Cs} {M : Ms} {v : Int64} {H : Heap} {locs : List Loc} {ls : Array Slot} (hI : Inv bb S M) (hbb : bb + 30000 < 2 ^ 30) (ht : 4 * t + 4 ≤ L) (hP : lwP D cy ad am ao S M v H) (hS : va_S (fun q => s.heap.size ≤ q) s.heap H locs) (hl : lv_has ls 7 [(4, .int (nI (4 * t))), (3, .ref ao), (2, .ref (am 0)), (1, .ref (ad 0)), (0, .ref b)]) (hcel : cells + 1 ≤ room_1.cells ∧ slots + 6 ≤ room_1.slots)
    (K : ∀ (S : Cs) (M : Ms) (v : Int64) (H : Heap) (locs : List Loc) (ls : Array Slot), Inv (bb + 30000) S M → lwP D cy ad am ao S M v H → va_S (fun q => s.heap.size ≤ q) s.heap H locs → lv_has ls 7 [(4, .int (nI (4 * t))), (3, .ref ao), (2, .ref (am 0)), (1, .ref (ad 0)), (0, .ref b)] → W p l e room_1 s m #[Value.ref b] below meth c H locs (cells + 1) (slots + 6) Q (F0 m 701 ls [])) : W p l e room_1 s m #[Value.ref b] below meth c H locs cells slots Q (F0 m 292 ls []) := by
  obtain ⟨hx, hb, hml, hown, hts, hK, hA, hN, hX, hU, hNn, hXs, hbl, hlst, hL⟩ := C
  have hAA : ∀ q : Nat, s.heap.size ≤ q → (fun q : Nat => s.heap.size ≤ q) q := fun _ h => h
  obtain ⟨N9, L9, T9, hT, hC, hM, h9, hti, -, -⟩ := id hI
  have hc1 := hcel.1
  have hc2 := hcel.2
  have hc3 : cells ≤ room_1.cells := by omega
  have hc4 : slots ≤ room_1.slots := by omega
  have hV : Vr (bb + 30000) [1, 2, 3] (F_X2_burst S (xs (4 * t + 1)) (xs (4 * t + 2))) (F_X3_burst M (xs (4 * t + 1)) (xs (4 * t + 2))).1 (F_X3_burst M (xs (4 * t + 1)) (xs (4 * t + 2))).2 := by exact ⟨(V_burst hI).1, (V_burst hI).2.1, Inv_mono (V_burst hI).2.2 (by omega)⟩
  refine lv_aload_n hx hb dL_law_292 rfl (lv_at hl 3 rfl) ?_
  refine lv_aload_n hx hb dL_law_293 rfl (lv_at hl 4 rfl) ?_
  refine lv_iload hx hb dL_law_294 (lv_at hl 0 rfl) ?_
  refine lv_iconst (v := 1) hx hb dL_law_296 (by decide) ?_
  refine lv_iadd hx hb dL_law_297 ?_
  refine va_sld (i := nI (4 * t) + 1) hx hb hXs hbl (Nat.not_le.mpr hbl) hS (sc_in (k := 1) (by omega) hL).vp dL_law_298 ?_
  rw [show (nI (4 * t) + 1 : Int32).toNatClampNeg = 4 * t + 1 from (sc_in (k := 1) (L := L) (by omega) hL).2.1]
  refine lv_aload_n hx hb dL_law_299 rfl (lv_at hl 4 rfl) ?_
  refine lv_iload hx hb dL_law_300 (lv_at hl 0 rfl) ?_
  refine lv_iconst (v := 2) hx hb dL_law_302 (by decide) ?_
  refine lv_iadd hx hb dL_law_303 ?_
  refine va_sld (i := nI (4 * t) + 2) hx hb hXs hbl (Nat.not_le.mpr hbl) hS (sc_in (k := 2) (by omega) hL).vp dL_law_304 ?_
  rw [show (nI (4 * t) + 2 : Int32).toNatClampNeg = 4 * t + 2 from (sc_in (k := 2) (L := L) (by omega) hL).2.1]
  refine lv_aload_n hx hb dL_law_305 rfl (lv_at hl 1 rfl) ?_
  refine l_hi (As := [.ref (ad 0), .int (xs (4 * t + 1)), .int (xs (4 * t + 2)), .ref ao]) (rest := []) ⟨hx, hb, hml, hown, hts⟩ (k_L_burst l hlst D cy ad sa ao v S (xs (4 * t + 1)) (xs (4 * t + 2)) hC) (vx_cwSW 4 hts gL_law_L_burst rfl rfl rfl (by decide +kernel) ⟨Nat.le_of_ble_eq_true rfl, Nat.le_of_ble_eq_true rfl⟩) hK hA hAA hN hX hU hNn hP hS rfl hl.1 rfl (Nat.le_of_ble_eq_true rfl) dL_law_306 hcel (fun H locs hP hS => ?_)
  refine lv_istore (lv' := [(5, .int (hc [1, 2, 3] (F_X2_burst S (xs (4 * t + 1)) (xs (4 * t + 2))).2.2)), (4, .int (nI (4 * t))), (3, .ref ao), (2, .ref (am 0)), (1, .ref (ad 0)), (0, .ref b)]) hx hb dL_law_309 hl (by decide) rfl (fun ls hl => ?_)
  refine lv_aload_n hx hb dL_law_311 rfl (lv_at hl 3 rfl) ?_
  refine lv_aload_n hx hb dL_law_312 rfl (lv_at hl 5 rfl) ?_
  refine lv_iload hx hb dL_law_313 (lv_at hl 1 rfl) ?_
  refine lv_iconst (v := 1) hx hb dL_law_315 (by decide) ?_
  refine lv_iadd hx hb dL_law_316 ?_
  refine va_sld (i := nI (4 * t) + 1) hx hb hXs hbl (Nat.not_le.mpr hbl) hS (sc_in (k := 1) (by omega) hL).vp dL_law_317 ?_
  rw [show (nI (4 * t) + 1 : Int32).toNatClampNeg = 4 * t + 1 from (sc_in (k := 1) (L := L) (by omega) hL).2.1]
  refine lv_aload_n hx hb dL_law_318 rfl (lv_at hl 5 rfl) ?_
  refine lv_iload hx hb dL_law_319 (lv_at hl 1 rfl) ?_
  refine lv_iconst (v := 2) hx hb dL_law_321 (by decide) ?_
  refine lv_iadd hx hb dL_law_322 ?_
  refine va_sld (i := nI (4 * t) + 2) hx hb hXs hbl (Nat.not_le.mpr hbl) hS (sc_in (k := 2) (by omega) hL).vp dL_law_323 ?_
  rw [show (nI (4 * t) + 2 : Int32).toNatClampNeg = 4 * t + 2 from (sc_in (k := 2) (L := L) (by omega) hL).2.1]
  refine l_mi (As := [.int (xs (4 * t + 1)), .int (xs (4 * t + 2))]) (rest := []) ⟨hx, hb, hml, hown, hts⟩ (k_X3_burst l D cy am (M) (xs (4 * t + 1)) (xs (4 * t + 2)) hM) (cwV 2 hts gL_law_X3_burst rfl rfl rfl (by decide +kernel) ⟨Nat.le_of_ble_eq_true rfl, Nat.le_of_ble_eq_true rfl⟩) hK hA hAA hP hS rfl hl.1 rfl (Nat.le_of_ble_eq_true rfl) dL_law_324 ⟨hc1, hc2⟩ (fun H locs hP hS => ?_)
  refine lv_istore (lv' := [(6, .int (F_X3_burst M (xs (4 * t + 1)) (xs (4 * t + 2))).2), (5, .int (hc [1, 2, 3] (F_X2_burst S (xs (4 * t + 1)) (xs (4 * t + 2))).2.2)), (4, .int (nI (4 * t))), (3, .ref ao), (2, .ref (am 0)), (1, .ref (ad 0)), (0, .ref b)]) hx hb dL_law_327 hl (by decide) rfl (fun ls hl => ?_)
  refine lv_aload_n hx hb dL_law_329 rfl (lv_at hl 4 rfl) ?_
  refine l_mi (As := []) (rest := []) ⟨hx, hb, hml, hown, hts⟩ (k_X3_thrown l D cy am ((F_X3_burst M (xs (4 * t + 1)) (xs (4 * t + 2))).1) ) (cwV 0 hts gL_law_X3_thrown rfl rfl rfl (by decide +kernel) ⟨Nat.le_of_ble_eq_true rfl, Nat.le_of_ble_eq_true rfl⟩) hK hA hAA hP hS rfl hl.1 rfl (Nat.le_of_ble_eq_true rfl) dL_law_330 ⟨hc1, hc2⟩ (fun H locs hP hS => ?_)
  refine lv_iload hx hb dL_law_333 (lv_at hl 1 rfl) ?_
  refine lv_icmp_eq (tgt := 340) hx hb dL_law_335 (by decide) (fun _ => ?_) (fun z => absurd hV.1 z)
  refine lv_iload hx hb dL_law_340 (lv_at hl 1 rfl) ?_
  refine lv_if_ne (tgt := 357) hx hb dL_law_342 (by decide) (fun _ => ?_) (fun z => ?_)
  rotate_left
  · have hk0 := hc_0 (ks := [1, 2, 3]) (by decide) z
    refine lv_aload_n hx hb dL_law_345 rfl (lv_at hl 3 rfl) ?_
    refine lv_iconst (v := 0) hx hb dL_law_346 (by decide) ?_
    refine o_get hx hb hK hP.2.2 dL_law_347 ?_
    refine lv_iload hx hb dL_law_348 (lv_at hl 0 rfl) ?_
    refine lv_i2l hx hb dL_law_350 rfl ?_
    refine W.lcmp hx hb dL_law_351 ?_
    rw [if_pos hk0, hV.2.1 hk0, show lg_cmp (F_X3_burst M (xs (4 * t + 1)) (xs (4 * t + 2))).2.toInt64 (F_X3_burst M (xs (4 * t + 1)) (xs (4 * t + 2))).2.toInt64 = 0 from by simp [lg_cmp]]
    refine lv_if_eq (tgt := 357) hx hb dL_law_352 (by decide) (fun _ => ?_) (fun z => absurd rfl z)
    refine lv_goto (tgt := 701) hx hb dL_law_357 (by decide) ?_
    exact K (F_X2_burst S (xs (4 * t + 1)) (xs (4 * t + 2))).1 (F_X3_burst M (xs (4 * t + 1)) (xs (4 * t + 2))).1 _ H locs ls hV.2.2 hP hS (lv_sub hl [2, 3, 4, 5, 6] rfl)
  skip
  refine lv_goto (tgt := 701) hx hb dL_law_357 (by decide) ?_
  exact K (F_X2_burst S (xs (4 * t + 1)) (xs (4 * t + 2))).1 (F_X3_burst M (xs (4 * t + 1)) (xs (4 * t + 2))).1 (if (F_X2_burst S (xs (4 * t + 1)) (xs (4 * t + 2))).2.2 = 0 then (F_X2_burst S (xs (4 * t + 1)) (xs (4 * t + 2))).2.1.toInt64 else v) H locs ls (hV.2.2) hP hS (lv_sub hl [2, 3, 4, 5, 6] rfl)
set_option maxHeartbeats 2000000 in
set_option maxRecDepth 100000 in
theorem lc_run {p : Program} {l : Launch} {e : Env} {s : State} {m : MethodId} {below : List Frame} {meth : Method} {c : Code} {b L : Nat} {xs : Nat → Int32} {D : va_G} {cy : Nat → ClassId} {ad am sa : Nat → Nat} {ao : Nat} {Q : State → Prop} (C : lwK p l s m c b L xs D cy ad am sa ao) {t bb cells slots : Nat} {S : Cs} {M : Ms} {v : Int64} {H : Heap} {locs : List Loc} {ls : Array Slot} (hI : Inv bb S M) (hbb : bb + 30000 < 2 ^ 30) (ht : 4 * t + 4 ≤ L) (hP : lwP D cy ad am ao S M v H) (hS : va_S (fun q => s.heap.size ≤ q) s.heap H locs) (hl : lv_has ls 7 [(4, .int (nI (4 * t))), (3, .ref ao), (2, .ref (am 0)), (1, .ref (ad 0)), (0, .ref b)]) (hcel : cells + 1 ≤ room_1.cells ∧ slots + 6 ≤ room_1.slots)
    (K : ∀ (S : Cs) (M : Ms) (v : Int64) (H : Heap) (locs : List Loc) (ls : Array Slot), Inv (bb + 30000) S M → lwP D cy ad am ao S M v H → va_S (fun q => s.heap.size ≤ q) s.heap H locs → lv_has ls 7 [(4, .int (nI (4 * t))), (3, .ref ao), (2, .ref (am 0)), (1, .ref (ad 0)), (0, .ref b)] → W p l e room_1 s m #[Value.ref b] below meth c H locs (cells + 1) (slots + 6) Q (F0 m 701 ls [])) : W p l e room_1 s m #[Value.ref b] below meth c H locs cells slots Q (F0 m 360 ls []) := by
  obtain ⟨hx, hb, hml, hown, hts, hK, hA, hN, hX, hU, hNn, hXs, hbl, hlst, hL⟩ := C
  have hAA : ∀ q : Nat, s.heap.size ≤ q → (fun q : Nat => s.heap.size ≤ q) q := fun _ h => h
  obtain ⟨N9, L9, T9, hT, hC, hM, h9, hti, -, -⟩ := id hI
  have hc1 := hcel.1
  have hc2 := hcel.2
  have hc3 : cells ≤ room_1.cells := by omega
  have hc4 : slots ≤ room_1.slots := by omega
  have hV : Vr (bb + 30000) [2] (F_X2_run S (xs (4 * t + 1))) (F_X3_run M (xs (4 * t + 1))).1 (F_X3_run M (xs (4 * t + 1))).2 := by exact V_run hI hbb
  refine lv_aload_n hx hb dL_law_360 rfl (lv_at hl 3 rfl) ?_
  refine lv_aload_n hx hb dL_law_361 rfl (lv_at hl 4 rfl) ?_
  refine lv_iload hx hb dL_law_362 (lv_at hl 0 rfl) ?_
  refine lv_iconst (v := 1) hx hb dL_law_364 (by decide) ?_
  refine lv_iadd hx hb dL_law_365 ?_
  refine va_sld (i := nI (4 * t) + 1) hx hb hXs hbl (Nat.not_le.mpr hbl) hS (sc_in (k := 1) (by omega) hL).vp dL_law_366 ?_
  rw [show (nI (4 * t) + 1 : Int32).toNatClampNeg = 4 * t + 1 from (sc_in (k := 1) (L := L) (by omega) hL).2.1]
  refine lv_aload_n hx hb dL_law_367 rfl (lv_at hl 1 rfl) ?_
  refine l_hi (As := [.ref (ad 0), .int (xs (4 * t + 1)), .ref ao]) (rest := []) ⟨hx, hb, hml, hown, hts⟩ (k_L_run l hlst D cy ad sa ao v S (xs (4 * t + 1)) hC hbb) (vx_cwSW 3 hts gL_law_L_run rfl rfl rfl (by decide +kernel) ⟨Nat.le_of_ble_eq_true rfl, Nat.le_of_ble_eq_true rfl⟩) hK hA hAA hN hX hU hNn hP hS rfl hl.1 rfl (Nat.le_of_ble_eq_true rfl) dL_law_368 hcel (fun H locs hP hS => ?_)
  refine lv_istore (lv' := [(5, .int (hc [2] (F_X2_run S (xs (4 * t + 1))).2.2)), (4, .int (nI (4 * t))), (3, .ref ao), (2, .ref (am 0)), (1, .ref (ad 0)), (0, .ref b)]) hx hb dL_law_371 hl (by decide) rfl (fun ls hl => ?_)
  refine lv_aload_n hx hb dL_law_373 rfl (lv_at hl 3 rfl) ?_
  refine lv_aload_n hx hb dL_law_374 rfl (lv_at hl 5 rfl) ?_
  refine lv_iload hx hb dL_law_375 (lv_at hl 1 rfl) ?_
  refine lv_iconst (v := 1) hx hb dL_law_377 (by decide) ?_
  refine lv_iadd hx hb dL_law_378 ?_
  refine va_sld (i := nI (4 * t) + 1) hx hb hXs hbl (Nat.not_le.mpr hbl) hS (sc_in (k := 1) (by omega) hL).vp dL_law_379 ?_
  rw [show (nI (4 * t) + 1 : Int32).toNatClampNeg = 4 * t + 1 from (sc_in (k := 1) (L := L) (by omega) hL).2.1]
  refine l_mi (As := [.int (xs (4 * t + 1))]) (rest := []) ⟨hx, hb, hml, hown, hts⟩ (k_X3_run l D cy am (M) (xs (4 * t + 1)) ⟨hM, h9, hti⟩ hbb hT) (cwV 1 hts gL_law_X3_run rfl rfl rfl (by decide +kernel) ⟨Nat.le_of_ble_eq_true rfl, Nat.le_of_ble_eq_true rfl⟩) hK hA hAA hP hS rfl hl.1 rfl (Nat.le_of_ble_eq_true rfl) dL_law_380 ⟨hc1, hc2⟩ (fun H locs hP hS => ?_)
  refine lv_istore (lv' := [(6, .int (F_X3_run M (xs (4 * t + 1))).2), (5, .int (hc [2] (F_X2_run S (xs (4 * t + 1))).2.2)), (4, .int (nI (4 * t))), (3, .ref ao), (2, .ref (am 0)), (1, .ref (ad 0)), (0, .ref b)]) hx hb dL_law_383 hl (by decide) rfl (fun ls hl => ?_)
  refine lv_aload_n hx hb dL_law_385 rfl (lv_at hl 4 rfl) ?_
  refine l_mi (As := []) (rest := []) ⟨hx, hb, hml, hown, hts⟩ (k_X3_thrown l D cy am ((F_X3_run M (xs (4 * t + 1))).1) ) (cwV 0 hts gL_law_X3_thrown rfl rfl rfl (by decide +kernel) ⟨Nat.le_of_ble_eq_true rfl, Nat.le_of_ble_eq_true rfl⟩) hK hA hAA hP hS rfl hl.1 rfl (Nat.le_of_ble_eq_true rfl) dL_law_386 ⟨hc1, hc2⟩ (fun H locs hP hS => ?_)
  refine lv_iload hx hb dL_law_389 (lv_at hl 1 rfl) ?_
  refine lv_icmp_eq (tgt := 396) hx hb dL_law_391 (by decide) (fun _ => ?_) (fun z => absurd hV.1 z)
  refine lv_iload hx hb dL_law_396 (lv_at hl 1 rfl) ?_
  refine lv_if_ne (tgt := 413) hx hb dL_law_398 (by decide) (fun _ => ?_) (fun z => ?_)
  rotate_left
  · have hk0 := hc_0 (ks := [2]) (by decide) z
    refine lv_aload_n hx hb dL_law_401 rfl (lv_at hl 3 rfl) ?_
    refine lv_iconst (v := 0) hx hb dL_law_402 (by decide) ?_
    refine o_get hx hb hK hP.2.2 dL_law_403 ?_
    refine lv_iload hx hb dL_law_404 (lv_at hl 0 rfl) ?_
    refine lv_i2l hx hb dL_law_406 rfl ?_
    refine W.lcmp hx hb dL_law_407 ?_
    rw [if_pos hk0, hV.2.1 hk0, show lg_cmp (F_X3_run M (xs (4 * t + 1))).2.toInt64 (F_X3_run M (xs (4 * t + 1))).2.toInt64 = 0 from by simp [lg_cmp]]
    refine lv_if_eq (tgt := 413) hx hb dL_law_408 (by decide) (fun _ => ?_) (fun z => absurd rfl z)
    refine lv_goto (tgt := 701) hx hb dL_law_413 (by decide) ?_
    exact K (F_X2_run S (xs (4 * t + 1))).1 (F_X3_run M (xs (4 * t + 1))).1 _ H locs ls hV.2.2 hP hS (lv_sub hl [2, 3, 4, 5, 6] rfl)
  skip
  refine lv_goto (tgt := 701) hx hb dL_law_413 (by decide) ?_
  exact K (F_X2_run S (xs (4 * t + 1))).1 (F_X3_run M (xs (4 * t + 1))).1 (if (F_X2_run S (xs (4 * t + 1))).2.2 = 0 then (F_X2_run S (xs (4 * t + 1))).2.1.toInt64 else v) H locs ls (hV.2.2) hP hS (lv_sub hl [2, 3, 4, 5, 6] rfl)
set_option maxHeartbeats 2000000 in
set_option maxRecDepth 100000 in
theorem lc_restart {p : Program} {l : Launch} {e : Env} {s : State} {m : MethodId} {below : List Frame} {meth : Method} {c : Code} {b L : Nat} {xs : Nat → Int32} {D : va_G} {cy : Nat → ClassId} {ad am sa : Nat → Nat} {ao : Nat} {Q : State → Prop} (C : lwK p l s m c b L xs D cy ad am sa ao) {t bb cells slots : Nat} {S : Cs} {M : Ms} {v : Int64} {H : Heap} {locs : List Loc} {ls : Array Slot} (hI : Inv bb S M) (hbb : bb + 30000 < 2 ^ 30) (ht : 4 * t + 4 ≤ L) (hP : lwP D cy ad am ao S M v H) (hS : va_S (fun q => s.heap.size ≤ q) s.heap H locs) (hl : lv_has ls 7 [(4, .int (nI (4 * t))), (3, .ref ao), (2, .ref (am 0)), (1, .ref (ad 0)), (0, .ref b)]) (hcel : cells + 1 ≤ room_1.cells ∧ slots + 6 ≤ room_1.slots)
    (K : ∀ (S : Cs) (M : Ms) (v : Int64) (H : Heap) (locs : List Loc) (ls : Array Slot), Inv (bb + 30000) S M → lwP D cy ad am ao S M v H → va_S (fun q => s.heap.size ≤ q) s.heap H locs → lv_has ls 7 [(4, .int (nI (4 * t))), (3, .ref ao), (2, .ref (am 0)), (1, .ref (ad 0)), (0, .ref b)] → W p l e room_1 s m #[Value.ref b] below meth c H locs (cells + 1) (slots + 6) Q (F0 m 701 ls [])) : W p l e room_1 s m #[Value.ref b] below meth c H locs cells slots Q (F0 m 416 ls []) := by
  obtain ⟨hx, hb, hml, hown, hts, hK, hA, hN, hX, hU, hNn, hXs, hbl, hlst, hL⟩ := C
  have hAA : ∀ q : Nat, s.heap.size ≤ q → (fun q : Nat => s.heap.size ≤ q) q := fun _ h => h
  obtain ⟨N9, L9, T9, hT, hC, hM, h9, hti, -, -⟩ := id hI
  have hc1 := hcel.1
  have hc2 := hcel.2
  have hc3 : cells ≤ room_1.cells := by omega
  have hc4 : slots ≤ room_1.slots := by omega
  refine lv_aload_n hx hb dL_law_416 rfl (lv_at hl 3 rfl) ?_
  refine l_cv (As := []) (rest := []) ⟨hx, hb, hml, hown, hts⟩ (k_X2_restart l D cy ad S) (cwV 0 hts gL_law_X2_restart rfl rfl rfl (by decide +kernel) ⟨Nat.le_of_ble_eq_true rfl, Nat.le_of_ble_eq_true rfl⟩) hK hA hAA hN hP hS rfl hl.1 rfl (Nat.le_of_ble_eq_true rfl) dL_law_417 ⟨hc3, hc4⟩ (fun H locs hP hS => ?_)
  refine lv_aload_n hx hb dL_law_420 rfl (lv_at hl 2 rfl) ?_
  refine l_mv (As := []) (rest := []) ⟨hx, hb, hml, hown, hts⟩ (k_X3_restart l D cy am (M) ) (cwV 0 hts gL_law_X3_restart rfl rfl rfl (by decide +kernel) ⟨Nat.le_of_ble_eq_true rfl, Nat.le_of_ble_eq_true rfl⟩) hK hA hAA hP hS rfl hl.1 rfl (Nat.le_of_ble_eq_true rfl) dL_law_421 ⟨hc3, hc4⟩ (fun H locs hP hS => ?_)
  refine W.widen (k := cells + 1) (n := slots + 6) (by omega) (by omega) ?_
  refine lv_goto (tgt := 701) hx hb dL_law_424 (by decide) ?_
  exact K (F_X2_restart S) (F_X3_restart M) v H locs ls (Inv_mono (V_restart hI) (by omega)) hP hS (lv_sub hl [0, 1, 2, 3, 4] rfl)
set_option maxHeartbeats 2000000 in
set_option maxRecDepth 100000 in
theorem lc_time {p : Program} {l : Launch} {e : Env} {s : State} {m : MethodId} {below : List Frame} {meth : Method} {c : Code} {b L : Nat} {xs : Nat → Int32} {D : va_G} {cy : Nat → ClassId} {ad am sa : Nat → Nat} {ao : Nat} {Q : State → Prop} (C : lwK p l s m c b L xs D cy ad am sa ao) {t bb cells slots : Nat} {S : Cs} {M : Ms} {v : Int64} {H : Heap} {locs : List Loc} {ls : Array Slot} (hI : Inv bb S M) (hbb : bb + 30000 < 2 ^ 30) (ht : 4 * t + 4 ≤ L) (hP : lwP D cy ad am ao S M v H) (hS : va_S (fun q => s.heap.size ≤ q) s.heap H locs) (hl : lv_has ls 7 [(4, .int (nI (4 * t))), (3, .ref ao), (2, .ref (am 0)), (1, .ref (ad 0)), (0, .ref b)]) (hcel : cells + 1 ≤ room_1.cells ∧ slots + 6 ≤ room_1.slots)
    (K : ∀ (S : Cs) (M : Ms) (v : Int64) (H : Heap) (locs : List Loc) (ls : Array Slot), Inv (bb + 30000) S M → lwP D cy ad am ao S M v H → va_S (fun q => s.heap.size ≤ q) s.heap H locs → lv_has ls 7 [(4, .int (nI (4 * t))), (3, .ref ao), (2, .ref (am 0)), (1, .ref (ad 0)), (0, .ref b)] → W p l e room_1 s m #[Value.ref b] below meth c H locs (cells + 1) (slots + 6) Q (F0 m 701 ls [])) : W p l e room_1 s m #[Value.ref b] below meth c H locs cells slots Q (F0 m 427 ls []) := by
  obtain ⟨hx, hb, hml, hown, hts, hK, hA, hN, hX, hU, hNn, hXs, hbl, hlst, hL⟩ := C
  have hAA : ∀ q : Nat, s.heap.size ≤ q → (fun q : Nat => s.heap.size ≤ q) q := fun _ h => h
  obtain ⟨N9, L9, T9, hT, hC, hM, h9, hti, -, -⟩ := id hI
  have hc1 := hcel.1
  have hc2 := hcel.2
  have hc3 : cells ≤ room_1.cells := by omega
  have hc4 : slots ≤ room_1.slots := by omega
  refine lv_aload_n hx hb dL_law_427 rfl (lv_at hl 3 rfl) ?_
  refine l_ci (As := []) (rest := []) ⟨hx, hb, hml, hown, hts⟩ (k_X2_time l D cy ad S) (cwV 0 hts gL_law_X2_time rfl rfl rfl (by decide +kernel) ⟨Nat.le_of_ble_eq_true rfl, Nat.le_of_ble_eq_true rfl⟩) hK hA hAA hN hP hS rfl hl.1 rfl (Nat.le_of_ble_eq_true rfl) dL_law_428 ⟨hc3, hc4⟩ (fun H locs hP hS => ?_)
  refine lv_aload_n hx hb dL_law_431 rfl (lv_at hl 2 rfl) ?_
  refine l_mi (As := []) (rest := [.int (F_X2_time S).2]) ⟨hx, hb, hml, hown, hts⟩ (k_X3_time l D cy am (M) ) (cwV 0 hts gL_law_X3_time rfl rfl rfl (by decide +kernel) ⟨Nat.le_of_ble_eq_true rfl, Nat.le_of_ble_eq_true rfl⟩) hK hA hAA hP hS rfl hl.1 rfl (Nat.le_of_ble_eq_true rfl) dL_law_432 ⟨hc3, hc4⟩ (fun H locs hP hS => ?_)
  refine lv_icmp_eq (tgt := 701) hx hb dL_law_435 (by decide) (fun _ => ?_) (fun z => absurd (V_time hI).1 z)
  refine W.widen (k := cells + 1) (n := slots + 6) (by omega) (by omega) ?_
  exact K (F_X2_time S).1 (F_X3_time M).1 v H locs ls (Inv_mono (V_time hI).2 (by omega)) hP hS (lv_sub hl [0, 1, 2, 3, 4] rfl)
set_option maxHeartbeats 2000000 in
set_option maxRecDepth 100000 in
theorem lc_told {p : Program} {l : Launch} {e : Env} {s : State} {m : MethodId} {below : List Frame} {meth : Method} {c : Code} {b L : Nat} {xs : Nat → Int32} {D : va_G} {cy : Nat → ClassId} {ad am sa : Nat → Nat} {ao : Nat} {Q : State → Prop} (C : lwK p l s m c b L xs D cy ad am sa ao) {t bb cells slots : Nat} {S : Cs} {M : Ms} {v : Int64} {H : Heap} {locs : List Loc} {ls : Array Slot} (hI : Inv bb S M) (hbb : bb + 30000 < 2 ^ 30) (ht : 4 * t + 4 ≤ L) (hP : lwP D cy ad am ao S M v H) (hS : va_S (fun q => s.heap.size ≤ q) s.heap H locs) (hl : lv_has ls 7 [(4, .int (nI (4 * t))), (3, .ref ao), (2, .ref (am 0)), (1, .ref (ad 0)), (0, .ref b)]) (hcel : cells + 1 ≤ room_1.cells ∧ slots + 6 ≤ room_1.slots)
    (K : ∀ (S : Cs) (M : Ms) (v : Int64) (H : Heap) (locs : List Loc) (ls : Array Slot), Inv (bb + 30000) S M → lwP D cy ad am ao S M v H → va_S (fun q => s.heap.size ≤ q) s.heap H locs → lv_has ls 7 [(4, .int (nI (4 * t))), (3, .ref ao), (2, .ref (am 0)), (1, .ref (ad 0)), (0, .ref b)] → W p l e room_1 s m #[Value.ref b] below meth c H locs (cells + 1) (slots + 6) Q (F0 m 701 ls [])) : W p l e room_1 s m #[Value.ref b] below meth c H locs cells slots Q (F0 m 440 ls []) := by
  obtain ⟨hx, hb, hml, hown, hts, hK, hA, hN, hX, hU, hNn, hXs, hbl, hlst, hL⟩ := C
  have hAA : ∀ q : Nat, s.heap.size ≤ q → (fun q : Nat => s.heap.size ≤ q) q := fun _ h => h
  obtain ⟨N9, L9, T9, hT, hC, hM, h9, hti, -, -⟩ := id hI
  have hc1 := hcel.1
  have hc2 := hcel.2
  have hc3 : cells ≤ room_1.cells := by omega
  have hc4 : slots ≤ room_1.slots := by omega
  have hV : Vr (bb + 30000) [1, 2] (F_X2_told S (xs (4 * t + 1)) (xs (4 * t + 2))) (F_X3_told M (xs (4 * t + 1)) (xs (4 * t + 2))).1 (F_X3_told M (xs (4 * t + 1)) (xs (4 * t + 2))).2 := by exact ⟨(V_told hI).1, (V_told hI).2.1, Inv_mono (V_told hI).2.2 (by omega)⟩
  refine lv_aload_n hx hb dL_law_440 rfl (lv_at hl 3 rfl) ?_
  refine lv_aload_n hx hb dL_law_441 rfl (lv_at hl 4 rfl) ?_
  refine lv_iload hx hb dL_law_442 (lv_at hl 0 rfl) ?_
  refine lv_iconst (v := 1) hx hb dL_law_444 (by decide) ?_
  refine lv_iadd hx hb dL_law_445 ?_
  refine va_sld (i := nI (4 * t) + 1) hx hb hXs hbl (Nat.not_le.mpr hbl) hS (sc_in (k := 1) (by omega) hL).vp dL_law_446 ?_
  rw [show (nI (4 * t) + 1 : Int32).toNatClampNeg = 4 * t + 1 from (sc_in (k := 1) (L := L) (by omega) hL).2.1]
  refine lv_aload_n hx hb dL_law_447 rfl (lv_at hl 4 rfl) ?_
  refine lv_iload hx hb dL_law_448 (lv_at hl 0 rfl) ?_
  refine lv_iconst (v := 2) hx hb dL_law_450 (by decide) ?_
  refine lv_iadd hx hb dL_law_451 ?_
  refine va_sld (i := nI (4 * t) + 2) hx hb hXs hbl (Nat.not_le.mpr hbl) hS (sc_in (k := 2) (by omega) hL).vp dL_law_452 ?_
  rw [show (nI (4 * t) + 2 : Int32).toNatClampNeg = 4 * t + 2 from (sc_in (k := 2) (L := L) (by omega) hL).2.1]
  refine lv_aload_n hx hb dL_law_453 rfl (lv_at hl 1 rfl) ?_
  refine l_hi (As := [.ref (ad 0), .int (xs (4 * t + 1)), .int (xs (4 * t + 2)), .ref ao]) (rest := []) ⟨hx, hb, hml, hown, hts⟩ (k_L_told l hlst D cy ad sa ao v S (xs (4 * t + 1)) (xs (4 * t + 2)) hC) (vx_cwSW 4 hts gL_law_L_told rfl rfl rfl (by decide +kernel) ⟨Nat.le_of_ble_eq_true rfl, Nat.le_of_ble_eq_true rfl⟩) hK hA hAA hN hX hU hNn hP hS rfl hl.1 rfl (Nat.le_of_ble_eq_true rfl) dL_law_454 hcel (fun H locs hP hS => ?_)
  refine lv_istore (lv' := [(5, .int (hc [1, 2] (F_X2_told S (xs (4 * t + 1)) (xs (4 * t + 2))).2.2)), (4, .int (nI (4 * t))), (3, .ref ao), (2, .ref (am 0)), (1, .ref (ad 0)), (0, .ref b)]) hx hb dL_law_457 hl (by decide) rfl (fun ls hl => ?_)
  refine lv_aload_n hx hb dL_law_459 rfl (lv_at hl 3 rfl) ?_
  refine lv_aload_n hx hb dL_law_460 rfl (lv_at hl 5 rfl) ?_
  refine lv_iload hx hb dL_law_461 (lv_at hl 1 rfl) ?_
  refine lv_iconst (v := 1) hx hb dL_law_463 (by decide) ?_
  refine lv_iadd hx hb dL_law_464 ?_
  refine va_sld (i := nI (4 * t) + 1) hx hb hXs hbl (Nat.not_le.mpr hbl) hS (sc_in (k := 1) (by omega) hL).vp dL_law_465 ?_
  rw [show (nI (4 * t) + 1 : Int32).toNatClampNeg = 4 * t + 1 from (sc_in (k := 1) (L := L) (by omega) hL).2.1]
  refine lv_aload_n hx hb dL_law_466 rfl (lv_at hl 5 rfl) ?_
  refine lv_iload hx hb dL_law_467 (lv_at hl 1 rfl) ?_
  refine lv_iconst (v := 2) hx hb dL_law_469 (by decide) ?_
  refine lv_iadd hx hb dL_law_470 ?_
  refine va_sld (i := nI (4 * t) + 2) hx hb hXs hbl (Nat.not_le.mpr hbl) hS (sc_in (k := 2) (by omega) hL).vp dL_law_471 ?_
  rw [show (nI (4 * t) + 2 : Int32).toNatClampNeg = 4 * t + 2 from (sc_in (k := 2) (L := L) (by omega) hL).2.1]
  refine l_mi (As := [.int (xs (4 * t + 1)), .int (xs (4 * t + 2))]) (rest := []) ⟨hx, hb, hml, hown, hts⟩ (k_X3_told l D cy am (M) (xs (4 * t + 1)) (xs (4 * t + 2)) hM) (cwV 2 hts gL_law_X3_told rfl rfl rfl (by decide +kernel) ⟨Nat.le_of_ble_eq_true rfl, Nat.le_of_ble_eq_true rfl⟩) hK hA hAA hP hS rfl hl.1 rfl (Nat.le_of_ble_eq_true rfl) dL_law_472 ⟨hc1, hc2⟩ (fun H locs hP hS => ?_)
  refine lv_istore (lv' := [(6, .int (F_X3_told M (xs (4 * t + 1)) (xs (4 * t + 2))).2), (5, .int (hc [1, 2] (F_X2_told S (xs (4 * t + 1)) (xs (4 * t + 2))).2.2)), (4, .int (nI (4 * t))), (3, .ref ao), (2, .ref (am 0)), (1, .ref (ad 0)), (0, .ref b)]) hx hb dL_law_475 hl (by decide) rfl (fun ls hl => ?_)
  refine lv_aload_n hx hb dL_law_477 rfl (lv_at hl 4 rfl) ?_
  refine l_mi (As := []) (rest := []) ⟨hx, hb, hml, hown, hts⟩ (k_X3_thrown l D cy am ((F_X3_told M (xs (4 * t + 1)) (xs (4 * t + 2))).1) ) (cwV 0 hts gL_law_X3_thrown rfl rfl rfl (by decide +kernel) ⟨Nat.le_of_ble_eq_true rfl, Nat.le_of_ble_eq_true rfl⟩) hK hA hAA hP hS rfl hl.1 rfl (Nat.le_of_ble_eq_true rfl) dL_law_478 ⟨hc1, hc2⟩ (fun H locs hP hS => ?_)
  refine lv_iload hx hb dL_law_481 (lv_at hl 1 rfl) ?_
  refine lv_icmp_eq (tgt := 488) hx hb dL_law_483 (by decide) (fun _ => ?_) (fun z => absurd hV.1 z)
  refine lv_iload hx hb dL_law_488 (lv_at hl 1 rfl) ?_
  refine lv_if_ne (tgt := 505) hx hb dL_law_490 (by decide) (fun _ => ?_) (fun z => ?_)
  rotate_left
  · have hk0 := hc_0 (ks := [1, 2]) (by decide) z
    refine lv_aload_n hx hb dL_law_493 rfl (lv_at hl 3 rfl) ?_
    refine lv_iconst (v := 0) hx hb dL_law_494 (by decide) ?_
    refine o_get hx hb hK hP.2.2 dL_law_495 ?_
    refine lv_iload hx hb dL_law_496 (lv_at hl 0 rfl) ?_
    refine lv_i2l hx hb dL_law_498 rfl ?_
    refine W.lcmp hx hb dL_law_499 ?_
    rw [if_pos hk0, hV.2.1 hk0, show lg_cmp (F_X3_told M (xs (4 * t + 1)) (xs (4 * t + 2))).2.toInt64 (F_X3_told M (xs (4 * t + 1)) (xs (4 * t + 2))).2.toInt64 = 0 from by simp [lg_cmp]]
    refine lv_if_eq (tgt := 505) hx hb dL_law_500 (by decide) (fun _ => ?_) (fun z => absurd rfl z)
    refine lv_goto (tgt := 701) hx hb dL_law_505 (by decide) ?_
    exact K (F_X2_told S (xs (4 * t + 1)) (xs (4 * t + 2))).1 (F_X3_told M (xs (4 * t + 1)) (xs (4 * t + 2))).1 _ H locs ls hV.2.2 hP hS (lv_sub hl [2, 3, 4, 5, 6] rfl)
  skip
  refine lv_goto (tgt := 701) hx hb dL_law_505 (by decide) ?_
  exact K (F_X2_told S (xs (4 * t + 1)) (xs (4 * t + 2))).1 (F_X3_told M (xs (4 * t + 1)) (xs (4 * t + 2))).1 (if (F_X2_told S (xs (4 * t + 1)) (xs (4 * t + 2))).2.2 = 0 then (F_X2_told S (xs (4 * t + 1)) (xs (4 * t + 2))).2.1.toInt64 else v) H locs ls (hV.2.2) hP hS (lv_sub hl [2, 3, 4, 5, 6] rfl)
set_option maxHeartbeats 2000000 in
set_option maxRecDepth 100000 in
theorem lc_running {p : Program} {l : Launch} {e : Env} {s : State} {m : MethodId} {below : List Frame} {meth : Method} {c : Code} {b L : Nat} {xs : Nat → Int32} {D : va_G} {cy : Nat → ClassId} {ad am sa : Nat → Nat} {ao : Nat} {Q : State → Prop} (C : lwK p l s m c b L xs D cy ad am sa ao) {t bb cells slots : Nat} {S : Cs} {M : Ms} {v : Int64} {H : Heap} {locs : List Loc} {ls : Array Slot} (hI : Inv bb S M) (hbb : bb + 30000 < 2 ^ 30) (ht : 4 * t + 4 ≤ L) (hP : lwP D cy ad am ao S M v H) (hS : va_S (fun q => s.heap.size ≤ q) s.heap H locs) (hl : lv_has ls 7 [(4, .int (nI (4 * t))), (3, .ref ao), (2, .ref (am 0)), (1, .ref (ad 0)), (0, .ref b)]) (hcel : cells + 1 ≤ room_1.cells ∧ slots + 6 ≤ room_1.slots)
    (K : ∀ (S : Cs) (M : Ms) (v : Int64) (H : Heap) (locs : List Loc) (ls : Array Slot), Inv (bb + 30000) S M → lwP D cy ad am ao S M v H → va_S (fun q => s.heap.size ≤ q) s.heap H locs → lv_has ls 7 [(4, .int (nI (4 * t))), (3, .ref ao), (2, .ref (am 0)), (1, .ref (ad 0)), (0, .ref b)] → W p l e room_1 s m #[Value.ref b] below meth c H locs (cells + 1) (slots + 6) Q (F0 m 701 ls [])) : W p l e room_1 s m #[Value.ref b] below meth c H locs cells slots Q (F0 m 508 ls []) := by
  obtain ⟨hx, hb, hml, hown, hts, hK, hA, hN, hX, hU, hNn, hXs, hbl, hlst, hL⟩ := C
  have hAA : ∀ q : Nat, s.heap.size ≤ q → (fun q : Nat => s.heap.size ≤ q) q := fun _ h => h
  obtain ⟨N9, L9, T9, hT, hC, hM, h9, hti, -, -⟩ := id hI
  have hc1 := hcel.1
  have hc2 := hcel.2
  have hc3 : cells ≤ room_1.cells := by omega
  have hc4 : slots ≤ room_1.slots := by omega
  refine lv_aload_n hx hb dL_law_508 rfl (lv_at hl 3 rfl) ?_
  refine l_ci (As := []) (rest := []) ⟨hx, hb, hml, hown, hts⟩ (k_X2_running l D cy ad S hC) (cwV 0 hts gL_law_X2_running rfl rfl rfl (by decide +kernel) ⟨Nat.le_of_ble_eq_true rfl, Nat.le_of_ble_eq_true rfl⟩) hK hA hAA hN hP hS rfl hl.1 rfl (Nat.le_of_ble_eq_true rfl) dL_law_509 ⟨hc3, hc4⟩ (fun H locs hP hS => ?_)
  refine lv_aload_n hx hb dL_law_512 rfl (lv_at hl 2 rfl) ?_
  refine l_mi (As := []) (rest := [.int (F_X2_running S).2]) ⟨hx, hb, hml, hown, hts⟩ (k_X3_running l D cy am (M) ) (cwV 0 hts gL_law_X3_running rfl rfl rfl (by decide +kernel) ⟨Nat.le_of_ble_eq_true rfl, Nat.le_of_ble_eq_true rfl⟩) hK hA hAA hP hS rfl hl.1 rfl (Nat.le_of_ble_eq_true rfl) dL_law_513 ⟨hc3, hc4⟩ (fun H locs hP hS => ?_)
  refine lv_icmp_eq (tgt := 701) hx hb dL_law_516 (by decide) (fun _ => ?_) (fun z => absurd (V_running hI).1 z)
  refine W.widen (k := cells + 1) (n := slots + 6) (by omega) (by omega) ?_
  exact K (F_X2_running S).1 (F_X3_running M).1 v H locs ls (Inv_mono (V_running hI).2 (by omega)) hP hS (lv_sub hl [0, 1, 2, 3, 4] rfl)
set_option maxHeartbeats 2000000 in
set_option maxRecDepth 100000 in
theorem lc_queued {p : Program} {l : Launch} {e : Env} {s : State} {m : MethodId} {below : List Frame} {meth : Method} {c : Code} {b L : Nat} {xs : Nat → Int32} {D : va_G} {cy : Nat → ClassId} {ad am sa : Nat → Nat} {ao : Nat} {Q : State → Prop} (C : lwK p l s m c b L xs D cy ad am sa ao) {t bb cells slots : Nat} {S : Cs} {M : Ms} {v : Int64} {H : Heap} {locs : List Loc} {ls : Array Slot} (hI : Inv bb S M) (hbb : bb + 30000 < 2 ^ 30) (ht : 4 * t + 4 ≤ L) (hP : lwP D cy ad am ao S M v H) (hS : va_S (fun q => s.heap.size ≤ q) s.heap H locs) (hl : lv_has ls 7 [(4, .int (nI (4 * t))), (3, .ref ao), (2, .ref (am 0)), (1, .ref (ad 0)), (0, .ref b)]) (hcel : cells + 1 ≤ room_1.cells ∧ slots + 6 ≤ room_1.slots)
    (K : ∀ (S : Cs) (M : Ms) (v : Int64) (H : Heap) (locs : List Loc) (ls : Array Slot), Inv (bb + 30000) S M → lwP D cy ad am ao S M v H → va_S (fun q => s.heap.size ≤ q) s.heap H locs → lv_has ls 7 [(4, .int (nI (4 * t))), (3, .ref ao), (2, .ref (am 0)), (1, .ref (ad 0)), (0, .ref b)] → W p l e room_1 s m #[Value.ref b] below meth c H locs (cells + 1) (slots + 6) Q (F0 m 701 ls [])) : W p l e room_1 s m #[Value.ref b] below meth c H locs cells slots Q (F0 m 521 ls []) := by
  obtain ⟨hx, hb, hml, hown, hts, hK, hA, hN, hX, hU, hNn, hXs, hbl, hlst, hL⟩ := C
  have hAA : ∀ q : Nat, s.heap.size ≤ q → (fun q : Nat => s.heap.size ≤ q) q := fun _ h => h
  obtain ⟨N9, L9, T9, hT, hC, hM, h9, hti, -, -⟩ := id hI
  have hc1 := hcel.1
  have hc2 := hcel.2
  have hc3 : cells ≤ room_1.cells := by omega
  have hc4 : slots ≤ room_1.slots := by omega
  have hV : Vr (bb + 30000) [1] (F_X2_queued S (xs (4 * t + 1)) (xs (4 * t + 2))) (F_X3_queued M (xs (4 * t + 1)) (xs (4 * t + 2))).1 (F_X3_queued M (xs (4 * t + 1)) (xs (4 * t + 2))).2 := by exact ⟨(V_queued hI).1, (V_queued hI).2.1, Inv_mono (V_queued hI).2.2 (by omega)⟩
  refine lv_aload_n hx hb dL_law_521 rfl (lv_at hl 3 rfl) ?_
  refine lv_aload_n hx hb dL_law_522 rfl (lv_at hl 4 rfl) ?_
  refine lv_iload hx hb dL_law_523 (lv_at hl 0 rfl) ?_
  refine lv_iconst (v := 1) hx hb dL_law_525 (by decide) ?_
  refine lv_iadd hx hb dL_law_526 ?_
  refine va_sld (i := nI (4 * t) + 1) hx hb hXs hbl (Nat.not_le.mpr hbl) hS (sc_in (k := 1) (by omega) hL).vp dL_law_527 ?_
  rw [show (nI (4 * t) + 1 : Int32).toNatClampNeg = 4 * t + 1 from (sc_in (k := 1) (L := L) (by omega) hL).2.1]
  refine lv_aload_n hx hb dL_law_528 rfl (lv_at hl 4 rfl) ?_
  refine lv_iload hx hb dL_law_529 (lv_at hl 0 rfl) ?_
  refine lv_iconst (v := 2) hx hb dL_law_531 (by decide) ?_
  refine lv_iadd hx hb dL_law_532 ?_
  refine va_sld (i := nI (4 * t) + 2) hx hb hXs hbl (Nat.not_le.mpr hbl) hS (sc_in (k := 2) (by omega) hL).vp dL_law_533 ?_
  rw [show (nI (4 * t) + 2 : Int32).toNatClampNeg = 4 * t + 2 from (sc_in (k := 2) (L := L) (by omega) hL).2.1]
  refine lv_aload_n hx hb dL_law_534 rfl (lv_at hl 1 rfl) ?_
  refine l_hi (As := [.ref (ad 0), .int (xs (4 * t + 1)), .int (xs (4 * t + 2)), .ref ao]) (rest := []) ⟨hx, hb, hml, hown, hts⟩ (k_L_queued l hlst D cy ad sa ao v S (xs (4 * t + 1)) (xs (4 * t + 2)) hC) (vx_cwSW 4 hts gL_law_L_queued rfl rfl rfl (by decide +kernel) ⟨Nat.le_of_ble_eq_true rfl, Nat.le_of_ble_eq_true rfl⟩) hK hA hAA hN hX hU hNn hP hS rfl hl.1 rfl (Nat.le_of_ble_eq_true rfl) dL_law_535 hcel (fun H locs hP hS => ?_)
  refine lv_istore (lv' := [(5, .int (hc [1] (F_X2_queued S (xs (4 * t + 1)) (xs (4 * t + 2))).2.2)), (4, .int (nI (4 * t))), (3, .ref ao), (2, .ref (am 0)), (1, .ref (ad 0)), (0, .ref b)]) hx hb dL_law_538 hl (by decide) rfl (fun ls hl => ?_)
  refine lv_aload_n hx hb dL_law_540 rfl (lv_at hl 3 rfl) ?_
  refine lv_aload_n hx hb dL_law_541 rfl (lv_at hl 5 rfl) ?_
  refine lv_iload hx hb dL_law_542 (lv_at hl 1 rfl) ?_
  refine lv_iconst (v := 1) hx hb dL_law_544 (by decide) ?_
  refine lv_iadd hx hb dL_law_545 ?_
  refine va_sld (i := nI (4 * t) + 1) hx hb hXs hbl (Nat.not_le.mpr hbl) hS (sc_in (k := 1) (by omega) hL).vp dL_law_546 ?_
  rw [show (nI (4 * t) + 1 : Int32).toNatClampNeg = 4 * t + 1 from (sc_in (k := 1) (L := L) (by omega) hL).2.1]
  refine lv_aload_n hx hb dL_law_547 rfl (lv_at hl 5 rfl) ?_
  refine lv_iload hx hb dL_law_548 (lv_at hl 1 rfl) ?_
  refine lv_iconst (v := 2) hx hb dL_law_550 (by decide) ?_
  refine lv_iadd hx hb dL_law_551 ?_
  refine va_sld (i := nI (4 * t) + 2) hx hb hXs hbl (Nat.not_le.mpr hbl) hS (sc_in (k := 2) (by omega) hL).vp dL_law_552 ?_
  rw [show (nI (4 * t) + 2 : Int32).toNatClampNeg = 4 * t + 2 from (sc_in (k := 2) (L := L) (by omega) hL).2.1]
  refine l_mi (As := [.int (xs (4 * t + 1)), .int (xs (4 * t + 2))]) (rest := []) ⟨hx, hb, hml, hown, hts⟩ (k_X3_queued l D cy am (M) (xs (4 * t + 1)) (xs (4 * t + 2)) hM) (cwV 2 hts gL_law_X3_queued rfl rfl rfl (by decide +kernel) ⟨Nat.le_of_ble_eq_true rfl, Nat.le_of_ble_eq_true rfl⟩) hK hA hAA hP hS rfl hl.1 rfl (Nat.le_of_ble_eq_true rfl) dL_law_553 ⟨hc1, hc2⟩ (fun H locs hP hS => ?_)
  refine lv_istore (lv' := [(6, .int (F_X3_queued M (xs (4 * t + 1)) (xs (4 * t + 2))).2), (5, .int (hc [1] (F_X2_queued S (xs (4 * t + 1)) (xs (4 * t + 2))).2.2)), (4, .int (nI (4 * t))), (3, .ref ao), (2, .ref (am 0)), (1, .ref (ad 0)), (0, .ref b)]) hx hb dL_law_556 hl (by decide) rfl (fun ls hl => ?_)
  refine lv_aload_n hx hb dL_law_558 rfl (lv_at hl 4 rfl) ?_
  refine l_mi (As := []) (rest := []) ⟨hx, hb, hml, hown, hts⟩ (k_X3_thrown l D cy am ((F_X3_queued M (xs (4 * t + 1)) (xs (4 * t + 2))).1) ) (cwV 0 hts gL_law_X3_thrown rfl rfl rfl (by decide +kernel) ⟨Nat.le_of_ble_eq_true rfl, Nat.le_of_ble_eq_true rfl⟩) hK hA hAA hP hS rfl hl.1 rfl (Nat.le_of_ble_eq_true rfl) dL_law_559 ⟨hc1, hc2⟩ (fun H locs hP hS => ?_)
  refine lv_iload hx hb dL_law_562 (lv_at hl 1 rfl) ?_
  refine lv_icmp_eq (tgt := 569) hx hb dL_law_564 (by decide) (fun _ => ?_) (fun z => absurd hV.1 z)
  refine lv_iload hx hb dL_law_569 (lv_at hl 1 rfl) ?_
  refine lv_if_ne (tgt := 586) hx hb dL_law_571 (by decide) (fun _ => ?_) (fun z => ?_)
  rotate_left
  · have hk0 := hc_0 (ks := [1]) (by decide) z
    refine lv_aload_n hx hb dL_law_574 rfl (lv_at hl 3 rfl) ?_
    refine lv_iconst (v := 0) hx hb dL_law_575 (by decide) ?_
    refine o_get hx hb hK hP.2.2 dL_law_576 ?_
    refine lv_iload hx hb dL_law_577 (lv_at hl 0 rfl) ?_
    refine lv_i2l hx hb dL_law_579 rfl ?_
    refine W.lcmp hx hb dL_law_580 ?_
    rw [if_pos hk0, hV.2.1 hk0, show lg_cmp (F_X3_queued M (xs (4 * t + 1)) (xs (4 * t + 2))).2.toInt64 (F_X3_queued M (xs (4 * t + 1)) (xs (4 * t + 2))).2.toInt64 = 0 from by simp [lg_cmp]]
    refine lv_if_eq (tgt := 586) hx hb dL_law_581 (by decide) (fun _ => ?_) (fun z => absurd rfl z)
    refine lv_goto (tgt := 701) hx hb dL_law_586 (by decide) ?_
    exact K (F_X2_queued S (xs (4 * t + 1)) (xs (4 * t + 2))).1 (F_X3_queued M (xs (4 * t + 1)) (xs (4 * t + 2))).1 _ H locs ls hV.2.2 hP hS (lv_sub hl [2, 3, 4, 5, 6] rfl)
  skip
  refine lv_goto (tgt := 701) hx hb dL_law_586 (by decide) ?_
  exact K (F_X2_queued S (xs (4 * t + 1)) (xs (4 * t + 2))).1 (F_X3_queued M (xs (4 * t + 1)) (xs (4 * t + 2))).1 (if (F_X2_queued S (xs (4 * t + 1)) (xs (4 * t + 2))).2.2 = 0 then (F_X2_queued S (xs (4 * t + 1)) (xs (4 * t + 2))).2.1.toInt64 else v) H locs ls (hV.2.2) hP hS (lv_sub hl [2, 3, 4, 5, 6] rfl)
set_option maxHeartbeats 2000000 in
set_option maxRecDepth 100000 in
theorem lc_all {p : Program} {l : Launch} {e : Env} {s : State} {m : MethodId} {below : List Frame} {meth : Method} {c : Code} {b L : Nat} {xs : Nat → Int32} {D : va_G} {cy : Nat → ClassId} {ad am sa : Nat → Nat} {ao : Nat} {Q : State → Prop} (C : lwK p l s m c b L xs D cy ad am sa ao) {t bb cells slots : Nat} {S : Cs} {M : Ms} {v : Int64} {H : Heap} {locs : List Loc} {ls : Array Slot} (hI : Inv bb S M) (hbb : bb + 30000 < 2 ^ 30) (ht : 4 * t + 4 ≤ L) (hP : lwP D cy ad am ao S M v H) (hS : va_S (fun q => s.heap.size ≤ q) s.heap H locs) (hl : lv_has ls 7 [(4, .int (nI (4 * t))), (3, .ref ao), (2, .ref (am 0)), (1, .ref (ad 0)), (0, .ref b)]) (hcel : cells + 1 ≤ room_1.cells ∧ slots + 6 ≤ room_1.slots)
    (K : ∀ (S : Cs) (M : Ms) (v : Int64) (H : Heap) (locs : List Loc) (ls : Array Slot), Inv (bb + 30000) S M → lwP D cy ad am ao S M v H → va_S (fun q => s.heap.size ≤ q) s.heap H locs → lv_has ls 7 [(4, .int (nI (4 * t))), (3, .ref ao), (2, .ref (am 0)), (1, .ref (ad 0)), (0, .ref b)] → W p l e room_1 s m #[Value.ref b] below meth c H locs (cells + 1) (slots + 6) Q (F0 m 701 ls [])) : W p l e room_1 s m #[Value.ref b] below meth c H locs cells slots Q (F0 m 589 ls []) := by
  obtain ⟨hx, hb, hml, hown, hts, hK, hA, hN, hX, hU, hNn, hXs, hbl, hlst, hL⟩ := C
  have hAA : ∀ q : Nat, s.heap.size ≤ q → (fun q : Nat => s.heap.size ≤ q) q := fun _ h => h
  obtain ⟨N9, L9, T9, hT, hC, hM, h9, hti, -, -⟩ := id hI
  have hc1 := hcel.1
  have hc2 := hcel.2
  have hc3 : cells ≤ room_1.cells := by omega
  have hc4 : slots ≤ room_1.slots := by omega
  have hV : Vr (bb + 30000) [2] (F_X2_all S (xs (4 * t + 1))) (F_X3_all M (xs (4 * t + 1))).1 (F_X3_all M (xs (4 * t + 1))).2 := by exact ⟨(V_all hI).1, (V_all hI).2.1, Inv_mono (V_all hI).2.2 (by omega)⟩
  refine lv_aload_n hx hb dL_law_589 rfl (lv_at hl 3 rfl) ?_
  refine lv_aload_n hx hb dL_law_590 rfl (lv_at hl 4 rfl) ?_
  refine lv_iload hx hb dL_law_591 (lv_at hl 0 rfl) ?_
  refine lv_iconst (v := 1) hx hb dL_law_593 (by decide) ?_
  refine lv_iadd hx hb dL_law_594 ?_
  refine va_sld (i := nI (4 * t) + 1) hx hb hXs hbl (Nat.not_le.mpr hbl) hS (sc_in (k := 1) (by omega) hL).vp dL_law_595 ?_
  rw [show (nI (4 * t) + 1 : Int32).toNatClampNeg = 4 * t + 1 from (sc_in (k := 1) (L := L) (by omega) hL).2.1]
  refine lv_aload_n hx hb dL_law_596 rfl (lv_at hl 1 rfl) ?_
  refine l_hi (As := [.ref (ad 0), .int (xs (4 * t + 1)), .ref ao]) (rest := []) ⟨hx, hb, hml, hown, hts⟩ (k_L_all l hlst D cy ad sa ao v S (xs (4 * t + 1))) (vx_cwSW 3 hts gL_law_L_all rfl rfl rfl (by decide +kernel) ⟨Nat.le_of_ble_eq_true rfl, Nat.le_of_ble_eq_true rfl⟩) hK hA hAA hN hX hU hNn hP hS rfl hl.1 rfl (Nat.le_of_ble_eq_true rfl) dL_law_597 hcel (fun H locs hP hS => ?_)
  refine lv_istore (lv' := [(5, .int (hc [2] (F_X2_all S (xs (4 * t + 1))).2.2)), (4, .int (nI (4 * t))), (3, .ref ao), (2, .ref (am 0)), (1, .ref (ad 0)), (0, .ref b)]) hx hb dL_law_600 hl (by decide) rfl (fun ls hl => ?_)
  refine lv_aload_n hx hb dL_law_602 rfl (lv_at hl 3 rfl) ?_
  refine lv_aload_n hx hb dL_law_603 rfl (lv_at hl 5 rfl) ?_
  refine lv_iload hx hb dL_law_604 (lv_at hl 1 rfl) ?_
  refine lv_iconst (v := 1) hx hb dL_law_606 (by decide) ?_
  refine lv_iadd hx hb dL_law_607 ?_
  refine va_sld (i := nI (4 * t) + 1) hx hb hXs hbl (Nat.not_le.mpr hbl) hS (sc_in (k := 1) (by omega) hL).vp dL_law_608 ?_
  rw [show (nI (4 * t) + 1 : Int32).toNatClampNeg = 4 * t + 1 from (sc_in (k := 1) (L := L) (by omega) hL).2.1]
  refine l_mi (As := [.int (xs (4 * t + 1))]) (rest := []) ⟨hx, hb, hml, hown, hts⟩ (k_X3_all l D cy am (M) (xs (4 * t + 1))) (cwV 1 hts gL_law_X3_all rfl rfl rfl (by decide +kernel) ⟨Nat.le_of_ble_eq_true rfl, Nat.le_of_ble_eq_true rfl⟩) hK hA hAA hP hS rfl hl.1 rfl (Nat.le_of_ble_eq_true rfl) dL_law_609 ⟨hc1, hc2⟩ (fun H locs hP hS => ?_)
  refine lv_istore (lv' := [(6, .int (F_X3_all M (xs (4 * t + 1))).2), (5, .int (hc [2] (F_X2_all S (xs (4 * t + 1))).2.2)), (4, .int (nI (4 * t))), (3, .ref ao), (2, .ref (am 0)), (1, .ref (ad 0)), (0, .ref b)]) hx hb dL_law_612 hl (by decide) rfl (fun ls hl => ?_)
  refine lv_aload_n hx hb dL_law_614 rfl (lv_at hl 4 rfl) ?_
  refine l_mi (As := []) (rest := []) ⟨hx, hb, hml, hown, hts⟩ (k_X3_thrown l D cy am ((F_X3_all M (xs (4 * t + 1))).1) ) (cwV 0 hts gL_law_X3_thrown rfl rfl rfl (by decide +kernel) ⟨Nat.le_of_ble_eq_true rfl, Nat.le_of_ble_eq_true rfl⟩) hK hA hAA hP hS rfl hl.1 rfl (Nat.le_of_ble_eq_true rfl) dL_law_615 ⟨hc1, hc2⟩ (fun H locs hP hS => ?_)
  refine lv_iload hx hb dL_law_618 (lv_at hl 1 rfl) ?_
  refine lv_icmp_eq (tgt := 625) hx hb dL_law_620 (by decide) (fun _ => ?_) (fun z => absurd hV.1 z)
  refine lv_iload hx hb dL_law_625 (lv_at hl 1 rfl) ?_
  refine lv_if_ne (tgt := 642) hx hb dL_law_627 (by decide) (fun _ => ?_) (fun z => ?_)
  rotate_left
  · have hk0 := hc_0 (ks := [2]) (by decide) z
    refine lv_aload_n hx hb dL_law_630 rfl (lv_at hl 3 rfl) ?_
    refine lv_iconst (v := 0) hx hb dL_law_631 (by decide) ?_
    refine o_get hx hb hK hP.2.2 dL_law_632 ?_
    refine lv_iload hx hb dL_law_633 (lv_at hl 0 rfl) ?_
    refine lv_i2l hx hb dL_law_635 rfl ?_
    refine W.lcmp hx hb dL_law_636 ?_
    rw [if_pos hk0, hV.2.1 hk0, show lg_cmp (F_X3_all M (xs (4 * t + 1))).2.toInt64 (F_X3_all M (xs (4 * t + 1))).2.toInt64 = 0 from by simp [lg_cmp]]
    refine lv_if_eq (tgt := 642) hx hb dL_law_637 (by decide) (fun _ => ?_) (fun z => absurd rfl z)
    refine lv_goto (tgt := 701) hx hb dL_law_642 (by decide) ?_
    exact K (F_X2_all S (xs (4 * t + 1))).1 (F_X3_all M (xs (4 * t + 1))).1 _ H locs ls hV.2.2 hP hS (lv_sub hl [2, 3, 4, 5, 6] rfl)
  skip
  refine lv_goto (tgt := 701) hx hb dL_law_642 (by decide) ?_
  exact K (F_X2_all S (xs (4 * t + 1))).1 (F_X3_all M (xs (4 * t + 1))).1 (if (F_X2_all S (xs (4 * t + 1))).2.2 = 0 then (F_X2_all S (xs (4 * t + 1))).2.1.toInt64 else v) H locs ls (hV.2.2) hP hS (lv_sub hl [2, 3, 4, 5, 6] rfl)
set_option maxHeartbeats 2000000 in
set_option maxRecDepth 100000 in
theorem lc_switched {p : Program} {l : Launch} {e : Env} {s : State} {m : MethodId} {below : List Frame} {meth : Method} {c : Code} {b L : Nat} {xs : Nat → Int32} {D : va_G} {cy : Nat → ClassId} {ad am sa : Nat → Nat} {ao : Nat} {Q : State → Prop} (C : lwK p l s m c b L xs D cy ad am sa ao) {t bb cells slots : Nat} {S : Cs} {M : Ms} {v : Int64} {H : Heap} {locs : List Loc} {ls : Array Slot} (hI : Inv bb S M) (hbb : bb + 30000 < 2 ^ 30) (ht : 4 * t + 4 ≤ L) (hP : lwP D cy ad am ao S M v H) (hS : va_S (fun q => s.heap.size ≤ q) s.heap H locs) (hl : lv_has ls 7 [(4, .int (nI (4 * t))), (3, .ref ao), (2, .ref (am 0)), (1, .ref (ad 0)), (0, .ref b)]) (hcel : cells + 1 ≤ room_1.cells ∧ slots + 6 ≤ room_1.slots)
    (K : ∀ (S : Cs) (M : Ms) (v : Int64) (H : Heap) (locs : List Loc) (ls : Array Slot), Inv (bb + 30000) S M → lwP D cy ad am ao S M v H → va_S (fun q => s.heap.size ≤ q) s.heap H locs → lv_has ls 7 [(4, .int (nI (4 * t))), (3, .ref ao), (2, .ref (am 0)), (1, .ref (ad 0)), (0, .ref b)] → W p l e room_1 s m #[Value.ref b] below meth c H locs (cells + 1) (slots + 6) Q (F0 m 701 ls [])) : W p l e room_1 s m #[Value.ref b] below meth c H locs cells slots Q (F0 m 645 ls []) := by
  obtain ⟨hx, hb, hml, hown, hts, hK, hA, hN, hX, hU, hNn, hXs, hbl, hlst, hL⟩ := C
  have hAA : ∀ q : Nat, s.heap.size ≤ q → (fun q : Nat => s.heap.size ≤ q) q := fun _ h => h
  obtain ⟨N9, L9, T9, hT, hC, hM, h9, hti, -, -⟩ := id hI
  have hc1 := hcel.1
  have hc2 := hcel.2
  have hc3 : cells ≤ room_1.cells := by omega
  have hc4 : slots ≤ room_1.slots := by omega
  have hV : Vr (bb + 30000) [1] (F_X2_switched S (xs (4 * t + 1))) (F_X3_switched M (xs (4 * t + 1))).1 (F_X3_switched M (xs (4 * t + 1))).2 := by exact ⟨(V_switched hI).1, (V_switched hI).2.1, Inv_mono (V_switched hI).2.2 (by omega)⟩
  refine lv_aload_n hx hb dL_law_645 rfl (lv_at hl 3 rfl) ?_
  refine lv_aload_n hx hb dL_law_646 rfl (lv_at hl 4 rfl) ?_
  refine lv_iload hx hb dL_law_647 (lv_at hl 0 rfl) ?_
  refine lv_iconst (v := 1) hx hb dL_law_649 (by decide) ?_
  refine lv_iadd hx hb dL_law_650 ?_
  refine va_sld (i := nI (4 * t) + 1) hx hb hXs hbl (Nat.not_le.mpr hbl) hS (sc_in (k := 1) (by omega) hL).vp dL_law_651 ?_
  rw [show (nI (4 * t) + 1 : Int32).toNatClampNeg = 4 * t + 1 from (sc_in (k := 1) (L := L) (by omega) hL).2.1]
  refine lv_aload_n hx hb dL_law_652 rfl (lv_at hl 1 rfl) ?_
  refine l_hi (As := [.ref (ad 0), .int (xs (4 * t + 1)), .ref ao]) (rest := []) ⟨hx, hb, hml, hown, hts⟩ (k_L_switched l hlst D cy ad sa ao v S (xs (4 * t + 1))) (vx_cwSW 3 hts gL_law_L_switched rfl rfl rfl (by decide +kernel) ⟨Nat.le_of_ble_eq_true rfl, Nat.le_of_ble_eq_true rfl⟩) hK hA hAA hN hX hU hNn hP hS rfl hl.1 rfl (Nat.le_of_ble_eq_true rfl) dL_law_653 hcel (fun H locs hP hS => ?_)
  refine lv_istore (lv' := [(5, .int (hc [1] (F_X2_switched S (xs (4 * t + 1))).2.2)), (4, .int (nI (4 * t))), (3, .ref ao), (2, .ref (am 0)), (1, .ref (ad 0)), (0, .ref b)]) hx hb dL_law_656 hl (by decide) rfl (fun ls hl => ?_)
  refine lv_aload_n hx hb dL_law_658 rfl (lv_at hl 3 rfl) ?_
  refine lv_aload_n hx hb dL_law_659 rfl (lv_at hl 5 rfl) ?_
  refine lv_iload hx hb dL_law_660 (lv_at hl 1 rfl) ?_
  refine lv_iconst (v := 1) hx hb dL_law_662 (by decide) ?_
  refine lv_iadd hx hb dL_law_663 ?_
  refine va_sld (i := nI (4 * t) + 1) hx hb hXs hbl (Nat.not_le.mpr hbl) hS (sc_in (k := 1) (by omega) hL).vp dL_law_664 ?_
  rw [show (nI (4 * t) + 1 : Int32).toNatClampNeg = 4 * t + 1 from (sc_in (k := 1) (L := L) (by omega) hL).2.1]
  refine l_mi (As := [.int (xs (4 * t + 1))]) (rest := []) ⟨hx, hb, hml, hown, hts⟩ (k_X3_switched l D cy am (M) (xs (4 * t + 1))) (cwV 1 hts gL_law_X3_switched rfl rfl rfl (by decide +kernel) ⟨Nat.le_of_ble_eq_true rfl, Nat.le_of_ble_eq_true rfl⟩) hK hA hAA hP hS rfl hl.1 rfl (Nat.le_of_ble_eq_true rfl) dL_law_665 ⟨hc1, hc2⟩ (fun H locs hP hS => ?_)
  refine lv_istore (lv' := [(6, .int (F_X3_switched M (xs (4 * t + 1))).2), (5, .int (hc [1] (F_X2_switched S (xs (4 * t + 1))).2.2)), (4, .int (nI (4 * t))), (3, .ref ao), (2, .ref (am 0)), (1, .ref (ad 0)), (0, .ref b)]) hx hb dL_law_668 hl (by decide) rfl (fun ls hl => ?_)
  refine lv_aload_n hx hb dL_law_670 rfl (lv_at hl 4 rfl) ?_
  refine l_mi (As := []) (rest := []) ⟨hx, hb, hml, hown, hts⟩ (k_X3_thrown l D cy am ((F_X3_switched M (xs (4 * t + 1))).1) ) (cwV 0 hts gL_law_X3_thrown rfl rfl rfl (by decide +kernel) ⟨Nat.le_of_ble_eq_true rfl, Nat.le_of_ble_eq_true rfl⟩) hK hA hAA hP hS rfl hl.1 rfl (Nat.le_of_ble_eq_true rfl) dL_law_671 ⟨hc1, hc2⟩ (fun H locs hP hS => ?_)
  refine lv_iload hx hb dL_law_674 (lv_at hl 1 rfl) ?_
  refine lv_icmp_eq (tgt := 681) hx hb dL_law_676 (by decide) (fun _ => ?_) (fun z => absurd hV.1 z)
  refine lv_iload hx hb dL_law_681 (lv_at hl 1 rfl) ?_
  refine lv_if_ne (tgt := 698) hx hb dL_law_683 (by decide) (fun _ => ?_) (fun z => ?_)
  rotate_left
  · have hk0 := hc_0 (ks := [1]) (by decide) z
    refine lv_aload_n hx hb dL_law_686 rfl (lv_at hl 3 rfl) ?_
    refine lv_iconst (v := 0) hx hb dL_law_687 (by decide) ?_
    refine o_get hx hb hK hP.2.2 dL_law_688 ?_
    refine lv_iload hx hb dL_law_689 (lv_at hl 0 rfl) ?_
    refine lv_i2l hx hb dL_law_691 rfl ?_
    refine W.lcmp hx hb dL_law_692 ?_
    rw [if_pos hk0, hV.2.1 hk0, show lg_cmp (F_X3_switched M (xs (4 * t + 1))).2.toInt64 (F_X3_switched M (xs (4 * t + 1))).2.toInt64 = 0 from by simp [lg_cmp]]
    refine lv_if_eq (tgt := 698) hx hb dL_law_693 (by decide) (fun _ => ?_) (fun z => absurd rfl z)
    refine lv_goto (tgt := 701) hx hb dL_law_698 (by decide) ?_
    exact K (F_X2_switched S (xs (4 * t + 1))).1 (F_X3_switched M (xs (4 * t + 1))).1 _ H locs ls hV.2.2 hP hS (lv_sub hl [2, 3, 4, 5, 6] rfl)
  skip
  refine lv_goto (tgt := 701) hx hb dL_law_698 (by decide) ?_
  exact K (F_X2_switched S (xs (4 * t + 1))).1 (F_X3_switched M (xs (4 * t + 1))).1 (if (F_X2_switched S (xs (4 * t + 1))).2.2 = 0 then (F_X2_switched S (xs (4 * t + 1))).2.1.toInt64 else v) H locs ls (hV.2.2) hP hS (lv_sub hl [2, 3, 4, 5, 6] rfl)
