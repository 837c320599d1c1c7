section RS11
variable {tau : Int32} {S : Cs} {M : Ms} {N L b : Nat}
/-! the idle ticks are counted at one place alone -/
theorem k9_burst {u : Nat} : cO (F_X1_beginBurst S u).1 9 = cO S 9 := by
  unfold F_X1_beginBurst; dsimp only; split <;> rfl
theorem k9_stand {u : Nat} : cO (F_X2_standAtEnd S u) 9 = cO S 9 := by
  unfold F_X2_standAtEnd; dsimp only; rw [nq_addLast.1]; rfl
theorem k9_goOn {u : Nat} : cO (F_X2_goOnOrEnd S u) 9 = cO S 9 := by
  unfold F_X2_goOnOrEnd; dsimp only
  split
  · exact k9_burst
  · rw [k9_stand]; exact k9_burst
theorem k9_block {u : Nat} : cO (F_X2_blockOrEnd S u) 9 = cO S 9 := by
  unfold F_X2_blockOrEnd; dsimp only
  split
  · exact k9_burst
  · exact k9_burst
theorem k9_send {u : Nat} : cO (F_X2_sendDown S u) 9 = cO S 9 := by
  unfold F_X2_sendDown; dsimp only
  split
  · rw [k9_stand]; rfl
  · rw [k9_stand]; rfl
theorem k9_use {u : Nat} : cO (F_X2_useTick S u) 9 = cO S 9 := by
  rw [use_eq]
  split
  · rw [cO_sN, k9_block]; rfl
  · split
    · split
      · rw [cO_sN, k9_stand]; rfl
      · rfl
    · rw [cO_sN, k9_send]; rfl
theorem k9_count : cO (F_X2_countWaiting S) 9 = cO S 9 := itr_ind (P := fun Z => cO Z 9 = cO S 9) _ _ _ rfl (fun k Z _ _ h => by
  unfold B_X2_countWaiting_2; dsimp only
  split
  · exact h
  · split
    · exact h
    · exact h)
theorem k9_arr : cO (F_X2_letArrive S) 9 = cO S 9 := itr_ind (P := fun Z => cO Z 9 = cO S 9) _ _ _ rfl (fun k Z _ _ h => by
  unfold B_X2_letArrive_2; dsimp only
  split
  · split
    · rw [k9_goOn]; exact h
    · exact h
  · exact h)
theorem k9_back : cO (F_X2_letComeBack S) 9 = cO S 9 := itr_ind (P := fun Z => cO Z 9 = cO S 9) _ _ _ rfl (fun k Z _ _ h => by
  unfold B_X2_letComeBack_2; dsimp only
  split
  · split
    · rw [k9_goOn]; exact h
    · exact h
  · exact h)
theorem k9_make : cO (F_X2_makeWay S) 9 = cO S 9 := by
  unfold F_X2_makeWay; dsimp only
  split
  · rfl
  · split
    · rw [isOne_fst]
    · show cO (F_X0_addFirst _ _ _) 9 = _
      rw [nq_addFirst.1, isOne_fst]; rfl
theorem k9_sw {u : Nat} : cO (F_X2_switchTo S u) 9 = cO S 9 := by
  unfold F_X2_switchTo; dsimp only
  split
  · exact (bru_c (S := S) (u := u)).1 9
  · exact (bru_c (S := S) (u := u)).1 9
theorem k9_first : ∀ (n t : Nat) (Z : Cs), cO (L_X2_switchToFirst_2 n t Z) 9 = cO Z 9 := by
  intro n
  induction n with
  | zero => intro t Z; rfl
  | succ n ih =>
    intro t Z
    unfold L_X2_switchToFirst_2
    dsimp only
    split
    · rw [ih, isTask_fst, nq_take.1]
    · rw [k9_sw, isTask_fst, nq_take.1]
theorem k9_up : cO (F_X2_bringAllUp S) 9 = cO S 9 := by
  unfold F_X2_bringAllUp; dsimp only
  rw [(itr_ind (P := nq (itr B_X2_bringAllUp_19 (cO (sO S 10 (cO S 10 + 1)) 4).toNatClampNeg 0 (sO S 10 (cO S 10 + 1)))) _ _ _ nq.rf (fun k Z _ _ h => h.tr nq_up)).1]
  exact itr_ind (P := fun Z => cO Z 9 = cO S 9) _ _ _ rfl (fun k Z _ _ h => by rw [(up19_ne (S := Z) (t := k) (u := k + 1) (by omega)).2.2.2.2.1]; exact h)
/-! a tick -/
def cfin (Z : Cs) : Cs := if cN Z = none then sO (sO Z 9 (cO Z 9 + 1)) 6 (cO (sO Z 9 (cO Z 9 + 1)) 6 + 1) else sO (F_X2_useTick Z (cI Z)) 6 (cO (F_X2_useTick Z (cI Z)) 6 + 1)
theorem g30 (Y : Cs) : G_X2_doTick_30 Y = cfin (F_X2_countWaiting (cch (F_X2_letComeBack (F_X2_letArrive Y)))) := by
  unfold G_X2_doTick_30 cfin cch
  dsimp only
  by_cases c : cN (F_X2_makeWay (F_X2_letComeBack (F_X2_letArrive Y))) = none
  · rw [if_pos c, if_pos c]
  · rw [if_neg c, if_neg c]
def mfin (Z : Ms) (x : Int32) : Ms := if mO Z 10 < 0 then mP (mQ Z 22 1 (mA Z 22 1 + 1)) 9 (mO (mQ Z 22 1 (mA Z 22 1 + 1)) 9 + 1) else mP (F_X3_work Z x) 9 (mO (F_X3_work Z x) 9 + 1)
def mmid (Z : Ms) (x : Int32) : Ms := F_X3_count (F_X3_choose (F_X3_comeBack (F_X3_come Z x) x) x)
def mup (Z : Ms) : Ms := if mO Z 4 ≤ 0 then Z else if mO Z 9 ≤ 0 then Z else if mO Z 9 - mO Z 9 / mO Z 4 * mO Z 4 = 0 then F_X3_allUp Z else Z
theorem run_s (p1 : Int32) (n t : Nat) (Z : Ms) (w : Int32) : L_X3_run_35 p1 (n + 1) t Z w = L_X3_run_35 p1 n (t + 1) (mfin (mmid (mup Z) (mO Z 9)) (mO Z 9)) (if mO (mmid (mup Z) (mO Z 9)) 10 < 0 then w + 1 else w) := by
  have tail : ∀ Y : Ms, (if mO (mmid Y (mO Z 9)) 10 < 0 then L_X3_run_35 p1 n (t + 1) (mP (mQ (mmid Y (mO Z 9)) 22 1 (mA (mmid Y (mO Z 9)) 22 1 + 1)) 9 (mO (mQ (mmid Y (mO Z 9)) 22 1 (mA (mmid Y (mO Z 9)) 22 1 + 1)) 9 + 1)) (w + 1) else L_X3_run_35 p1 n (t + 1) (mP (F_X3_work (mmid Y (mO Z 9)) (mO Z 9)) 9 (mO (F_X3_work (mmid Y (mO Z 9)) (mO Z 9)) 9 + 1)) w) = L_X3_run_35 p1 n (t + 1) (mfin (mmid Y (mO Z 9)) (mO Z 9)) (if mO (mmid Y (mO Z 9)) 10 < 0 then w + 1 else w) := fun Y => by
    unfold mfin
    by_cases c : mO (mmid Y (mO Z 9)) 10 < 0
    · rw [if_pos c, if_pos c, if_pos c]
    · rw [if_neg c, if_neg c, if_neg c]
  unfold mup
  by_cases c1 : mO Z 4 ≤ 0
  · rw [if_pos c1, ← tail Z]
    show (if mO Z 4 ≤ 0 then _ else _) = _
    rw [if_pos c1]; rfl
  · rw [if_neg c1]
    by_cases c2 : mO Z 9 ≤ 0
    · rw [if_pos c2, ← tail Z]
      show (if mO Z 4 ≤ 0 then _ else _) = _
      rw [if_neg c1]
      show (if mO Z 9 ≤ 0 then _ else _) = _
      rw [if_pos c2]; rfl
    · rw [if_neg c2]
      by_cases c3 : mO Z 9 - mO Z 9 / mO Z 4 * mO Z 4 = 0
      · rw [if_pos c3, ← tail (F_X3_allUp Z)]
        show (if mO Z 4 ≤ 0 then _ else _) = _
        rw [if_neg c1]
        show (if mO Z 9 ≤ 0 then _ else _) = _
        rw [if_neg c2]
        show (if mO Z 9 - mO Z 9 / mO Z 4 * mO Z 4 = 0 then _ else _) = _
        rw [if_pos c3]; rfl
      · rw [if_neg c3, ← tail Z]
        show (if mO Z 4 ≤ 0 then _ else _) = _
        rw [if_neg c1]
        show (if mO Z 9 ≤ 0 then _ else _) = _
        rw [if_neg c2]
        show (if mO Z 9 - mO Z 9 / mO Z 4 * mO Z 4 = 0 then _ else _) = _
        rw [if_neg c3]; rfl
theorem ub_le0 {x : Int32} (h : ub 10000 x) : x = 0 ↔ x ≤ 0 := by
  obtain ⟨z, h1, rfl⟩ := h
  rcases Nat.eq_zero_or_pos z with q | q
  · subst q; decide
  · exact ⟨fun z => absurd z (nI_ne0 q (by omega)), fun z => absurd z (nI_nle q (by omega))⟩
/-- both sides of a tick's beginning -/
theorem R_bring {T : Nat} (h : Rel tau S M) (ho : okR N L b T M) (hu : uR M) : ∃ S0, Rel tau S0 (mup M) ∧ okR N L b T (mup M) ∧ uR (mup M) ∧ F_X2_doTick S = G_X2_doTick_30 S0 ∧ cO S0 9 = cO S 9 := by
  obtain ⟨g1, g2, g3, g4, g5⟩ := h.1
  unfold mup F_X2_doTick
  dsimp only
  rw [g3, g4]
  rw [g3] at g5
  by_cases c1 : mO M 4 ≤ 0
  · rw [if_pos c1, if_pos ((ub_le0 g5).mpr c1)]
    exact ⟨S, h, ho, hu, rfl, rfl⟩
  · rw [if_neg c1, if_neg (fun z => c1 ((ub_le0 g5).mp z))]
    by_cases c2 : mO M 9 ≤ 0
    · rw [if_pos c2, if_pos c2]
      exact ⟨S, h, ho, hu, rfl, rfl⟩
    · rw [if_neg c2, if_neg c2]
      by_cases c3 : mO M 9 - mO M 9 / mO M 4 * mO M 4 = 0
      · rw [if_pos c3, if_pos c3]
        exact ⟨F_X2_bringAllUp S, (R_up h ho.1 hu).1, R_allUp ho, (R_up h ho.1 hu).2, rfl, k9_up⟩
      · rw [if_neg c3, if_neg c3]
        exact ⟨S, h, ho, hu, rfl, rfl⟩
theorem Rel_time {S' : Cs} {M' : Ms} {v : Int32} (h : Rel tau S M) (e : cO S 6 + 1 = v) : Rel tau (sO S 6 (cO S 6 + 1)) (mP M 9 v) := by
  obtain ⟨⟨g1, g2, g3, g4, g5⟩, ha, hl, hn, hq, ht⟩ := h
  exact ⟨⟨g1, g2, g3, e, g5⟩, ha, hl, hn, hq, ht⟩
theorem R_tick {T : Nat} (h : Rel (nI T) S M) (ho : okR N L b T M) (hu : uR M) (hT : T ≤ 200000) :
    Rel (nI (T + 1)) (F_X2_doTick S) (mfin (mmid (mup M) (mO M 9)) (mO M 9)) ∧ okR N L (b + 1) (T + 1) (mfin (mmid (mup M) (mO M 9)) (mO M 9)) ∧ uR (mfin (mmid (mup M) (mO M 9)) (mO M 9)) ∧ cO (F_X2_doTick S) 9 = if mO (mmid (mup M) (mO M 9)) 10 < 0 then cO S 9 + 1 else cO S 9 := by
  obtain ⟨S0, h0, o0, u0, eS, e9⟩ := R_bring h ho hu
  rw [eS, g30, ho.2.2.1]
  generalize mup M = M0 at *
  have hx0 : ¬ nI T < 0 := nI_pos (by omega)
  -- they come
  have hA := R_come_all h0 o0.1 o0.2.2.2 rfl o0.2.2.1 hT
  have oA := R_come o0 rfl hT
  have uA := uR_come (x := nI T) u0 o0.1
  -- they come back
  have hB := R_back_all hA oA.1 oA.2.2.1
  have oB := R1_comeBack (x := nI T) oA
  have uB := uR_back (x := nI T) uA oA.1
  -- one is chosen
  have hC := R_choose hB oB.1 oB.2.2.1 hx0
  have oC := R1_choose (x := nI T) oB
  have uC := uR_choose (x := nI T) uB oB.1
  -- they are counted
  have hD := R_count_all hC oC.1
  have oD := R1_count oC
  have uD := uR_count uC
  rw [nI_1] at hD
  have k9 : cO (F_X2_countWaiting (cch (F_X2_letComeBack (F_X2_letArrive S0)))) 9 = cO S 9 := by
    rw [k9_count]
    have : cO (cch (F_X2_letComeBack (F_X2_letArrive S0))) 9 = cO (F_X2_letComeBack (F_X2_letArrive S0)) 9 := by
      unfold cch
      split
      · unfold F_X2_switchToFirst
        rw [k9_first, k9_make]
      · exact k9_make
    rw [this, k9_back, k9_arr]; exact e9
  have eM : mmid M0 (nI T) = F_X3_count (F_X3_choose (F_X3_comeBack (F_X3_come M0 (nI T)) (nI T)) (nI T)) := rfl
  rw [eM]
  generalize F_X2_countWaiting (cch (F_X2_letComeBack (F_X2_letArrive S0))) = S5 at *
  generalize F_X3_count (F_X3_choose (F_X3_comeBack (F_X3_come M0 (nI T)) (nI T)) (nI T)) = M5 at *
  have hnow : cO S5 6 = nI T := hD.1.2.2.2.1.trans oD.2.2.1
  unfold cfin mfin
  by_cases c : mO M5 10 < 0
  · rw [if_pos c, if_pos c]
    have hn : cN S5 = none := by
      rcases hD.2.2.2.1 with ⟨q, -⟩ | ⟨r, r16, -, q⟩
      · exact q
      · rw [q] at c; exact absurd c (nI_pos (by omega))
    rw [if_pos hn]
    have hI : Rel (nI (T + 1)) (sO S5 9 (cO S5 9 + 1)) (mQ M5 22 1 (mA M5 22 1 + 1)) := by
      obtain ⟨hg, ⟨a1, a2, a3, a4, a5⟩, hl, hn2, hq, ht⟩ := hD
      refine ⟨hg, ⟨a1, ?_, a3, a4, a5⟩, hl, hn2, hq, fun u hu16 => by rw [mV_row (by decide)]; exact ht u hu16⟩
      rw [mA_eq, cO_sO, if_pos rfl, a2]
    refine ⟨Rel_time (S := sO S5 9 (cO S5 9 + 1)) (S' := S) (M' := M) hI (by show cO S5 6 + 1 = mO M5 9 + 1; rw [hnow, oD.2.2.1]), okR1_time (okR1_mQ oD (by decide)) rfl, uD, ?_⟩
    show cO S5 9 + 1 = _
    rw [k9]
  · rw [if_neg c, if_neg c]
    have hn : ¬ cN S5 = none := by
      rcases hD.2.2.2.1 with ⟨-, q⟩ | ⟨r, r16, q, -⟩
      · rw [q] at c; exact absurd (by decide) c
      · rw [q]; exact Option.some_ne_none r
    rw [if_neg hn]
    have hW := R_work (x := nI T) (by rw [nI_1]; exact hD) oD.1 c oD.2.2.1
    have oW := R1_work (x := nI T) oD c
    have uW := uR_work (x := nI T) uD oD.1 c
    rw [nI_1] at hW
    refine ⟨Rel_time (S' := S) (M' := M) hW ?_, okR1_time oW rfl, uW, ?_⟩
    · rw [hW.1.2.2.2.1]
    · show cO (F_X2_useTick S5 (cI S5)) 9 = _
      rw [k9_use, k9]
theorem R_ticks {p1 c0 : Int32} : ∀ (n t T b : Nat) (S : Cs) (M : Ms) (w : Int32), Rel (nI T) S M → okR N L b T M → uR M → T + n ≤ 200000 → w = cO S 9 - c0 →
    Rel (nI (T + n)) (itr (B_X2_run_49 p1) n t S) (L_X3_run_35 p1 n t M w).1 ∧ okR N L (b + n) (T + n) (L_X3_run_35 p1 n t M w).1 ∧ uR (L_X3_run_35 p1 n t M w).1 ∧ (L_X3_run_35 p1 n t M w).2 = cO (itr (B_X2_run_49 p1) n t S) 9 - c0 := by
  intro n
  induction n with
  | zero => intro t T b S M w h ho hu _ hw; exact ⟨h, ho, hu, hw⟩
  | succ n ih =>
    intro t T b S M w h ho hu hT hw
    obtain ⟨h1, h2, h3, h4⟩ := R_tick h ho hu (by omega)
    rw [run_s]
    have := ih (t + 1) (T + 1) (b + 1) (F_X2_doTick S) _ (if mO (mmid (mup M) (mO M 9)) 10 < 0 then w + 1 else w) h1 h2 h3 (by omega) (by
      rw [h4]
      by_cases c : mO (mmid (mup M) (mO M 9)) 10 < 0
      · rw [if_pos c, if_pos c, hw, Int32.sub_eq_add_neg, Int32.sub_eq_add_neg, Int32.add_assoc, Int32.add_assoc, Int32.add_comm (-c0) 1]
      · rw [if_neg c, if_neg c]; exact hw)
    rw [show T + 1 + n = T + (n + 1) by omega, show b + 1 + n = b + (n + 1) by omega] at this
    exact this
end RS11
