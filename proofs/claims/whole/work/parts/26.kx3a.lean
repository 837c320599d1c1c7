set_option maxHeartbeats 4000000 in
set_option maxRecDepth 100000 in
theorem k_X3_thrown (l : Launch) (D : va_G) (cy : Nat → ClassId) (ad : Nat → Nat) (S : Ms)    : mMi l yX3_thrown wsX3_thrown { frames := 0, cells := 0, slots := 0, locals := 0 } D cy ad [.ref (ad 0)] S (F_X3_thrown S ).1 (F_X3_thrown S ).2 := by
  intro sz
  refine Met.ofW (cc := cX3_thrown) (maxL := 1) (ret := (some .int)) (by decide) rfl ?_
  intro p e s m args below meth c s₁ B hml hv
  obtain ⟨rfl, hsz, hP, hK, hap0⟩ := hv
  have hx := B.exec
  have hb := B.bytes
  have hr := B.returns
  have hts := atoms_spec (ws := wsX3_thrown) B.pre
  have hown : s.vm.findClass RX3 = some m.cls := findClass_of_methodNamed B.named
  have hlocks := B.notSynchronized
  subst hsz
  have hap := gw_self (sz := s.heap.size) hap0
  generalize hAe : gA 19 ad s.heap.size = A at hap ⊢
  have hA : ∀ q : Nat, s.heap.size ≤ q → A q := fun q h => by rw [← hAe]; exact Or.inr h
  have hS : va_S A s.heap s.heap [] := va_S.rf
  have hinX3 : ∀ w ∈ wsX30, w ∈ wsX3_thrown := by decide +kernel
  have hl := lv_entry ([.ref (ad 0)]) (n := 1) (Nat.le_of_ble_eq_true rfl)
  rw [lg_entry_eq]
  generalize (lg_sl ([.ref (ad 0)]) ++ List.replicate (1 - (lg_sl ([.ref (ad 0)])).length) Slot.unset).toArray = ls at hl ⊢
  have hl : lv_has ls 1 [(0, .ref (ad 0))] := hl
  obtain ⟨H, hH⟩ : ∃ H, H = s.heap := ⟨_, rfl⟩
  rw [← hH] at hP
  have hS : va_S A s.heap H [] := by rw [hH]; exact hS
  rw [← hH]
  generalize ([] : List Loc) = locs at hS ⊢
  refine lv_aload_n hx hb dX3_thrown_0 rfl (lv_at hl 0 rfl) ?_
  refine m_gO hx hb hts hinX3 hown hK hP 0 (by decide) (hts (.fieldLink RX3 69 "FeedbackQueuesModel" "thrown" "I") (by decide +kernel)) rfl dX3_thrown_1 ?_
  have hF : F_X3_thrown S  = (S, mO S 0) := by simp only [F_X3_thrown]
  rw [hF]
  exact m_iret hx hb hr hlocks hP hS dX3_thrown_4 (fun _ h => h)
set_option maxHeartbeats 4000000 in
set_option maxRecDepth 100000 in
theorem k_X3_begin (l : Launch) (D : va_G) (cy : Nat → ClassId) (ad : Nat → Nat) (S : Ms)    : mMv l yX3_begin wsX3_begin { frames := 0, cells := 0, slots := 0, locals := 0 } D cy ad [.ref (ad 0)] S (F_X3_begin S ) := by
  intro sz
  refine Met.ofW (cc := cX3_begin) (maxL := 3) (ret := none) (by decide) rfl ?_
  intro p e s m args below meth c s₁ B hml hv
  obtain ⟨rfl, hsz, hP, hK, hap0⟩ := hv
  have hx := B.exec
  have hb := B.bytes
  have hr := B.returns
  have hts := atoms_spec (ws := wsX3_begin) B.pre
  have hown : s.vm.findClass RX3 = some m.cls := findClass_of_methodNamed B.named
  have hlocks := B.notSynchronized
  subst hsz
  have hap := gw_self (sz := s.heap.size) hap0
  generalize hAe : gA 19 ad s.heap.size = A at hap ⊢
  have hA : ∀ q : Nat, s.heap.size ≤ q → A q := fun q h => by rw [← hAe]; exact Or.inr h
  have hS : va_S A s.heap s.heap [] := va_S.rf
  have hinX3 : ∀ w ∈ wsX30, w ∈ wsX3_begin := by decide +kernel
  have hl := lv_entry ([.ref (ad 0)]) (n := 3) (Nat.le_of_ble_eq_true rfl)
  rw [lg_entry_eq]
  generalize (lg_sl ([.ref (ad 0)]) ++ List.replicate (3 - (lg_sl ([.ref (ad 0)])).length) Slot.unset).toArray = ls at hl ⊢
  have hl : lv_has ls 3 [(0, .ref (ad 0))] := hl
  obtain ⟨H, hH⟩ : ∃ H, H = s.heap := ⟨_, rfl⟩
  rw [← hH] at hP
  have hS : va_S A s.heap H [] := by rw [hH]; exact hS
  rw [← hH]
  generalize ([] : List Loc) = locs at hS ⊢
  refine lv_aload_n hx hb dX3_begin_0 rfl (lv_at hl 0 rfl) ?_
  refine lv_iconst (v := 0) hx hb dX3_begin_1 (by decide) ?_
  refine m_pO (ty := .int) (v := 0) hx hb hts hinX3 hown hK hap hP hS 9 (by decide) (hts (.fieldLink RX3 82 "FeedbackQueuesModel" "time" "I") (by decide +kernel)) rfl (by decide +kernel) rfl rfl (mOf_9 ad S _) (Nat.le_of_ble_eq_true rfl) dX3_begin_2 (fun H locs hP hS => ?_)
  obtain ⟨S1, eS1⟩ : ∃ z : Ms, z = mP S 9 0 := ⟨_, rfl⟩
  rw [← eS1] at hP
  refine lv_aload_n hx hb dX3_begin_5 rfl (lv_at hl 0 rfl) ?_
  refine lv_iconst (v := (-1)) hx hb dX3_begin_6 (by decide) ?_
  refine m_pO (ty := .int) (v := (-1)) hx hb hts hinX3 hown hK hap hP hS 10 (by decide) (hts (.fieldLink RX3 85 "FeedbackQueuesModel" "running" "I") (by decide +kernel)) rfl (by decide +kernel) rfl rfl (mOf_10 ad S1 _) (Nat.le_of_ble_eq_true rfl) dX3_begin_7 (fun H locs hP hS => ?_)
  obtain ⟨S2, eS2⟩ : ∃ z : Ms, z = mP S1 10 ((-1)) := ⟨_, rfl⟩
  rw [← eS2] at hP
  refine lv_iconst (v := 0) hx hb dX3_begin_10 (by decide) ?_
  refine lv_istore_n (lv' := [(1, .int 0), (0, .ref (ad 0))]) hx hb dX3_begin_11 rfl hl (by decide) rfl (fun ls hl => ?_)
  have lp_12 : ∀ (Q : State → Prop) (n t : Nat) (Z : Ms) (H : Heap) (locs : List Loc) (ls : Array Slot), t + n = 4 → True → va_P D vwCl (mwl cy ad Z) H → va_S A s.heap H locs → lv_has ls 3 [(1, .int (nI t)), (0, .ref (ad 0))] → (∀ (H : Heap) (locs : List Loc) (ls : Array Slot), va_P D vwCl (mwl cy ad (itr B_X3_begin_12 n t Z)) H → va_S A s.heap H locs → lv_has ls 3 [(1, .int (nI 4)), (0, .ref (ad 0))] → W p l e (headSpec wsX3_begin { frames := 0, cells := 0, slots := 0, locals := 0 }).room s m ([.ref (ad 0)] : List Value).toArray below meth c H locs 0 0 Q (F0 m 30 ls [])) → W p l e (headSpec wsX3_begin { frames := 0, cells := 0, slots := 0, locals := 0 }).room s m ([.ref (ad 0)] : List Value).toArray below meth c H locs 0 0 Q (F0 m 12 ls []) := by
    intro Q n
    induction n with
    | zero =>
      intro t Z H locs ls hk hI hP hS hl K
      refine lv_iload_n hx hb dX3_begin_12 rfl (lv_at hl 0 rfl) ?_
      refine lv_iconst (v := 4) hx hb dX3_begin_13 (by decide) ?_
      refine lv_icmp_ge (tgt := 30) hx hb dX3_begin_14 (by decide) (fun c_14 => ?_) (fun c_14 => ?_)
      rotate_left
      · exact absurd (by rw [show (4 : Int32) = nI 4 from by decide]; exact nI_le (by omega) (by omega)) c_14
      have hiN : t = 4 := by omega
      rw [hiN] at hl
      exact K H locs ls hP hS (lv_sub hl [0, 1] rfl)
    | succ n ih =>
      intro t Z H locs ls hk hI hP hS hl K
      have ht : t < 4 := by omega
      refine lv_iload_n hx hb dX3_begin_12 rfl (lv_at hl 0 rfl) ?_
      refine lv_iconst (v := 4) hx hb dX3_begin_13 (by decide) ?_
      refine lv_icmp_ge (tgt := 30) hx hb dX3_begin_14 (by decide) (fun c_14 => ?_) (fun c_14 => ?_)
      · exact absurd c_14 (by rw [show (4 : Int32) = nI 4 from by decide]; exact nI_ge (by omega) (by omega))
      refine lv_aload_n hx hb dX3_begin_17 rfl (lv_at hl 1 rfl) ?_
      refine m_gO hx hb hts hinX3 hown hK hP 22 (by decide) (hts (.fieldLink RX3 59 "FeedbackQueuesModel" "all" "[I") (by decide +kernel)) rfl dX3_begin_18 ?_
      refine lv_iload_n hx hb dX3_begin_21 rfl (lv_at hl 0 rfl) ?_
      refine lv_iconst (v := 0) hx hb dX3_begin_22 (by decide) ?_
      refine m_sA (d := 17) (a := 22) (n := 4) (k := t) (v := 0) hx hb hK hap hP hS (by decide) rfl rfl (ix_nI (by omega) (by omega)) dX3_begin_23 (fun H locs hP hS => ?_)
      obtain ⟨S3, eS3⟩ : ∃ z : Ms, z = mQ Z 22 t 0 := ⟨_, rfl⟩
      rw [← eS3] at hP
      refine lv_iinc (v := nI (t + 1)) (lv' := [(1, .int (nI (t + 1))), (0, .ref (ad 0))]) hx hb dX3_begin_24 hl (k := 0) rfl (inc_nI t) (by decide) rfl (fun ls hl => ?_)
      refine lv_goto (tgt := 12) hx hb dX3_begin_27 (by decide) ?_
      have hF : B_X3_begin_12 t Z = S3 := by subst eS3; simp only [B_X3_begin_12]
      rw [← hF] at hP
      exact ih (t + 1) (B_X3_begin_12 t Z) H locs ls (by omega) (trivial) hP hS (lv_sub hl [0, 1] rfl) K
  refine lp_12 _ (4) 0 S2 H locs ls (rfl) (trivial) hP hS (by rw [show nI 0 = 0 from by decide]; exact lv_sub hl [0, 1] rfl) (fun H locs ls hP hS hl => ?_)
  obtain ⟨S4, eS4⟩ : ∃ z : Ms, z = itr B_X3_begin_12 4 0 S2 := ⟨_, rfl⟩
  rw [← eS4] at hP
  refine lv_iconst (v := 0) hx hb dX3_begin_30 (by decide) ?_
  refine lv_istore_n (lv' := [(1, .int 0), (0, .ref (ad 0))]) hx hb dX3_begin_31 rfl hl (by decide) rfl (fun ls hl => ?_)
  have lp_32 : ∀ (Q : State → Prop) (n t : Nat) (Z : Ms) (H : Heap) (locs : List Loc) (ls : Array Slot), t + n = 6 → True → va_P D vwCl (mwl cy ad Z) H → va_S A s.heap H locs → lv_has ls 3 [(1, .int (nI t)), (0, .ref (ad 0))] → (∀ (H : Heap) (locs : List Loc) (ls : Array Slot), va_P D vwCl (mwl cy ad (itr B_X3_begin_32 n t Z)) H → va_S A s.heap H locs → lv_has ls 3 [(1, .int (nI 6)), (0, .ref (ad 0))] → W p l e (headSpec wsX3_begin { frames := 0, cells := 0, slots := 0, locals := 0 }).room s m ([.ref (ad 0)] : List Value).toArray below meth c H locs 0 0 Q (F0 m 51 ls [])) → W p l e (headSpec wsX3_begin { frames := 0, cells := 0, slots := 0, locals := 0 }).room s m ([.ref (ad 0)] : List Value).toArray below meth c H locs 0 0 Q (F0 m 32 ls []) := by
    intro Q n
    induction n with
    | zero =>
      intro t Z H locs ls hk hI hP hS hl K
      refine lv_iload_n hx hb dX3_begin_32 rfl (lv_at hl 0 rfl) ?_
      refine lv_bipush (v := 6) hx hb dX3_begin_33 (by decide) ?_
      refine lv_icmp_ge (tgt := 51) hx hb dX3_begin_35 (by decide) (fun c_35 => ?_) (fun c_35 => ?_)
      rotate_left
      · exact absurd (by rw [show (6 : Int32) = nI 6 from by decide]; exact nI_le (by omega) (by omega)) c_35
      have hiN : t = 6 := by omega
      rw [hiN] at hl
      exact K H locs ls hP hS (lv_sub hl [0, 1] rfl)
    | succ n ih =>
      intro t Z H locs ls hk hI hP hS hl K
      have ht : t < 6 := by omega
      refine lv_iload_n hx hb dX3_begin_32 rfl (lv_at hl 0 rfl) ?_
      refine lv_bipush (v := 6) hx hb dX3_begin_33 (by decide) ?_
      refine lv_icmp_ge (tgt := 51) hx hb dX3_begin_35 (by decide) (fun c_35 => ?_) (fun c_35 => ?_)
      · exact absurd c_35 (by rw [show (6 : Int32) = nI 6 from by decide]; exact nI_ge (by omega) (by omega))
      refine lv_aload_n hx hb dX3_begin_38 rfl (lv_at hl 1 rfl) ?_
      refine m_gO hx hb hts hinX3 hown hK hP 21 (by decide) (hts (.fieldLink RX3 56 "FeedbackQueuesModel" "size" "[I") (by decide +kernel)) rfl dX3_begin_39 ?_
      refine lv_iload_n hx hb dX3_begin_42 rfl (lv_at hl 0 rfl) ?_
      refine lv_iconst (v := 0) hx hb dX3_begin_43 (by decide) ?_
      refine m_sA (d := 16) (a := 21) (n := 6) (k := t) (v := 0) hx hb hK hap hP hS (by decide) rfl rfl (ix_nI (by omega) (by omega)) dX3_begin_44 (fun H locs hP hS => ?_)
      obtain ⟨S5, eS5⟩ : ∃ z : Ms, z = mQ Z 21 t 0 := ⟨_, rfl⟩
      rw [← eS5] at hP
      refine lv_iinc (v := nI (t + 1)) (lv' := [(1, .int (nI (t + 1))), (0, .ref (ad 0))]) hx hb dX3_begin_45 hl (k := 0) rfl (inc_nI t) (by decide) rfl (fun ls hl => ?_)
      refine lv_goto (tgt := 32) hx hb dX3_begin_48 (by decide) ?_
      have hF : B_X3_begin_32 t Z = S5 := by subst eS5; simp only [B_X3_begin_32]
      rw [← hF] at hP
      exact ih (t + 1) (B_X3_begin_32 t Z) H locs ls (by omega) (trivial) hP hS (lv_sub hl [0, 1] rfl) K
  refine lp_32 _ (6) 0 S4 H locs ls (rfl) (trivial) hP hS (by rw [show nI 0 = 0 from by decide]; exact lv_sub hl [0, 1] rfl) (fun H locs ls hP hS hl => ?_)
  obtain ⟨S6, eS6⟩ : ∃ z : Ms, z = itr B_X3_begin_32 6 0 S4 := ⟨_, rfl⟩
  rw [← eS6] at hP
  refine lv_iconst (v := 0) hx hb dX3_begin_51 (by decide) ?_
  refine lv_istore_n (lv' := [(1, .int 0), (0, .ref (ad 0))]) hx hb dX3_begin_52 rfl hl (by decide) rfl (fun ls hl => ?_)
  have lp_53 : ∀ (Q : State → Prop) (n t : Nat) (Z : Ms) (H : Heap) (locs : List Loc) (ls : Array Slot), t + n = 16 → True → va_P D vwCl (mwl cy ad Z) H → va_S A s.heap H locs → lv_has ls 3 [(1, .int (nI t)), (0, .ref (ad 0))] → (∀ (H : Heap) (locs : List Loc) (ls : Array Slot), va_P D vwCl (mwl cy ad (itr B_X3_begin_53 n t Z)) H → va_S A s.heap H locs → lv_has ls 3 [(1, .int (nI 16)), (0, .ref (ad 0))] → W p l e (headSpec wsX3_begin { frames := 0, cells := 0, slots := 0, locals := 0 }).room s m ([.ref (ad 0)] : List Value).toArray below meth c H locs 0 0 Q (F0 m 134 ls [])) → W p l e (headSpec wsX3_begin { frames := 0, cells := 0, slots := 0, locals := 0 }).room s m ([.ref (ad 0)] : List Value).toArray below meth c H locs 0 0 Q (F0 m 53 ls []) := by
    intro Q n
    induction n with
    | zero =>
      intro t Z H locs ls hk hI hP hS hl K
      refine lv_iload_n hx hb dX3_begin_53 rfl (lv_at hl 0 rfl) ?_
      refine lv_bipush (v := 16) hx hb dX3_begin_54 (by decide) ?_
      refine lv_icmp_ge (tgt := 134) hx hb dX3_begin_56 (by decide) (fun c_56 => ?_) (fun c_56 => ?_)
      rotate_left
      · exact absurd (by rw [show (16 : Int32) = nI 16 from by decide]; exact nI_le (by omega) (by omega)) c_56
      have hiN : t = 16 := by omega
      rw [hiN] at hl
      exact K H locs ls hP hS (lv_sub hl [0, 1] rfl)
    | succ n ih =>
      intro t Z H locs ls hk hI hP hS hl K
      have ht : t < 16 := by omega
      refine lv_iload_n hx hb dX3_begin_53 rfl (lv_at hl 0 rfl) ?_
      refine lv_bipush (v := 16) hx hb dX3_begin_54 (by decide) ?_
      refine lv_icmp_ge (tgt := 134) hx hb dX3_begin_56 (by decide) (fun c_56 => ?_) (fun c_56 => ?_)
      · exact absurd c_56 (by rw [show (16 : Int32) = nI 16 from by decide]; exact nI_ge (by omega) (by omega))
      refine lv_aload_n hx hb dX3_begin_59 rfl (lv_at hl 1 rfl) ?_
      refine m_gO hx hb hts hinX3 hown hK hP 11 (by decide) (hts (.fieldLink RX3 25 "FeedbackQueuesModel" "state" "[I") (by decide +kernel)) rfl dX3_begin_60 ?_
      refine lv_iload_n hx hb dX3_begin_63 rfl (lv_at hl 0 rfl) ?_
      refine lv_iconst (v := 0) hx hb dX3_begin_64 (by decide) ?_
      refine m_sA (d := 6) (a := 11) (n := 16) (k := t) (v := 0) hx hb hK hap hP hS (by decide) rfl rfl (ix_nI (by omega) (by omega)) dX3_begin_65 (fun H locs hP hS => ?_)
      obtain ⟨S7, eS7⟩ : ∃ z : Ms, z = mQ Z 11 t 0 := ⟨_, rfl⟩
      rw [← eS7] at hP
      refine lv_aload_n hx hb dX3_begin_66 rfl (lv_at hl 1 rfl) ?_
      refine m_gO hx hb hts hinX3 hown hK hP 12 (by decide) (hts (.fieldLink RX3 28 "FeedbackQueuesModel" "level" "[I") (by decide +kernel)) rfl dX3_begin_67 ?_
      refine lv_iload_n hx hb dX3_begin_70 rfl (lv_at hl 0 rfl) ?_
      refine lv_iconst (v := 0) hx hb dX3_begin_71 (by decide) ?_
      refine m_sA (d := 7) (a := 12) (n := 16) (k := t) (v := 0) hx hb hK hap hP hS (by decide) rfl rfl (ix_nI (by omega) (by omega)) dX3_begin_72 (fun H locs hP hS => ?_)
      obtain ⟨S8, eS8⟩ : ∃ z : Ms, z = mQ S7 12 t 0 := ⟨_, rfl⟩
      rw [← eS8] at hP
      refine lv_aload_n hx hb dX3_begin_73 rfl (lv_at hl 1 rfl) ?_
      refine m_gO hx hb hts hinX3 hown hK hP 13 (by decide) (hts (.fieldLink RX3 31 "FeedbackQueuesModel" "at" "[I") (by decide +kernel)) rfl dX3_begin_74 ?_
      refine lv_iload_n hx hb dX3_begin_77 rfl (lv_at hl 0 rfl) ?_
      refine lv_iconst (v := 0) hx hb dX3_begin_78 (by decide) ?_
      refine m_sA (d := 8) (a := 13) (n := 16) (k := t) (v := 0) hx hb hK hap hP hS (by decide) rfl rfl (ix_nI (by omega) (by omega)) dX3_begin_79 (fun H locs hP hS => ?_)
      obtain ⟨S9, eS9⟩ : ∃ z : Ms, z = mQ S8 13 t 0 := ⟨_, rfl⟩
      rw [← eS9] at hP
      refine lv_aload_n hx hb dX3_begin_80 rfl (lv_at hl 1 rfl) ?_
      refine m_gO hx hb hts hinX3 hown hK hP 17 (by decide) (hts (.fieldLink RX3 43 "FeedbackQueuesModel" "kept" "[Z") (by decide +kernel)) rfl dX3_begin_81 ?_
      refine lv_iload_n hx hb dX3_begin_84 rfl (lv_at hl 0 rfl) ?_
      refine lv_iconst (v := 0) hx hb dX3_begin_85 (by decide) ?_
      refine m_tA (d := 12) (a := 17) (n := 16) (k := t) (v := 0) hx hb hK hap hP hS (by decide) rfl rfl rfl (ix_nI (by omega) (by omega)) dX3_begin_86 (fun H locs hP hS => ?_)
      obtain ⟨S10, eS10⟩ : ∃ z : Ms, z = mQ S9 17 t 0 := ⟨_, rfl⟩
      rw [← eS10] at hP
      refine lv_iconst (v := 0) hx hb dX3_begin_87 (by decide) ?_
      refine lv_istore_n (lv' := [(2, .int 0), (1, .int (nI t)), (0, .ref (ad 0))]) hx hb dX3_begin_88 rfl hl (by decide) rfl (fun ls hl => ?_)
      have lp_89 : ∀ (Q : State → Prop) (nx tx : Nat) (Zx : Ms) (H : Heap) (locs : List Loc) (ls : Array Slot), tx + nx = 10 → True → va_P D vwCl (mwl cy ad Zx) H → va_S A s.heap H locs → lv_has ls 3 [(2, .int (nI tx)), (1, .int (nI t)), (0, .ref (ad 0))] → (∀ (H : Heap) (locs : List Loc) (ls : Array Slot), va_P D vwCl (mwl cy ad (itr (B_X3_begin_89 t) nx tx Zx)) H → va_S A s.heap H locs → lv_has ls 3 [(2, .int (nI 10)), (1, .int (nI t)), (0, .ref (ad 0))] → W p l e (headSpec wsX3_begin { frames := 0, cells := 0, slots := 0, locals := 0 }).room s m ([.ref (ad 0)] : List Value).toArray below meth c H locs 0 0 Q (F0 m 128 ls [])) → W p l e (headSpec wsX3_begin { frames := 0, cells := 0, slots := 0, locals := 0 }).room s m ([.ref (ad 0)] : List Value).toArray below meth c H locs 0 0 Q (F0 m 89 ls []) := by
        intro Q nx
        induction nx with
        | zero =>
          intro tx Zx H locs ls hkx hIx hP hS hl Kx
          refine lv_iload_n hx hb dX3_begin_89 rfl (lv_at hl 0 rfl) ?_
          refine lv_bipush (v := 10) hx hb dX3_begin_90 (by decide) ?_
          refine lv_icmp_ge (tgt := 128) hx hb dX3_begin_92 (by decide) (fun c_92 => ?_) (fun c_92 => ?_)
          rotate_left
          · exact absurd (by rw [show (10 : Int32) = nI 10 from by decide]; exact nI_le (by omega) (by omega)) c_92
          have hiN : tx = 10 := by omega
          rw [hiN] at hl
          exact Kx H locs ls hP hS (lv_sub hl [0, 1, 2] rfl)
        | succ nx ihx =>
          intro tx Zx H locs ls hkx hIx hP hS hl Kx
          have htx : tx < 10 := by omega
          refine lv_iload_n hx hb dX3_begin_89 rfl (lv_at hl 0 rfl) ?_
          refine lv_bipush (v := 10) hx hb dX3_begin_90 (by decide) ?_
          refine lv_icmp_ge (tgt := 128) hx hb dX3_begin_92 (by decide) (fun c_92 => ?_) (fun c_92 => ?_)
          · exact absurd c_92 (by rw [show (10 : Int32) = nI 10 from by decide]; exact nI_ge (by omega) (by omega))
          refine lv_aload_n hx hb dX3_begin_95 rfl (lv_at hl 2 rfl) ?_
          refine m_gO hx hb hts hinX3 hown hK hP 19 (by decide) (hts (.fieldLink RX3 50 "FeedbackQueuesModel" "counts" "[I") (by decide +kernel)) rfl dX3_begin_96 ?_
          refine lv_bipush (v := 10) hx hb dX3_begin_99 (by decide) ?_
          refine lv_iload_n hx hb dX3_begin_101 rfl (lv_at hl 1 rfl) ?_
          refine lv_imul hx hb dX3_begin_102 ?_
          refine lv_iload_n hx hb dX3_begin_103 rfl (lv_at hl 0 rfl) ?_
          refine lv_iadd hx hb dX3_begin_104 ?_
          refine lv_iload_n hx hb dX3_begin_105 rfl (lv_at hl 0 rfl) ?_
          refine lv_iconst (v := 5) hx hb dX3_begin_106 (by decide) ?_
          refine lv_icmp_eq (tgt := 116) hx hb dX3_begin_107 (by decide) (fun c_107 => ?_) (fun c_107 => ?_)
          · skip
            refine lv_iconst (v := (-1)) hx hb dX3_begin_116 (by decide) ?_
            refine lv_goto (tgt := 121) hx hb dX3_begin_117 (by decide) ?_
            refine m_sA (d := 14) (a := 19) (n := 160) (k := 10 * t + tx) (v := (-1)) hx hb hK hap hP hS (by decide) rfl rfl (ix_lin (by decide) rfl rfl (by omega) (by omega)) dX3_begin_121 (fun H locs hP hS => ?_)
            obtain ⟨S11, eS11⟩ : ∃ z : Ms, z = mQ Zx 19 (10 * t + tx) ((-1)) := ⟨_, rfl⟩
            rw [← eS11] at hP
            refine lv_iinc (v := nI (tx + 1)) (lv' := [(2, .int (nI (tx + 1))), (1, .int (nI t)), (0, .ref (ad 0))]) hx hb dX3_begin_122 hl (k := 0) rfl (inc_nI tx) (by decide) rfl (fun ls hl => ?_)
            refine lv_goto (tgt := 89) hx hb dX3_begin_125 (by decide) ?_
            have hF : B_X3_begin_89 t tx Zx = S11 := by subst eS11; simp only [B_X3_begin_89, if_pos c_107]
            rw [← hF] at hP
            exact ihx (tx + 1) (B_X3_begin_89 t tx Zx) H locs ls (by omega) (trivial) hP hS (lv_sub hl [0, 1, 2] rfl) Kx
          · skip
            refine lv_iload_n hx hb dX3_begin_110 rfl (lv_at hl 0 rfl) ?_
            refine lv_bipush (v := 6) hx hb dX3_begin_111 (by decide) ?_
            refine lv_icmp_ne (tgt := 120) hx hb dX3_begin_113 (by decide) (fun c_113 => ?_) (fun c_113 => ?_)
            · skip
              refine lv_iconst (v := 0) hx hb dX3_begin_120 (by decide) ?_
              refine m_sA (d := 14) (a := 19) (n := 160) (k := 10 * t + tx) (v := 0) hx hb hK hap hP hS (by decide) rfl rfl (ix_lin (by decide) rfl rfl (by omega) (by omega)) dX3_begin_121 (fun H locs hP hS => ?_)
              obtain ⟨S12, eS12⟩ : ∃ z : Ms, z = mQ Zx 19 (10 * t + tx) 0 := ⟨_, rfl⟩
              rw [← eS12] at hP
              refine lv_iinc (v := nI (tx + 1)) (lv' := [(2, .int (nI (tx + 1))), (1, .int (nI t)), (0, .ref (ad 0))]) hx hb dX3_begin_122 hl (k := 0) rfl (inc_nI tx) (by decide) rfl (fun ls hl => ?_)
              refine lv_goto (tgt := 89) hx hb dX3_begin_125 (by decide) ?_
              have hF : B_X3_begin_89 t tx Zx = S12 := by subst eS12; simp only [B_X3_begin_89, if_neg c_107, if_neg c_113]
              rw [← hF] at hP
              exact ihx (tx + 1) (B_X3_begin_89 t tx Zx) H locs ls (by omega) (trivial) hP hS (lv_sub hl [0, 1, 2] rfl) Kx
            · skip
              refine lv_iconst (v := (-1)) hx hb dX3_begin_116 (by decide) ?_
              refine lv_goto (tgt := 121) hx hb dX3_begin_117 (by decide) ?_
              refine m_sA (d := 14) (a := 19) (n := 160) (k := 10 * t + tx) (v := (-1)) hx hb hK hap hP hS (by decide) rfl rfl (ix_lin (by decide) rfl rfl (by omega) (by omega)) dX3_begin_121 (fun H locs hP hS => ?_)
              obtain ⟨S13, eS13⟩ : ∃ z : Ms, z = mQ Zx 19 (10 * t + tx) ((-1)) := ⟨_, rfl⟩
              rw [← eS13] at hP
              refine lv_iinc (v := nI (tx + 1)) (lv' := [(2, .int (nI (tx + 1))), (1, .int (nI t)), (0, .ref (ad 0))]) hx hb dX3_begin_122 hl (k := 0) rfl (inc_nI tx) (by decide) rfl (fun ls hl => ?_)
              refine lv_goto (tgt := 89) hx hb dX3_begin_125 (by decide) ?_
              have hF : B_X3_begin_89 t tx Zx = S13 := by subst eS13; simp only [B_X3_begin_89, if_neg c_107, if_pos c_113]
              rw [← hF] at hP
              exact ihx (tx + 1) (B_X3_begin_89 t tx Zx) H locs ls (by omega) (trivial) hP hS (lv_sub hl [0, 1, 2] rfl) Kx
      refine lp_89 _ (10) 0 S10 H locs ls (rfl) (trivial) hP hS (by rw [show nI 0 = 0 from by decide]; exact lv_sub hl [0, 1, 2] rfl) (fun H locs ls hP hS hl => ?_)
      obtain ⟨S14, eS14⟩ : ∃ z : Ms, z = itr (B_X3_begin_89 t) 10 0 S10 := ⟨_, rfl⟩
      rw [← eS14] at hP
      refine lv_iinc (v := nI (t + 1)) (lv' := [(1, .int (nI (t + 1))), (2, .int (nI 10)), (0, .ref (ad 0))]) hx hb dX3_begin_128 hl (k := 1) rfl (inc_nI t) (by decide) rfl (fun ls hl => ?_)
      refine lv_goto (tgt := 53) hx hb dX3_begin_131 (by decide) ?_
      have hF : B_X3_begin_53 t Z = S14 := by subst eS14 eS10 eS9 eS8 eS7; simp only [B_X3_begin_53]
      rw [← hF] at hP
      exact ih (t + 1) (B_X3_begin_53 t Z) H locs ls (by omega) (trivial) hP hS (lv_sub hl [0, 2] rfl) K
  refine lp_53 _ (16) 0 S6 H locs ls (rfl) (trivial) hP hS (by rw [show nI 0 = 0 from by decide]; exact lv_sub hl [0, 1] rfl) (fun H locs ls hP hS hl => ?_)
  obtain ⟨S15, eS15⟩ : ∃ z : Ms, z = itr B_X3_begin_53 16 0 S6 := ⟨_, rfl⟩
  rw [← eS15] at hP
  have hF : F_X3_begin S  = S15 := by subst eS15 eS6 eS4 eS2 eS1; simp only [F_X3_begin]
  rw [hF]
  exact m_vret hx hb hr hlocks hP hS dX3_begin_134 (fun _ h => h)
set_option maxHeartbeats 4000000 in
set_option maxRecDepth 100000 in
theorem k_X3_set (l : Launch) (D : va_G) (cy : Nat → ClassId) (ad : Nat → Nat) (S : Ms) (p1 : Int32)   : mMv l yX3_set wsX3_set { frames := 1, cells := 0, slots := 0, locals := 22 } D cy ad [.ref (ad 0), .int p1] S (F_X3_set S p1) := by
  intro sz
  refine Met.ofW (cc := cX3_set) (maxL := 3) (ret := none) (by decide) rfl ?_
  intro p e s m args below meth c s₁ B hml hv
  obtain ⟨rfl, hsz, hP, hK, hap0⟩ := hv
  have hx := B.exec
  have hb := B.bytes
  have hr := B.returns
  have hts := atoms_spec (ws := wsX3_set) B.pre
  have hown : s.vm.findClass RX3 = some m.cls := findClass_of_methodNamed B.named
  have hlocks := B.notSynchronized
  subst hsz
  have hap := gw_self (sz := s.heap.size) hap0
  generalize hAe : gA 19 ad s.heap.size = A at hap ⊢
  have hA : ∀ q : Nat, s.heap.size ≤ q → A q := fun q h => by rw [← hAe]; exact Or.inr h
  have hS : va_S A s.heap s.heap [] := va_S.rf
  have hinX3 : ∀ w ∈ wsX30, w ∈ wsX3_set := by decide +kernel
  have hl := lv_entry ([.ref (ad 0), .int p1]) (n := 3) (Nat.le_of_ble_eq_true rfl)
  rw [lg_entry_eq]
  generalize (lg_sl ([.ref (ad 0), .int p1]) ++ List.replicate (3 - (lg_sl ([.ref (ad 0), .int p1])).length) Slot.unset).toArray = ls at hl ⊢
  have hl : lv_has ls 3 [(0, .ref (ad 0)), (1, .int p1)] := hl
  obtain ⟨H, hH⟩ : ∃ H, H = s.heap := ⟨_, rfl⟩
  rw [← hH] at hP
  have hS : va_S A s.heap H [] := by rw [hH]; exact hS
  rw [← hH]
  generalize ([] : List Loc) = locs at hS ⊢
  refine lv_aload_n hx hb dX3_set_0 rfl (lv_at hl 0 rfl) ?_
  refine lv_iload_n hx hb dX3_set_1 rfl (lv_at hl 1 rfl) ?_
  refine m_pO (ty := .int) (v := p1) hx hb hts hinX3 hown hK hap hP hS 1 (by decide) (hts (.fieldLink RX3 73 "FeedbackQueuesModel" "levels" "I") (by decide +kernel)) rfl (by decide +kernel) rfl rfl (mOf_1 ad S _) (Nat.le_of_ble_eq_true rfl) dX3_set_2 (fun H locs hP hS => ?_)
  obtain ⟨S1, eS1⟩ : ∃ z : Ms, z = mP S 1 p1 := ⟨_, rfl⟩
  rw [← eS1] at hP
  refine lv_iconst (v := 0) hx hb dX3_set_5 (by decide) ?_
  refine lv_istore_n (lv' := [(2, .int 0), (0, .ref (ad 0)), (1, .int p1)]) hx hb dX3_set_6 rfl hl (by decide) rfl (fun ls hl => ?_)
  have lp_7 : ∀ (Q : State → Prop) (n t : Nat) (Z : Ms) (H : Heap) (locs : List Loc) (ls : Array Slot), t + n = 6 → True → va_P D vwCl (mwl cy ad Z) H → va_S A s.heap H locs → lv_has ls 3 [(2, .int (nI t)), (0, .ref (ad 0)), (1, .int p1)] → (∀ (H : Heap) (locs : List Loc) (ls : Array Slot), va_P D vwCl (mwl cy ad (itr (B_X3_set_7 p1) n t Z)) H → va_S A s.heap H locs → lv_has ls 3 [(2, .int (nI 6)), (0, .ref (ad 0)), (1, .int p1)] → W p l e (headSpec wsX3_set { frames := 1, cells := 0, slots := 0, locals := 22 }).room s m ([.ref (ad 0), .int p1] : List Value).toArray below meth c H locs 0 0 Q (F0 m 33 ls [])) → W p l e (headSpec wsX3_set { frames := 1, cells := 0, slots := 0, locals := 22 }).room s m ([.ref (ad 0), .int p1] : List Value).toArray below meth c H locs 0 0 Q (F0 m 7 ls []) := by
    intro Q n
    induction n with
    | zero =>
      intro t Z H locs ls hk hI hP hS hl K
      refine lv_iload_n hx hb dX3_set_7 rfl (lv_at hl 0 rfl) ?_
      refine lv_bipush (v := 6) hx hb dX3_set_8 (by decide) ?_
      refine lv_icmp_ge (tgt := 33) hx hb dX3_set_10 (by decide) (fun c_10 => ?_) (fun c_10 => ?_)
      rotate_left
      · exact absurd (by rw [show (6 : Int32) = nI 6 from by decide]; exact nI_le (by omega) (by omega)) c_10
      have hiN : t = 6 := by omega
      rw [hiN] at hl
      exact K H locs ls hP hS (lv_sub hl [0, 1, 2] rfl)
    | succ n ih =>
      intro t Z H locs ls hk hI hP hS hl K
      have ht : t < 6 := by omega
      refine lv_iload_n hx hb dX3_set_7 rfl (lv_at hl 0 rfl) ?_
      refine lv_bipush (v := 6) hx hb dX3_set_8 (by decide) ?_
      refine lv_icmp_ge (tgt := 33) hx hb dX3_set_10 (by decide) (fun c_10 => ?_) (fun c_10 => ?_)
      · exact absurd c_10 (by rw [show (6 : Int32) = nI 6 from by decide]; exact nI_ge (by omega) (by omega))
      refine lv_aload_n hx hb dX3_set_13 rfl (lv_at hl 1 rfl) ?_
      refine m_gO hx hb hts hinX3 hown hK hP 2 (by decide) (hts (.fieldLink RX3 7 "FeedbackQueuesModel" "quanta" "[I") (by decide +kernel)) rfl dX3_set_14 ?_
      refine lv_iload_n hx hb dX3_set_17 rfl (lv_at hl 0 rfl) ?_
      refine lv_iconst (v := 1) hx hb dX3_set_18 (by decide) ?_
      refine m_sA (d := 1) (a := 2) (n := 6) (k := t) (v := 1) hx hb hK hap hP hS (by decide) rfl rfl (ix_nI (by omega) (by omega)) dX3_set_19 (fun H locs hP hS => ?_)
      obtain ⟨S2, eS2⟩ : ∃ z : Ms, z = mQ Z 2 t 1 := ⟨_, rfl⟩
      rw [← eS2] at hP
      refine lv_aload_n hx hb dX3_set_20 rfl (lv_at hl 1 rfl) ?_
      refine m_gO hx hb hts hinX3 hown hK hP 3 (by decide) (hts (.fieldLink RX3 13 "FeedbackQueuesModel" "shares" "[I") (by decide +kernel)) rfl dX3_set_21 ?_
      refine lv_iload_n hx hb dX3_set_24 rfl (lv_at hl 0 rfl) ?_
      refine lv_iconst (v := 1) hx hb dX3_set_25 (by decide) ?_
      refine m_sA (d := 2) (a := 3) (n := 6) (k := t) (v := 1) hx hb hK hap hP hS (by decide) rfl rfl (ix_nI (by omega) (by omega)) dX3_set_26 (fun H locs hP hS => ?_)
      obtain ⟨S3, eS3⟩ : ∃ z : Ms, z = mQ S2 3 t 1 := ⟨_, rfl⟩
      rw [← eS3] at hP
      refine lv_iinc (v := nI (t + 1)) (lv' := [(2, .int (nI (t + 1))), (0, .ref (ad 0)), (1, .int p1)]) hx hb dX3_set_27 hl (k := 0) rfl (inc_nI t) (by decide) rfl (fun ls hl => ?_)
      refine lv_goto (tgt := 7) hx hb dX3_set_30 (by decide) ?_
      have hF : B_X3_set_7 p1 t Z = S3 := by subst eS3 eS2; simp only [B_X3_set_7]
      rw [← hF] at hP
      exact ih (t + 1) (B_X3_set_7 p1 t Z) H locs ls (by omega) (trivial) hP hS (lv_sub hl [0, 1, 2] rfl) K
  refine lp_7 _ (6) 0 S1 H locs ls (rfl) (trivial) hP hS (by rw [show nI 0 = 0 from by decide]; exact lv_sub hl [0, 1, 2] rfl) (fun H locs ls hP hS hl => ?_)
  obtain ⟨S4, eS4⟩ : ∃ z : Ms, z = itr (B_X3_set_7 p1) 6 0 S1 := ⟨_, rfl⟩
  rw [← eS4] at hP
  refine lv_aload_n hx hb dX3_set_33 rfl (lv_at hl 1 rfl) ?_
  refine lv_iconst (v := 0) hx hb dX3_set_34 (by decide) ?_
  refine m_pO (ty := .int) (v := 0) hx hb hts hinX3 hown hK hap hP hS 5 (by decide) (hts (.fieldLink RX3 76 "FeedbackQueuesModel" "processes" "I") (by decide +kernel)) rfl (by decide +kernel) rfl rfl (mOf_5 ad S4 _) (Nat.le_of_ble_eq_true rfl) dX3_set_35 (fun H locs hP hS => ?_)
  obtain ⟨S5, eS5⟩ : ∃ z : Ms, z = mP S4 5 0 := ⟨_, rfl⟩
  rw [← eS5] at hP
  refine lv_aload_n hx hb dX3_set_38 rfl (lv_at hl 1 rfl) ?_
  refine m_cVv (As := []) (rest := []) ⟨hx, hb, hml, hown, hts⟩ (k_X3_begin l D cy ad S5) (cwV 0 hts gX3_set_X3_begin rfl rfl rfl (by decide +kernel) ⟨Nat.le_of_ble_eq_true rfl, Nat.le_of_ble_eq_true rfl⟩) hK hap hA hP hS rfl hl.1 rfl (Nat.le_of_ble_eq_true rfl) dX3_set_39 ⟨Nat.zero_le _, Nat.zero_le _⟩ (fun H locs hP hS => ?_)
  obtain ⟨S6, eS6⟩ : ∃ z : Ms, z = F_X3_begin S5 := ⟨_, rfl⟩
  rw [← eS6] at hP
  have hF : F_X3_set S p1 = S6 := by subst eS6 eS5 eS4 eS1; simp only [F_X3_set]
  rw [hF]
  exact m_vret hx hb hr hlocks hP hS dX3_set_42 (fun _ h => h)
set_option maxHeartbeats 4000000 in
set_option maxRecDepth 100000 in
theorem k_X3_levels (l : Launch) (D : va_G) (cy : Nat → ClassId) (ad : Nat → Nat) (S : Ms) (p1 : Int32)   : mMv l yX3_levels wsX3_levels { frames := 2, cells := 0, slots := 0, locals := 44 } D cy ad [.ref (ad 0), .int p1] S (F_X3_levels S p1) := by
  intro sz
  refine Met.ofW (cc := cX3_levels) (maxL := 2) (ret := none) (by decide) rfl ?_
  intro p e s m args below meth c s₁ B hml hv
  obtain ⟨rfl, hsz, hP, hK, hap0⟩ := hv
  have hx := B.exec
  have hb := B.bytes
  have hr := B.returns
  have hts := atoms_spec (ws := wsX3_levels) B.pre
  have hown : s.vm.findClass RX3 = some m.cls := findClass_of_methodNamed B.named
  have hlocks := B.notSynchronized
  subst hsz
  have hap := gw_self (sz := s.heap.size) hap0
  generalize hAe : gA 19 ad s.heap.size = A at hap ⊢
  have hA : ∀ q : Nat, s.heap.size ≤ q → A q := fun q h => by rw [← hAe]; exact Or.inr h
  have hS : va_S A s.heap s.heap [] := va_S.rf
  have hinX3 : ∀ w ∈ wsX30, w ∈ wsX3_levels := by decide +kernel
  have hl := lv_entry ([.ref (ad 0), .int p1]) (n := 2) (Nat.le_of_ble_eq_true rfl)
  rw [lg_entry_eq]
  generalize (lg_sl ([.ref (ad 0), .int p1]) ++ List.replicate (2 - (lg_sl ([.ref (ad 0), .int p1])).length) Slot.unset).toArray = ls at hl ⊢
  have hl : lv_has ls 2 [(0, .ref (ad 0)), (1, .int p1)] := hl
  obtain ⟨H, hH⟩ : ∃ H, H = s.heap := ⟨_, rfl⟩
  rw [← hH] at hP
  have hS : va_S A s.heap H [] := by rw [hH]; exact hS
  rw [← hH]
  generalize ([] : List Loc) = locs at hS ⊢
  refine lv_aload_n hx hb dX3_levels_0 rfl (lv_at hl 0 rfl) ?_
  refine lv_iload_n hx hb dX3_levels_1 rfl (lv_at hl 1 rfl) ?_
  refine lv_iconst (v := 1) hx hb dX3_levels_2 (by decide) ?_
  refine lv_icmp_lt (tgt := 12) hx hb dX3_levels_3 (by decide) (fun c_3 => ?_) (fun c_3 => ?_)
  · skip
    refine lv_iconst (v := 1) hx hb dX3_levels_12 (by decide) ?_
    refine lv_goto (tgt := 17) hx hb dX3_levels_13 (by decide) ?_
    refine m_pO (ty := .int) (v := 1) hx hb hts hinX3 hown hK hap hP hS 0 (by decide) (hts (.fieldLink RX3 69 "FeedbackQueuesModel" "thrown" "I") (by decide +kernel)) rfl (by decide +kernel) rfl rfl (mOf_0 ad S _) (Nat.le_of_ble_eq_true rfl) dX3_levels_17 (fun H locs hP hS => ?_)
    obtain ⟨S1, eS1⟩ : ∃ z : Ms, z = mP S 0 1 := ⟨_, rfl⟩
    rw [← eS1] at hP
    refine lv_aload_n hx hb dX3_levels_20 rfl (lv_at hl 0 rfl) ?_
    refine m_gO hx hb hts hinX3 hown hK hP 0 (by decide) (hts (.fieldLink RX3 69 "FeedbackQueuesModel" "thrown" "I") (by decide +kernel)) rfl dX3_levels_21 ?_
    rw [show mO S1 0 = 1 from by rw [eS1]; rfl]
    refine lv_if_ne (tgt := 32) hx hb dX3_levels_24 (by decide) (fun c_24 => ?_) (fun c_24 => ?_)
    rotate_left
    · exact absurd c_24 (by decide)
    have hF : F_X3_levels S p1 = S1 := by subst eS1; simp only [F_X3_levels, if_pos c_3]
    rw [hF]
    exact m_vret hx hb hr hlocks hP hS dX3_levels_32 (fun _ h => h)
  · skip
    refine lv_iload_n hx hb dX3_levels_6 rfl (lv_at hl 1 rfl) ?_
    refine lv_bipush (v := 6) hx hb dX3_levels_7 (by decide) ?_
    refine lv_icmp_le (tgt := 16) hx hb dX3_levels_9 (by decide) (fun c_9 => ?_) (fun c_9 => ?_)
    · skip
      refine lv_iconst (v := 0) hx hb dX3_levels_16 (by decide) ?_
      refine m_pO (ty := .int) (v := 0) hx hb hts hinX3 hown hK hap hP hS 0 (by decide) (hts (.fieldLink RX3 69 "FeedbackQueuesModel" "thrown" "I") (by decide +kernel)) rfl (by decide +kernel) rfl rfl (mOf_0 ad S _) (Nat.le_of_ble_eq_true rfl) dX3_levels_17 (fun H locs hP hS => ?_)
      obtain ⟨S2, eS2⟩ : ∃ z : Ms, z = mP S 0 0 := ⟨_, rfl⟩
      rw [← eS2] at hP
      refine lv_aload_n hx hb dX3_levels_20 rfl (lv_at hl 0 rfl) ?_
      refine m_gO hx hb hts hinX3 hown hK hP 0 (by decide) (hts (.fieldLink RX3 69 "FeedbackQueuesModel" "thrown" "I") (by decide +kernel)) rfl dX3_levels_21 ?_
      rw [show mO S2 0 = 0 from by rw [eS2]; rfl]
      refine lv_if_ne (tgt := 32) hx hb dX3_levels_24 (by decide) (fun c_24 => ?_) (fun c_24 => ?_)
      · exact absurd c_24 (by decide)
      refine lv_aload_n hx hb dX3_levels_27 rfl (lv_at hl 0 rfl) ?_
      refine lv_iload_n hx hb dX3_levels_28 rfl (lv_at hl 1 rfl) ?_
      refine m_cVv (As := [.int p1]) (rest := []) ⟨hx, hb, hml, hown, hts⟩ (k_X3_set l D cy ad S2 p1) (cwV 1 hts gX3_levels_X3_set rfl rfl rfl (by decide +kernel) ⟨Nat.le_of_ble_eq_true rfl, Nat.le_of_ble_eq_true rfl⟩) hK hap hA hP hS rfl hl.1 rfl (Nat.le_of_ble_eq_true rfl) dX3_levels_29 ⟨Nat.zero_le _, Nat.zero_le _⟩ (fun H locs hP hS => ?_)
      obtain ⟨S3, eS3⟩ : ∃ z : Ms, z = F_X3_set S2 p1 := ⟨_, rfl⟩
      rw [← eS3] at hP
      have hF : F_X3_levels S p1 = S3 := by subst eS3 eS2; simp only [F_X3_levels, if_neg c_3, if_pos c_9]
      rw [hF]
      exact m_vret hx hb hr hlocks hP hS dX3_levels_32 (fun _ h => h)
    · skip
      refine lv_iconst (v := 1) hx hb dX3_levels_12 (by decide) ?_
      refine lv_goto (tgt := 17) hx hb dX3_levels_13 (by decide) ?_
      refine m_pO (ty := .int) (v := 1) hx hb hts hinX3 hown hK hap hP hS 0 (by decide) (hts (.fieldLink RX3 69 "FeedbackQueuesModel" "thrown" "I") (by decide +kernel)) rfl (by decide +kernel) rfl rfl (mOf_0 ad S _) (Nat.le_of_ble_eq_true rfl) dX3_levels_17 (fun H locs hP hS => ?_)
      obtain ⟨S4, eS4⟩ : ∃ z : Ms, z = mP S 0 1 := ⟨_, rfl⟩
      rw [← eS4] at hP
      refine lv_aload_n hx hb dX3_levels_20 rfl (lv_at hl 0 rfl) ?_
      refine m_gO hx hb hts hinX3 hown hK hP 0 (by decide) (hts (.fieldLink RX3 69 "FeedbackQueuesModel" "thrown" "I") (by decide +kernel)) rfl dX3_levels_21 ?_
      rw [show mO S4 0 = 1 from by rw [eS4]; rfl]
      refine lv_if_ne (tgt := 32) hx hb dX3_levels_24 (by decide) (fun c_24 => ?_) (fun c_24 => ?_)
      rotate_left
      · exact absurd c_24 (by decide)
      have hF : F_X3_levels S p1 = S4 := by subst eS4; simp only [F_X3_levels, if_neg c_3, if_neg c_9]
      rw [hF]
      exact m_vret hx hb hr hlocks hP hS dX3_levels_32 (fun _ h => h)
set_option maxHeartbeats 4000000 in
set_option maxRecDepth 100000 in
theorem k_X3_level (l : Launch) (D : va_G) (cy : Nat → ClassId) (ad : Nat → Nat) (S : Ms) (p1 : Int32) (p2 : Int32) (p3 : Int32) {N L b : Nat} (hok : okM N L b S)  : mMv l yX3_level wsX3_level { frames := 0, cells := 0, slots := 0, locals := 0 } D cy ad [.ref (ad 0), .int p1, .int p2, .int p3] S (F_X3_level S p1 p2 p3) := by
  intro sz
  refine Met.ofW (cc := cX3_level) (maxL := 4) (ret := none) (by decide) rfl ?_
  intro p e s m args below meth c s₁ B hml hv
  obtain ⟨rfl, hsz, hP, hK, hap0⟩ := hv
  have hx := B.exec
  have hb := B.bytes
  have hr := B.returns
  have hts := atoms_spec (ws := wsX3_level) B.pre
  have hown : s.vm.findClass RX3 = some m.cls := findClass_of_methodNamed B.named
  have hlocks := B.notSynchronized
  subst hsz
  have hap := gw_self (sz := s.heap.size) hap0
  generalize hAe : gA 19 ad s.heap.size = A at hap ⊢
  have hA : ∀ q : Nat, s.heap.size ≤ q → A q := fun q h => by rw [← hAe]; exact Or.inr h
  have hS : va_S A s.heap s.heap [] := va_S.rf
  have hinX3 : ∀ w ∈ wsX30, w ∈ wsX3_level := by decide +kernel
  have hl := lv_entry ([.ref (ad 0), .int p1, .int p2, .int p3]) (n := 4) (Nat.le_of_ble_eq_true rfl)
  rw [lg_entry_eq]
  generalize (lg_sl ([.ref (ad 0), .int p1, .int p2, .int p3]) ++ List.replicate (4 - (lg_sl ([.ref (ad 0), .int p1, .int p2, .int p3])).length) Slot.unset).toArray = ls at hl ⊢
  have hl : lv_has ls 4 [(0, .ref (ad 0)), (1, .int p1), (2, .int p2), (3, .int p3)] := hl
  obtain ⟨H, hH⟩ : ∃ H, H = s.heap := ⟨_, rfl⟩
  rw [← hH] at hP
  have hS : va_S A s.heap H [] := by rw [hH]; exact hS
  rw [← hH]
  generalize ([] : List Loc) = locs at hS ⊢
  refine lv_aload_n hx hb dX3_level_0 rfl (lv_at hl 0 rfl) ?_
  refine lv_iload_n hx hb dX3_level_1 rfl (lv_at hl 1 rfl) ?_
  refine lv_if_lt (tgt := 13) hx hb dX3_level_2 (by decide) (fun c_2 => ?_) (fun c_2 => ?_)
  · skip
    refine lv_iconst (v := 1) hx hb dX3_level_13 (by decide) ?_
    refine lv_goto (tgt := 56) hx hb dX3_level_14 (by decide) ?_
    refine m_pO (ty := .int) (v := 1) hx hb hts hinX3 hown hK hap hP hS 0 (by decide) (hts (.fieldLink RX3 69 "FeedbackQueuesModel" "thrown" "I") (by decide +kernel)) rfl (by decide +kernel) rfl rfl (mOf_0 ad S _) (Nat.le_of_ble_eq_true rfl) dX3_level_56 (fun H locs hP hS => ?_)
    obtain ⟨S1, eS1⟩ : ∃ z : Ms, z = mP S 0 1 := ⟨_, rfl⟩
    rw [← eS1] at hP
    have hok1 : okM N L b S1 := by rw [eS1]; exact okM_mP hok (by decide)
    refine lv_aload_n hx hb dX3_level_59 rfl (lv_at hl 0 rfl) ?_
    refine m_gO hx hb hts hinX3 hown hK hP 0 (by decide) (hts (.fieldLink RX3 69 "FeedbackQueuesModel" "thrown" "I") (by decide +kernel)) rfl dX3_level_60 ?_
    rw [show mO S1 0 = 1 from by rw [eS1]; rfl]
    refine lv_if_ne (tgt := 80) hx hb dX3_level_63 (by decide) (fun c_63 => ?_) (fun c_63 => ?_)
    rotate_left
    · exact absurd c_63 (by decide)
    have hF : F_X3_level S p1 p2 p3 = S1 := by subst eS1; simp only [F_X3_level, if_pos c_2]
    rw [hF]
    exact m_vret hx hb hr hlocks hP hS dX3_level_80 (fun _ h => h)
  · skip
    refine lv_iload_n hx hb dX3_level_5 rfl (lv_at hl 1 rfl) ?_
    refine lv_aload_n hx hb dX3_level_6 rfl (lv_at hl 0 rfl) ?_
    refine m_gO hx hb hts hinX3 hown hK hP 1 (by decide) (hts (.fieldLink RX3 73 "FeedbackQueuesModel" "levels" "I") (by decide +kernel)) rfl dX3_level_7 ?_
    refine lv_icmp_lt (tgt := 17) hx hb dX3_level_10 (by decide) (fun c_10 => ?_) (fun c_10 => ?_)
    · skip
      refine lv_iload_n hx hb dX3_level_17 rfl (lv_at hl 2 rfl) ?_
      refine lv_iconst (v := 1) hx hb dX3_level_18 (by decide) ?_
      refine lv_icmp_lt (tgt := 40) hx hb dX3_level_19 (by decide) (fun c_19 => ?_) (fun c_19 => ?_)
      · skip
        refine lv_iconst (v := 2) hx hb dX3_level_40 (by decide) ?_
        refine lv_goto (tgt := 56) hx hb dX3_level_41 (by decide) ?_
        refine m_pO (ty := .int) (v := 2) hx hb hts hinX3 hown hK hap hP hS 0 (by decide) (hts (.fieldLink RX3 69 "FeedbackQueuesModel" "thrown" "I") (by decide +kernel)) rfl (by decide +kernel) rfl rfl (mOf_0 ad S _) (Nat.le_of_ble_eq_true rfl) dX3_level_56 (fun H locs hP hS => ?_)
        obtain ⟨S2, eS2⟩ : ∃ z : Ms, z = mP S 0 2 := ⟨_, rfl⟩
        rw [← eS2] at hP
        have hok2 : okM N L b S2 := by rw [eS2]; exact okM_mP hok (by decide)
        refine lv_aload_n hx hb dX3_level_59 rfl (lv_at hl 0 rfl) ?_
        refine m_gO hx hb hts hinX3 hown hK hP 0 (by decide) (hts (.fieldLink RX3 69 "FeedbackQueuesModel" "thrown" "I") (by decide +kernel)) rfl dX3_level_60 ?_
        rw [show mO S2 0 = 2 from by rw [eS2]; rfl]
        refine lv_if_ne (tgt := 80) hx hb dX3_level_63 (by decide) (fun c_63 => ?_) (fun c_63 => ?_)
        rotate_left
        · exact absurd c_63 (by decide)
        have hF : F_X3_level S p1 p2 p3 = S2 := by subst eS2; simp only [F_X3_level, if_neg c_2, if_pos c_10, if_pos c_19]
        rw [hF]
        exact m_vret hx hb hr hlocks hP hS dX3_level_80 (fun _ h => h)
      · skip
        refine lv_iload_n hx hb dX3_level_22 rfl (lv_at hl 2 rfl) ?_
        refine lv_bipush (v := 100) hx hb dX3_level_23 (by decide) ?_
        refine lv_icmp_gt (tgt := 40) hx hb dX3_level_25 (by decide) (fun c_25 => ?_) (fun c_25 => ?_)
        · skip
          refine lv_iconst (v := 2) hx hb dX3_level_40 (by decide) ?_
          refine lv_goto (tgt := 56) hx hb dX3_level_41 (by decide) ?_
          refine m_pO (ty := .int) (v := 2) hx hb hts hinX3 hown hK hap hP hS 0 (by decide) (hts (.fieldLink RX3 69 "FeedbackQueuesModel" "thrown" "I") (by decide +kernel)) rfl (by decide +kernel) rfl rfl (mOf_0 ad S _) (Nat.le_of_ble_eq_true rfl) dX3_level_56 (fun H locs hP hS => ?_)
          obtain ⟨S3, eS3⟩ : ∃ z : Ms, z = mP S 0 2 := ⟨_, rfl⟩
          rw [← eS3] at hP
          have hok3 : okM N L b S3 := by rw [eS3]; exact okM_mP hok (by decide)
          refine lv_aload_n hx hb dX3_level_59 rfl (lv_at hl 0 rfl) ?_
          refine m_gO hx hb hts hinX3 hown hK hP 0 (by decide) (hts (.fieldLink RX3 69 "FeedbackQueuesModel" "thrown" "I") (by decide +kernel)) rfl dX3_level_60 ?_
          rw [show mO S3 0 = 2 from by rw [eS3]; rfl]
          refine lv_if_ne (tgt := 80) hx hb dX3_level_63 (by decide) (fun c_63 => ?_) (fun c_63 => ?_)
          rotate_left
          · exact absurd c_63 (by decide)
          have hF : F_X3_level S p1 p2 p3 = S3 := by subst eS3; simp only [F_X3_level, if_neg c_2, if_pos c_10, if_neg c_19, if_pos c_25]
          rw [hF]
          exact m_vret hx hb hr hlocks hP hS dX3_level_80 (fun _ h => h)
        · skip
          refine lv_iload_n hx hb dX3_level_28 rfl (lv_at hl 3 rfl) ?_
          refine lv_iconst (v := 1) hx hb dX3_level_29 (by decide) ?_
          refine lv_icmp_lt (tgt := 40) hx hb dX3_level_30 (by decide) (fun c_30 => ?_) (fun c_30 => ?_)
          · skip
            refine lv_iconst (v := 2) hx hb dX3_level_40 (by decide) ?_
            refine lv_goto (tgt := 56) hx hb dX3_level_41 (by decide) ?_
            refine m_pO (ty := .int) (v := 2) hx hb hts hinX3 hown hK hap hP hS 0 (by decide) (hts (.fieldLink RX3 69 "FeedbackQueuesModel" "thrown" "I") (by decide +kernel)) rfl (by decide +kernel) rfl rfl (mOf_0 ad S _) (Nat.le_of_ble_eq_true rfl) dX3_level_56 (fun H locs hP hS => ?_)
            obtain ⟨S4, eS4⟩ : ∃ z : Ms, z = mP S 0 2 := ⟨_, rfl⟩
            rw [← eS4] at hP
            have hok4 : okM N L b S4 := by rw [eS4]; exact okM_mP hok (by decide)
            refine lv_aload_n hx hb dX3_level_59 rfl (lv_at hl 0 rfl) ?_
            refine m_gO hx hb hts hinX3 hown hK hP 0 (by decide) (hts (.fieldLink RX3 69 "FeedbackQueuesModel" "thrown" "I") (by decide +kernel)) rfl dX3_level_60 ?_
            rw [show mO S4 0 = 2 from by rw [eS4]; rfl]
            refine lv_if_ne (tgt := 80) hx hb dX3_level_63 (by decide) (fun c_63 => ?_) (fun c_63 => ?_)
            rotate_left
            · exact absurd c_63 (by decide)
            have hF : F_X3_level S p1 p2 p3 = S4 := by subst eS4; simp only [F_X3_level, if_neg c_2, if_pos c_10, if_neg c_19, if_neg c_25, if_pos c_30]
            rw [hF]
            exact m_vret hx hb hr hlocks hP hS dX3_level_80 (fun _ h => h)
          · skip
            refine lv_iload_n hx hb dX3_level_33 rfl (lv_at hl 3 rfl) ?_
            refine lv_sipush (v := 1000) hx hb dX3_level_34 (by decide) ?_
            refine lv_icmp_le (tgt := 44) hx hb dX3_level_37 (by decide) (fun c_37 => ?_) (fun c_37 => ?_)
            · skip
              refine lv_aload_n hx hb dX3_level_44 rfl (lv_at hl 0 rfl) ?_
              refine m_gO hx hb hts hinX3 hown hK hP 9 (by decide) (hts (.fieldLink RX3 82 "FeedbackQueuesModel" "time" "I") (by decide +kernel)) rfl dX3_level_45 ?_
              refine lv_if_le (tgt := 55) hx hb dX3_level_48 (by decide) (fun c_48 => ?_) (fun c_48 => ?_)
              · skip
                refine lv_iconst (v := 0) hx hb dX3_level_55 (by decide) ?_
                refine m_pO (ty := .int) (v := 0) hx hb hts hinX3 hown hK hap hP hS 0 (by decide) (hts (.fieldLink RX3 69 "FeedbackQueuesModel" "thrown" "I") (by decide +kernel)) rfl (by decide +kernel) rfl rfl (mOf_0 ad S _) (Nat.le_of_ble_eq_true rfl) dX3_level_56 (fun H locs hP hS => ?_)
                obtain ⟨S5, eS5⟩ : ∃ z : Ms, z = mP S 0 0 := ⟨_, rfl⟩
                rw [← eS5] at hP
                have hok5 : okM N L b S5 := by rw [eS5]; exact okM_mP hok (by decide)
                refine lv_aload_n hx hb dX3_level_59 rfl (lv_at hl 0 rfl) ?_
                refine m_gO hx hb hts hinX3 hown hK hP 0 (by decide) (hts (.fieldLink RX3 69 "FeedbackQueuesModel" "thrown" "I") (by decide +kernel)) rfl dX3_level_60 ?_
                rw [show mO S5 0 = 0 from by rw [eS5]; rfl]
                refine lv_if_ne (tgt := 80) hx hb dX3_level_63 (by decide) (fun c_63 => ?_) (fun c_63 => ?_)
                · exact absurd c_63 (by decide)
                refine lv_aload_n hx hb dX3_level_66 rfl (lv_at hl 0 rfl) ?_
                refine m_gO hx hb hts hinX3 hown hK hP 2 (by decide) (hts (.fieldLink RX3 7 "FeedbackQueuesModel" "quanta" "[I") (by decide +kernel)) rfl dX3_level_67 ?_
                refine lv_iload_n hx hb dX3_level_70 rfl (lv_at hl 1 rfl) ?_
                refine lv_iload_n hx hb dX3_level_71 rfl (lv_at hl 2 rfl) ?_
                refine m_sA (d := 1) (a := 2) (n := 6) (k := (p1).toNatClampNeg) (v := p2) hx hb hK hap hP hS (by decide) rfl rfl (okM_l1 hok c_2 c_10) dX3_level_72 (fun H locs hP hS => ?_)
                obtain ⟨S6, eS6⟩ : ∃ z : Ms, z = mQ S5 2 ((p1).toNatClampNeg) p2 := ⟨_, rfl⟩
                rw [← eS6] at hP
                have hok6 : okM N L b S6 := by rw [eS6]; exact okM_mQ hok5 (by decide)
                refine lv_aload_n hx hb dX3_level_73 rfl (lv_at hl 0 rfl) ?_
                refine m_gO hx hb hts hinX3 hown hK hP 3 (by decide) (hts (.fieldLink RX3 13 "FeedbackQueuesModel" "shares" "[I") (by decide +kernel)) rfl dX3_level_74 ?_
                refine lv_iload_n hx hb dX3_level_77 rfl (lv_at hl 1 rfl) ?_
                refine lv_iload_n hx hb dX3_level_78 rfl (lv_at hl 3 rfl) ?_
                refine m_sA (d := 2) (a := 3) (n := 6) (k := (p1).toNatClampNeg) (v := p3) hx hb hK hap hP hS (by decide) rfl rfl (okM_l1 hok c_2 c_10) dX3_level_79 (fun H locs hP hS => ?_)
                obtain ⟨S7, eS7⟩ : ∃ z : Ms, z = mQ S6 3 ((p1).toNatClampNeg) p3 := ⟨_, rfl⟩
                rw [← eS7] at hP
                have hok7 : okM N L b S7 := by rw [eS7]; exact okM_mQ hok6 (by decide)
                have hF : F_X3_level S p1 p2 p3 = S7 := by subst eS7 eS6 eS5; simp only [F_X3_level, if_neg c_2, if_pos c_10, if_neg c_19, if_neg c_25, if_neg c_30, if_pos c_37, if_pos c_48]
                rw [hF]
                exact m_vret hx hb hr hlocks hP hS dX3_level_80 (fun _ h => h)
              · skip
                refine lv_iconst (v := 3) hx hb dX3_level_51 (by decide) ?_
                refine lv_goto (tgt := 56) hx hb dX3_level_52 (by decide) ?_
                refine m_pO (ty := .int) (v := 3) hx hb hts hinX3 hown hK hap hP hS 0 (by decide) (hts (.fieldLink RX3 69 "FeedbackQueuesModel" "thrown" "I") (by decide +kernel)) rfl (by decide +kernel) rfl rfl (mOf_0 ad S _) (Nat.le_of_ble_eq_true rfl) dX3_level_56 (fun H locs hP hS => ?_)
                obtain ⟨S8, eS8⟩ : ∃ z : Ms, z = mP S 0 3 := ⟨_, rfl⟩
                rw [← eS8] at hP
                have hok8 : okM N L b S8 := by rw [eS8]; exact okM_mP hok (by decide)
                refine lv_aload_n hx hb dX3_level_59 rfl (lv_at hl 0 rfl) ?_
                refine m_gO hx hb hts hinX3 hown hK hP 0 (by decide) (hts (.fieldLink RX3 69 "FeedbackQueuesModel" "thrown" "I") (by decide +kernel)) rfl dX3_level_60 ?_
                rw [show mO S8 0 = 3 from by rw [eS8]; rfl]
                refine lv_if_ne (tgt := 80) hx hb dX3_level_63 (by decide) (fun c_63 => ?_) (fun c_63 => ?_)
                rotate_left
                · exact absurd c_63 (by decide)
                have hF : F_X3_level S p1 p2 p3 = S8 := by subst eS8; simp only [F_X3_level, if_neg c_2, if_pos c_10, if_neg c_19, if_neg c_25, if_neg c_30, if_pos c_37, if_neg c_48]
                rw [hF]
                exact m_vret hx hb hr hlocks hP hS dX3_level_80 (fun _ h => h)
            · skip
              refine lv_iconst (v := 2) hx hb dX3_level_40 (by decide) ?_
              refine lv_goto (tgt := 56) hx hb dX3_level_41 (by decide) ?_
              refine m_pO (ty := .int) (v := 2) hx hb hts hinX3 hown hK hap hP hS 0 (by decide) (hts (.fieldLink RX3 69 "FeedbackQueuesModel" "thrown" "I") (by decide +kernel)) rfl (by decide +kernel) rfl rfl (mOf_0 ad S _) (Nat.le_of_ble_eq_true rfl) dX3_level_56 (fun H locs hP hS => ?_)
              obtain ⟨S9, eS9⟩ : ∃ z : Ms, z = mP S 0 2 := ⟨_, rfl⟩
              rw [← eS9] at hP
              have hok9 : okM N L b S9 := by rw [eS9]; exact okM_mP hok (by decide)
              refine lv_aload_n hx hb dX3_level_59 rfl (lv_at hl 0 rfl) ?_
              refine m_gO hx hb hts hinX3 hown hK hP 0 (by decide) (hts (.fieldLink RX3 69 "FeedbackQueuesModel" "thrown" "I") (by decide +kernel)) rfl dX3_level_60 ?_
              rw [show mO S9 0 = 2 from by rw [eS9]; rfl]
              refine lv_if_ne (tgt := 80) hx hb dX3_level_63 (by decide) (fun c_63 => ?_) (fun c_63 => ?_)
              rotate_left
              · exact absurd c_63 (by decide)
              have hF : F_X3_level S p1 p2 p3 = S9 := by subst eS9; simp only [F_X3_level, if_neg c_2, if_pos c_10, if_neg c_19, if_neg c_25, if_neg c_30, if_neg c_37]
              rw [hF]
              exact m_vret hx hb hr hlocks hP hS dX3_level_80 (fun _ h => h)
    · skip
      refine lv_iconst (v := 1) hx hb dX3_level_13 (by decide) ?_
      refine lv_goto (tgt := 56) hx hb dX3_level_14 (by decide) ?_
      refine m_pO (ty := .int) (v := 1) hx hb hts hinX3 hown hK hap hP hS 0 (by decide) (hts (.fieldLink RX3 69 "FeedbackQueuesModel" "thrown" "I") (by decide +kernel)) rfl (by decide +kernel) rfl rfl (mOf_0 ad S _) (Nat.le_of_ble_eq_true rfl) dX3_level_56 (fun H locs hP hS => ?_)
      obtain ⟨S10, eS10⟩ : ∃ z : Ms, z = mP S 0 1 := ⟨_, rfl⟩
      rw [← eS10] at hP
      have hok10 : okM N L b S10 := by rw [eS10]; exact okM_mP hok (by decide)
      refine lv_aload_n hx hb dX3_level_59 rfl (lv_at hl 0 rfl) ?_
      refine m_gO hx hb hts hinX3 hown hK hP 0 (by decide) (hts (.fieldLink RX3 69 "FeedbackQueuesModel" "thrown" "I") (by decide +kernel)) rfl dX3_level_60 ?_
      rw [show mO S10 0 = 1 from by rw [eS10]; rfl]
      refine lv_if_ne (tgt := 80) hx hb dX3_level_63 (by decide) (fun c_63 => ?_) (fun c_63 => ?_)
      rotate_left
      · exact absurd c_63 (by decide)
      have hF : F_X3_level S p1 p2 p3 = S10 := by subst eS10; simp only [F_X3_level, if_neg c_2, if_neg c_10]
      rw [hF]
      exact m_vret hx hb hr hlocks hP hS dX3_level_80 (fun _ h => h)
set_option maxHeartbeats 4000000 in
set_option maxRecDepth 100000 in
theorem k_X3_period (l : Launch) (D : va_G) (cy : Nat → ClassId) (ad : Nat → Nat) (S : Ms) (p1 : Int32)   : mMv l yX3_period wsX3_period { frames := 0, cells := 0, slots := 0, locals := 0 } D cy ad [.ref (ad 0), .int p1] S (F_X3_period S p1) := by
  intro sz
  refine Met.ofW (cc := cX3_period) (maxL := 2) (ret := none) (by decide) rfl ?_
  intro p e s m args below meth c s₁ B hml hv
  obtain ⟨rfl, hsz, hP, hK, hap0⟩ := hv
  have hx := B.exec
  have hb := B.bytes
  have hr := B.returns
  have hts := atoms_spec (ws := wsX3_period) B.pre
  have hown : s.vm.findClass RX3 = some m.cls := findClass_of_methodNamed B.named
  have hlocks := B.notSynchronized
  subst hsz
  have hap := gw_self (sz := s.heap.size) hap0
  generalize hAe : gA 19 ad s.heap.size = A at hap ⊢
  have hA : ∀ q : Nat, s.heap.size ≤ q → A q := fun q h => by rw [← hAe]; exact Or.inr h
  have hS : va_S A s.heap s.heap [] := va_S.rf
  have hinX3 : ∀ w ∈ wsX30, w ∈ wsX3_period := by decide +kernel
  have hl := lv_entry ([.ref (ad 0), .int p1]) (n := 2) (Nat.le_of_ble_eq_true rfl)
  rw [lg_entry_eq]
  generalize (lg_sl ([.ref (ad 0), .int p1]) ++ List.replicate (2 - (lg_sl ([.ref (ad 0), .int p1])).length) Slot.unset).toArray = ls at hl ⊢
  have hl : lv_has ls 2 [(0, .ref (ad 0)), (1, .int p1)] := hl
  obtain ⟨H, hH⟩ : ∃ H, H = s.heap := ⟨_, rfl⟩
  rw [← hH] at hP
  have hS : va_S A s.heap H [] := by rw [hH]; exact hS
  rw [← hH]
  generalize ([] : List Loc) = locs at hS ⊢
  refine lv_aload_n hx hb dX3_period_0 rfl (lv_at hl 0 rfl) ?_
  refine lv_iload_n hx hb dX3_period_1 rfl (lv_at hl 1 rfl) ?_
  refine lv_if_lt (tgt := 12) hx hb dX3_period_2 (by decide) (fun c_2 => ?_) (fun c_2 => ?_)
  · skip
    refine lv_iconst (v := 1) hx hb dX3_period_12 (by decide) ?_
    refine lv_goto (tgt := 28) hx hb dX3_period_13 (by decide) ?_
    refine m_pO (ty := .int) (v := 1) hx hb hts hinX3 hown hK hap hP hS 0 (by decide) (hts (.fieldLink RX3 69 "FeedbackQueuesModel" "thrown" "I") (by decide +kernel)) rfl (by decide +kernel) rfl rfl (mOf_0 ad S _) (Nat.le_of_ble_eq_true rfl) dX3_period_28 (fun H locs hP hS => ?_)
    obtain ⟨S1, eS1⟩ : ∃ z : Ms, z = mP S 0 1 := ⟨_, rfl⟩
    rw [← eS1] at hP
    refine lv_aload_n hx hb dX3_period_31 rfl (lv_at hl 0 rfl) ?_
    refine m_gO hx hb hts hinX3 hown hK hP 0 (by decide) (hts (.fieldLink RX3 69 "FeedbackQueuesModel" "thrown" "I") (by decide +kernel)) rfl dX3_period_32 ?_
    rw [show mO S1 0 = 1 from by rw [eS1]; rfl]
    refine lv_if_ne (tgt := 43) hx hb dX3_period_35 (by decide) (fun c_35 => ?_) (fun c_35 => ?_)
    rotate_left
    · exact absurd c_35 (by decide)
    have hF : F_X3_period S p1 = S1 := by subst eS1; simp only [F_X3_period, if_pos c_2]
    rw [hF]
    exact m_vret hx hb hr hlocks hP hS dX3_period_43 (fun _ h => h)
  · skip
    refine lv_iload_n hx hb dX3_period_5 rfl (lv_at hl 1 rfl) ?_
    refine lv_sipush (v := 10000) hx hb dX3_period_6 (by decide) ?_
    refine lv_icmp_le (tgt := 16) hx hb dX3_period_9 (by decide) (fun c_9 => ?_) (fun c_9 => ?_)
    · skip
      refine lv_aload_n hx hb dX3_period_16 rfl (lv_at hl 0 rfl) ?_
      refine m_gO hx hb hts hinX3 hown hK hP 9 (by decide) (hts (.fieldLink RX3 82 "FeedbackQueuesModel" "time" "I") (by decide +kernel)) rfl dX3_period_17 ?_
      refine lv_if_le (tgt := 27) hx hb dX3_period_20 (by decide) (fun c_20 => ?_) (fun c_20 => ?_)
      · skip
        refine lv_iconst (v := 0) hx hb dX3_period_27 (by decide) ?_
        refine m_pO (ty := .int) (v := 0) hx hb hts hinX3 hown hK hap hP hS 0 (by decide) (hts (.fieldLink RX3 69 "FeedbackQueuesModel" "thrown" "I") (by decide +kernel)) rfl (by decide +kernel) rfl rfl (mOf_0 ad S _) (Nat.le_of_ble_eq_true rfl) dX3_period_28 (fun H locs hP hS => ?_)
        obtain ⟨S2, eS2⟩ : ∃ z : Ms, z = mP S 0 0 := ⟨_, rfl⟩
        rw [← eS2] at hP
        refine lv_aload_n hx hb dX3_period_31 rfl (lv_at hl 0 rfl) ?_
        refine m_gO hx hb hts hinX3 hown hK hP 0 (by decide) (hts (.fieldLink RX3 69 "FeedbackQueuesModel" "thrown" "I") (by decide +kernel)) rfl dX3_period_32 ?_
        rw [show mO S2 0 = 0 from by rw [eS2]; rfl]
        refine lv_if_ne (tgt := 43) hx hb dX3_period_35 (by decide) (fun c_35 => ?_) (fun c_35 => ?_)
        · exact absurd c_35 (by decide)
        refine lv_aload_n hx hb dX3_period_38 rfl (lv_at hl 0 rfl) ?_
        refine lv_iload_n hx hb dX3_period_39 rfl (lv_at hl 1 rfl) ?_
        refine m_pO (ty := .int) (v := p1) hx hb hts hinX3 hown hK hap hP hS 4 (by decide) (hts (.fieldLink RX3 88 "FeedbackQueuesModel" "period" "I") (by decide +kernel)) rfl (by decide +kernel) rfl rfl (mOf_4 ad S2 _) (Nat.le_of_ble_eq_true rfl) dX3_period_40 (fun H locs hP hS => ?_)
        obtain ⟨S3, eS3⟩ : ∃ z : Ms, z = mP S2 4 p1 := ⟨_, rfl⟩
        rw [← eS3] at hP
        have hF : F_X3_period S p1 = S3 := by subst eS3 eS2; simp only [F_X3_period, if_neg c_2, if_pos c_9, if_pos c_20]
        rw [hF]
        exact m_vret hx hb hr hlocks hP hS dX3_period_43 (fun _ h => h)
      · skip
        refine lv_iconst (v := 2) hx hb dX3_period_23 (by decide) ?_
        refine lv_goto (tgt := 28) hx hb dX3_period_24 (by decide) ?_
        refine m_pO (ty := .int) (v := 2) hx hb hts hinX3 hown hK hap hP hS 0 (by decide) (hts (.fieldLink RX3 69 "FeedbackQueuesModel" "thrown" "I") (by decide +kernel)) rfl (by decide +kernel) rfl rfl (mOf_0 ad S _) (Nat.le_of_ble_eq_true rfl) dX3_period_28 (fun H locs hP hS => ?_)
        obtain ⟨S4, eS4⟩ : ∃ z : Ms, z = mP S 0 2 := ⟨_, rfl⟩
        rw [← eS4] at hP
        refine lv_aload_n hx hb dX3_period_31 rfl (lv_at hl 0 rfl) ?_
        refine m_gO hx hb hts hinX3 hown hK hP 0 (by decide) (hts (.fieldLink RX3 69 "FeedbackQueuesModel" "thrown" "I") (by decide +kernel)) rfl dX3_period_32 ?_
        rw [show mO S4 0 = 2 from by rw [eS4]; rfl]
        refine lv_if_ne (tgt := 43) hx hb dX3_period_35 (by decide) (fun c_35 => ?_) (fun c_35 => ?_)
        rotate_left
        · exact absurd c_35 (by decide)
        have hF : F_X3_period S p1 = S4 := by subst eS4; simp only [F_X3_period, if_neg c_2, if_pos c_9, if_neg c_20]
        rw [hF]
        exact m_vret hx hb hr hlocks hP hS dX3_period_43 (fun _ h => h)
    · skip
      refine lv_iconst (v := 1) hx hb dX3_period_12 (by decide) ?_
      refine lv_goto (tgt := 28) hx hb dX3_period_13 (by decide) ?_
      refine m_pO (ty := .int) (v := 1) hx hb hts hinX3 hown hK hap hP hS 0 (by decide) (hts (.fieldLink RX3 69 "FeedbackQueuesModel" "thrown" "I") (by decide +kernel)) rfl (by decide +kernel) rfl rfl (mOf_0 ad S _) (Nat.le_of_ble_eq_true rfl) dX3_period_28 (fun H locs hP hS => ?_)
      obtain ⟨S5, eS5⟩ : ∃ z : Ms, z = mP S 0 1 := ⟨_, rfl⟩
      rw [← eS5] at hP
      refine lv_aload_n hx hb dX3_period_31 rfl (lv_at hl 0 rfl) ?_
      refine m_gO hx hb hts hinX3 hown hK hP 0 (by decide) (hts (.fieldLink RX3 69 "FeedbackQueuesModel" "thrown" "I") (by decide +kernel)) rfl dX3_period_32 ?_
      rw [show mO S5 0 = 1 from by rw [eS5]; rfl]
      refine lv_if_ne (tgt := 43) hx hb dX3_period_35 (by decide) (fun c_35 => ?_) (fun c_35 => ?_)
      rotate_left
      · exact absurd c_35 (by decide)
      have hF : F_X3_period S p1 = S5 := by subst eS5; simp only [F_X3_period, if_neg c_2, if_neg c_9]
      rw [hF]
      exact m_vret hx hb hr hlocks hP hS dX3_period_43 (fun _ h => h)
set_option maxHeartbeats 4000000 in
set_option maxRecDepth 100000 in
theorem k_X3_process (l : Launch) (D : va_G) (cy : Nat → ClassId) (ad : Nat → Nat) (S : Ms) (p1 : Int32) {N L b : Nat} (hok : okM N L b S)  : mMi l yX3_process wsX3_process { frames := 0, cells := 0, slots := 0, locals := 0 } D cy ad [.ref (ad 0), .int p1] S (F_X3_process S p1).1 (F_X3_process S p1).2 := by
  intro sz
  refine Met.ofW (cc := cX3_process) (maxL := 2) (ret := (some .int)) (by decide) rfl ?_
  intro p e s m args below meth c s₁ B hml hv
  obtain ⟨rfl, hsz, hP, hK, hap0⟩ := hv
  have hx := B.exec
  have hb := B.bytes
  have hr := B.returns
  have hts := atoms_spec (ws := wsX3_process) B.pre
  have hown : s.vm.findClass RX3 = some m.cls := findClass_of_methodNamed B.named
  have hlocks := B.notSynchronized
  subst hsz
  have hap := gw_self (sz := s.heap.size) hap0
  generalize hAe : gA 19 ad s.heap.size = A at hap ⊢
  have hA : ∀ q : Nat, s.heap.size ≤ q → A q := fun q h => by rw [← hAe]; exact Or.inr h
  have hS : va_S A s.heap s.heap [] := va_S.rf
  have hinX3 : ∀ w ∈ wsX30, w ∈ wsX3_process := by decide +kernel
  have hl := lv_entry ([.ref (ad 0), .int p1]) (n := 2) (Nat.le_of_ble_eq_true rfl)
  rw [lg_entry_eq]
  generalize (lg_sl ([.ref (ad 0), .int p1]) ++ List.replicate (2 - (lg_sl ([.ref (ad 0), .int p1])).length) Slot.unset).toArray = ls at hl ⊢
  have hl : lv_has ls 2 [(0, .ref (ad 0)), (1, .int p1)] := hl
  obtain ⟨H, hH⟩ : ∃ H, H = s.heap := ⟨_, rfl⟩
  rw [← hH] at hP
  have hS : va_S A s.heap H [] := by rw [hH]; exact hS
  rw [← hH]
  generalize ([] : List Loc) = locs at hS ⊢
  refine lv_aload_n hx hb dX3_process_0 rfl (lv_at hl 0 rfl) ?_
  refine lv_iload_n hx hb dX3_process_1 rfl (lv_at hl 1 rfl) ?_
  refine lv_if_lt (tgt := 12) hx hb dX3_process_2 (by decide) (fun c_2 => ?_) (fun c_2 => ?_)
  · skip
    refine lv_iconst (v := 1) hx hb dX3_process_12 (by decide) ?_
    refine lv_goto (tgt := 28) hx hb dX3_process_13 (by decide) ?_
    refine m_pO (ty := .int) (v := 1) hx hb hts hinX3 hown hK hap hP hS 0 (by decide) (hts (.fieldLink RX3 69 "FeedbackQueuesModel" "thrown" "I") (by decide +kernel)) rfl (by decide +kernel) rfl rfl (mOf_0 ad S _) (Nat.le_of_ble_eq_true rfl) dX3_process_28 (fun H locs hP hS => ?_)
    obtain ⟨S1, eS1⟩ : ∃ z : Ms, z = mP S 0 1 := ⟨_, rfl⟩
    rw [← eS1] at hP
    have hok1 : okM N L b S1 := by rw [eS1]; exact okM_mP hok (by decide)
    refine lv_aload_n hx hb dX3_process_31 rfl (lv_at hl 0 rfl) ?_
    refine m_gO hx hb hts hinX3 hown hK hP 0 (by decide) (hts (.fieldLink RX3 69 "FeedbackQueuesModel" "thrown" "I") (by decide +kernel)) rfl dX3_process_32 ?_
    rw [show mO S1 0 = 1 from by rw [eS1]; rfl]
    refine lv_if_le (tgt := 40) hx hb dX3_process_35 (by decide) (fun c_35 => ?_) (fun c_35 => ?_)
    · exact absurd c_35 (by decide)
    refine lv_iconst (v := 0) hx hb dX3_process_38 (by decide) ?_
    have hF : F_X3_process S p1 = (S1, 0) := by subst eS1; simp only [F_X3_process, if_pos c_2]
    rw [hF]
    exact m_iret hx hb hr hlocks hP hS dX3_process_39 (fun _ h => h)
  · skip
    refine lv_iload_n hx hb dX3_process_5 rfl (lv_at hl 1 rfl) ?_
    refine lv_sipush (v := 20000) hx hb dX3_process_6 (by decide) ?_
    refine lv_icmp_le (tgt := 16) hx hb dX3_process_9 (by decide) (fun c_9 => ?_) (fun c_9 => ?_)
    · skip
      refine lv_aload_n hx hb dX3_process_16 rfl (lv_at hl 0 rfl) ?_
      refine m_gO hx hb hts hinX3 hown hK hP 9 (by decide) (hts (.fieldLink RX3 82 "FeedbackQueuesModel" "time" "I") (by decide +kernel)) rfl dX3_process_17 ?_
      refine lv_if_le (tgt := 27) hx hb dX3_process_20 (by decide) (fun c_20 => ?_) (fun c_20 => ?_)
      · skip
        refine lv_iconst (v := 0) hx hb dX3_process_27 (by decide) ?_
        refine m_pO (ty := .int) (v := 0) hx hb hts hinX3 hown hK hap hP hS 0 (by decide) (hts (.fieldLink RX3 69 "FeedbackQueuesModel" "thrown" "I") (by decide +kernel)) rfl (by decide +kernel) rfl rfl (mOf_0 ad S _) (Nat.le_of_ble_eq_true rfl) dX3_process_28 (fun H locs hP hS => ?_)
        obtain ⟨S2, eS2⟩ : ∃ z : Ms, z = mP S 0 0 := ⟨_, rfl⟩
        rw [← eS2] at hP
        have hok2 : okM N L b S2 := by rw [eS2]; exact okM_mP hok (by decide)
        refine lv_aload_n hx hb dX3_process_31 rfl (lv_at hl 0 rfl) ?_
        refine m_gO hx hb hts hinX3 hown hK hP 0 (by decide) (hts (.fieldLink RX3 69 "FeedbackQueuesModel" "thrown" "I") (by decide +kernel)) rfl dX3_process_32 ?_
        rw [show mO S2 0 = 0 from by rw [eS2]; rfl]
        refine lv_if_le (tgt := 40) hx hb dX3_process_35 (by decide) (fun c_35 => ?_) (fun c_35 => ?_)
        rotate_left
        · exact absurd c_35 (by decide)
        refine lv_aload_n hx hb dX3_process_40 rfl (lv_at hl 0 rfl) ?_
        refine m_gO hx hb hts hinX3 hown hK hP 5 (by decide) (hts (.fieldLink RX3 76 "FeedbackQueuesModel" "processes" "I") (by decide +kernel)) rfl dX3_process_41 ?_
        refine lv_bipush (v := 16) hx hb dX3_process_44 (by decide) ?_
        refine lv_icmp_ne (tgt := 51) hx hb dX3_process_46 (by decide) (fun c_46 => ?_) (fun c_46 => ?_)
        · skip
          refine lv_aload_n hx hb dX3_process_51 rfl (lv_at hl 0 rfl) ?_
          refine m_gO hx hb hts hinX3 hown hK hP 6 (by decide) (hts (.fieldLink RX3 16 "FeedbackQueuesModel" "arrivals" "[I") (by decide +kernel)) rfl dX3_process_52 ?_
          refine lv_aload_n hx hb dX3_process_55 rfl (lv_at hl 0 rfl) ?_
          refine m_gO hx hb hts hinX3 hown hK hP 5 (by decide) (hts (.fieldLink RX3 76 "FeedbackQueuesModel" "processes" "I") (by decide +kernel)) rfl dX3_process_56 ?_
          refine lv_iload_n hx hb dX3_process_59 rfl (lv_at hl 1 rfl) ?_
          refine m_sA (d := 3) (a := 6) (n := 16) (k := ((mO S2 5)).toNatClampNeg) (v := p1) hx hb hK hap hP hS (by decide) rfl rfl (okM_np hok2 c_46) dX3_process_60 (fun H locs hP hS => ?_)
          obtain ⟨S3, eS3⟩ : ∃ z : Ms, z = mQ S2 6 (((mO S2 5)).toNatClampNeg) p1 := ⟨_, rfl⟩
          rw [← eS3] at hP
          have hok3 : okM N L b S3 := by rw [eS3]; exact okM_mQ hok2 (by decide)
          refine lv_aload_n hx hb dX3_process_61 rfl (lv_at hl 0 rfl) ?_
          refine m_gO hx hb hts hinX3 hown hK hP 7 (by decide) (hts (.fieldLink RX3 19 "FeedbackQueuesModel" "bursts" "[I") (by decide +kernel)) rfl dX3_process_62 ?_
          refine lv_aload_n hx hb dX3_process_65 rfl (lv_at hl 0 rfl) ?_
          refine m_gO hx hb hts hinX3 hown hK hP 5 (by decide) (hts (.fieldLink RX3 76 "FeedbackQueuesModel" "processes" "I") (by decide +kernel)) rfl dX3_process_66 ?_
          refine lv_iconst (v := 0) hx hb dX3_process_69 (by decide) ?_
          refine m_sA (d := 4) (a := 7) (n := 16) (k := ((mO S3 5)).toNatClampNeg) (v := 0) hx hb hK hap hP hS (by decide) rfl rfl (okM_np hok3 (by rw [eS3]; exact c_46)) dX3_process_70 (fun H locs hP hS => ?_)
          obtain ⟨S4, eS4⟩ : ∃ z : Ms, z = mQ S3 7 (((mO S3 5)).toNatClampNeg) 0 := ⟨_, rfl⟩
          rw [← eS4] at hP
          refine lv_aload_n hx hb dX3_process_71 rfl (lv_at hl 0 rfl) ?_
          refine lv_dup hx hb dX3_process_72 rfl ?_
          refine m_gO hx hb hts hinX3 hown hK hP 5 (by decide) (hts (.fieldLink RX3 76 "FeedbackQueuesModel" "processes" "I") (by decide +kernel)) rfl dX3_process_73 ?_
          refine lv_iconst (v := 1) hx hb dX3_process_76 (by decide) ?_
          refine lv_iadd hx hb dX3_process_77 ?_
          refine m_pO (ty := .int) (v := (mO S4 5) + 1) hx hb hts hinX3 hown hK hap hP hS 5 (by decide) (hts (.fieldLink RX3 76 "FeedbackQueuesModel" "processes" "I") (by decide +kernel)) rfl (by decide +kernel) rfl rfl (mOf_5 ad S4 _) (Nat.le_of_ble_eq_true rfl) dX3_process_78 (fun H locs hP hS => ?_)
          obtain ⟨S5, eS5⟩ : ∃ z : Ms, z = mP S4 5 ((mO S4 5) + 1) := ⟨_, rfl⟩
          rw [← eS5] at hP
          refine lv_aload_n hx hb dX3_process_81 rfl (lv_at hl 0 rfl) ?_
          refine m_gO hx hb hts hinX3 hown hK hP 5 (by decide) (hts (.fieldLink RX3 76 "FeedbackQueuesModel" "processes" "I") (by decide +kernel)) rfl dX3_process_82 ?_
          refine lv_iconst (v := 1) hx hb dX3_process_85 (by decide) ?_
          refine lv_isub hx hb dX3_process_86 ?_
          have hF : F_X3_process S p1 = (S5, (mO S5 5) - 1) := by subst eS5 eS4 eS3 eS2; simp only [F_X3_process, if_neg c_2, if_pos c_9, if_pos c_20, if_neg c_46]
          rw [hF]
          exact m_iret hx hb hr hlocks hP hS dX3_process_87 (fun _ h => h)
        · skip
          refine lv_iconst (v := (-1)) hx hb dX3_process_49 (by decide) ?_
          have hF : F_X3_process S p1 = (S2, (-1)) := by subst eS2; simp only [F_X3_process, if_neg c_2, if_pos c_9, if_pos c_20, if_pos c_46]
          rw [hF]
          exact m_iret hx hb hr hlocks hP hS dX3_process_50 (fun _ h => h)
      · skip
        refine lv_iconst (v := 2) hx hb dX3_process_23 (by decide) ?_
        refine lv_goto (tgt := 28) hx hb dX3_process_24 (by decide) ?_
        refine m_pO (ty := .int) (v := 2) hx hb hts hinX3 hown hK hap hP hS 0 (by decide) (hts (.fieldLink RX3 69 "FeedbackQueuesModel" "thrown" "I") (by decide +kernel)) rfl (by decide +kernel) rfl rfl (mOf_0 ad S _) (Nat.le_of_ble_eq_true rfl) dX3_process_28 (fun H locs hP hS => ?_)
        obtain ⟨S6, eS6⟩ : ∃ z : Ms, z = mP S 0 2 := ⟨_, rfl⟩
        rw [← eS6] at hP
        have hok4 : okM N L b S6 := by rw [eS6]; exact okM_mP hok (by decide)
        refine lv_aload_n hx hb dX3_process_31 rfl (lv_at hl 0 rfl) ?_
        refine m_gO hx hb hts hinX3 hown hK hP 0 (by decide) (hts (.fieldLink RX3 69 "FeedbackQueuesModel" "thrown" "I") (by decide +kernel)) rfl dX3_process_32 ?_
        rw [show mO S6 0 = 2 from by rw [eS6]; rfl]
        refine lv_if_le (tgt := 40) hx hb dX3_process_35 (by decide) (fun c_35 => ?_) (fun c_35 => ?_)
        · exact absurd c_35 (by decide)
        refine lv_iconst (v := 0) hx hb dX3_process_38 (by decide) ?_
        have hF : F_X3_process S p1 = (S6, 0) := by subst eS6; simp only [F_X3_process, if_neg c_2, if_pos c_9, if_neg c_20]
        rw [hF]
        exact m_iret hx hb hr hlocks hP hS dX3_process_39 (fun _ h => h)
    · skip
      refine lv_iconst (v := 1) hx hb dX3_process_12 (by decide) ?_
      refine lv_goto (tgt := 28) hx hb dX3_process_13 (by decide) ?_
      refine m_pO (ty := .int) (v := 1) hx hb hts hinX3 hown hK hap hP hS 0 (by decide) (hts (.fieldLink RX3 69 "FeedbackQueuesModel" "thrown" "I") (by decide +kernel)) rfl (by decide +kernel) rfl rfl (mOf_0 ad S _) (Nat.le_of_ble_eq_true rfl) dX3_process_28 (fun H locs hP hS => ?_)
      obtain ⟨S7, eS7⟩ : ∃ z : Ms, z = mP S 0 1 := ⟨_, rfl⟩
      rw [← eS7] at hP
      have hok5 : okM N L b S7 := by rw [eS7]; exact okM_mP hok (by decide)
      refine lv_aload_n hx hb dX3_process_31 rfl (lv_at hl 0 rfl) ?_
      refine m_gO hx hb hts hinX3 hown hK hP 0 (by decide) (hts (.fieldLink RX3 69 "FeedbackQueuesModel" "thrown" "I") (by decide +kernel)) rfl dX3_process_32 ?_
      rw [show mO S7 0 = 1 from by rw [eS7]; rfl]
      refine lv_if_le (tgt := 40) hx hb dX3_process_35 (by decide) (fun c_35 => ?_) (fun c_35 => ?_)
      · exact absurd c_35 (by decide)
      refine lv_iconst (v := 0) hx hb dX3_process_38 (by decide) ?_
      have hF : F_X3_process S p1 = (S7, 0) := by subst eS7; simp only [F_X3_process, if_neg c_2, if_neg c_9]
      rw [hF]
      exact m_iret hx hb hr hlocks hP hS dX3_process_39 (fun _ h => h)
set_option maxHeartbeats 4000000 in
set_option maxRecDepth 100000 in
theorem k_X3_noProcess (l : Launch) (D : va_G) (cy : Nat → ClassId) (ad : Nat → Nat) (S : Ms) (p1 : Int32)   : mMi l yX3_noProcess wsX3_noProcess { frames := 0, cells := 0, slots := 0, locals := 0 } D cy ad [.ref (ad 0), .int p1] S (F_X3_noProcess S p1).1 (F_X3_noProcess S p1).2 := by
  intro sz
  refine Met.ofW (cc := cX3_noProcess) (maxL := 2) (ret := (some .boolean)) (by decide) rfl ?_
  intro p e s m args below meth c s₁ B hml hv
  obtain ⟨rfl, hsz, hP, hK, hap0⟩ := hv
  have hx := B.exec
  have hb := B.bytes
  have hr := B.returns
  have hts := atoms_spec (ws := wsX3_noProcess) B.pre
  have hown : s.vm.findClass RX3 = some m.cls := findClass_of_methodNamed B.named
  have hlocks := B.notSynchronized
  subst hsz
  have hap := gw_self (sz := s.heap.size) hap0
  generalize hAe : gA 19 ad s.heap.size = A at hap ⊢
  have hA : ∀ q : Nat, s.heap.size ≤ q → A q := fun q h => by rw [← hAe]; exact Or.inr h
  have hS : va_S A s.heap s.heap [] := va_S.rf
  have hinX3 : ∀ w ∈ wsX30, w ∈ wsX3_noProcess := by decide +kernel
  have hl := lv_entry ([.ref (ad 0), .int p1]) (n := 2) (Nat.le_of_ble_eq_true rfl)
  rw [lg_entry_eq]
  generalize (lg_sl ([.ref (ad 0), .int p1]) ++ List.replicate (2 - (lg_sl ([.ref (ad 0), .int p1])).length) Slot.unset).toArray = ls at hl ⊢
  have hl : lv_has ls 2 [(0, .ref (ad 0)), (1, .int p1)] := hl
  obtain ⟨H, hH⟩ : ∃ H, H = s.heap := ⟨_, rfl⟩
  rw [← hH] at hP
  have hS : va_S A s.heap H [] := by rw [hH]; exact hS
  rw [← hH]
  generalize ([] : List Loc) = locs at hS ⊢
  refine lv_iload_n hx hb dX3_noProcess_0 rfl (lv_at hl 1 rfl) ?_
  refine lv_if_lt (tgt := 12) hx hb dX3_noProcess_1 (by decide) (fun c_1 => ?_) (fun c_1 => ?_)
  · skip
    refine lv_iconst (v := 1) hx hb dX3_noProcess_12 (by decide) ?_
    refine lv_goto (tgt := 17) hx hb dX3_noProcess_13 (by decide) ?_
    have hF : F_X3_noProcess S p1 = (S, 1) := by simp only [F_X3_noProcess, if_pos c_1]
    rw [hF]
    exact m_zret hx hb hr hlocks narrow_b1 hP hS dX3_noProcess_17 (fun _ h => h)
  · skip
    refine lv_iload_n hx hb dX3_noProcess_4 rfl (lv_at hl 1 rfl) ?_
    refine lv_aload_n hx hb dX3_noProcess_5 rfl (lv_at hl 0 rfl) ?_
    refine m_gO hx hb hts hinX3 hown hK hP 5 (by decide) (hts (.fieldLink RX3 76 "FeedbackQueuesModel" "processes" "I") (by decide +kernel)) rfl dX3_noProcess_6 ?_
    refine lv_icmp_lt (tgt := 16) hx hb dX3_noProcess_9 (by decide) (fun c_9 => ?_) (fun c_9 => ?_)
    · skip
      refine lv_iconst (v := 0) hx hb dX3_noProcess_16 (by decide) ?_
      have hF : F_X3_noProcess S p1 = (S, 0) := by simp only [F_X3_noProcess, if_neg c_1, if_pos c_9]
      rw [hF]
      exact m_zret hx hb hr hlocks narrow_b0 hP hS dX3_noProcess_17 (fun _ h => h)
    · skip
      refine lv_iconst (v := 1) hx hb dX3_noProcess_12 (by decide) ?_
      refine lv_goto (tgt := 17) hx hb dX3_noProcess_13 (by decide) ?_
      have hF : F_X3_noProcess S p1 = (S, 1) := by simp only [F_X3_noProcess, if_neg c_1, if_neg c_9]
      rw [hF]
      exact m_zret hx hb hr hlocks narrow_b1 hP hS dX3_noProcess_17 (fun _ h => h)
set_option maxHeartbeats 4000000 in
set_option maxRecDepth 100000 in
theorem k_X3_burst (l : Launch) (D : va_G) (cy : Nat → ClassId) (ad : Nat → Nat) (S : Ms) (p1 : Int32) (p2 : Int32) {N L b : Nat} (hok : okM N L b S)  : mMi l yX3_burst wsX3_burst { frames := 1, cells := 0, slots := 0, locals := 21 } D cy ad [.ref (ad 0), .int p1, .int p2] S (F_X3_burst S p1 p2).1 (F_X3_burst S p1 p2).2 := by
  intro sz
  refine Met.ofW (cc := cX3_burst) (maxL := 3) (ret := (some .int)) (by decide) rfl ?_
  intro p e s m args below meth c s₁ B hml hv
  obtain ⟨rfl, hsz, hP, hK, hap0⟩ := hv
  have hx := B.exec
  have hb := B.bytes
  have hr := B.returns
  have hts := atoms_spec (ws := wsX3_burst) B.pre
  have hown : s.vm.findClass RX3 = some m.cls := findClass_of_methodNamed B.named
  have hlocks := B.notSynchronized
  subst hsz
  have hap := gw_self (sz := s.heap.size) hap0
  generalize hAe : gA 19 ad s.heap.size = A at hap ⊢
  have hA : ∀ q : Nat, s.heap.size ≤ q → A q := fun q h => by rw [← hAe]; exact Or.inr h
  have hS : va_S A s.heap s.heap [] := va_S.rf
  have hinX3 : ∀ w ∈ wsX30, w ∈ wsX3_burst := by decide +kernel
  have hl := lv_entry ([.ref (ad 0), .int p1, .int p2]) (n := 3) (Nat.le_of_ble_eq_true rfl)
  rw [lg_entry_eq]
  generalize (lg_sl ([.ref (ad 0), .int p1, .int p2]) ++ List.replicate (3 - (lg_sl ([.ref (ad 0), .int p1, .int p2])).length) Slot.unset).toArray = ls at hl ⊢
  have hl : lv_has ls 3 [(0, .ref (ad 0)), (1, .int p1), (2, .int p2)] := hl
  obtain ⟨H, hH⟩ : ∃ H, H = s.heap := ⟨_, rfl⟩
  rw [← hH] at hP
  have hS : va_S A s.heap H [] := by rw [hH]; exact hS
  rw [← hH]
  generalize ([] : List Loc) = locs at hS ⊢
  refine lv_aload_n hx hb dX3_burst_0 rfl (lv_at hl 0 rfl) ?_
  refine lv_aload_n hx hb dX3_burst_1 rfl (lv_at hl 0 rfl) ?_
  refine lv_iload_n hx hb dX3_burst_2 rfl (lv_at hl 1 rfl) ?_
  refine m_cVi (As := [.int p1]) (rest := [.ref (ad 0)]) ⟨hx, hb, hml, hown, hts⟩ (k_X3_noProcess l D cy ad S p1) (cwV 1 hts gX3_burst_X3_noProcess rfl rfl rfl (by decide +kernel) ⟨Nat.le_of_ble_eq_true rfl, Nat.le_of_ble_eq_true rfl⟩) hK hap hA hP hS rfl hl.1 rfl (Nat.le_of_ble_eq_true rfl) dX3_burst_3 ⟨Nat.zero_le _, Nat.zero_le _⟩ (fun H locs hP hS => ?_)
  obtain ⟨S1, eS1⟩ : ∃ z : Ms, z = (F_X3_noProcess S p1).1 := ⟨_, rfl⟩
  rw [← eS1] at hP
  have hok1 : okM N L b S1 := by rw [eS1]; exact ok_X3_noProcess hok
  refine lv_if_eq (tgt := 13) hx hb dX3_burst_6 (by decide) (fun c_6 => ?_) (fun c_6 => ?_)
  · skip
    refine lv_iload_n hx hb dX3_burst_13 rfl (lv_at hl 2 rfl) ?_
    refine lv_iconst (v := 1) hx hb dX3_burst_14 (by decide) ?_
    refine lv_icmp_lt (tgt := 25) hx hb dX3_burst_15 (by decide) (fun c_15 => ?_) (fun c_15 => ?_)
    · skip
      refine lv_iconst (v := 2) hx hb dX3_burst_25 (by decide) ?_
      refine lv_goto (tgt := 41) hx hb dX3_burst_26 (by decide) ?_
      refine m_pO (ty := .int) (v := 2) hx hb hts hinX3 hown hK hap hP hS 0 (by decide) (hts (.fieldLink RX3 69 "FeedbackQueuesModel" "thrown" "I") (by decide +kernel)) rfl (by decide +kernel) rfl rfl (mOf_0 ad S1 _) (Nat.le_of_ble_eq_true rfl) dX3_burst_41 (fun H locs hP hS => ?_)
      obtain ⟨S2, eS2⟩ : ∃ z : Ms, z = mP S1 0 2 := ⟨_, rfl⟩
      rw [← eS2] at hP
      have hok2 : okM N L b S2 := by rw [eS2]; exact okM_mP hok1 (by decide)
      refine lv_aload_n hx hb dX3_burst_44 rfl (lv_at hl 0 rfl) ?_
      refine m_gO hx hb hts hinX3 hown hK hP 0 (by decide) (hts (.fieldLink RX3 69 "FeedbackQueuesModel" "thrown" "I") (by decide +kernel)) rfl dX3_burst_45 ?_
      rw [show mO S2 0 = 2 from by rw [eS2]; rfl]
      refine lv_if_le (tgt := 53) hx hb dX3_burst_48 (by decide) (fun c_48 => ?_) (fun c_48 => ?_)
      · exact absurd c_48 (by decide)
      refine lv_iconst (v := 0) hx hb dX3_burst_51 (by decide) ?_
      have hF : F_X3_burst S p1 p2 = (S2, 0) := by subst eS2 eS1; simp only [F_X3_burst, if_pos c_6, if_pos c_15]
      rw [hF]
      exact m_iret hx hb hr hlocks hP hS dX3_burst_52 (fun _ h => h)
    · skip
      refine lv_iload_n hx hb dX3_burst_18 rfl (lv_at hl 2 rfl) ?_
      refine lv_sipush (v := 5000) hx hb dX3_burst_19 (by decide) ?_
      refine lv_icmp_le (tgt := 29) hx hb dX3_burst_22 (by decide) (fun c_22 => ?_) (fun c_22 => ?_)
      · skip
        refine lv_aload_n hx hb dX3_burst_29 rfl (lv_at hl 0 rfl) ?_
        refine m_gO hx hb hts hinX3 hown hK hP 9 (by decide) (hts (.fieldLink RX3 82 "FeedbackQueuesModel" "time" "I") (by decide +kernel)) rfl dX3_burst_30 ?_
        refine lv_if_le (tgt := 40) hx hb dX3_burst_33 (by decide) (fun c_33 => ?_) (fun c_33 => ?_)
        · skip
          refine lv_iconst (v := 0) hx hb dX3_burst_40 (by decide) ?_
          refine m_pO (ty := .int) (v := 0) hx hb hts hinX3 hown hK hap hP hS 0 (by decide) (hts (.fieldLink RX3 69 "FeedbackQueuesModel" "thrown" "I") (by decide +kernel)) rfl (by decide +kernel) rfl rfl (mOf_0 ad S1 _) (Nat.le_of_ble_eq_true rfl) dX3_burst_41 (fun H locs hP hS => ?_)
          obtain ⟨S3, eS3⟩ : ∃ z : Ms, z = mP S1 0 0 := ⟨_, rfl⟩
          rw [← eS3] at hP
          have hok3 : okM N L b S3 := by rw [eS3]; exact okM_mP hok1 (by decide)
          refine lv_aload_n hx hb dX3_burst_44 rfl (lv_at hl 0 rfl) ?_
          refine m_gO hx hb hts hinX3 hown hK hP 0 (by decide) (hts (.fieldLink RX3 69 "FeedbackQueuesModel" "thrown" "I") (by decide +kernel)) rfl dX3_burst_45 ?_
          rw [show mO S3 0 = 0 from by rw [eS3]; rfl]
          refine lv_if_le (tgt := 53) hx hb dX3_burst_48 (by decide) (fun c_48 => ?_) (fun c_48 => ?_)
          rotate_left
          · exact absurd c_48 (by decide)
          refine lv_aload_n hx hb dX3_burst_53 rfl (lv_at hl 0 rfl) ?_
          refine m_gO hx hb hts hinX3 hown hK hP 7 (by decide) (hts (.fieldLink RX3 19 "FeedbackQueuesModel" "bursts" "[I") (by decide +kernel)) rfl dX3_burst_54 ?_
          refine lv_iload_n hx hb dX3_burst_57 rfl (lv_at hl 1 rfl) ?_
          refine m_iA (d := 4) (a := 7) (n := 16) (k := (p1).toNatClampNeg) hx hb hK hP (by decide) rfl rfl (noP_ix hok c_6) dX3_burst_58 ?_
          refine lv_bipush (v := 12) hx hb dX3_burst_59 (by decide) ?_
          refine lv_icmp_ne (tgt := 66) hx hb dX3_burst_61 (by decide) (fun c_61 => ?_) (fun c_61 => ?_)
          · skip
            refine lv_aload_n hx hb dX3_burst_66 rfl (lv_at hl 0 rfl) ?_
            refine m_gO hx hb hts hinX3 hown hK hP 8 (by decide) (hts (.fieldLink RX3 22 "FeedbackQueuesModel" "ticks" "[I") (by decide +kernel)) rfl dX3_burst_67 ?_
            refine lv_bipush (v := 12) hx hb dX3_burst_70 (by decide) ?_
            refine lv_iload_n hx hb dX3_burst_72 rfl (lv_at hl 1 rfl) ?_
            refine lv_imul hx hb dX3_burst_73 ?_
            refine lv_aload_n hx hb dX3_burst_74 rfl (lv_at hl 0 rfl) ?_
            refine m_gO hx hb hts hinX3 hown hK hP 7 (by decide) (hts (.fieldLink RX3 19 "FeedbackQueuesModel" "bursts" "[I") (by decide +kernel)) rfl dX3_burst_75 ?_
            refine lv_iload_n hx hb dX3_burst_78 rfl (lv_at hl 1 rfl) ?_
            refine m_iA (d := 4) (a := 7) (n := 16) (k := (p1).toNatClampNeg) hx hb hK hP (by decide) rfl rfl (noP_ix hok c_6) dX3_burst_79 ?_
            refine lv_iadd hx hb dX3_burst_80 ?_
            refine lv_iload_n hx hb dX3_burst_81 rfl (lv_at hl 2 rfl) ?_
            refine m_sA (d := 5) (a := 8) (n := 192) (k := 12 * (p1).toNatClampNeg + (mA S3 7 (p1).toNatClampNeg).toNatClampNeg) (v := p2) hx hb hK hap hP hS (by decide) rfl rfl (okM_bx hok3 (noP_ix hok c_6) c_61) dX3_burst_82 (fun H locs hP hS => ?_)
            obtain ⟨S4, eS4⟩ : ∃ z : Ms, z = mQ S3 8 (12 * (p1).toNatClampNeg + (mA S3 7 (p1).toNatClampNeg).toNatClampNeg) p2 := ⟨_, rfl⟩
            rw [← eS4] at hP
            have hok4 : okM N L b S4 := by rw [eS4]; exact okM_mQ hok3 (by decide)
            refine lv_aload_n hx hb dX3_burst_83 rfl (lv_at hl 0 rfl) ?_
            refine m_gO hx hb hts hinX3 hown hK hP 7 (by decide) (hts (.fieldLink RX3 19 "FeedbackQueuesModel" "bursts" "[I") (by decide +kernel)) rfl dX3_burst_84 ?_
            refine lv_iload_n hx hb dX3_burst_87 rfl (lv_at hl 1 rfl) ?_
            refine lv_dup2_11 hx hb dX3_burst_88 rfl rfl ?_
            refine m_iA (d := 4) (a := 7) (n := 16) (k := (p1).toNatClampNeg) hx hb hK hP (by decide) rfl rfl (noP_ix hok c_6) dX3_burst_89 ?_
            refine lv_iconst (v := 1) hx hb dX3_burst_90 (by decide) ?_
            refine lv_iadd hx hb dX3_burst_91 ?_
            refine m_sA (d := 4) (a := 7) (n := 16) (k := (p1).toNatClampNeg) (v := (mA S4 7 ((p1).toNatClampNeg)) + 1) hx hb hK hap hP hS (by decide) rfl rfl (noP_ix hok c_6) dX3_burst_92 (fun H locs hP hS => ?_)
            obtain ⟨S5, eS5⟩ : ∃ z : Ms, z = mQ S4 7 ((p1).toNatClampNeg) ((mA S4 7 ((p1).toNatClampNeg)) + 1) := ⟨_, rfl⟩
            rw [← eS5] at hP
            refine lv_aload_n hx hb dX3_burst_93 rfl (lv_at hl 0 rfl) ?_
            refine m_gO hx hb hts hinX3 hown hK hP 7 (by decide) (hts (.fieldLink RX3 19 "FeedbackQueuesModel" "bursts" "[I") (by decide +kernel)) rfl dX3_burst_94 ?_
            refine lv_iload_n hx hb dX3_burst_97 rfl (lv_at hl 1 rfl) ?_
            refine m_iA (d := 4) (a := 7) (n := 16) (k := (p1).toNatClampNeg) hx hb hK hP (by decide) rfl rfl (noP_ix hok c_6) dX3_burst_98 ?_
            have hF : F_X3_burst S p1 p2 = (S5, mA S5 7 ((p1).toNatClampNeg)) := by subst eS5 eS4 eS3 eS1; simp only [F_X3_burst, if_pos c_6, if_neg c_15, if_pos c_22, if_pos c_33, if_neg c_61]
            rw [hF]
            exact m_iret hx hb hr hlocks hP hS dX3_burst_99 (fun _ h => h)
          · skip
            refine lv_iconst (v := (-1)) hx hb dX3_burst_64 (by decide) ?_
            have hF : F_X3_burst S p1 p2 = (S3, (-1)) := by subst eS3 eS1; simp only [F_X3_burst, if_pos c_6, if_neg c_15, if_pos c_22, if_pos c_33, if_pos c_61]
            rw [hF]
            exact m_iret hx hb hr hlocks hP hS dX3_burst_65 (fun _ h => h)
        · skip
          refine lv_iconst (v := 3) hx hb dX3_burst_36 (by decide) ?_
          refine lv_goto (tgt := 41) hx hb dX3_burst_37 (by decide) ?_
          refine m_pO (ty := .int) (v := 3) hx hb hts hinX3 hown hK hap hP hS 0 (by decide) (hts (.fieldLink RX3 69 "FeedbackQueuesModel" "thrown" "I") (by decide +kernel)) rfl (by decide +kernel) rfl rfl (mOf_0 ad S1 _) (Nat.le_of_ble_eq_true rfl) dX3_burst_41 (fun H locs hP hS => ?_)
          obtain ⟨S6, eS6⟩ : ∃ z : Ms, z = mP S1 0 3 := ⟨_, rfl⟩
          rw [← eS6] at hP
          have hok5 : okM N L b S6 := by rw [eS6]; exact okM_mP hok1 (by decide)
          refine lv_aload_n hx hb dX3_burst_44 rfl (lv_at hl 0 rfl) ?_
          refine m_gO hx hb hts hinX3 hown hK hP 0 (by decide) (hts (.fieldLink RX3 69 "FeedbackQueuesModel" "thrown" "I") (by decide +kernel)) rfl dX3_burst_45 ?_
          rw [show mO S6 0 = 3 from by rw [eS6]; rfl]
          refine lv_if_le (tgt := 53) hx hb dX3_burst_48 (by decide) (fun c_48 => ?_) (fun c_48 => ?_)
          · exact absurd c_48 (by decide)
          refine lv_iconst (v := 0) hx hb dX3_burst_51 (by decide) ?_
          have hF : F_X3_burst S p1 p2 = (S6, 0) := by subst eS6 eS1; simp only [F_X3_burst, if_pos c_6, if_neg c_15, if_pos c_22, if_neg c_33]
          rw [hF]
          exact m_iret hx hb hr hlocks hP hS dX3_burst_52 (fun _ h => h)
      · skip
        refine lv_iconst (v := 2) hx hb dX3_burst_25 (by decide) ?_
        refine lv_goto (tgt := 41) hx hb dX3_burst_26 (by decide) ?_
        refine m_pO (ty := .int) (v := 2) hx hb hts hinX3 hown hK hap hP hS 0 (by decide) (hts (.fieldLink RX3 69 "FeedbackQueuesModel" "thrown" "I") (by decide +kernel)) rfl (by decide +kernel) rfl rfl (mOf_0 ad S1 _) (Nat.le_of_ble_eq_true rfl) dX3_burst_41 (fun H locs hP hS => ?_)
        obtain ⟨S7, eS7⟩ : ∃ z : Ms, z = mP S1 0 2 := ⟨_, rfl⟩
        rw [← eS7] at hP
        have hok6 : okM N L b S7 := by rw [eS7]; exact okM_mP hok1 (by decide)
        refine lv_aload_n hx hb dX3_burst_44 rfl (lv_at hl 0 rfl) ?_
        refine m_gO hx hb hts hinX3 hown hK hP 0 (by decide) (hts (.fieldLink RX3 69 "FeedbackQueuesModel" "thrown" "I") (by decide +kernel)) rfl dX3_burst_45 ?_
        rw [show mO S7 0 = 2 from by rw [eS7]; rfl]
        refine lv_if_le (tgt := 53) hx hb dX3_burst_48 (by decide) (fun c_48 => ?_) (fun c_48 => ?_)
        · exact absurd c_48 (by decide)
        refine lv_iconst (v := 0) hx hb dX3_burst_51 (by decide) ?_
        have hF : F_X3_burst S p1 p2 = (S7, 0) := by subst eS7 eS1; simp only [F_X3_burst, if_pos c_6, if_neg c_15, if_neg c_22]
        rw [hF]
        exact m_iret hx hb hr hlocks hP hS dX3_burst_52 (fun _ h => h)
  · skip
    refine lv_iconst (v := 1) hx hb dX3_burst_9 (by decide) ?_
    refine lv_goto (tgt := 41) hx hb dX3_burst_10 (by decide) ?_
    refine m_pO (ty := .int) (v := 1) hx hb hts hinX3 hown hK hap hP hS 0 (by decide) (hts (.fieldLink RX3 69 "FeedbackQueuesModel" "thrown" "I") (by decide +kernel)) rfl (by decide +kernel) rfl rfl (mOf_0 ad S1 _) (Nat.le_of_ble_eq_true rfl) dX3_burst_41 (fun H locs hP hS => ?_)
    obtain ⟨S8, eS8⟩ : ∃ z : Ms, z = mP S1 0 1 := ⟨_, rfl⟩
    rw [← eS8] at hP
    have hok7 : okM N L b S8 := by rw [eS8]; exact okM_mP hok1 (by decide)
    refine lv_aload_n hx hb dX3_burst_44 rfl (lv_at hl 0 rfl) ?_
    refine m_gO hx hb hts hinX3 hown hK hP 0 (by decide) (hts (.fieldLink RX3 69 "FeedbackQueuesModel" "thrown" "I") (by decide +kernel)) rfl dX3_burst_45 ?_
    rw [show mO S8 0 = 1 from by rw [eS8]; rfl]
    refine lv_if_le (tgt := 53) hx hb dX3_burst_48 (by decide) (fun c_48 => ?_) (fun c_48 => ?_)
    · exact absurd c_48 (by decide)
    refine lv_iconst (v := 0) hx hb dX3_burst_51 (by decide) ?_
    have hF : F_X3_burst S p1 p2 = (S8, 0) := by subst eS8 eS1; simp only [F_X3_burst, if_neg c_6]
    rw [hF]
    exact m_iret hx hb hr hlocks hP hS dX3_burst_52 (fun _ h => h)
set_option maxHeartbeats 4000000 in
set_option maxRecDepth 100000 in
theorem k_X3_toEnd (l : Launch) (D : va_G) (cy : Nat → ClassId) (ad : Nat → Nat) (S : Ms) (p1 : Int32) (p2 : Int32)  (h1 : ix p1 (p1).toNatClampNeg 6) (h2 : ix p2 (p2).toNatClampNeg 16) (hz : ub 15 (mA S 21 (p1).toNatClampNeg)) : mMv l yX3_toEnd wsX3_toEnd { frames := 0, cells := 0, slots := 0, locals := 0 } D cy ad [.ref (ad 0), .int p1, .int p2] S (F_X3_toEnd S p1 p2) := by
  intro sz
  refine Met.ofW (cc := cX3_toEnd) (maxL := 3) (ret := none) (by decide) rfl ?_
  intro p e s m args below meth c s₁ B hml hv
  obtain ⟨rfl, hsz, hP, hK, hap0⟩ := hv
  have hx := B.exec
  have hb := B.bytes
  have hr := B.returns
  have hts := atoms_spec (ws := wsX3_toEnd) B.pre
  have hown : s.vm.findClass RX3 = some m.cls := findClass_of_methodNamed B.named
  have hlocks := B.notSynchronized
  subst hsz
  have hap := gw_self (sz := s.heap.size) hap0
  generalize hAe : gA 19 ad s.heap.size = A at hap ⊢
  have hA : ∀ q : Nat, s.heap.size ≤ q → A q := fun q h => by rw [← hAe]; exact Or.inr h
  have hS : va_S A s.heap s.heap [] := va_S.rf
  have hinX3 : ∀ w ∈ wsX30, w ∈ wsX3_toEnd := by decide +kernel
  have hl := lv_entry ([.ref (ad 0), .int p1, .int p2]) (n := 3) (Nat.le_of_ble_eq_true rfl)
  rw [lg_entry_eq]
  generalize (lg_sl ([.ref (ad 0), .int p1, .int p2]) ++ List.replicate (3 - (lg_sl ([.ref (ad 0), .int p1, .int p2])).length) Slot.unset).toArray = ls at hl ⊢
  have hl : lv_has ls 3 [(0, .ref (ad 0)), (1, .int p1), (2, .int p2)] := hl
  obtain ⟨H, hH⟩ : ∃ H, H = s.heap := ⟨_, rfl⟩
  rw [← hH] at hP
  have hS : va_S A s.heap H [] := by rw [hH]; exact hS
  rw [← hH]
  generalize ([] : List Loc) = locs at hS ⊢
  refine lv_aload_n hx hb dX3_toEnd_0 rfl (lv_at hl 0 rfl) ?_
  refine m_gO hx hb hts hinX3 hown hK hP 20 (by decide) (hts (.fieldLink RX3 53 "FeedbackQueuesModel" "queue" "[I") (by decide +kernel)) rfl dX3_toEnd_1 ?_
  refine lv_bipush (v := 16) hx hb dX3_toEnd_4 (by decide) ?_
  refine lv_iload_n hx hb dX3_toEnd_6 rfl (lv_at hl 1 rfl) ?_
  refine lv_imul hx hb dX3_toEnd_7 ?_
  refine lv_aload_n hx hb dX3_toEnd_8 rfl (lv_at hl 0 rfl) ?_
  refine m_gO hx hb hts hinX3 hown hK hP 21 (by decide) (hts (.fieldLink RX3 56 "FeedbackQueuesModel" "size" "[I") (by decide +kernel)) rfl dX3_toEnd_9 ?_
  refine lv_iload_n hx hb dX3_toEnd_12 rfl (lv_at hl 1 rfl) ?_
  refine m_iA (d := 16) (a := 21) (n := 6) (k := (p1).toNatClampNeg) hx hb hK hP (by decide) rfl rfl (h1) dX3_toEnd_13 ?_
  refine lv_iadd hx hb dX3_toEnd_14 ?_
  refine lv_iload_n hx hb dX3_toEnd_15 rfl (lv_at hl 2 rfl) ?_
  refine m_sA (d := 15) (a := 20) (n := 96) (k := 16 * (p1).toNatClampNeg + (mA S 21 (p1).toNatClampNeg).toNatClampNeg) (v := p2) hx hb hK hap hP hS (by decide) rfl rfl (ix_lin (by decide) h1.nI (ub_nI hz (by omega)) (by have := h1.2.2; have := ub_le hz (by omega); omega) (by omega)) dX3_toEnd_16 (fun H locs hP hS => ?_)
  obtain ⟨S1, eS1⟩ : ∃ z : Ms, z = mQ S 20 (16 * (p1).toNatClampNeg + (mA S 21 (p1).toNatClampNeg).toNatClampNeg) p2 := ⟨_, rfl⟩
  rw [← eS1] at hP
  refine lv_aload_n hx hb dX3_toEnd_17 rfl (lv_at hl 0 rfl) ?_
  refine m_gO hx hb hts hinX3 hown hK hP 21 (by decide) (hts (.fieldLink RX3 56 "FeedbackQueuesModel" "size" "[I") (by decide +kernel)) rfl dX3_toEnd_18 ?_
  refine lv_iload_n hx hb dX3_toEnd_21 rfl (lv_at hl 1 rfl) ?_
  refine lv_dup2_11 hx hb dX3_toEnd_22 rfl rfl ?_
  refine m_iA (d := 16) (a := 21) (n := 6) (k := (p1).toNatClampNeg) hx hb hK hP (by decide) rfl rfl (h1) dX3_toEnd_23 ?_
  refine lv_iconst (v := 1) hx hb dX3_toEnd_24 (by decide) ?_
  refine lv_iadd hx hb dX3_toEnd_25 ?_
  refine m_sA (d := 16) (a := 21) (n := 6) (k := (p1).toNatClampNeg) (v := (mA S1 21 ((p1).toNatClampNeg)) + 1) hx hb hK hap hP hS (by decide) rfl rfl (h1) dX3_toEnd_26 (fun H locs hP hS => ?_)
  obtain ⟨S2, eS2⟩ : ∃ z : Ms, z = mQ S1 21 ((p1).toNatClampNeg) ((mA S1 21 ((p1).toNatClampNeg)) + 1) := ⟨_, rfl⟩
  rw [← eS2] at hP
  refine lv_aload_n hx hb dX3_toEnd_27 rfl (lv_at hl 0 rfl) ?_
  refine m_gO hx hb hts hinX3 hown hK hP 11 (by decide) (hts (.fieldLink RX3 25 "FeedbackQueuesModel" "state" "[I") (by decide +kernel)) rfl dX3_toEnd_28 ?_
  refine lv_iload_n hx hb dX3_toEnd_31 rfl (lv_at hl 2 rfl) ?_
  refine lv_iconst (v := 1) hx hb dX3_toEnd_32 (by decide) ?_
  refine m_sA (d := 6) (a := 11) (n := 16) (k := (p2).toNatClampNeg) (v := 1) hx hb hK hap hP hS (by decide) rfl rfl (h2) dX3_toEnd_33 (fun H locs hP hS => ?_)
  obtain ⟨S3, eS3⟩ : ∃ z : Ms, z = mQ S2 11 ((p2).toNatClampNeg) 1 := ⟨_, rfl⟩
  rw [← eS3] at hP
  have hF : F_X3_toEnd S p1 p2 = S3 := by subst eS3 eS2 eS1; simp only [F_X3_toEnd]
  rw [hF]
  exact m_vret hx hb hr hlocks hP hS dX3_toEnd_34 (fun _ h => h)
set_option maxHeartbeats 4000000 in
set_option maxRecDepth 100000 in
theorem k_X3_toFront (l : Launch) (D : va_G) (cy : Nat → ClassId) (ad : Nat → Nat) (S : Ms) (p1 : Int32) (p2 : Int32)  (h1 : ix p1 (p1).toNatClampNeg 6) (h2 : ix p2 (p2).toNatClampNeg 16) (hz : ub 15 (mA S 21 (p1).toNatClampNeg)) : mMv l yX3_toFront wsX3_toFront { frames := 0, cells := 0, slots := 0, locals := 0 } D cy ad [.ref (ad 0), .int p1, .int p2] S (F_X3_toFront S p1 p2) := by
  intro sz
  refine Met.ofW (cc := cX3_toFront) (maxL := 4) (ret := none) (by decide) rfl ?_
  intro p e s m args below meth c s₁ B hml hv
  obtain ⟨rfl, hsz, hP, hK, hap0⟩ := hv
  have hx := B.exec
  have hb := B.bytes
  have hr := B.returns
  have hts := atoms_spec (ws := wsX3_toFront) B.pre
  have hown : s.vm.findClass RX3 = some m.cls := findClass_of_methodNamed B.named
  have hlocks := B.notSynchronized
  subst hsz
  have hap := gw_self (sz := s.heap.size) hap0
  generalize hAe : gA 19 ad s.heap.size = A at hap ⊢
  have hA : ∀ q : Nat, s.heap.size ≤ q → A q := fun q h => by rw [← hAe]; exact Or.inr h
  have hS : va_S A s.heap s.heap [] := va_S.rf
  have hinX3 : ∀ w ∈ wsX30, w ∈ wsX3_toFront := by decide +kernel
  have hl := lv_entry ([.ref (ad 0), .int p1, .int p2]) (n := 4) (Nat.le_of_ble_eq_true rfl)
  rw [lg_entry_eq]
  generalize (lg_sl ([.ref (ad 0), .int p1, .int p2]) ++ List.replicate (4 - (lg_sl ([.ref (ad 0), .int p1, .int p2])).length) Slot.unset).toArray = ls at hl ⊢
  have hl : lv_has ls 4 [(0, .ref (ad 0)), (1, .int p1), (2, .int p2)] := hl
  obtain ⟨H, hH⟩ : ∃ H, H = s.heap := ⟨_, rfl⟩
  rw [← hH] at hP
  have hS : va_S A s.heap H [] := by rw [hH]; exact hS
  rw [← hH]
  generalize ([] : List Loc) = locs at hS ⊢
  refine lv_aload_n hx hb dX3_toFront_0 rfl (lv_at hl 0 rfl) ?_
  refine m_gO hx hb hts hinX3 hown hK hP 21 (by decide) (hts (.fieldLink RX3 56 "FeedbackQueuesModel" "size" "[I") (by decide +kernel)) rfl dX3_toFront_1 ?_
  refine lv_iload_n hx hb dX3_toFront_4 rfl (lv_at hl 1 rfl) ?_
  refine m_iA (d := 16) (a := 21) (n := 6) (k := (p1).toNatClampNeg) hx hb hK hP (by decide) rfl rfl (h1) dX3_toFront_5 ?_
  refine lv_istore_n (lv' := [(3, .int (mA S 21 ((p1).toNatClampNeg))), (0, .ref (ad 0)), (1, .int p1), (2, .int p2)]) hx hb dX3_toFront_6 rfl hl (by decide) rfl (fun ls hl => ?_)
  have hz9 := ub_le hz (by omega)
  have lp_7 : ∀ (Q : State → Prop) (n : Nat) (Z : Ms) (H : Heap) (locs : List Loc) (ls : Array Slot), n ≤ ((mA S 21 (p1).toNatClampNeg).toNatClampNeg) → True → va_P D vwCl (mwl cy ad Z) H → va_S A s.heap H locs → lv_has ls 4 [(3, .int (nI n)), (0, .ref (ad 0)), (1, .int p1), (2, .int p2)] → (∀ (H : Heap) (locs : List Loc) (ls : Array Slot), va_P D vwCl (mwl cy ad (itd (B_X3_toFront_7 p1 p2) n Z)) H → va_S A s.heap H locs → lv_has ls 4 [(3, .int (nI 0)), (0, .ref (ad 0)), (1, .int p1), (2, .int p2)] → W p l e (headSpec wsX3_toFront { frames := 0, cells := 0, slots := 0, locals := 0 }).room s m ([.ref (ad 0), .int p1, .int p2] : List Value).toArray below meth c H locs 0 0 Q (F0 m 41 ls [])) → W p l e (headSpec wsX3_toFront { frames := 0, cells := 0, slots := 0, locals := 0 }).room s m ([.ref (ad 0), .int p1, .int p2] : List Value).toArray below meth c H locs 0 0 Q (F0 m 7 ls []) := by
    intro Q n
    induction n with
    | zero =>
      intro Z H locs ls hk hI hP hS hl K
      refine lv_iload_n hx hb dX3_toFront_7 rfl (lv_at hl 0 rfl) ?_
      refine lv_if_le (tgt := 41) hx hb dX3_toFront_8 (by decide) (fun c_8 => ?_) (fun c_8 => ?_)
      rotate_left
      · exact absurd (by decide) c_8
      exact K H locs ls hP hS (lv_sub hl [0, 1, 2, 3] rfl)
    | succ n ih =>
      intro Z H locs ls hk hI hP hS hl K
      refine lv_iload_n hx hb dX3_toFront_7 rfl (lv_at hl 0 rfl) ?_
      refine lv_if_le (tgt := 41) hx hb dX3_toFront_8 (by decide) (fun c_8 => ?_) (fun c_8 => ?_)
      · exact absurd c_8 (nI_nle (by omega) (by omega))
      refine lv_aload_n hx hb dX3_toFront_11 rfl (lv_at hl 1 rfl) ?_
      refine m_gO hx hb hts hinX3 hown hK hP 20 (by decide) (hts (.fieldLink RX3 53 "FeedbackQueuesModel" "queue" "[I") (by decide +kernel)) rfl dX3_toFront_12 ?_
      refine lv_bipush (v := 16) hx hb dX3_toFront_15 (by decide) ?_
      refine lv_iload_n hx hb dX3_toFront_17 rfl (lv_at hl 2 rfl) ?_
      refine lv_imul hx hb dX3_toFront_18 ?_
      refine lv_iload_n hx hb dX3_toFront_19 rfl (lv_at hl 0 rfl) ?_
      refine lv_iadd hx hb dX3_toFront_20 ?_
      refine lv_aload_n hx hb dX3_toFront_21 rfl (lv_at hl 1 rfl) ?_
      refine m_gO hx hb hts hinX3 hown hK hP 20 (by decide) (hts (.fieldLink RX3 53 "FeedbackQueuesModel" "queue" "[I") (by decide +kernel)) rfl dX3_toFront_22 ?_
      refine lv_bipush (v := 16) hx hb dX3_toFront_25 (by decide) ?_
      refine lv_iload_n hx hb dX3_toFront_27 rfl (lv_at hl 2 rfl) ?_
      refine lv_imul hx hb dX3_toFront_28 ?_
      refine lv_iload_n hx hb dX3_toFront_29 rfl (lv_at hl 0 rfl) ?_
      refine lv_iadd hx hb dX3_toFront_30 ?_
      refine lv_iconst (v := 1) hx hb dX3_toFront_31 (by decide) ?_
      refine lv_isub hx hb dX3_toFront_32 ?_
      refine m_iA (d := 15) (a := 20) (n := 96) (k := 16 * (p1).toNatClampNeg + n) hx hb hK hP (by decide) rfl rfl (ix_linm (by decide) h1.nI rfl (by have := h1.2.2; omega) (by omega)) dX3_toFront_33 ?_
      refine m_sA (d := 15) (a := 20) (n := 96) (k := 16 * (p1).toNatClampNeg + (n + 1)) (v := mA Z 20 (16 * (p1).toNatClampNeg + n)) hx hb hK hap hP hS (by decide) rfl rfl (ix_lin (by decide) h1.nI rfl (by have := h1.2.2; omega) (by omega)) dX3_toFront_34 (fun H locs hP hS => ?_)
      obtain ⟨S1, eS1⟩ : ∃ z : Ms, z = mQ Z 20 (16 * (p1).toNatClampNeg + (n + 1)) (mA Z 20 (16 * (p1).toNatClampNeg + n)) := ⟨_, rfl⟩
      rw [← eS1] at hP
      refine lv_iinc (v := nI n) (lv' := [(3, .int (nI n)), (0, .ref (ad 0)), (1, .int p1), (2, .int p2)]) hx hb dX3_toFront_35 hl (k := 0) rfl (dec_nI n) (by decide) rfl (fun ls hl => ?_)
      refine lv_goto (tgt := 7) hx hb dX3_toFront_38 (by decide) ?_
      have hF : B_X3_toFront_7 p1 p2 n Z = S1 := by subst eS1; simp only [B_X3_toFront_7]
      rw [← hF] at hP
      exact ih (B_X3_toFront_7 p1 p2 n Z) H locs ls (by omega) (trivial) hP hS (lv_sub hl [0, 1, 2, 3] rfl) K
  refine lp_7 _ ((mA S 21 (p1).toNatClampNeg).toNatClampNeg) S H locs ls (Nat.le_refl _) (trivial) hP hS (by rw [← ub_nI hz (by omega)]; exact lv_sub hl [0, 1, 2, 3] rfl) (fun H locs ls hP hS hl => ?_)
  obtain ⟨S2, eS2⟩ : ∃ z : Ms, z = itd (B_X3_toFront_7 p1 p2) ((mA S 21 (p1).toNatClampNeg).toNatClampNeg) S := ⟨_, rfl⟩
  rw [← eS2] at hP
  refine lv_aload_n hx hb dX3_toFront_41 rfl (lv_at hl 1 rfl) ?_
  refine m_gO hx hb hts hinX3 hown hK hP 20 (by decide) (hts (.fieldLink RX3 53 "FeedbackQueuesModel" "queue" "[I") (by decide +kernel)) rfl dX3_toFront_42 ?_
  refine lv_bipush (v := 16) hx hb dX3_toFront_45 (by decide) ?_
  refine lv_iload_n hx hb dX3_toFront_47 rfl (lv_at hl 2 rfl) ?_
  refine lv_imul hx hb dX3_toFront_48 ?_
  refine lv_iload_n hx hb dX3_toFront_49 rfl (lv_at hl 3 rfl) ?_
  refine m_sA (d := 15) (a := 20) (n := 96) (k := 16 * (p1).toNatClampNeg) (v := p2) hx hb hK hap hP hS (by decide) rfl rfl (ix_mulc (by decide) h1.nI (by have := h1.2.2; omega) (by omega)) dX3_toFront_50 (fun H locs hP hS => ?_)
  obtain ⟨S3, eS3⟩ : ∃ z : Ms, z = mQ S2 20 (16 * (p1).toNatClampNeg) p2 := ⟨_, rfl⟩
  rw [← eS3] at hP
  refine lv_aload_n hx hb dX3_toFront_51 rfl (lv_at hl 1 rfl) ?_
  refine m_gO hx hb hts hinX3 hown hK hP 21 (by decide) (hts (.fieldLink RX3 56 "FeedbackQueuesModel" "size" "[I") (by decide +kernel)) rfl dX3_toFront_52 ?_
  refine lv_iload_n hx hb dX3_toFront_55 rfl (lv_at hl 2 rfl) ?_
  refine lv_dup2_11 hx hb dX3_toFront_56 rfl rfl ?_
  refine m_iA (d := 16) (a := 21) (n := 6) (k := (p1).toNatClampNeg) hx hb hK hP (by decide) rfl rfl (h1) dX3_toFront_57 ?_
  refine lv_iconst (v := 1) hx hb dX3_toFront_58 (by decide) ?_
  refine lv_iadd hx hb dX3_toFront_59 ?_
  refine m_sA (d := 16) (a := 21) (n := 6) (k := (p1).toNatClampNeg) (v := (mA S3 21 ((p1).toNatClampNeg)) + 1) hx hb hK hap hP hS (by decide) rfl rfl (h1) dX3_toFront_60 (fun H locs hP hS => ?_)
  obtain ⟨S4, eS4⟩ : ∃ z : Ms, z = mQ S3 21 ((p1).toNatClampNeg) ((mA S3 21 ((p1).toNatClampNeg)) + 1) := ⟨_, rfl⟩
  rw [← eS4] at hP
  refine lv_aload_n hx hb dX3_toFront_61 rfl (lv_at hl 1 rfl) ?_
  refine m_gO hx hb hts hinX3 hown hK hP 11 (by decide) (hts (.fieldLink RX3 25 "FeedbackQueuesModel" "state" "[I") (by decide +kernel)) rfl dX3_toFront_62 ?_
  refine lv_iload_n hx hb dX3_toFront_65 rfl (lv_at hl 3 rfl) ?_
  refine lv_iconst (v := 1) hx hb dX3_toFront_66 (by decide) ?_
  refine m_sA (d := 6) (a := 11) (n := 16) (k := (p2).toNatClampNeg) (v := 1) hx hb hK hap hP hS (by decide) rfl rfl (h2) dX3_toFront_67 (fun H locs hP hS => ?_)
  obtain ⟨S5, eS5⟩ : ∃ z : Ms, z = mQ S4 11 ((p2).toNatClampNeg) 1 := ⟨_, rfl⟩
  rw [← eS5] at hP
  have hF : F_X3_toFront S p1 p2 = S5 := by subst eS5 eS4 eS3 eS2; simp only [F_X3_toFront]
  rw [hF]
  exact m_vret hx hb hr hlocks hP hS dX3_toFront_68 (fun _ h => h)
set_option maxHeartbeats 4000000 in
set_option maxRecDepth 100000 in
theorem k_X3_takeFirst (l : Launch) (D : va_G) (cy : Nat → ClassId) (ad : Nat → Nat) (S : Ms) (p1 : Int32)  (h1 : ix p1 (p1).toNatClampNeg 6) (hz : ub 16 (mA S 21 (p1).toNatClampNeg)) (h0 : ¬ mA S 21 (p1).toNatClampNeg = 0) : mMi l yX3_takeFirst wsX3_takeFirst { frames := 0, cells := 0, slots := 0, locals := 0 } D cy ad [.ref (ad 0), .int p1] S (F_X3_takeFirst S p1).1 (F_X3_takeFirst S p1).2 := by
  intro sz
  refine Met.ofW (cc := cX3_takeFirst) (maxL := 4) (ret := (some .int)) (by decide) rfl ?_
  intro p e s m args below meth c s₁ B hml hv
  obtain ⟨rfl, hsz, hP, hK, hap0⟩ := hv
  have hx := B.exec
  have hb := B.bytes
  have hr := B.returns
  have hts := atoms_spec (ws := wsX3_takeFirst) B.pre
  have hown : s.vm.findClass RX3 = some m.cls := findClass_of_methodNamed B.named
  have hlocks := B.notSynchronized
  subst hsz
  have hap := gw_self (sz := s.heap.size) hap0
  generalize hAe : gA 19 ad s.heap.size = A at hap ⊢
  have hA : ∀ q : Nat, s.heap.size ≤ q → A q := fun q h => by rw [← hAe]; exact Or.inr h
  have hS : va_S A s.heap s.heap [] := va_S.rf
  have hinX3 : ∀ w ∈ wsX30, w ∈ wsX3_takeFirst := by decide +kernel
  have hl := lv_entry ([.ref (ad 0), .int p1]) (n := 4) (Nat.le_of_ble_eq_true rfl)
  rw [lg_entry_eq]
  generalize (lg_sl ([.ref (ad 0), .int p1]) ++ List.replicate (4 - (lg_sl ([.ref (ad 0), .int p1])).length) Slot.unset).toArray = ls at hl ⊢
  have hl : lv_has ls 4 [(0, .ref (ad 0)), (1, .int p1)] := hl
  obtain ⟨H, hH⟩ : ∃ H, H = s.heap := ⟨_, rfl⟩
  rw [← hH] at hP
  have hS : va_S A s.heap H [] := by rw [hH]; exact hS
  rw [← hH]
  generalize ([] : List Loc) = locs at hS ⊢
  refine lv_aload_n hx hb dX3_takeFirst_0 rfl (lv_at hl 0 rfl) ?_
  refine m_gO hx hb hts hinX3 hown hK hP 20 (by decide) (hts (.fieldLink RX3 53 "FeedbackQueuesModel" "queue" "[I") (by decide +kernel)) rfl dX3_takeFirst_1 ?_
  refine lv_bipush (v := 16) hx hb dX3_takeFirst_4 (by decide) ?_
  refine lv_iload_n hx hb dX3_takeFirst_6 rfl (lv_at hl 1 rfl) ?_
  refine lv_imul hx hb dX3_takeFirst_7 ?_
  refine m_iA (d := 15) (a := 20) (n := 96) (k := 16 * (p1).toNatClampNeg) hx hb hK hP (by decide) rfl rfl (ix_mulc (by decide) h1.nI (by have := h1.2.2; omega) (by omega)) dX3_takeFirst_8 ?_
  refine lv_istore_n (lv' := [(2, .int (mA S 20 (16 * (p1).toNatClampNeg))), (0, .ref (ad 0)), (1, .int p1)]) hx hb dX3_takeFirst_9 rfl hl (by decide) rfl (fun ls hl => ?_)
  refine lv_aload_n hx hb dX3_takeFirst_10 rfl (lv_at hl 1 rfl) ?_
  refine m_gO hx hb hts hinX3 hown hK hP 21 (by decide) (hts (.fieldLink RX3 56 "FeedbackQueuesModel" "size" "[I") (by decide +kernel)) rfl dX3_takeFirst_11 ?_
  refine lv_iload_n hx hb dX3_takeFirst_14 rfl (lv_at hl 2 rfl) ?_
  refine lv_dup2_11 hx hb dX3_takeFirst_15 rfl rfl ?_
  refine m_iA (d := 16) (a := 21) (n := 6) (k := (p1).toNatClampNeg) hx hb hK hP (by decide) rfl rfl (h1) dX3_takeFirst_16 ?_
  refine lv_iconst (v := 1) hx hb dX3_takeFirst_17 (by decide) ?_
  refine lv_isub hx hb dX3_takeFirst_18 ?_
  refine m_sA (d := 16) (a := 21) (n := 6) (k := (p1).toNatClampNeg) (v := (mA S 21 ((p1).toNatClampNeg)) - 1) hx hb hK hap hP hS (by decide) rfl rfl (h1) dX3_takeFirst_19 (fun H locs hP hS => ?_)
  obtain ⟨S1, eS1⟩ : ∃ z : Ms, z = mQ S 21 ((p1).toNatClampNeg) ((mA S 21 ((p1).toNatClampNeg)) - 1) := ⟨_, rfl⟩
  rw [← eS1] at hP
  refine lv_iconst (v := 0) hx hb dX3_takeFirst_20 (by decide) ?_
  refine lv_istore_n (lv' := [(3, .int 0), (2, .int (mA S 20 (16 * (p1).toNatClampNeg))), (0, .ref (ad 0)), (1, .int p1)]) hx hb dX3_takeFirst_21 rfl hl (by decide) rfl (fun ls hl => ?_)
  have hz1 : ub 15 (mA S1 21 (p1).toNatClampNeg) := by rw [eS1]; simp only [mA_mQ, and_self, if_true]; exact ub_dec hz h0
  have hz2 := ub_nI hz1 (by omega)
  have hz3 := ub_le hz1 (by omega)
  have lp_22 : ∀ (Q : State → Prop) (n t : Nat) (Z : Ms) (H : Heap) (locs : List Loc) (ls : Array Slot), t + n = (mA S1 21 (p1).toNatClampNeg).toNatClampNeg → mA Z 21 (p1).toNatClampNeg = nI ((mA S1 21 (p1).toNatClampNeg).toNatClampNeg) → va_P D vwCl (mwl cy ad Z) H → va_S A s.heap H locs → lv_has ls 4 [(3, .int (nI t)), (2, .int (mA S 20 (16 * (p1).toNatClampNeg))), (0, .ref (ad 0)), (1, .int p1)] → (∀ (H : Heap) (locs : List Loc) (ls : Array Slot), va_P D vwCl (mwl cy ad (itr (B_X3_takeFirst_22 p1) n t Z)) H → va_S A s.heap H locs → lv_has ls 4 [(3, .int (nI ((mA S1 21 (p1).toNatClampNeg).toNatClampNeg))), (2, .int (mA S 20 (16 * (p1).toNatClampNeg))), (0, .ref (ad 0)), (1, .int p1)] → W p l e (headSpec wsX3_takeFirst { frames := 0, cells := 0, slots := 0, locals := 0 }).room s m ([.ref (ad 0), .int p1] : List Value).toArray below meth c H locs 0 0 Q (F0 m 62 ls [])) → W p l e (headSpec wsX3_takeFirst { frames := 0, cells := 0, slots := 0, locals := 0 }).room s m ([.ref (ad 0), .int p1] : List Value).toArray below meth c H locs 0 0 Q (F0 m 22 ls []) := by
    intro Q n
    induction n with
    | zero =>
      intro t Z H locs ls hk hI hP hS hl K
      refine lv_iload_n hx hb dX3_takeFirst_22 rfl (lv_at hl 0 rfl) ?_
      refine lv_aload_n hx hb dX3_takeFirst_23 rfl (lv_at hl 2 rfl) ?_
      refine m_gO hx hb hts hinX3 hown hK hP 21 (by decide) (hts (.fieldLink RX3 56 "FeedbackQueuesModel" "size" "[I") (by decide +kernel)) rfl dX3_takeFirst_24 ?_
      refine lv_iload_n hx hb dX3_takeFirst_27 rfl (lv_at hl 3 rfl) ?_
      refine m_iA (d := 16) (a := 21) (n := 6) (k := (p1).toNatClampNeg) hx hb hK hP (by decide) rfl rfl (h1) dX3_takeFirst_28 ?_
      refine lv_icmp_ge (tgt := 62) hx hb dX3_takeFirst_29 (by decide) (fun c_29 => ?_) (fun c_29 => ?_)
      rotate_left
      · exact absurd (by rw [hI]; exact nI_le (by omega) (by omega)) c_29
      have hiN : t = (mA S1 21 (p1).toNatClampNeg).toNatClampNeg := by omega
      rw [hiN] at hl
      exact K H locs ls hP hS (lv_sub hl [0, 1, 2, 3] rfl)
    | succ n ih =>
      intro t Z H locs ls hk hI hP hS hl K
      have ht : t < (mA S1 21 (p1).toNatClampNeg).toNatClampNeg := by omega
      refine lv_iload_n hx hb dX3_takeFirst_22 rfl (lv_at hl 0 rfl) ?_
      refine lv_aload_n hx hb dX3_takeFirst_23 rfl (lv_at hl 2 rfl) ?_
      refine m_gO hx hb hts hinX3 hown hK hP 21 (by decide) (hts (.fieldLink RX3 56 "FeedbackQueuesModel" "size" "[I") (by decide +kernel)) rfl dX3_takeFirst_24 ?_
      refine lv_iload_n hx hb dX3_takeFirst_27 rfl (lv_at hl 3 rfl) ?_
      refine m_iA (d := 16) (a := 21) (n := 6) (k := (p1).toNatClampNeg) hx hb hK hP (by decide) rfl rfl (h1) dX3_takeFirst_28 ?_
      refine lv_icmp_ge (tgt := 62) hx hb dX3_takeFirst_29 (by decide) (fun c_29 => ?_) (fun c_29 => ?_)
      · exact absurd c_29 (by rw [hI]; exact nI_ge (by omega) (by omega))
      refine lv_aload_n hx hb dX3_takeFirst_32 rfl (lv_at hl 2 rfl) ?_
      refine m_gO hx hb hts hinX3 hown hK hP 20 (by decide) (hts (.fieldLink RX3 53 "FeedbackQueuesModel" "queue" "[I") (by decide +kernel)) rfl dX3_takeFirst_33 ?_
      refine lv_bipush (v := 16) hx hb dX3_takeFirst_36 (by decide) ?_
      refine lv_iload_n hx hb dX3_takeFirst_38 rfl (lv_at hl 3 rfl) ?_
      refine lv_imul hx hb dX3_takeFirst_39 ?_
      refine lv_iload_n hx hb dX3_takeFirst_40 rfl (lv_at hl 0 rfl) ?_
      refine lv_iadd hx hb dX3_takeFirst_41 ?_
      refine lv_aload_n hx hb dX3_takeFirst_42 rfl (lv_at hl 2 rfl) ?_
      refine m_gO hx hb hts hinX3 hown hK hP 20 (by decide) (hts (.fieldLink RX3 53 "FeedbackQueuesModel" "queue" "[I") (by decide +kernel)) rfl dX3_takeFirst_43 ?_
      refine lv_bipush (v := 16) hx hb dX3_takeFirst_46 (by decide) ?_
      refine lv_iload_n hx hb dX3_takeFirst_48 rfl (lv_at hl 3 rfl) ?_
      refine lv_imul hx hb dX3_takeFirst_49 ?_
      refine lv_iload_n hx hb dX3_takeFirst_50 rfl (lv_at hl 0 rfl) ?_
      refine lv_iadd hx hb dX3_takeFirst_51 ?_
      refine lv_iconst (v := 1) hx hb dX3_takeFirst_52 (by decide) ?_
      refine lv_iadd hx hb dX3_takeFirst_53 ?_
      refine m_iA (d := 15) (a := 20) (n := 96) (k := 16 * (p1).toNatClampNeg + t + 1) hx hb hK hP (by decide) rfl rfl (ix_linp (by decide) h1.nI rfl (by have := h1.2.2; omega) (by omega)) dX3_takeFirst_54 ?_
      refine m_sA (d := 15) (a := 20) (n := 96) (k := 16 * (p1).toNatClampNeg + t) (v := mA Z 20 (16 * (p1).toNatClampNeg + t + 1)) hx hb hK hap hP hS (by decide) rfl rfl (ix_lin (by decide) h1.nI rfl (by have := h1.2.2; omega) (by omega)) dX3_takeFirst_55 (fun H locs hP hS => ?_)
      obtain ⟨S2, eS2⟩ : ∃ z : Ms, z = mQ Z 20 (16 * (p1).toNatClampNeg + t) (mA Z 20 (16 * (p1).toNatClampNeg + t + 1)) := ⟨_, rfl⟩
      rw [← eS2] at hP
      refine lv_iinc (v := nI (t + 1)) (lv' := [(3, .int (nI (t + 1))), (2, .int (mA S 20 (16 * (p1).toNatClampNeg))), (0, .ref (ad 0)), (1, .int p1)]) hx hb dX3_takeFirst_56 hl (k := 0) rfl (inc_nI t) (by decide) rfl (fun ls hl => ?_)
      refine lv_goto (tgt := 22) hx hb dX3_takeFirst_59 (by decide) ?_
      have hF : B_X3_takeFirst_22 p1 t Z = S2 := by subst eS2; simp only [B_X3_takeFirst_22]
      rw [← hF] at hP
      exact ih (t + 1) (B_X3_takeFirst_22 p1 t Z) H locs ls (by omega) (hI) hP hS (lv_sub hl [0, 1, 2, 3] rfl) K
  refine lp_22 _ ((mA S1 21 (p1).toNatClampNeg).toNatClampNeg) 0 S1 H locs ls (by omega) (hz2) hP hS (by rw [show nI 0 = 0 from by decide]; exact lv_sub hl [0, 1, 2, 3] rfl) (fun H locs ls hP hS hl => ?_)
  obtain ⟨S3, eS3⟩ : ∃ z : Ms, z = itr (B_X3_takeFirst_22 p1) ((mA S1 21 (p1).toNatClampNeg).toNatClampNeg) 0 S1 := ⟨_, rfl⟩
  rw [← eS3] at hP
  refine lv_iload_n hx hb dX3_takeFirst_62 rfl (lv_at hl 1 rfl) ?_
  have hF : F_X3_takeFirst S p1 = (S3, mA S 20 (16 * (p1).toNatClampNeg)) := by subst eS3 eS1; simp only [F_X3_takeFirst]
  rw [hF]
  exact m_iret hx hb hr hlocks hP hS dX3_takeFirst_63 (fun _ h => h)
set_option maxHeartbeats 4000000 in
set_option maxRecDepth 100000 in
theorem k_X3_end (l : Launch) (D : va_G) (cy : Nat → ClassId) (ad : Nat → Nat) (S : Ms) (p1 : Int32) (p2 : Int32)  (h1 : ix p1 (p1).toNatClampNeg 16) : mMv l yX3_end wsX3_end { frames := 0, cells := 0, slots := 0, locals := 0 } D cy ad [.ref (ad 0), .int p1, .int p2] S (F_X3_end S p1 p2) := by
  intro sz
  refine Met.ofW (cc := cX3_end) (maxL := 3) (ret := none) (by decide) rfl ?_
  intro p e s m args below meth c s₁ B hml hv
  obtain ⟨rfl, hsz, hP, hK, hap0⟩ := hv
  have hx := B.exec
  have hb := B.bytes
  have hr := B.returns
  have hts := atoms_spec (ws := wsX3_end) B.pre
  have hown : s.vm.findClass RX3 = some m.cls := findClass_of_methodNamed B.named
  have hlocks := B.notSynchronized
  subst hsz
  have hap := gw_self (sz := s.heap.size) hap0
  generalize hAe : gA 19 ad s.heap.size = A at hap ⊢
  have hA : ∀ q : Nat, s.heap.size ≤ q → A q := fun q h => by rw [← hAe]; exact Or.inr h
  have hS : va_S A s.heap s.heap [] := va_S.rf
  have hinX3 : ∀ w ∈ wsX30, w ∈ wsX3_end := by decide +kernel
  have hl := lv_entry ([.ref (ad 0), .int p1, .int p2]) (n := 3) (Nat.le_of_ble_eq_true rfl)
  rw [lg_entry_eq]
  generalize (lg_sl ([.ref (ad 0), .int p1, .int p2]) ++ List.replicate (3 - (lg_sl ([.ref (ad 0), .int p1, .int p2])).length) Slot.unset).toArray = ls at hl ⊢
  have hl : lv_has ls 3 [(0, .ref (ad 0)), (1, .int p1), (2, .int p2)] := hl
  obtain ⟨H, hH⟩ : ∃ H, H = s.heap := ⟨_, rfl⟩
  rw [← hH] at hP
  have hS : va_S A s.heap H [] := by rw [hH]; exact hS
  rw [← hH]
  generalize ([] : List Loc) = locs at hS ⊢
  refine lv_aload_n hx hb dX3_end_0 rfl (lv_at hl 0 rfl) ?_
  refine m_gO hx hb hts hinX3 hown hK hP 11 (by decide) (hts (.fieldLink RX3 25 "FeedbackQueuesModel" "state" "[I") (by decide +kernel)) rfl dX3_end_1 ?_
  refine lv_iload_n hx hb dX3_end_4 rfl (lv_at hl 1 rfl) ?_
  refine lv_iconst (v := 4) hx hb dX3_end_5 (by decide) ?_
  refine m_sA (d := 6) (a := 11) (n := 16) (k := (p1).toNatClampNeg) (v := 4) hx hb hK hap hP hS (by decide) rfl rfl (h1) dX3_end_6 (fun H locs hP hS => ?_)
  obtain ⟨S1, eS1⟩ : ∃ z : Ms, z = mQ S 11 ((p1).toNatClampNeg) 4 := ⟨_, rfl⟩
  rw [← eS1] at hP
  refine lv_aload_n hx hb dX3_end_7 rfl (lv_at hl 0 rfl) ?_
  refine m_gO hx hb hts hinX3 hown hK hP 19 (by decide) (hts (.fieldLink RX3 50 "FeedbackQueuesModel" "counts" "[I") (by decide +kernel)) rfl dX3_end_8 ?_
  refine lv_bipush (v := 10) hx hb dX3_end_11 (by decide) ?_
  refine lv_iload_n hx hb dX3_end_13 rfl (lv_at hl 1 rfl) ?_
  refine lv_imul hx hb dX3_end_14 ?_
  refine lv_bipush (v := 6) hx hb dX3_end_15 (by decide) ?_
  refine lv_iadd hx hb dX3_end_17 ?_
  refine lv_iload_n hx hb dX3_end_18 rfl (lv_at hl 2 rfl) ?_
  refine m_sA (d := 14) (a := 19) (n := 160) (k := 10 * (p1).toNatClampNeg + 6) (v := p2) hx hb hK hap hP hS (by decide) rfl rfl (ix_lin (by decide) h1.nI (by decide) (by have := h1.2.2; omega) (by omega)) dX3_end_19 (fun H locs hP hS => ?_)
  obtain ⟨S2, eS2⟩ : ∃ z : Ms, z = mQ S1 19 (10 * (p1).toNatClampNeg + 6) p2 := ⟨_, rfl⟩
  rw [← eS2] at hP
  refine lv_aload_n hx hb dX3_end_20 rfl (lv_at hl 0 rfl) ?_
  refine m_gO hx hb hts hinX3 hown hK hP 22 (by decide) (hts (.fieldLink RX3 59 "FeedbackQueuesModel" "all" "[I") (by decide +kernel)) rfl dX3_end_21 ?_
  refine lv_iconst (v := 3) hx hb dX3_end_24 (by decide) ?_
  refine lv_dup2_11 hx hb dX3_end_25 rfl rfl ?_
  refine m_iA (d := 17) (a := 22) (n := 4) (k := 3) hx hb hK hP (by decide) rfl rfl (ix_lit (by decide) (by omega) (by omega)) dX3_end_26 ?_
  refine lv_iconst (v := 1) hx hb dX3_end_27 (by decide) ?_
  refine lv_iadd hx hb dX3_end_28 ?_
  refine m_sA (d := 17) (a := 22) (n := 4) (k := 3) (v := (mA S2 22 3) + 1) hx hb hK hap hP hS (by decide) rfl rfl (ix_lit (by decide) (by omega) (by omega)) dX3_end_29 (fun H locs hP hS => ?_)
  obtain ⟨S3, eS3⟩ : ∃ z : Ms, z = mQ S2 22 3 ((mA S2 22 3) + 1) := ⟨_, rfl⟩
  rw [← eS3] at hP
  have hF : F_X3_end S p1 p2 = S3 := by subst eS3 eS2 eS1; simp only [F_X3_end]
  rw [hF]
  exact m_vret hx hb hr hlocks hP hS dX3_end_30 (fun _ h => h)
set_option maxHeartbeats 4000000 in
set_option maxRecDepth 100000 in
theorem k_X3_firstLevel (l : Launch) (D : va_G) (cy : Nat → ClassId) (ad : Nat → Nat) (S : Ms)  {N L b : Nat} (hok : okM N L b S)  : mMi l yX3_firstLevel wsX3_firstLevel { frames := 0, cells := 0, slots := 0, locals := 0 } D cy ad [.ref (ad 0)] S (F_X3_firstLevel S ).1 (F_X3_firstLevel S ).2 := by
  intro sz
  refine Met.ofW (cc := cX3_firstLevel) (maxL := 2) (ret := (some .int)) (by decide) rfl ?_
  intro p e s m args below meth c s₁ B hml hv
  obtain ⟨rfl, hsz, hP, hK, hap0⟩ := hv
  have hx := B.exec
  have hb := B.bytes
  have hr := B.returns
  have hts := atoms_spec (ws := wsX3_firstLevel) B.pre
  have hown : s.vm.findClass RX3 = some m.cls := findClass_of_methodNamed B.named
  have hlocks := B.notSynchronized
  subst hsz
  have hap := gw_self (sz := s.heap.size) hap0
  generalize hAe : gA 19 ad s.heap.size = A at hap ⊢
  have hA : ∀ q : Nat, s.heap.size ≤ q → A q := fun q h => by rw [← hAe]; exact Or.inr h
  have hS : va_S A s.heap s.heap [] := va_S.rf
  have hinX3 : ∀ w ∈ wsX30, w ∈ wsX3_firstLevel := by decide +kernel
  have hl := lv_entry ([.ref (ad 0)]) (n := 2) (Nat.le_of_ble_eq_true rfl)
  rw [lg_entry_eq]
  generalize (lg_sl ([.ref (ad 0)]) ++ List.replicate (2 - (lg_sl ([.ref (ad 0)])).length) Slot.unset).toArray = ls at hl ⊢
  have hl : lv_has ls 2 [(0, .ref (ad 0))] := hl
  obtain ⟨H, hH⟩ : ∃ H, H = s.heap := ⟨_, rfl⟩
  rw [← hH] at hP
  have hS : va_S A s.heap H [] := by rw [hH]; exact hS
  rw [← hH]
  generalize ([] : List Loc) = locs at hS ⊢
  refine lv_iconst (v := 0) hx hb dX3_firstLevel_0 (by decide) ?_
  refine lv_istore_n (lv' := [(1, .int 0), (0, .ref (ad 0))]) hx hb dX3_firstLevel_1 rfl hl (by decide) rfl (fun ls hl => ?_)
  have hLe : (mO S 1).toNatClampNeg = L := okM_L hok
  have hL6 : L ≤ 6 := hok.2.2.2.2.1
  have lp_2 : ∀ (n t : Nat) (Z : Ms) (H : Heap) (locs : List Loc) (ls : Array Slot), t + n = (mO S 1).toNatClampNeg → okM N L b Z → F_X3_firstLevel S  = L_X3_firstLevel_2 n t Z → va_P D vwCl (mwl cy ad Z) H → va_S A s.heap H locs → lv_has ls 2 [(1, .int (nI t)), (0, .ref (ad 0))] → W p l e (headSpec wsX3_firstLevel { frames := 0, cells := 0, slots := 0, locals := 0 }).room s m ([.ref (ad 0)] : List Value).toArray below meth c H locs 0 0 (MQ below (va_Qi (fun (x : Int32) (_ : Unit) => x = (F_X3_firstLevel S ).2) (fun _ t => mPost D cy ad (F_X3_firstLevel S ).1 t) A) ([.ref (ad 0)] : List Value).toArray s 0 0 A) (F0 m 2 ls []) := by
    intro n
    induction n with
    | zero =>
      intro t Z H locs ls hk hI hT hP hS hl
      refine lv_iload_n hx hb dX3_firstLevel_2 rfl (lv_at hl 0 rfl) ?_
      refine lv_aload_n hx hb dX3_firstLevel_3 rfl (lv_at hl 1 rfl) ?_
      refine m_gO hx hb hts hinX3 hown hK hP 1 (by decide) (hts (.fieldLink RX3 73 "FeedbackQueuesModel" "levels" "I") (by decide +kernel)) rfl dX3_firstLevel_4 ?_
      refine lv_icmp_ge (tgt := 27) hx hb dX3_firstLevel_7 (by decide) (fun c_7 => ?_) (fun c_7 => ?_)
      rotate_left
      · exact absurd (by rw [show mO Z 1 = nI ((mO S 1).toNatClampNeg) from by rw [hLe]; exact hI.2.1]; exact nI_le (by omega) (by omega)) c_7
      refine lv_iconst (v := (-1)) hx hb dX3_firstLevel_27 (by decide) ?_
      have hF : F_X3_firstLevel S  = (Z, (-1)) := hT.trans (by simp only [L_X3_firstLevel_2])
      rw [hF]
      exact m_iret hx hb hr hlocks hP hS dX3_firstLevel_28 (fun _ h => h)
    | succ n ih =>
      intro t Z H locs ls hk hI hT hP hS hl
      have ht : t < (mO S 1).toNatClampNeg := by omega
      refine lv_iload_n hx hb dX3_firstLevel_2 rfl (lv_at hl 0 rfl) ?_
      refine lv_aload_n hx hb dX3_firstLevel_3 rfl (lv_at hl 1 rfl) ?_
      refine m_gO hx hb hts hinX3 hown hK hP 1 (by decide) (hts (.fieldLink RX3 73 "FeedbackQueuesModel" "levels" "I") (by decide +kernel)) rfl dX3_firstLevel_4 ?_
      refine lv_icmp_ge (tgt := 27) hx hb dX3_firstLevel_7 (by decide) (fun c_7 => ?_) (fun c_7 => ?_)
      · exact absurd c_7 (by rw [show mO Z 1 = nI ((mO S 1).toNatClampNeg) from by rw [hLe]; exact hI.2.1]; exact nI_ge (by omega) (by omega))
      refine lv_aload_n hx hb dX3_firstLevel_10 rfl (lv_at hl 1 rfl) ?_
      refine m_gO hx hb hts hinX3 hown hK hP 21 (by decide) (hts (.fieldLink RX3 56 "FeedbackQueuesModel" "size" "[I") (by decide +kernel)) rfl dX3_firstLevel_11 ?_
      refine lv_iload_n hx hb dX3_firstLevel_14 rfl (lv_at hl 0 rfl) ?_
      refine m_iA (d := 16) (a := 21) (n := 6) (k := t) hx hb hK hP (by decide) rfl rfl (ix_nI (by omega) (by omega)) dX3_firstLevel_15 ?_
      refine lv_if_le (tgt := 21) hx hb dX3_firstLevel_16 (by decide) (fun c_16 => ?_) (fun c_16 => ?_)
      · skip
        refine lv_iinc (v := nI (t + 1)) (lv' := [(1, .int (nI (t + 1))), (0, .ref (ad 0))]) hx hb dX3_firstLevel_21 hl (k := 0) rfl (inc_nI t) (by decide) rfl (fun ls hl => ?_)
        refine lv_goto (tgt := 2) hx hb dX3_firstLevel_24 (by decide) ?_
        exact ih (t + 1) Z H locs ls (by omega) (hI) (hT.trans (by simp only [L_X3_firstLevel_2, if_pos c_16])) hP hS (lv_sub hl [0, 1] rfl)
      · skip
        refine lv_iload_n hx hb dX3_firstLevel_19 rfl (lv_at hl 0 rfl) ?_
        have hF : F_X3_firstLevel S  = (Z, nI t) := hT.trans (by simp only [L_X3_firstLevel_2, if_neg c_16])
        rw [hF]
        exact m_iret hx hb hr hlocks hP hS dX3_firstLevel_20 (fun _ h => h)
  exact lp_2 ((mO S 1).toNatClampNeg) 0 S H locs ls (by omega) (hok) (by simp only [F_X3_firstLevel]) hP hS (by rw [show nI 0 = 0 from by decide]; exact lv_sub hl [0, 1] rfl)
set_option maxHeartbeats 4000000 in
set_option maxRecDepth 100000 in
theorem k_X3_restart (l : Launch) (D : va_G) (cy : Nat → ClassId) (ad : Nat → Nat) (S : Ms)    : mMv l yX3_restart wsX3_restart { frames := 1, cells := 0, slots := 0, locals := 22 } D cy ad [.ref (ad 0)] S (F_X3_restart S ) := by
  intro sz
  refine Met.ofW (cc := cX3_restart) (maxL := 1) (ret := none) (by decide) rfl ?_
  intro p e s m args below meth c s₁ B hml hv
  obtain ⟨rfl, hsz, hP, hK, hap0⟩ := hv
  have hx := B.exec
  have hb := B.bytes
  have hr := B.returns
  have hts := atoms_spec (ws := wsX3_restart) B.pre
  have hown : s.vm.findClass RX3 = some m.cls := findClass_of_methodNamed B.named
  have hlocks := B.notSynchronized
  subst hsz
  have hap := gw_self (sz := s.heap.size) hap0
  generalize hAe : gA 19 ad s.heap.size = A at hap ⊢
  have hA : ∀ q : Nat, s.heap.size ≤ q → A q := fun q h => by rw [← hAe]; exact Or.inr h
  have hS : va_S A s.heap s.heap [] := va_S.rf
  have hinX3 : ∀ w ∈ wsX30, w ∈ wsX3_restart := by decide +kernel
  have hl := lv_entry ([.ref (ad 0)]) (n := 1) (Nat.le_of_ble_eq_true rfl)
  rw [lg_entry_eq]
  generalize (lg_sl ([.ref (ad 0)]) ++ List.replicate (1 - (lg_sl ([.ref (ad 0)])).length) Slot.unset).toArray = ls at hl ⊢
  have hl : lv_has ls 1 [(0, .ref (ad 0))] := hl
  obtain ⟨H, hH⟩ : ∃ H, H = s.heap := ⟨_, rfl⟩
  rw [← hH] at hP
  have hS : va_S A s.heap H [] := by rw [hH]; exact hS
  rw [← hH]
  generalize ([] : List Loc) = locs at hS ⊢
  refine lv_aload_n hx hb dX3_restart_0 rfl (lv_at hl 0 rfl) ?_
  refine lv_iconst (v := 0) hx hb dX3_restart_1 (by decide) ?_
  refine m_pO (ty := .int) (v := 0) hx hb hts hinX3 hown hK hap hP hS 0 (by decide) (hts (.fieldLink RX3 69 "FeedbackQueuesModel" "thrown" "I") (by decide +kernel)) rfl (by decide +kernel) rfl rfl (mOf_0 ad S _) (Nat.le_of_ble_eq_true rfl) dX3_restart_2 (fun H locs hP hS => ?_)
  obtain ⟨S1, eS1⟩ : ∃ z : Ms, z = mP S 0 0 := ⟨_, rfl⟩
  rw [← eS1] at hP
  refine lv_aload_n hx hb dX3_restart_5 rfl (lv_at hl 0 rfl) ?_
  refine m_cVv (As := []) (rest := []) ⟨hx, hb, hml, hown, hts⟩ (k_X3_begin l D cy ad S1) (cwV 0 hts gX3_restart_X3_begin rfl rfl rfl (by decide +kernel) ⟨Nat.le_of_ble_eq_true rfl, Nat.le_of_ble_eq_true rfl⟩) hK hap hA hP hS rfl hl.1 rfl (Nat.le_of_ble_eq_true rfl) dX3_restart_6 ⟨Nat.zero_le _, Nat.zero_le _⟩ (fun H locs hP hS => ?_)
  obtain ⟨S2, eS2⟩ : ∃ z : Ms, z = F_X3_begin S1 := ⟨_, rfl⟩
  rw [← eS2] at hP
  have hF : F_X3_restart S  = S2 := by subst eS2 eS1; simp only [F_X3_restart]
  rw [hF]
  exact m_vret hx hb hr hlocks hP hS dX3_restart_9 (fun _ h => h)
set_option maxHeartbeats 4000000 in
set_option maxRecDepth 100000 in
theorem k_X3_time (l : Launch) (D : va_G) (cy : Nat → ClassId) (ad : Nat → Nat) (S : Ms)    : mMi l yX3_time wsX3_time { frames := 0, cells := 0, slots := 0, locals := 0 } D cy ad [.ref (ad 0)] S (F_X3_time S ).1 (F_X3_time S ).2 := by
  intro sz
  refine Met.ofW (cc := cX3_time) (maxL := 1) (ret := (some .int)) (by decide) rfl ?_
  intro p e s m args below meth c s₁ B hml hv
  obtain ⟨rfl, hsz, hP, hK, hap0⟩ := hv
  have hx := B.exec
  have hb := B.bytes
  have hr := B.returns
  have hts := atoms_spec (ws := wsX3_time) B.pre
  have hown : s.vm.findClass RX3 = some m.cls := findClass_of_methodNamed B.named
  have hlocks := B.notSynchronized
  subst hsz
  have hap := gw_self (sz := s.heap.size) hap0
  generalize hAe : gA 19 ad s.heap.size = A at hap ⊢
  have hA : ∀ q : Nat, s.heap.size ≤ q → A q := fun q h => by rw [← hAe]; exact Or.inr h
  have hS : va_S A s.heap s.heap [] := va_S.rf
  have hinX3 : ∀ w ∈ wsX30, w ∈ wsX3_time := by decide +kernel
  have hl := lv_entry ([.ref (ad 0)]) (n := 1) (Nat.le_of_ble_eq_true rfl)
  rw [lg_entry_eq]
  generalize (lg_sl ([.ref (ad 0)]) ++ List.replicate (1 - (lg_sl ([.ref (ad 0)])).length) Slot.unset).toArray = ls at hl ⊢
  have hl : lv_has ls 1 [(0, .ref (ad 0))] := hl
  obtain ⟨H, hH⟩ : ∃ H, H = s.heap := ⟨_, rfl⟩
  rw [← hH] at hP
  have hS : va_S A s.heap H [] := by rw [hH]; exact hS
  rw [← hH]
  generalize ([] : List Loc) = locs at hS ⊢
  refine lv_aload_n hx hb dX3_time_0 rfl (lv_at hl 0 rfl) ?_
  refine lv_iconst (v := 0) hx hb dX3_time_1 (by decide) ?_
  refine m_pO (ty := .int) (v := 0) hx hb hts hinX3 hown hK hap hP hS 0 (by decide) (hts (.fieldLink RX3 69 "FeedbackQueuesModel" "thrown" "I") (by decide +kernel)) rfl (by decide +kernel) rfl rfl (mOf_0 ad S _) (Nat.le_of_ble_eq_true rfl) dX3_time_2 (fun H locs hP hS => ?_)
  obtain ⟨S1, eS1⟩ : ∃ z : Ms, z = mP S 0 0 := ⟨_, rfl⟩
  rw [← eS1] at hP
  refine lv_aload_n hx hb dX3_time_5 rfl (lv_at hl 0 rfl) ?_
  refine m_gO hx hb hts hinX3 hown hK hP 9 (by decide) (hts (.fieldLink RX3 82 "FeedbackQueuesModel" "time" "I") (by decide +kernel)) rfl dX3_time_6 ?_
  have hF : F_X3_time S  = (S1, mO S1 9) := by subst eS1; simp only [F_X3_time]
  rw [hF]
  exact m_iret hx hb hr hlocks hP hS dX3_time_9 (fun _ h => h)
set_option maxHeartbeats 4000000 in
set_option maxRecDepth 100000 in
theorem k_X3_running (l : Launch) (D : va_G) (cy : Nat → ClassId) (ad : Nat → Nat) (S : Ms)    : mMi l yX3_running wsX3_running { frames := 0, cells := 0, slots := 0, locals := 0 } D cy ad [.ref (ad 0)] S (F_X3_running S ).1 (F_X3_running S ).2 := by
  intro sz
  refine Met.ofW (cc := cX3_running) (maxL := 1) (ret := (some .int)) (by decide) rfl ?_
  intro p e s m args below meth c s₁ B hml hv
  obtain ⟨rfl, hsz, hP, hK, hap0⟩ := hv
  have hx := B.exec
  have hb := B.bytes
  have hr := B.returns
  have hts := atoms_spec (ws := wsX3_running) B.pre
  have hown : s.vm.findClass RX3 = some m.cls := findClass_of_methodNamed B.named
  have hlocks := B.notSynchronized
  subst hsz
  have hap := gw_self (sz := s.heap.size) hap0
  generalize hAe : gA 19 ad s.heap.size = A at hap ⊢
  have hA : ∀ q : Nat, s.heap.size ≤ q → A q := fun q h => by rw [← hAe]; exact Or.inr h
  have hS : va_S A s.heap s.heap [] := va_S.rf
  have hinX3 : ∀ w ∈ wsX30, w ∈ wsX3_running := by decide +kernel
  have hl := lv_entry ([.ref (ad 0)]) (n := 1) (Nat.le_of_ble_eq_true rfl)
  rw [lg_entry_eq]
  generalize (lg_sl ([.ref (ad 0)]) ++ List.replicate (1 - (lg_sl ([.ref (ad 0)])).length) Slot.unset).toArray = ls at hl ⊢
  have hl : lv_has ls 1 [(0, .ref (ad 0))] := hl
  obtain ⟨H, hH⟩ : ∃ H, H = s.heap := ⟨_, rfl⟩
  rw [← hH] at hP
  have hS : va_S A s.heap H [] := by rw [hH]; exact hS
  rw [← hH]
  generalize ([] : List Loc) = locs at hS ⊢
  refine lv_aload_n hx hb dX3_running_0 rfl (lv_at hl 0 rfl) ?_
  refine lv_iconst (v := 0) hx hb dX3_running_1 (by decide) ?_
  refine m_pO (ty := .int) (v := 0) hx hb hts hinX3 hown hK hap hP hS 0 (by decide) (hts (.fieldLink RX3 69 "FeedbackQueuesModel" "thrown" "I") (by decide +kernel)) rfl (by decide +kernel) rfl rfl (mOf_0 ad S _) (Nat.le_of_ble_eq_true rfl) dX3_running_2 (fun H locs hP hS => ?_)
  obtain ⟨S1, eS1⟩ : ∃ z : Ms, z = mP S 0 0 := ⟨_, rfl⟩
  rw [← eS1] at hP
  refine lv_aload_n hx hb dX3_running_5 rfl (lv_at hl 0 rfl) ?_
  refine m_gO hx hb hts hinX3 hown hK hP 10 (by decide) (hts (.fieldLink RX3 85 "FeedbackQueuesModel" "running" "I") (by decide +kernel)) rfl dX3_running_6 ?_
  have hF : F_X3_running S  = (S1, mO S1 10) := by subst eS1; simp only [F_X3_running]
  rw [hF]
  exact m_iret hx hb hr hlocks hP hS dX3_running_9 (fun _ h => h)
set_option maxHeartbeats 4000000 in
set_option maxRecDepth 100000 in
theorem k_X3_told (l : Launch) (D : va_G) (cy : Nat → ClassId) (ad : Nat → Nat) (S : Ms) (p1 : Int32) (p2 : Int32) {N L b : Nat} (hok : okM N L b S)  : mMi l yX3_told wsX3_told { frames := 1, cells := 0, slots := 0, locals := 21 } D cy ad [.ref (ad 0), .int p1, .int p2] S (F_X3_told S p1 p2).1 (F_X3_told S p1 p2).2 := by
  intro sz
  refine Met.ofW (cc := cX3_told) (maxL := 3) (ret := (some .int)) (by decide) rfl ?_
  intro p e s m args below meth c s₁ B hml hv
  obtain ⟨rfl, hsz, hP, hK, hap0⟩ := hv
  have hx := B.exec
  have hb := B.bytes
  have hr := B.returns
  have hts := atoms_spec (ws := wsX3_told) B.pre
  have hown : s.vm.findClass RX3 = some m.cls := findClass_of_methodNamed B.named
  have hlocks := B.notSynchronized
  subst hsz
  have hap := gw_self (sz := s.heap.size) hap0
  generalize hAe : gA 19 ad s.heap.size = A at hap ⊢
  have hA : ∀ q : Nat, s.heap.size ≤ q → A q := fun q h => by rw [← hAe]; exact Or.inr h
  have hS : va_S A s.heap s.heap [] := va_S.rf
  have hinX3 : ∀ w ∈ wsX30, w ∈ wsX3_told := by decide +kernel
  have hl := lv_entry ([.ref (ad 0), .int p1, .int p2]) (n := 3) (Nat.le_of_ble_eq_true rfl)
  rw [lg_entry_eq]
  generalize (lg_sl ([.ref (ad 0), .int p1, .int p2]) ++ List.replicate (3 - (lg_sl ([.ref (ad 0), .int p1, .int p2])).length) Slot.unset).toArray = ls at hl ⊢
  have hl : lv_has ls 3 [(0, .ref (ad 0)), (1, .int p1), (2, .int p2)] := hl
  obtain ⟨H, hH⟩ : ∃ H, H = s.heap := ⟨_, rfl⟩
  rw [← hH] at hP
  have hS : va_S A s.heap H [] := by rw [hH]; exact hS
  rw [← hH]
  generalize ([] : List Loc) = locs at hS ⊢
  refine lv_aload_n hx hb dX3_told_0 rfl (lv_at hl 0 rfl) ?_
  refine lv_aload_n hx hb dX3_told_1 rfl (lv_at hl 0 rfl) ?_
  refine lv_iload_n hx hb dX3_told_2 rfl (lv_at hl 1 rfl) ?_
  refine m_cVi (As := [.int p1]) (rest := [.ref (ad 0)]) ⟨hx, hb, hml, hown, hts⟩ (k_X3_noProcess l D cy ad S p1) (cwV 1 hts gX3_told_X3_noProcess rfl rfl rfl (by decide +kernel) ⟨Nat.le_of_ble_eq_true rfl, Nat.le_of_ble_eq_true rfl⟩) hK hap hA hP hS rfl hl.1 rfl (Nat.le_of_ble_eq_true rfl) dX3_told_3 ⟨Nat.zero_le _, Nat.zero_le _⟩ (fun H locs hP hS => ?_)
  obtain ⟨S1, eS1⟩ : ∃ z : Ms, z = (F_X3_noProcess S p1).1 := ⟨_, rfl⟩
  rw [← eS1] at hP
  have hok1 : okM N L b S1 := by rw [eS1]; exact ok_X3_noProcess hok
  refine lv_if_eq (tgt := 13) hx hb dX3_told_6 (by decide) (fun c_6 => ?_) (fun c_6 => ?_)
  · skip
    refine lv_iload_n hx hb dX3_told_13 rfl (lv_at hl 2 rfl) ?_
    refine lv_if_lt (tgt := 23) hx hb dX3_told_14 (by decide) (fun c_14 => ?_) (fun c_14 => ?_)
    · skip
      refine lv_iconst (v := 2) hx hb dX3_told_23 (by decide) ?_
      refine lv_goto (tgt := 28) hx hb dX3_told_24 (by decide) ?_
      refine m_pO (ty := .int) (v := 2) hx hb hts hinX3 hown hK hap hP hS 0 (by decide) (hts (.fieldLink RX3 69 "FeedbackQueuesModel" "thrown" "I") (by decide +kernel)) rfl (by decide +kernel) rfl rfl (mOf_0 ad S1 _) (Nat.le_of_ble_eq_true rfl) dX3_told_28 (fun H locs hP hS => ?_)
      obtain ⟨S2, eS2⟩ : ∃ z : Ms, z = mP S1 0 2 := ⟨_, rfl⟩
      rw [← eS2] at hP
      have hok2 : okM N L b S2 := by rw [eS2]; exact okM_mP hok1 (by decide)
      refine lv_aload_n hx hb dX3_told_31 rfl (lv_at hl 0 rfl) ?_
      refine m_gO hx hb hts hinX3 hown hK hP 0 (by decide) (hts (.fieldLink RX3 69 "FeedbackQueuesModel" "thrown" "I") (by decide +kernel)) rfl dX3_told_32 ?_
      rw [show mO S2 0 = 2 from by rw [eS2]; rfl]
      refine lv_if_le (tgt := 40) hx hb dX3_told_35 (by decide) (fun c_35 => ?_) (fun c_35 => ?_)
      · exact absurd c_35 (by decide)
      refine lv_iconst (v := 0) hx hb dX3_told_38 (by decide) ?_
      have hF : F_X3_told S p1 p2 = (S2, 0) := by subst eS2 eS1; simp only [F_X3_told, if_pos c_6, if_pos c_14]
      rw [hF]
      exact m_iret hx hb hr hlocks hP hS dX3_told_39 (fun _ h => h)
    · skip
      refine lv_iload_n hx hb dX3_told_17 rfl (lv_at hl 2 rfl) ?_
      refine lv_bipush (v := 9) hx hb dX3_told_18 (by decide) ?_
      refine lv_icmp_le (tgt := 27) hx hb dX3_told_20 (by decide) (fun c_20 => ?_) (fun c_20 => ?_)
      · skip
        refine lv_iconst (v := 0) hx hb dX3_told_27 (by decide) ?_
        refine m_pO (ty := .int) (v := 0) hx hb hts hinX3 hown hK hap hP hS 0 (by decide) (hts (.fieldLink RX3 69 "FeedbackQueuesModel" "thrown" "I") (by decide +kernel)) rfl (by decide +kernel) rfl rfl (mOf_0 ad S1 _) (Nat.le_of_ble_eq_true rfl) dX3_told_28 (fun H locs hP hS => ?_)
        obtain ⟨S3, eS3⟩ : ∃ z : Ms, z = mP S1 0 0 := ⟨_, rfl⟩
        rw [← eS3] at hP
        have hok3 : okM N L b S3 := by rw [eS3]; exact okM_mP hok1 (by decide)
        refine lv_aload_n hx hb dX3_told_31 rfl (lv_at hl 0 rfl) ?_
        refine m_gO hx hb hts hinX3 hown hK hP 0 (by decide) (hts (.fieldLink RX3 69 "FeedbackQueuesModel" "thrown" "I") (by decide +kernel)) rfl dX3_told_32 ?_
        rw [show mO S3 0 = 0 from by rw [eS3]; rfl]
        refine lv_if_le (tgt := 40) hx hb dX3_told_35 (by decide) (fun c_35 => ?_) (fun c_35 => ?_)
        rotate_left
        · exact absurd c_35 (by decide)
        refine lv_iload_n hx hb dX3_told_40 rfl (lv_at hl 2 rfl) ?_
        refine lv_if_ne (tgt := 53) hx hb dX3_told_41 (by decide) (fun c_41 => ?_) (fun c_41 => ?_)
        · skip
          refine lv_iload_n hx hb dX3_told_53 rfl (lv_at hl 2 rfl) ?_
          refine lv_iconst (v := 1) hx hb dX3_told_54 (by decide) ?_
          refine lv_icmp_ne (tgt := 67) hx hb dX3_told_55 (by decide) (fun c_55 => ?_) (fun c_55 => ?_)
          · skip
            refine lv_aload_n hx hb dX3_told_67 rfl (lv_at hl 0 rfl) ?_
            refine m_gO hx hb hts hinX3 hown hK hP 19 (by decide) (hts (.fieldLink RX3 50 "FeedbackQueuesModel" "counts" "[I") (by decide +kernel)) rfl dX3_told_68 ?_
            refine lv_bipush (v := 10) hx hb dX3_told_71 (by decide) ?_
            refine lv_iload_n hx hb dX3_told_73 rfl (lv_at hl 1 rfl) ?_
            refine lv_imul hx hb dX3_told_74 ?_
            refine lv_iload_n hx hb dX3_told_75 rfl (lv_at hl 2 rfl) ?_
            refine lv_iadd hx hb dX3_told_76 ?_
            refine m_iA (d := 14) (a := 19) (n := 160) (k := 10 * (p1).toNatClampNeg + (p2).toNatClampNeg) hx hb hK hP (by decide) rfl rfl (told_ix (noP_ix hok c_6) c_14 c_20) dX3_told_77 ?_
            have hF : F_X3_told S p1 p2 = (S3, mA S3 19 (10 * (p1).toNatClampNeg + (p2).toNatClampNeg)) := by subst eS3 eS1; simp only [F_X3_told, if_pos c_6, if_neg c_14, if_pos c_20, if_neg c_41, if_neg c_55]
            rw [hF]
            exact m_iret hx hb hr hlocks hP hS dX3_told_78 (fun _ h => h)
          · skip
            refine lv_aload_n hx hb dX3_told_58 rfl (lv_at hl 0 rfl) ?_
            refine m_gO hx hb hts hinX3 hown hK hP 12 (by decide) (hts (.fieldLink RX3 28 "FeedbackQueuesModel" "level" "[I") (by decide +kernel)) rfl dX3_told_59 ?_
            refine lv_iload_n hx hb dX3_told_62 rfl (lv_at hl 1 rfl) ?_
            refine m_iA (d := 7) (a := 12) (n := 16) (k := (p1).toNatClampNeg) hx hb hK hP (by decide) rfl rfl (noP_ix hok c_6) dX3_told_63 ?_
            refine lv_goto (tgt := 78) hx hb dX3_told_64 (by decide) ?_
            have hF : F_X3_told S p1 p2 = (S3, mA S3 12 ((p1).toNatClampNeg)) := by subst eS3 eS1; simp only [F_X3_told, if_pos c_6, if_neg c_14, if_pos c_20, if_neg c_41, if_pos c_55]
            rw [hF]
            exact m_iret hx hb hr hlocks hP hS dX3_told_78 (fun _ h => h)
        · skip
          refine lv_aload_n hx hb dX3_told_44 rfl (lv_at hl 0 rfl) ?_
          refine m_gO hx hb hts hinX3 hown hK hP 11 (by decide) (hts (.fieldLink RX3 25 "FeedbackQueuesModel" "state" "[I") (by decide +kernel)) rfl dX3_told_45 ?_
          refine lv_iload_n hx hb dX3_told_48 rfl (lv_at hl 1 rfl) ?_
          refine m_iA (d := 6) (a := 11) (n := 16) (k := (p1).toNatClampNeg) hx hb hK hP (by decide) rfl rfl (noP_ix hok c_6) dX3_told_49 ?_
          refine lv_goto (tgt := 78) hx hb dX3_told_50 (by decide) ?_
          have hF : F_X3_told S p1 p2 = (S3, mA S3 11 ((p1).toNatClampNeg)) := by subst eS3 eS1; simp only [F_X3_told, if_pos c_6, if_neg c_14, if_pos c_20, if_pos c_41]
          rw [hF]
          exact m_iret hx hb hr hlocks hP hS dX3_told_78 (fun _ h => h)
      · skip
        refine lv_iconst (v := 2) hx hb dX3_told_23 (by decide) ?_
        refine lv_goto (tgt := 28) hx hb dX3_told_24 (by decide) ?_
        refine m_pO (ty := .int) (v := 2) hx hb hts hinX3 hown hK hap hP hS 0 (by decide) (hts (.fieldLink RX3 69 "FeedbackQueuesModel" "thrown" "I") (by decide +kernel)) rfl (by decide +kernel) rfl rfl (mOf_0 ad S1 _) (Nat.le_of_ble_eq_true rfl) dX3_told_28 (fun H locs hP hS => ?_)
        obtain ⟨S4, eS4⟩ : ∃ z : Ms, z = mP S1 0 2 := ⟨_, rfl⟩
        rw [← eS4] at hP
        have hok4 : okM N L b S4 := by rw [eS4]; exact okM_mP hok1 (by decide)
        refine lv_aload_n hx hb dX3_told_31 rfl (lv_at hl 0 rfl) ?_
        refine m_gO hx hb hts hinX3 hown hK hP 0 (by decide) (hts (.fieldLink RX3 69 "FeedbackQueuesModel" "thrown" "I") (by decide +kernel)) rfl dX3_told_32 ?_
        rw [show mO S4 0 = 2 from by rw [eS4]; rfl]
        refine lv_if_le (tgt := 40) hx hb dX3_told_35 (by decide) (fun c_35 => ?_) (fun c_35 => ?_)
        · exact absurd c_35 (by decide)
        refine lv_iconst (v := 0) hx hb dX3_told_38 (by decide) ?_
        have hF : F_X3_told S p1 p2 = (S4, 0) := by subst eS4 eS1; simp only [F_X3_told, if_pos c_6, if_neg c_14, if_neg c_20]
        rw [hF]
        exact m_iret hx hb hr hlocks hP hS dX3_told_39 (fun _ h => h)
  · skip
    refine lv_iconst (v := 1) hx hb dX3_told_9 (by decide) ?_
    refine lv_goto (tgt := 28) hx hb dX3_told_10 (by decide) ?_
    refine m_pO (ty := .int) (v := 1) hx hb hts hinX3 hown hK hap hP hS 0 (by decide) (hts (.fieldLink RX3 69 "FeedbackQueuesModel" "thrown" "I") (by decide +kernel)) rfl (by decide +kernel) rfl rfl (mOf_0 ad S1 _) (Nat.le_of_ble_eq_true rfl) dX3_told_28 (fun H locs hP hS => ?_)
    obtain ⟨S5, eS5⟩ : ∃ z : Ms, z = mP S1 0 1 := ⟨_, rfl⟩
    rw [← eS5] at hP
    have hok5 : okM N L b S5 := by rw [eS5]; exact okM_mP hok1 (by decide)
    refine lv_aload_n hx hb dX3_told_31 rfl (lv_at hl 0 rfl) ?_
    refine m_gO hx hb hts hinX3 hown hK hP 0 (by decide) (hts (.fieldLink RX3 69 "FeedbackQueuesModel" "thrown" "I") (by decide +kernel)) rfl dX3_told_32 ?_
    rw [show mO S5 0 = 1 from by rw [eS5]; rfl]
    refine lv_if_le (tgt := 40) hx hb dX3_told_35 (by decide) (fun c_35 => ?_) (fun c_35 => ?_)
    · exact absurd c_35 (by decide)
    refine lv_iconst (v := 0) hx hb dX3_told_38 (by decide) ?_
    have hF : F_X3_told S p1 p2 = (S5, 0) := by subst eS5 eS1; simp only [F_X3_told, if_neg c_6]
    rw [hF]
    exact m_iret hx hb hr hlocks hP hS dX3_told_39 (fun _ h => h)
set_option maxHeartbeats 4000000 in
set_option maxRecDepth 100000 in
theorem k_X3_queued (l : Launch) (D : va_G) (cy : Nat → ClassId) (ad : Nat → Nat) (S : Ms) (p1 : Int32) (p2 : Int32) {N L b : Nat} (hok : okM N L b S)  : mMi l yX3_queued wsX3_queued { frames := 0, cells := 0, slots := 0, locals := 0 } D cy ad [.ref (ad 0), .int p1, .int p2] S (F_X3_queued S p1 p2).1 (F_X3_queued S p1 p2).2 := by
  intro sz
  refine Met.ofW (cc := cX3_queued) (maxL := 3) (ret := (some .int)) (by decide) rfl ?_
  intro p e s m args below meth c s₁ B hml hv
  obtain ⟨rfl, hsz, hP, hK, hap0⟩ := hv
  have hx := B.exec
  have hb := B.bytes
  have hr := B.returns
  have hts := atoms_spec (ws := wsX3_queued) B.pre
  have hown : s.vm.findClass RX3 = some m.cls := findClass_of_methodNamed B.named
  have hlocks := B.notSynchronized
  subst hsz
  have hap := gw_self (sz := s.heap.size) hap0
  generalize hAe : gA 19 ad s.heap.size = A at hap ⊢
  have hA : ∀ q : Nat, s.heap.size ≤ q → A q := fun q h => by rw [← hAe]; exact Or.inr h
  have hS : va_S A s.heap s.heap [] := va_S.rf
  have hinX3 : ∀ w ∈ wsX30, w ∈ wsX3_queued := by decide +kernel
  have hl := lv_entry ([.ref (ad 0), .int p1, .int p2]) (n := 3) (Nat.le_of_ble_eq_true rfl)
  rw [lg_entry_eq]
  generalize (lg_sl ([.ref (ad 0), .int p1, .int p2]) ++ List.replicate (3 - (lg_sl ([.ref (ad 0), .int p1, .int p2])).length) Slot.unset).toArray = ls at hl ⊢
  have hl : lv_has ls 3 [(0, .ref (ad 0)), (1, .int p1), (2, .int p2)] := hl
  obtain ⟨H, hH⟩ : ∃ H, H = s.heap := ⟨_, rfl⟩
  rw [← hH] at hP
  have hS : va_S A s.heap H [] := by rw [hH]; exact hS
  rw [← hH]
  generalize ([] : List Loc) = locs at hS ⊢
  refine lv_aload_n hx hb dX3_queued_0 rfl (lv_at hl 0 rfl) ?_
  refine lv_iload_n hx hb dX3_queued_1 rfl (lv_at hl 1 rfl) ?_
  refine lv_if_lt (tgt := 13) hx hb dX3_queued_2 (by decide) (fun c_2 => ?_) (fun c_2 => ?_)
  · skip
    refine lv_iconst (v := 1) hx hb dX3_queued_13 (by decide) ?_
    refine lv_goto (tgt := 18) hx hb dX3_queued_14 (by decide) ?_
    refine m_pO (ty := .int) (v := 1) hx hb hts hinX3 hown hK hap hP hS 0 (by decide) (hts (.fieldLink RX3 69 "FeedbackQueuesModel" "thrown" "I") (by decide +kernel)) rfl (by decide +kernel) rfl rfl (mOf_0 ad S _) (Nat.le_of_ble_eq_true rfl) dX3_queued_18 (fun H locs hP hS => ?_)
    obtain ⟨S1, eS1⟩ : ∃ z : Ms, z = mP S 0 1 := ⟨_, rfl⟩
    rw [← eS1] at hP
    have hok1 : okM N L b S1 := by rw [eS1]; exact okM_mP hok (by decide)
    refine lv_aload_n hx hb dX3_queued_21 rfl (lv_at hl 0 rfl) ?_
    refine m_gO hx hb hts hinX3 hown hK hP 0 (by decide) (hts (.fieldLink RX3 69 "FeedbackQueuesModel" "thrown" "I") (by decide +kernel)) rfl dX3_queued_22 ?_
    rw [show mO S1 0 = 1 from by rw [eS1]; rfl]
    refine lv_if_le (tgt := 30) hx hb dX3_queued_25 (by decide) (fun c_25 => ?_) (fun c_25 => ?_)
    · exact absurd c_25 (by decide)
    refine lv_iconst (v := 0) hx hb dX3_queued_28 (by decide) ?_
    have hF : F_X3_queued S p1 p2 = (S1, 0) := by subst eS1; simp only [F_X3_queued, if_pos c_2]
    rw [hF]
    exact m_iret hx hb hr hlocks hP hS dX3_queued_29 (fun _ h => h)
  · skip
    refine lv_iload_n hx hb dX3_queued_5 rfl (lv_at hl 1 rfl) ?_
    refine lv_aload_n hx hb dX3_queued_6 rfl (lv_at hl 0 rfl) ?_
    refine m_gO hx hb hts hinX3 hown hK hP 1 (by decide) (hts (.fieldLink RX3 73 "FeedbackQueuesModel" "levels" "I") (by decide +kernel)) rfl dX3_queued_7 ?_
    refine lv_icmp_lt (tgt := 17) hx hb dX3_queued_10 (by decide) (fun c_10 => ?_) (fun c_10 => ?_)
    · skip
      refine lv_iconst (v := 0) hx hb dX3_queued_17 (by decide) ?_
      refine m_pO (ty := .int) (v := 0) hx hb hts hinX3 hown hK hap hP hS 0 (by decide) (hts (.fieldLink RX3 69 "FeedbackQueuesModel" "thrown" "I") (by decide +kernel)) rfl (by decide +kernel) rfl rfl (mOf_0 ad S _) (Nat.le_of_ble_eq_true rfl) dX3_queued_18 (fun H locs hP hS => ?_)
      obtain ⟨S2, eS2⟩ : ∃ z : Ms, z = mP S 0 0 := ⟨_, rfl⟩
      rw [← eS2] at hP
      have hok2 : okM N L b S2 := by rw [eS2]; exact okM_mP hok (by decide)
      refine lv_aload_n hx hb dX3_queued_21 rfl (lv_at hl 0 rfl) ?_
      refine m_gO hx hb hts hinX3 hown hK hP 0 (by decide) (hts (.fieldLink RX3 69 "FeedbackQueuesModel" "thrown" "I") (by decide +kernel)) rfl dX3_queued_22 ?_
      rw [show mO S2 0 = 0 from by rw [eS2]; rfl]
      refine lv_if_le (tgt := 30) hx hb dX3_queued_25 (by decide) (fun c_25 => ?_) (fun c_25 => ?_)
      rotate_left
      · exact absurd c_25 (by decide)
      refine lv_iload_n hx hb dX3_queued_30 rfl (lv_at hl 2 rfl) ?_
      refine lv_if_lt (tgt := 44) hx hb dX3_queued_31 (by decide) (fun c_31 => ?_) (fun c_31 => ?_)
      · skip
        refine lv_iconst (v := (-1)) hx hb dX3_queued_44 (by decide) ?_
        refine lv_goto (tgt := 59) hx hb dX3_queued_45 (by decide) ?_
        have hF : F_X3_queued S p1 p2 = (S2, (-1)) := by subst eS2; simp only [F_X3_queued, if_neg c_2, if_pos c_10, if_pos c_31]
        rw [hF]
        exact m_iret hx hb hr hlocks hP hS dX3_queued_59 (fun _ h => h)
      · skip
        refine lv_iload_n hx hb dX3_queued_34 rfl (lv_at hl 2 rfl) ?_
        refine lv_aload_n hx hb dX3_queued_35 rfl (lv_at hl 0 rfl) ?_
        refine m_gO hx hb hts hinX3 hown hK hP 21 (by decide) (hts (.fieldLink RX3 56 "FeedbackQueuesModel" "size" "[I") (by decide +kernel)) rfl dX3_queued_36 ?_
        refine lv_iload_n hx hb dX3_queued_39 rfl (lv_at hl 1 rfl) ?_
        refine m_iA (d := 16) (a := 21) (n := 6) (k := (p1).toNatClampNeg) hx hb hK hP (by decide) rfl rfl (okM_l1 hok c_2 c_10) dX3_queued_40 ?_
        refine lv_icmp_lt (tgt := 48) hx hb dX3_queued_41 (by decide) (fun c_41 => ?_) (fun c_41 => ?_)
        · skip
          refine lv_aload_n hx hb dX3_queued_48 rfl (lv_at hl 0 rfl) ?_
          refine m_gO hx hb hts hinX3 hown hK hP 20 (by decide) (hts (.fieldLink RX3 53 "FeedbackQueuesModel" "queue" "[I") (by decide +kernel)) rfl dX3_queued_49 ?_
          refine lv_bipush (v := 16) hx hb dX3_queued_52 (by decide) ?_
          refine lv_iload_n hx hb dX3_queued_54 rfl (lv_at hl 1 rfl) ?_
          refine lv_imul hx hb dX3_queued_55 ?_
          refine lv_iload_n hx hb dX3_queued_56 rfl (lv_at hl 2 rfl) ?_
          refine lv_iadd hx hb dX3_queued_57 ?_
          refine m_iA (d := 15) (a := 20) (n := 96) (k := 16 * (p1).toNatClampNeg + (p2).toNatClampNeg) hx hb hK hP (by decide) rfl rfl (okM_qx hok2 (okM_l1 hok c_2 c_10) c_31 c_41) dX3_queued_58 ?_
          have hF : F_X3_queued S p1 p2 = (S2, mA S2 20 (16 * (p1).toNatClampNeg + (p2).toNatClampNeg)) := by subst eS2; simp only [F_X3_queued, if_neg c_2, if_pos c_10, if_neg c_31, if_pos c_41]
          rw [hF]
          exact m_iret hx hb hr hlocks hP hS dX3_queued_59 (fun _ h => h)
        · skip
          refine lv_iconst (v := (-1)) hx hb dX3_queued_44 (by decide) ?_
          refine lv_goto (tgt := 59) hx hb dX3_queued_45 (by decide) ?_
          have hF : F_X3_queued S p1 p2 = (S2, (-1)) := by subst eS2; simp only [F_X3_queued, if_neg c_2, if_pos c_10, if_neg c_31, if_neg c_41]
          rw [hF]
          exact m_iret hx hb hr hlocks hP hS dX3_queued_59 (fun _ h => h)
    · skip
      refine lv_iconst (v := 1) hx hb dX3_queued_13 (by decide) ?_
      refine lv_goto (tgt := 18) hx hb dX3_queued_14 (by decide) ?_
      refine m_pO (ty := .int) (v := 1) hx hb hts hinX3 hown hK hap hP hS 0 (by decide) (hts (.fieldLink RX3 69 "FeedbackQueuesModel" "thrown" "I") (by decide +kernel)) rfl (by decide +kernel) rfl rfl (mOf_0 ad S _) (Nat.le_of_ble_eq_true rfl) dX3_queued_18 (fun H locs hP hS => ?_)
      obtain ⟨S3, eS3⟩ : ∃ z : Ms, z = mP S 0 1 := ⟨_, rfl⟩
      rw [← eS3] at hP
      have hok3 : okM N L b S3 := by rw [eS3]; exact okM_mP hok (by decide)
      refine lv_aload_n hx hb dX3_queued_21 rfl (lv_at hl 0 rfl) ?_
      refine m_gO hx hb hts hinX3 hown hK hP 0 (by decide) (hts (.fieldLink RX3 69 "FeedbackQueuesModel" "thrown" "I") (by decide +kernel)) rfl dX3_queued_22 ?_
      rw [show mO S3 0 = 1 from by rw [eS3]; rfl]
      refine lv_if_le (tgt := 30) hx hb dX3_queued_25 (by decide) (fun c_25 => ?_) (fun c_25 => ?_)
      · exact absurd c_25 (by decide)
      refine lv_iconst (v := 0) hx hb dX3_queued_28 (by decide) ?_
      have hF : F_X3_queued S p1 p2 = (S3, 0) := by subst eS3; simp only [F_X3_queued, if_neg c_2, if_neg c_10]
      rw [hF]
      exact m_iret hx hb hr hlocks hP hS dX3_queued_29 (fun _ h => h)
set_option maxHeartbeats 4000000 in
set_option maxRecDepth 100000 in
theorem k_X3_all (l : Launch) (D : va_G) (cy : Nat → ClassId) (ad : Nat → Nat) (S : Ms) (p1 : Int32)   : mMi l yX3_all wsX3_all { frames := 0, cells := 0, slots := 0, locals := 0 } D cy ad [.ref (ad 0), .int p1] S (F_X3_all S p1).1 (F_X3_all S p1).2 := by
  intro sz
  refine Met.ofW (cc := cX3_all) (maxL := 2) (ret := (some .int)) (by decide) rfl ?_
  intro p e s m args below meth c s₁ B hml hv
  obtain ⟨rfl, hsz, hP, hK, hap0⟩ := hv
  have hx := B.exec
  have hb := B.bytes
  have hr := B.returns
  have hts := atoms_spec (ws := wsX3_all) B.pre
  have hown : s.vm.findClass RX3 = some m.cls := findClass_of_methodNamed B.named
  have hlocks := B.notSynchronized
  subst hsz
  have hap := gw_self (sz := s.heap.size) hap0
  generalize hAe : gA 19 ad s.heap.size = A at hap ⊢
  have hA : ∀ q : Nat, s.heap.size ≤ q → A q := fun q h => by rw [← hAe]; exact Or.inr h
  have hS : va_S A s.heap s.heap [] := va_S.rf
  have hinX3 : ∀ w ∈ wsX30, w ∈ wsX3_all := by decide +kernel
  have hl := lv_entry ([.ref (ad 0), .int p1]) (n := 2) (Nat.le_of_ble_eq_true rfl)
  rw [lg_entry_eq]
  generalize (lg_sl ([.ref (ad 0), .int p1]) ++ List.replicate (2 - (lg_sl ([.ref (ad 0), .int p1])).length) Slot.unset).toArray = ls at hl ⊢
  have hl : lv_has ls 2 [(0, .ref (ad 0)), (1, .int p1)] := hl
  obtain ⟨H, hH⟩ : ∃ H, H = s.heap := ⟨_, rfl⟩
  rw [← hH] at hP
  have hS : va_S A s.heap H [] := by rw [hH]; exact hS
  rw [← hH]
  generalize ([] : List Loc) = locs at hS ⊢
  refine lv_aload_n hx hb dX3_all_0 rfl (lv_at hl 0 rfl) ?_
  refine lv_iload_n hx hb dX3_all_1 rfl (lv_at hl 1 rfl) ?_
  refine lv_if_lt (tgt := 10) hx hb dX3_all_2 (by decide) (fun c_2 => ?_) (fun c_2 => ?_)
  · skip
    refine lv_iconst (v := 1) hx hb dX3_all_10 (by decide) ?_
    refine lv_goto (tgt := 15) hx hb dX3_all_11 (by decide) ?_
    refine m_pO (ty := .int) (v := 1) hx hb hts hinX3 hown hK hap hP hS 0 (by decide) (hts (.fieldLink RX3 69 "FeedbackQueuesModel" "thrown" "I") (by decide +kernel)) rfl (by decide +kernel) rfl rfl (mOf_0 ad S _) (Nat.le_of_ble_eq_true rfl) dX3_all_15 (fun H locs hP hS => ?_)
    obtain ⟨S1, eS1⟩ : ∃ z : Ms, z = mP S 0 1 := ⟨_, rfl⟩
    rw [← eS1] at hP
    refine lv_aload_n hx hb dX3_all_18 rfl (lv_at hl 0 rfl) ?_
    refine m_gO hx hb hts hinX3 hown hK hP 0 (by decide) (hts (.fieldLink RX3 69 "FeedbackQueuesModel" "thrown" "I") (by decide +kernel)) rfl dX3_all_19 ?_
    rw [show mO S1 0 = 1 from by rw [eS1]; rfl]
    refine lv_if_le (tgt := 29) hx hb dX3_all_22 (by decide) (fun c_22 => ?_) (fun c_22 => ?_)
    · exact absurd c_22 (by decide)
    refine lv_iconst (v := 0) hx hb dX3_all_25 (by decide) ?_
    refine lv_goto (tgt := 35) hx hb dX3_all_26 (by decide) ?_
    have hF : F_X3_all S p1 = (S1, 0) := by subst eS1; simp only [F_X3_all, if_pos c_2]
    rw [hF]
    exact m_iret hx hb hr hlocks hP hS dX3_all_35 (fun _ h => h)
  · skip
    refine lv_iload_n hx hb dX3_all_5 rfl (lv_at hl 1 rfl) ?_
    refine lv_iconst (v := 3) hx hb dX3_all_6 (by decide) ?_
    refine lv_icmp_le (tgt := 14) hx hb dX3_all_7 (by decide) (fun c_7 => ?_) (fun c_7 => ?_)
    · skip
      refine lv_iconst (v := 0) hx hb dX3_all_14 (by decide) ?_
      refine m_pO (ty := .int) (v := 0) hx hb hts hinX3 hown hK hap hP hS 0 (by decide) (hts (.fieldLink RX3 69 "FeedbackQueuesModel" "thrown" "I") (by decide +kernel)) rfl (by decide +kernel) rfl rfl (mOf_0 ad S _) (Nat.le_of_ble_eq_true rfl) dX3_all_15 (fun H locs hP hS => ?_)
      obtain ⟨S2, eS2⟩ : ∃ z : Ms, z = mP S 0 0 := ⟨_, rfl⟩
      rw [← eS2] at hP
      refine lv_aload_n hx hb dX3_all_18 rfl (lv_at hl 0 rfl) ?_
      refine m_gO hx hb hts hinX3 hown hK hP 0 (by decide) (hts (.fieldLink RX3 69 "FeedbackQueuesModel" "thrown" "I") (by decide +kernel)) rfl dX3_all_19 ?_
      rw [show mO S2 0 = 0 from by rw [eS2]; rfl]
      refine lv_if_le (tgt := 29) hx hb dX3_all_22 (by decide) (fun c_22 => ?_) (fun c_22 => ?_)
      rotate_left
      · exact absurd c_22 (by decide)
      refine lv_aload_n hx hb dX3_all_29 rfl (lv_at hl 0 rfl) ?_
      refine m_gO hx hb hts hinX3 hown hK hP 22 (by decide) (hts (.fieldLink RX3 59 "FeedbackQueuesModel" "all" "[I") (by decide +kernel)) rfl dX3_all_30 ?_
      refine lv_iload_n hx hb dX3_all_33 rfl (lv_at hl 1 rfl) ?_
      refine m_iA (d := 17) (a := 22) (n := 4) (k := (p1).toNatClampNeg) hx hb hK hP (by decide) rfl rfl (all_ix c_2 c_7) dX3_all_34 ?_
      have hF : F_X3_all S p1 = (S2, mA S2 22 ((p1).toNatClampNeg)) := by subst eS2; simp only [F_X3_all, if_neg c_2, if_pos c_7]
      rw [hF]
      exact m_iret hx hb hr hlocks hP hS dX3_all_35 (fun _ h => h)
    · skip
      refine lv_iconst (v := 1) hx hb dX3_all_10 (by decide) ?_
      refine lv_goto (tgt := 15) hx hb dX3_all_11 (by decide) ?_
      refine m_pO (ty := .int) (v := 1) hx hb hts hinX3 hown hK hap hP hS 0 (by decide) (hts (.fieldLink RX3 69 "FeedbackQueuesModel" "thrown" "I") (by decide +kernel)) rfl (by decide +kernel) rfl rfl (mOf_0 ad S _) (Nat.le_of_ble_eq_true rfl) dX3_all_15 (fun H locs hP hS => ?_)
      obtain ⟨S3, eS3⟩ : ∃ z : Ms, z = mP S 0 1 := ⟨_, rfl⟩
      rw [← eS3] at hP
      refine lv_aload_n hx hb dX3_all_18 rfl (lv_at hl 0 rfl) ?_
      refine m_gO hx hb hts hinX3 hown hK hP 0 (by decide) (hts (.fieldLink RX3 69 "FeedbackQueuesModel" "thrown" "I") (by decide +kernel)) rfl dX3_all_19 ?_
      rw [show mO S3 0 = 1 from by rw [eS3]; rfl]
      refine lv_if_le (tgt := 29) hx hb dX3_all_22 (by decide) (fun c_22 => ?_) (fun c_22 => ?_)
      · exact absurd c_22 (by decide)
      refine lv_iconst (v := 0) hx hb dX3_all_25 (by decide) ?_
      refine lv_goto (tgt := 35) hx hb dX3_all_26 (by decide) ?_
      have hF : F_X3_all S p1 = (S3, 0) := by subst eS3; simp only [F_X3_all, if_neg c_2, if_neg c_7]
      rw [hF]
      exact m_iret hx hb hr hlocks hP hS dX3_all_35 (fun _ h => h)
set_option maxHeartbeats 4000000 in
set_option maxRecDepth 100000 in
theorem k_X3_switched (l : Launch) (D : va_G) (cy : Nat → ClassId) (ad : Nat → Nat) (S : Ms) (p1 : Int32)   : mMi l yX3_switched wsX3_switched { frames := 0, cells := 0, slots := 0, locals := 0 } D cy ad [.ref (ad 0), .int p1] S (F_X3_switched S p1).1 (F_X3_switched S p1).2 := by
  intro sz
  refine Met.ofW (cc := cX3_switched) (maxL := 2) (ret := (some .int)) (by decide) rfl ?_
  intro p e s m args below meth c s₁ B hml hv
  obtain ⟨rfl, hsz, hP, hK, hap0⟩ := hv
  have hx := B.exec
  have hb := B.bytes
  have hr := B.returns
  have hts := atoms_spec (ws := wsX3_switched) B.pre
  have hown : s.vm.findClass RX3 = some m.cls := findClass_of_methodNamed B.named
  have hlocks := B.notSynchronized
  subst hsz
  have hap := gw_self (sz := s.heap.size) hap0
  generalize hAe : gA 19 ad s.heap.size = A at hap ⊢
  have hA : ∀ q : Nat, s.heap.size ≤ q → A q := fun q h => by rw [← hAe]; exact Or.inr h
  have hS : va_S A s.heap s.heap [] := va_S.rf
  have hinX3 : ∀ w ∈ wsX30, w ∈ wsX3_switched := by decide +kernel
  have hl := lv_entry ([.ref (ad 0), .int p1]) (n := 2) (Nat.le_of_ble_eq_true rfl)
  rw [lg_entry_eq]
  generalize (lg_sl ([.ref (ad 0), .int p1]) ++ List.replicate (2 - (lg_sl ([.ref (ad 0), .int p1])).length) Slot.unset).toArray = ls at hl ⊢
  have hl : lv_has ls 2 [(0, .ref (ad 0)), (1, .int p1)] := hl
  obtain ⟨H, hH⟩ : ∃ H, H = s.heap := ⟨_, rfl⟩
  rw [← hH] at hP
  have hS : va_S A s.heap H [] := by rw [hH]; exact hS
  rw [← hH]
  generalize ([] : List Loc) = locs at hS ⊢
  refine lv_aload_n hx hb dX3_switched_0 rfl (lv_at hl 0 rfl) ?_
  refine lv_iload_n hx hb dX3_switched_1 rfl (lv_at hl 1 rfl) ?_
  refine lv_if_lt (tgt := 22) hx hb dX3_switched_2 (by decide) (fun c_2 => ?_) (fun c_2 => ?_)
  · skip
    refine lv_iconst (v := 1) hx hb dX3_switched_22 (by decide) ?_
    refine lv_goto (tgt := 27) hx hb dX3_switched_23 (by decide) ?_
    refine m_pO (ty := .int) (v := 1) hx hb hts hinX3 hown hK hap hP hS 0 (by decide) (hts (.fieldLink RX3 69 "FeedbackQueuesModel" "thrown" "I") (by decide +kernel)) rfl (by decide +kernel) rfl rfl (mOf_0 ad S _) (Nat.le_of_ble_eq_true rfl) dX3_switched_27 (fun H locs hP hS => ?_)
    obtain ⟨S1, eS1⟩ : ∃ z : Ms, z = mP S 0 1 := ⟨_, rfl⟩
    rw [← eS1] at hP
    refine lv_aload_n hx hb dX3_switched_30 rfl (lv_at hl 0 rfl) ?_
    refine m_gO hx hb hts hinX3 hown hK hP 0 (by decide) (hts (.fieldLink RX3 69 "FeedbackQueuesModel" "thrown" "I") (by decide +kernel)) rfl dX3_switched_31 ?_
    rw [show mO S1 0 = 1 from by rw [eS1]; rfl]
    refine lv_if_le (tgt := 41) hx hb dX3_switched_34 (by decide) (fun c_34 => ?_) (fun c_34 => ?_)
    · exact absurd c_34 (by decide)
    refine lv_iconst (v := 0) hx hb dX3_switched_37 (by decide) ?_
    refine lv_goto (tgt := 47) hx hb dX3_switched_38 (by decide) ?_
    have hF : F_X3_switched S p1 = (S1, 0) := by subst eS1; simp only [F_X3_switched, if_pos c_2]
    rw [hF]
    exact m_iret hx hb hr hlocks hP hS dX3_switched_47 (fun _ h => h)
  · skip
    refine lv_iload_n hx hb dX3_switched_5 rfl (lv_at hl 1 rfl) ?_
    refine lv_aload_n hx hb dX3_switched_6 rfl (lv_at hl 0 rfl) ?_
    refine m_gO hx hb hts hinX3 hown hK hP 22 (by decide) (hts (.fieldLink RX3 59 "FeedbackQueuesModel" "all" "[I") (by decide +kernel)) rfl dX3_switched_7 ?_
    refine lv_iconst (v := 0) hx hb dX3_switched_10 (by decide) ?_
    refine m_iA (d := 17) (a := 22) (n := 4) (k := 0) hx hb hK hP (by decide) rfl rfl (ix_lit (by decide) (by omega) (by omega)) dX3_switched_11 ?_
    refine lv_icmp_ge (tgt := 22) hx hb dX3_switched_12 (by decide) (fun c_12 => ?_) (fun c_12 => ?_)
    · skip
      refine lv_iconst (v := 1) hx hb dX3_switched_22 (by decide) ?_
      refine lv_goto (tgt := 27) hx hb dX3_switched_23 (by decide) ?_
      refine m_pO (ty := .int) (v := 1) hx hb hts hinX3 hown hK hap hP hS 0 (by decide) (hts (.fieldLink RX3 69 "FeedbackQueuesModel" "thrown" "I") (by decide +kernel)) rfl (by decide +kernel) rfl rfl (mOf_0 ad S _) (Nat.le_of_ble_eq_true rfl) dX3_switched_27 (fun H locs hP hS => ?_)
      obtain ⟨S2, eS2⟩ : ∃ z : Ms, z = mP S 0 1 := ⟨_, rfl⟩
      rw [← eS2] at hP
      refine lv_aload_n hx hb dX3_switched_30 rfl (lv_at hl 0 rfl) ?_
      refine m_gO hx hb hts hinX3 hown hK hP 0 (by decide) (hts (.fieldLink RX3 69 "FeedbackQueuesModel" "thrown" "I") (by decide +kernel)) rfl dX3_switched_31 ?_
      rw [show mO S2 0 = 1 from by rw [eS2]; rfl]
      refine lv_if_le (tgt := 41) hx hb dX3_switched_34 (by decide) (fun c_34 => ?_) (fun c_34 => ?_)
      · exact absurd c_34 (by decide)
      refine lv_iconst (v := 0) hx hb dX3_switched_37 (by decide) ?_
      refine lv_goto (tgt := 47) hx hb dX3_switched_38 (by decide) ?_
      have hF : F_X3_switched S p1 = (S2, 0) := by subst eS2; simp only [F_X3_switched, if_neg c_2, if_pos c_12]
      rw [hF]
      exact m_iret hx hb hr hlocks hP hS dX3_switched_47 (fun _ h => h)
    · skip
      refine lv_iload_n hx hb dX3_switched_15 rfl (lv_at hl 1 rfl) ?_
      refine lv_sipush (v := 400) hx hb dX3_switched_16 (by decide) ?_
      refine lv_icmp_lt (tgt := 26) hx hb dX3_switched_19 (by decide) (fun c_19 => ?_) (fun c_19 => ?_)
      · skip
        refine lv_iconst (v := 0) hx hb dX3_switched_26 (by decide) ?_
        refine m_pO (ty := .int) (v := 0) hx hb hts hinX3 hown hK hap hP hS 0 (by decide) (hts (.fieldLink RX3 69 "FeedbackQueuesModel" "thrown" "I") (by decide +kernel)) rfl (by decide +kernel) rfl rfl (mOf_0 ad S _) (Nat.le_of_ble_eq_true rfl) dX3_switched_27 (fun H locs hP hS => ?_)
        obtain ⟨S3, eS3⟩ : ∃ z : Ms, z = mP S 0 0 := ⟨_, rfl⟩
        rw [← eS3] at hP
        refine lv_aload_n hx hb dX3_switched_30 rfl (lv_at hl 0 rfl) ?_
        refine m_gO hx hb hts hinX3 hown hK hP 0 (by decide) (hts (.fieldLink RX3 69 "FeedbackQueuesModel" "thrown" "I") (by decide +kernel)) rfl dX3_switched_31 ?_
        rw [show mO S3 0 = 0 from by rw [eS3]; rfl]
        refine lv_if_le (tgt := 41) hx hb dX3_switched_34 (by decide) (fun c_34 => ?_) (fun c_34 => ?_)
        rotate_left
        · exact absurd c_34 (by decide)
        refine lv_aload_n hx hb dX3_switched_41 rfl (lv_at hl 0 rfl) ?_
        refine m_gO hx hb hts hinX3 hown hK hP 23 (by decide) (hts (.fieldLink RX3 62 "FeedbackQueuesModel" "switches" "[I") (by decide +kernel)) rfl dX3_switched_42 ?_
        refine lv_iload_n hx hb dX3_switched_45 rfl (lv_at hl 1 rfl) ?_
        refine m_iA (d := 18) (a := 23) (n := 400) (k := (p1).toNatClampNeg) hx hb hK hP (by decide) rfl rfl (sw_ix c_2 c_19) dX3_switched_46 ?_
        have hF : F_X3_switched S p1 = (S3, mA S3 23 ((p1).toNatClampNeg)) := by subst eS3; simp only [F_X3_switched, if_neg c_2, if_neg c_12, if_pos c_19]
        rw [hF]
        exact m_iret hx hb hr hlocks hP hS dX3_switched_47 (fun _ h => h)
      · skip
        refine lv_iconst (v := 1) hx hb dX3_switched_22 (by decide) ?_
        refine lv_goto (tgt := 27) hx hb dX3_switched_23 (by decide) ?_
        refine m_pO (ty := .int) (v := 1) hx hb hts hinX3 hown hK hap hP hS 0 (by decide) (hts (.fieldLink RX3 69 "FeedbackQueuesModel" "thrown" "I") (by decide +kernel)) rfl (by decide +kernel) rfl rfl (mOf_0 ad S _) (Nat.le_of_ble_eq_true rfl) dX3_switched_27 (fun H locs hP hS => ?_)
        obtain ⟨S4, eS4⟩ : ∃ z : Ms, z = mP S 0 1 := ⟨_, rfl⟩
        rw [← eS4] at hP
        refine lv_aload_n hx hb dX3_switched_30 rfl (lv_at hl 0 rfl) ?_
        refine m_gO hx hb hts hinX3 hown hK hP 0 (by decide) (hts (.fieldLink RX3 69 "FeedbackQueuesModel" "thrown" "I") (by decide +kernel)) rfl dX3_switched_31 ?_
        rw [show mO S4 0 = 1 from by rw [eS4]; rfl]
        refine lv_if_le (tgt := 41) hx hb dX3_switched_34 (by decide) (fun c_34 => ?_) (fun c_34 => ?_)
        · exact absurd c_34 (by decide)
        refine lv_iconst (v := 0) hx hb dX3_switched_37 (by decide) ?_
        refine lv_goto (tgt := 47) hx hb dX3_switched_38 (by decide) ?_
        have hF : F_X3_switched S p1 = (S4, 0) := by subst eS4; simp only [F_X3_switched, if_neg c_2, if_neg c_12, if_neg c_19]
        rw [hF]
        exact m_iret hx hb hr hlocks hP hS dX3_switched_47 (fun _ h => h)
set_option maxHeartbeats 4000000 in
set_option maxRecDepth 100000 in
theorem k_X3_count (l : Launch) (D : va_G) (cy : Nat → ClassId) (ad : Nat → Nat) (S : Ms)  {N L b : Nat} (hok : okM N L b S)  : mMv l yX3_count wsX3_count { frames := 0, cells := 0, slots := 0, locals := 0 } D cy ad [.ref (ad 0)] S (F_X3_count S ) := by
  intro sz
  refine Met.ofW (cc := cX3_count) (maxL := 2) (ret := none) (by decide) rfl ?_
  intro p e s m args below meth c s₁ B hml hv
  obtain ⟨rfl, hsz, hP, hK, hap0⟩ := hv
  have hx := B.exec
  have hb := B.bytes
  have hr := B.returns
  have hts := atoms_spec (ws := wsX3_count) B.pre
  have hown : s.vm.findClass RX3 = some m.cls := findClass_of_methodNamed B.named
  have hlocks := B.notSynchronized
  subst hsz
  have hap := gw_self (sz := s.heap.size) hap0
  generalize hAe : gA 19 ad s.heap.size = A at hap ⊢
  have hA : ∀ q : Nat, s.heap.size ≤ q → A q := fun q h => by rw [← hAe]; exact Or.inr h
  have hS : va_S A s.heap s.heap [] := va_S.rf
  have hinX3 : ∀ w ∈ wsX30, w ∈ wsX3_count := by decide +kernel
  have hl := lv_entry ([.ref (ad 0)]) (n := 2) (Nat.le_of_ble_eq_true rfl)
  rw [lg_entry_eq]
  generalize (lg_sl ([.ref (ad 0)]) ++ List.replicate (2 - (lg_sl ([.ref (ad 0)])).length) Slot.unset).toArray = ls at hl ⊢
  have hl : lv_has ls 2 [(0, .ref (ad 0))] := hl
  obtain ⟨H, hH⟩ : ∃ H, H = s.heap := ⟨_, rfl⟩
  rw [← hH] at hP
  have hS : va_S A s.heap H [] := by rw [hH]; exact hS
  rw [← hH]
  generalize ([] : List Loc) = locs at hS ⊢
  refine lv_iconst (v := 0) hx hb dX3_count_0 (by decide) ?_
  refine lv_istore_n (lv' := [(1, .int 0), (0, .ref (ad 0))]) hx hb dX3_count_1 rfl hl (by decide) rfl (fun ls hl => ?_)
  have hNe : (mO S 5).toNatClampNeg = N := okM_N hok
  have hN16 : N ≤ 16 := hok.2.2.1
  have lp_2 : ∀ (Q : State → Prop) (n t : Nat) (Z : Ms) (H : Heap) (locs : List Loc) (ls : Array Slot), t + n = (mO S 5).toNatClampNeg → okM N L b Z → va_P D vwCl (mwl cy ad Z) H → va_S A s.heap H locs → lv_has ls 2 [(1, .int (nI t)), (0, .ref (ad 0))] → (∀ (H : Heap) (locs : List Loc) (ls : Array Slot), va_P D vwCl (mwl cy ad (itr B_X3_count_2 n t Z)) H → va_S A s.heap H locs → lv_has ls 2 [(1, .int (nI ((mO S 5).toNatClampNeg))), (0, .ref (ad 0))] → W p l e (headSpec wsX3_count { frames := 0, cells := 0, slots := 0, locals := 0 }).room s m ([.ref (ad 0)] : List Value).toArray below meth c H locs 0 0 Q (F0 m 69 ls [])) → W p l e (headSpec wsX3_count { frames := 0, cells := 0, slots := 0, locals := 0 }).room s m ([.ref (ad 0)] : List Value).toArray below meth c H locs 0 0 Q (F0 m 2 ls []) := by
    intro Q n
    induction n with
    | zero =>
      intro t Z H locs ls hk hI hP hS hl K
      refine lv_iload_n hx hb dX3_count_2 rfl (lv_at hl 0 rfl) ?_
      refine lv_aload_n hx hb dX3_count_3 rfl (lv_at hl 1 rfl) ?_
      refine m_gO hx hb hts hinX3 hown hK hP 5 (by decide) (hts (.fieldLink RX3 76 "FeedbackQueuesModel" "processes" "I") (by decide +kernel)) rfl dX3_count_4 ?_
      refine lv_icmp_ge (tgt := 69) hx hb dX3_count_7 (by decide) (fun c_7 => ?_) (fun c_7 => ?_)
      rotate_left
      · exact absurd (by rw [show mO Z 5 = nI ((mO S 5).toNatClampNeg) from by rw [hNe]; exact hI.1]; exact nI_le (by omega) (by omega)) c_7
      have hiN : t = (mO S 5).toNatClampNeg := by omega
      rw [hiN] at hl
      exact K H locs ls hP hS (lv_sub hl [0, 1] rfl)
    | succ n ih =>
      intro t Z H locs ls hk hI hP hS hl K
      have ht : t < (mO S 5).toNatClampNeg := by omega
      refine lv_iload_n hx hb dX3_count_2 rfl (lv_at hl 0 rfl) ?_
      refine lv_aload_n hx hb dX3_count_3 rfl (lv_at hl 1 rfl) ?_
      refine m_gO hx hb hts hinX3 hown hK hP 5 (by decide) (hts (.fieldLink RX3 76 "FeedbackQueuesModel" "processes" "I") (by decide +kernel)) rfl dX3_count_4 ?_
      refine lv_icmp_ge (tgt := 69) hx hb dX3_count_7 (by decide) (fun c_7 => ?_) (fun c_7 => ?_)
      · exact absurd c_7 (by rw [show mO Z 5 = nI ((mO S 5).toNatClampNeg) from by rw [hNe]; exact hI.1]; exact nI_ge (by omega) (by omega))
      refine lv_aload_n hx hb dX3_count_10 rfl (lv_at hl 1 rfl) ?_
      refine m_gO hx hb hts hinX3 hown hK hP 11 (by decide) (hts (.fieldLink RX3 25 "FeedbackQueuesModel" "state" "[I") (by decide +kernel)) rfl dX3_count_11 ?_
      refine lv_iload_n hx hb dX3_count_14 rfl (lv_at hl 0 rfl) ?_
      refine m_iA (d := 6) (a := 11) (n := 16) (k := t) hx hb hK hP (by decide) rfl rfl (ix_nI (by omega) (by omega)) dX3_count_15 ?_
      refine lv_iconst (v := 1) hx hb dX3_count_16 (by decide) ?_
      refine lv_icmp_ne (tgt := 38) hx hb dX3_count_17 (by decide) (fun c_17 => ?_) (fun c_17 => ?_)
      · skip
        refine lv_aload_n hx hb dX3_count_38 rfl (lv_at hl 1 rfl) ?_
        refine m_gO hx hb hts hinX3 hown hK hP 11 (by decide) (hts (.fieldLink RX3 25 "FeedbackQueuesModel" "state" "[I") (by decide +kernel)) rfl dX3_count_39 ?_
        refine lv_iload_n hx hb dX3_count_42 rfl (lv_at hl 0 rfl) ?_
        refine m_iA (d := 6) (a := 11) (n := 16) (k := t) hx hb hK hP (by decide) rfl rfl (ix_nI (by omega) (by omega)) dX3_count_43 ?_
        refine lv_iconst (v := 3) hx hb dX3_count_44 (by decide) ?_
        refine lv_icmp_ne (tgt := 63) hx hb dX3_count_45 (by decide) (fun c_45 => ?_) (fun c_45 => ?_)
        · skip
          refine lv_iinc (v := nI (t + 1)) (lv' := [(1, .int (nI (t + 1))), (0, .ref (ad 0))]) hx hb dX3_count_63 hl (k := 0) rfl (inc_nI t) (by decide) rfl (fun ls hl => ?_)
          refine lv_goto (tgt := 2) hx hb dX3_count_66 (by decide) ?_
          have hF : B_X3_count_2 t Z = Z := by simp only [B_X3_count_2, if_neg c_17, if_neg c_45]
          rw [← hF] at hP
          exact ih (t + 1) (B_X3_count_2 t Z) H locs ls (by omega) (ok_B_count hI) hP hS (lv_sub hl [0, 1] rfl) K
        · skip
          refine lv_aload_n hx hb dX3_count_48 rfl (lv_at hl 1 rfl) ?_
          refine m_gO hx hb hts hinX3 hown hK hP 19 (by decide) (hts (.fieldLink RX3 50 "FeedbackQueuesModel" "counts" "[I") (by decide +kernel)) rfl dX3_count_49 ?_
          refine lv_bipush (v := 10) hx hb dX3_count_52 (by decide) ?_
          refine lv_iload_n hx hb dX3_count_54 rfl (lv_at hl 0 rfl) ?_
          refine lv_imul hx hb dX3_count_55 ?_
          refine lv_iconst (v := 4) hx hb dX3_count_56 (by decide) ?_
          refine lv_iadd hx hb dX3_count_57 ?_
          refine lv_dup2_11 hx hb dX3_count_58 rfl rfl ?_
          refine m_iA (d := 14) (a := 19) (n := 160) (k := 10 * t + 4) hx hb hK hP (by decide) rfl rfl (ix_lin (by decide) rfl (by decide) (by omega) (by omega)) dX3_count_59 ?_
          refine lv_iconst (v := 1) hx hb dX3_count_60 (by decide) ?_
          refine lv_iadd hx hb dX3_count_61 ?_
          refine m_sA (d := 14) (a := 19) (n := 160) (k := 10 * t + 4) (v := (mA Z 19 (10 * t + 4)) + 1) hx hb hK hap hP hS (by decide) rfl rfl (ix_lin (by decide) rfl (by decide) (by omega) (by omega)) dX3_count_62 (fun H locs hP hS => ?_)
          obtain ⟨S1, eS1⟩ : ∃ z : Ms, z = mQ Z 19 (10 * t + 4) ((mA Z 19 (10 * t + 4)) + 1) := ⟨_, rfl⟩
          rw [← eS1] at hP
          have hok1 : okM N L b S1 := by rw [eS1]; exact okM_mQ hI (by decide)
          refine lv_iinc (v := nI (t + 1)) (lv' := [(1, .int (nI (t + 1))), (0, .ref (ad 0))]) hx hb dX3_count_63 hl (k := 0) rfl (inc_nI t) (by decide) rfl (fun ls hl => ?_)
          refine lv_goto (tgt := 2) hx hb dX3_count_66 (by decide) ?_
          have hF : B_X3_count_2 t Z = S1 := by subst eS1; simp only [B_X3_count_2, if_neg c_17, if_pos c_45]
          rw [← hF] at hP
          exact ih (t + 1) (B_X3_count_2 t Z) H locs ls (by omega) (ok_B_count hI) hP hS (lv_sub hl [0, 1] rfl) K
      · skip
        refine lv_aload_n hx hb dX3_count_20 rfl (lv_at hl 1 rfl) ?_
        refine m_gO hx hb hts hinX3 hown hK hP 19 (by decide) (hts (.fieldLink RX3 50 "FeedbackQueuesModel" "counts" "[I") (by decide +kernel)) rfl dX3_count_21 ?_
        refine lv_bipush (v := 10) hx hb dX3_count_24 (by decide) ?_
        refine lv_iload_n hx hb dX3_count_26 rfl (lv_at hl 0 rfl) ?_
        refine lv_imul hx hb dX3_count_27 ?_
        refine lv_iconst (v := 3) hx hb dX3_count_28 (by decide) ?_
        refine lv_iadd hx hb dX3_count_29 ?_
        refine lv_dup2_11 hx hb dX3_count_30 rfl rfl ?_
        refine m_iA (d := 14) (a := 19) (n := 160) (k := 10 * t + 3) hx hb hK hP (by decide) rfl rfl (ix_lin (by decide) rfl (by decide) (by omega) (by omega)) dX3_count_31 ?_
        refine lv_iconst (v := 1) hx hb dX3_count_32 (by decide) ?_
        refine lv_iadd hx hb dX3_count_33 ?_
        refine m_sA (d := 14) (a := 19) (n := 160) (k := 10 * t + 3) (v := (mA Z 19 (10 * t + 3)) + 1) hx hb hK hap hP hS (by decide) rfl rfl (ix_lin (by decide) rfl (by decide) (by omega) (by omega)) dX3_count_34 (fun H locs hP hS => ?_)
        obtain ⟨S2, eS2⟩ : ∃ z : Ms, z = mQ Z 19 (10 * t + 3) ((mA Z 19 (10 * t + 3)) + 1) := ⟨_, rfl⟩
        rw [← eS2] at hP
        have hok2 : okM N L b S2 := by rw [eS2]; exact okM_mQ hI (by decide)
        refine lv_goto (tgt := 63) hx hb dX3_count_35 (by decide) ?_
        refine lv_iinc (v := nI (t + 1)) (lv' := [(1, .int (nI (t + 1))), (0, .ref (ad 0))]) hx hb dX3_count_63 hl (k := 0) rfl (inc_nI t) (by decide) rfl (fun ls hl => ?_)
        refine lv_goto (tgt := 2) hx hb dX3_count_66 (by decide) ?_
        have hF : B_X3_count_2 t Z = S2 := by subst eS2; simp only [B_X3_count_2, if_pos c_17]
        rw [← hF] at hP
        exact ih (t + 1) (B_X3_count_2 t Z) H locs ls (by omega) (ok_B_count hI) hP hS (lv_sub hl [0, 1] rfl) K
  refine lp_2 _ ((mO S 5).toNatClampNeg) 0 S H locs ls (by omega) (hok) hP hS (by rw [show nI 0 = 0 from by decide]; exact lv_sub hl [0, 1] rfl) (fun H locs ls hP hS hl => ?_)
  obtain ⟨S3, eS3⟩ : ∃ z : Ms, z = itr B_X3_count_2 ((mO S 5).toNatClampNeg) 0 S := ⟨_, rfl⟩
  rw [← eS3] at hP
  have hF : F_X3_count S  = S3 := by subst eS3; simp only [F_X3_count]
  rw [hF]
  exact m_vret hx hb hr hlocks hP hS dX3_count_69 (fun _ h => h)
