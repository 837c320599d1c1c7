set_option maxHeartbeats 4000000 in
set_option maxRecDepth 100000 in
theorem k_X3_choose (l : Launch) (D : va_G) (cy : Nat → ClassId) (ad : Nat → Nat) (S : Ms) (p1 : Int32) {N L b : Nat} (hok : okM N L b S) (hb30 : b < 2 ^ 30) : mMv l yX3_choose wsX3_choose { frames := 1, cells := 0, slots := 0, locals := 23 } D cy ad [.ref (ad 0), .int p1] S (F_X3_choose S p1) := by
  intro sz
  refine Met.ofW (cc := cX3_choose) (maxL := 4) (ret := none) (by decide) rfl ?_
  intro p e s m args below meth c s₁ B hml hv
  obtain ⟨rfl, hsz, hP, hK, hap0⟩ := hv
  have hx := B.exec
  have hb := B.bytes
  have hr := B.returns
  have hts := atoms_spec (ws := wsX3_choose) B.pre
  have hown : s.vm.findClass RX3 = some m.cls := findClass_of_methodNamed B.named
  have hlocks := B.notSynchronized
  subst hsz
  have hap := gw_self (sz := s.heap.size) hap0
  generalize hAe : gA 19 ad s.heap.size = A at hap ⊢
  have hA : ∀ q : Nat, s.heap.size ≤ q → A q := fun q h => by rw [← hAe]; exact Or.inr h
  have hS : va_S A s.heap s.heap [] := va_S.rf
  have hinX3 : ∀ w ∈ wsX30, w ∈ wsX3_choose := by decide +kernel
  have hl := lv_entry ([.ref (ad 0), .int p1]) (n := 4) (Nat.le_of_ble_eq_true rfl)
  rw [lg_entry_eq]
  generalize (lg_sl ([.ref (ad 0), .int p1]) ++ List.replicate (4 - (lg_sl ([.ref (ad 0), .int p1])).length) Slot.unset).toArray = ls at hl ⊢
  have hl : lv_has ls 4 [(0, .ref (ad 0)), (1, .int p1)] := hl
  obtain ⟨H, hH⟩ : ∃ H, H = s.heap := ⟨_, rfl⟩
  rw [← hH] at hP
  have hS : va_S A s.heap H [] := by rw [hH]; exact hS
  rw [← hH]
  generalize ([] : List Loc) = locs at hS ⊢
  have j_208 : ∀ (Y : Ms) (p9 : Int32) (H : Heap) (locs : List Loc) (ls : Array Slot), ub b (mA Y 22 0) → F_X3_choose S p1 = G_X3_choose_208 Y p1 p9 → va_P D vwCl (mwl cy ad Y) H → va_S A s.heap H locs → lv_has ls 4 [(0, .ref (ad 0)), (1, .int p1), (3, .int p9)] → W p l e (headSpec wsX3_choose { frames := 1, cells := 0, slots := 0, locals := 23 }).room s m ([.ref (ad 0), .int p1] : List Value).toArray below meth c H locs 0 0 (MQ below (va_Qv (fun _ : Unit => True) (fun _ t => mPost D cy ad (F_X3_choose S p1) t) A) ([.ref (ad 0), .int p1] : List Value).toArray s 0 0 A) (F0 m 208 ls []) := by
    intro Y p9 H locs ls hw hT hP hS hl
    refine lv_aload_n hx hb dX3_choose_208 rfl (lv_at hl 0 rfl) ?_
    refine m_gO hx hb hts hinX3 hown hK hP 22 (by decide) (hts (.fieldLink RX3 59 "FeedbackQueuesModel" "all" "[I") (by decide +kernel)) rfl dX3_choose_209 ?_
    refine lv_iconst (v := 0) hx hb dX3_choose_212 (by decide) ?_
    refine m_iA (d := 17) (a := 22) (n := 4) (k := 0) hx hb hK hP (by decide) rfl rfl (ix_lit (by decide) (by omega) (by omega)) dX3_choose_213 ?_
    refine lv_sipush (v := 400) hx hb dX3_choose_214 (by decide) ?_
    refine lv_icmp_ge (tgt := 237) hx hb dX3_choose_217 (by decide) (fun c_217 => ?_) (fun c_217 => ?_)
    · skip
      refine lv_aload_n hx hb dX3_choose_237 rfl (lv_at hl 0 rfl) ?_
      refine m_gO hx hb hts hinX3 hown hK hP 22 (by decide) (hts (.fieldLink RX3 59 "FeedbackQueuesModel" "all" "[I") (by decide +kernel)) rfl dX3_choose_238 ?_
      refine lv_iconst (v := 0) hx hb dX3_choose_241 (by decide) ?_
      refine lv_dup2_11 hx hb dX3_choose_242 rfl rfl ?_
      refine m_iA (d := 17) (a := 22) (n := 4) (k := 0) hx hb hK hP (by decide) rfl rfl (ix_lit (by decide) (by omega) (by omega)) dX3_choose_243 ?_
      refine lv_iconst (v := 1) hx hb dX3_choose_244 (by decide) ?_
      refine lv_iadd hx hb dX3_choose_245 ?_
      refine m_sA (d := 17) (a := 22) (n := 4) (k := 0) (v := (mA Y 22 0) + 1) hx hb hK hap hP hS (by decide) rfl rfl (ix_lit (by decide) (by omega) (by omega)) dX3_choose_246 (fun H locs hP hS => ?_)
      obtain ⟨S1, eS1⟩ : ∃ z : Ms, z = mQ Y 22 0 ((mA Y 22 0) + 1) := ⟨_, rfl⟩
      rw [← eS1] at hP
      have hF : F_X3_choose S p1 = S1 := hT.trans (by subst eS1; simp only [G_X3_choose_208, if_pos c_217])
      rw [hF]
      exact m_vret hx hb hr hlocks hP hS dX3_choose_247 (fun _ h => h)
    · skip
      refine lv_aload_n hx hb dX3_choose_220 rfl (lv_at hl 0 rfl) ?_
      refine m_gO hx hb hts hinX3 hown hK hP 23 (by decide) (hts (.fieldLink RX3 62 "FeedbackQueuesModel" "switches" "[I") (by decide +kernel)) rfl dX3_choose_221 ?_
      refine lv_aload_n hx hb dX3_choose_224 rfl (lv_at hl 0 rfl) ?_
      refine m_gO hx hb hts hinX3 hown hK hP 22 (by decide) (hts (.fieldLink RX3 59 "FeedbackQueuesModel" "all" "[I") (by decide +kernel)) rfl dX3_choose_225 ?_
      refine lv_iconst (v := 0) hx hb dX3_choose_228 (by decide) ?_
      refine m_iA (d := 17) (a := 22) (n := 4) (k := 0) hx hb hK hP (by decide) rfl rfl (ix_lit (by decide) (by omega) (by omega)) dX3_choose_229 ?_
      refine lv_bipush (v := 16) hx hb dX3_choose_230 (by decide) ?_
      refine lv_iload_n hx hb dX3_choose_232 rfl (lv_at hl 1 rfl) ?_
      refine lv_imul hx hb dX3_choose_233 ?_
      refine lv_iload_n hx hb dX3_choose_234 rfl (lv_at hl 2 rfl) ?_
      refine lv_iadd hx hb dX3_choose_235 ?_
      refine m_sA (d := 18) (a := 23) (n := 400) (k := ((mA Y 22 0)).toNatClampNeg) (v := (16 * p1) + p9) hx hb hK hap hP hS (by decide) rfl rfl (ix_nge (k := 400) hw (by omega) (by decide) (by omega) c_217) dX3_choose_236 (fun H locs hP hS => ?_)
      obtain ⟨S2, eS2⟩ : ∃ z : Ms, z = mQ Y 23 (((mA Y 22 0)).toNatClampNeg) ((16 * p1) + p9) := ⟨_, rfl⟩
      rw [← eS2] at hP
      refine lv_aload_n hx hb dX3_choose_237 rfl (lv_at hl 0 rfl) ?_
      refine m_gO hx hb hts hinX3 hown hK hP 22 (by decide) (hts (.fieldLink RX3 59 "FeedbackQueuesModel" "all" "[I") (by decide +kernel)) rfl dX3_choose_238 ?_
      refine lv_iconst (v := 0) hx hb dX3_choose_241 (by decide) ?_
      refine lv_dup2_11 hx hb dX3_choose_242 rfl rfl ?_
      refine m_iA (d := 17) (a := 22) (n := 4) (k := 0) hx hb hK hP (by decide) rfl rfl (ix_lit (by decide) (by omega) (by omega)) dX3_choose_243 ?_
      refine lv_iconst (v := 1) hx hb dX3_choose_244 (by decide) ?_
      refine lv_iadd hx hb dX3_choose_245 ?_
      refine m_sA (d := 17) (a := 22) (n := 4) (k := 0) (v := (mA S2 22 0) + 1) hx hb hK hap hP hS (by decide) rfl rfl (ix_lit (by decide) (by omega) (by omega)) dX3_choose_246 (fun H locs hP hS => ?_)
      obtain ⟨S3, eS3⟩ : ∃ z : Ms, z = mQ S2 22 0 ((mA S2 22 0) + 1) := ⟨_, rfl⟩
      rw [← eS3] at hP
      have hF : F_X3_choose S p1 = S3 := hT.trans (by subst eS3 eS2; simp only [G_X3_choose_208, if_neg c_217])
      rw [hF]
      exact m_vret hx hb hr hlocks hP hS dX3_choose_247 (fun _ h => h)
  have j_145 : ∀ (Y : Ms) (p9 : Int32) (H : Heap) (locs : List Loc) (ls : Array Slot), ix p9 (p9).toNatClampNeg 16 → ub b (mA Y 22 0) → F_X3_choose S p1 = G_X3_choose_145 Y p1 p9 → va_P D vwCl (mwl cy ad Y) H → va_S A s.heap H locs → lv_has ls 4 [(0, .ref (ad 0)), (1, .int p1), (3, .int p9)] → W p l e (headSpec wsX3_choose { frames := 1, cells := 0, slots := 0, locals := 23 }).room s m ([.ref (ad 0), .int p1] : List Value).toArray below meth c H locs 0 0 (MQ below (va_Qv (fun _ : Unit => True) (fun _ t => mPost D cy ad (F_X3_choose S p1) t) A) ([.ref (ad 0), .int p1] : List Value).toArray s 0 0 A) (F0 m 145 ls []) := by
    intro Y p9 H locs ls h9 hw hT hP hS hl
    refine lv_aload_n hx hb dX3_choose_145 rfl (lv_at hl 0 rfl) ?_
    refine m_gO hx hb hts hinX3 hown hK hP 17 (by decide) (hts (.fieldLink RX3 43 "FeedbackQueuesModel" "kept" "[Z") (by decide +kernel)) rfl dX3_choose_146 ?_
    refine lv_iload_n hx hb dX3_choose_149 rfl (lv_at hl 2 rfl) ?_
    refine lv_iconst (v := 0) hx hb dX3_choose_150 (by decide) ?_
    refine m_tA (d := 12) (a := 17) (n := 16) (k := (p9).toNatClampNeg) (v := 0) hx hb hK hap hP hS (by decide) rfl rfl rfl (h9) dX3_choose_151 (fun H locs hP hS => ?_)
    obtain ⟨S4, eS4⟩ : ∃ z : Ms, z = mQ Y 17 ((p9).toNatClampNeg) 0 := ⟨_, rfl⟩
    rw [← eS4] at hP
    refine lv_aload_n hx hb dX3_choose_152 rfl (lv_at hl 0 rfl) ?_
    refine m_gO hx hb hts hinX3 hown hK hP 19 (by decide) (hts (.fieldLink RX3 50 "FeedbackQueuesModel" "counts" "[I") (by decide +kernel)) rfl dX3_choose_153 ?_
    refine lv_bipush (v := 10) hx hb dX3_choose_156 (by decide) ?_
    refine lv_iload_n hx hb dX3_choose_158 rfl (lv_at hl 2 rfl) ?_
    refine lv_imul hx hb dX3_choose_159 ?_
    refine lv_bipush (v := 7) hx hb dX3_choose_160 (by decide) ?_
    refine lv_iadd hx hb dX3_choose_162 ?_
    refine lv_dup2_11 hx hb dX3_choose_163 rfl rfl ?_
    refine m_iA (d := 14) (a := 19) (n := 160) (k := 10 * (p9).toNatClampNeg + 7) hx hb hK hP (by decide) rfl rfl (ten h9) dX3_choose_164 ?_
    refine lv_iconst (v := 1) hx hb dX3_choose_165 (by decide) ?_
    refine lv_iadd hx hb dX3_choose_166 ?_
    refine m_sA (d := 14) (a := 19) (n := 160) (k := 10 * (p9).toNatClampNeg + 7) (v := (mA S4 19 (10 * (p9).toNatClampNeg + 7)) + 1) hx hb hK hap hP hS (by decide) rfl rfl (ten h9) dX3_choose_167 (fun H locs hP hS => ?_)
    obtain ⟨S5, eS5⟩ : ∃ z : Ms, z = mQ S4 19 (10 * (p9).toNatClampNeg + 7) ((mA S4 19 (10 * (p9).toNatClampNeg + 7)) + 1) := ⟨_, rfl⟩
    rw [← eS5] at hP
    refine lv_aload_n hx hb dX3_choose_168 rfl (lv_at hl 0 rfl) ?_
    refine m_gO hx hb hts hinX3 hown hK hP 19 (by decide) (hts (.fieldLink RX3 50 "FeedbackQueuesModel" "counts" "[I") (by decide +kernel)) rfl dX3_choose_169 ?_
    refine lv_bipush (v := 10) hx hb dX3_choose_172 (by decide) ?_
    refine lv_iload_n hx hb dX3_choose_174 rfl (lv_at hl 2 rfl) ?_
    refine lv_imul hx hb dX3_choose_175 ?_
    refine lv_iconst (v := 5) hx hb dX3_choose_176 (by decide) ?_
    refine lv_iadd hx hb dX3_choose_177 ?_
    refine lv_aload_n hx hb dX3_choose_178 rfl (lv_at hl 0 rfl) ?_
    refine m_gO hx hb hts hinX3 hown hK hP 19 (by decide) (hts (.fieldLink RX3 50 "FeedbackQueuesModel" "counts" "[I") (by decide +kernel)) rfl dX3_choose_179 ?_
    refine lv_bipush (v := 10) hx hb dX3_choose_182 (by decide) ?_
    refine lv_iload_n hx hb dX3_choose_184 rfl (lv_at hl 2 rfl) ?_
    refine lv_imul hx hb dX3_choose_185 ?_
    refine lv_iconst (v := 5) hx hb dX3_choose_186 (by decide) ?_
    refine lv_iadd hx hb dX3_choose_187 ?_
    refine m_iA (d := 14) (a := 19) (n := 160) (k := 10 * (p9).toNatClampNeg + 5) hx hb hK hP (by decide) rfl rfl (ten h9) dX3_choose_188 ?_
    refine lv_if_ge (tgt := 196) hx hb dX3_choose_189 (by decide) (fun c_189 => ?_) (fun c_189 => ?_)
    · skip
      refine lv_aload_n hx hb dX3_choose_196 rfl (lv_at hl 0 rfl) ?_
      refine m_gO hx hb hts hinX3 hown hK hP 19 (by decide) (hts (.fieldLink RX3 50 "FeedbackQueuesModel" "counts" "[I") (by decide +kernel)) rfl dX3_choose_197 ?_
      refine lv_bipush (v := 10) hx hb dX3_choose_200 (by decide) ?_
      refine lv_iload_n hx hb dX3_choose_202 rfl (lv_at hl 2 rfl) ?_
      refine lv_imul hx hb dX3_choose_203 ?_
      refine lv_iconst (v := 5) hx hb dX3_choose_204 (by decide) ?_
      refine lv_iadd hx hb dX3_choose_205 ?_
      refine m_iA (d := 14) (a := 19) (n := 160) (k := 10 * (p9).toNatClampNeg + 5) hx hb hK hP (by decide) rfl rfl (ten h9) dX3_choose_206 ?_
      refine m_sA (d := 14) (a := 19) (n := 160) (k := 10 * (p9).toNatClampNeg + 5) (v := mA S5 19 (10 * (p9).toNatClampNeg + 5)) hx hb hK hap hP hS (by decide) rfl rfl (ten h9) dX3_choose_207 (fun H locs hP hS => ?_)
      obtain ⟨S6, eS6⟩ : ∃ z : Ms, z = mQ S5 19 (10 * (p9).toNatClampNeg + 5) (mA S5 19 (10 * (p9).toNatClampNeg + 5)) := ⟨_, rfl⟩
      rw [← eS6] at hP
      exact j_208 S6 p9 H locs ls  (by subst eS6 eS5 eS4; exact hw)  (hT.trans (by subst eS6 eS5 eS4; simp only [G_X3_choose_145, if_pos c_189])) hP hS (lv_sub hl [0, 1, 2] rfl)
    · skip
      refine lv_iload_n hx hb dX3_choose_192 rfl (lv_at hl 1 rfl) ?_
      refine lv_goto (tgt := 207) hx hb dX3_choose_193 (by decide) ?_
      refine m_sA (d := 14) (a := 19) (n := 160) (k := 10 * (p9).toNatClampNeg + 5) (v := p1) hx hb hK hap hP hS (by decide) rfl rfl (ten h9) dX3_choose_207 (fun H locs hP hS => ?_)
      obtain ⟨S7, eS7⟩ : ∃ z : Ms, z = mQ S5 19 (10 * (p9).toNatClampNeg + 5) p1 := ⟨_, rfl⟩
      rw [← eS7] at hP
      exact j_208 S7 p9 H locs ls  (by subst eS7 eS5 eS4; exact hw)  (hT.trans (by subst eS7 eS5 eS4; simp only [G_X3_choose_145, if_neg c_189])) hP hS (lv_sub hl [0, 1, 2] rfl)
  have j_103 : ∀ (Y : Ms) (p9 : Int32) (H : Heap) (locs : List Loc) (ls : Array Slot), ix p9 (p9).toNatClampNeg 16 → (∃ v, v < 6 ∧ mA Y 12 (p9).toNatClampNeg = nI v) → ub b (mA Y 22 0) → F_X3_choose S p1 = G_X3_choose_103 Y p1 p9 → va_P D vwCl (mwl cy ad Y) H → va_S A s.heap H locs → lv_has ls 4 [(0, .ref (ad 0)), (1, .int p1), (3, .int p9)] → W p l e (headSpec wsX3_choose { frames := 1, cells := 0, slots := 0, locals := 23 }).room s m ([.ref (ad 0), .int p1] : List Value).toArray below meth c H locs 0 0 (MQ below (va_Qv (fun _ : Unit => True) (fun _ t => mPost D cy ad (F_X3_choose S p1) t) A) ([.ref (ad 0), .int p1] : List Value).toArray s 0 0 A) (F0 m 103 ls []) := by
    intro Y p9 H locs ls h9 hlv hw hT hP hS hl
    refine lv_aload_n hx hb dX3_choose_103 rfl (lv_at hl 0 rfl) ?_
    refine m_gO hx hb hts hinX3 hown hK hP 11 (by decide) (hts (.fieldLink RX3 25 "FeedbackQueuesModel" "state" "[I") (by decide +kernel)) rfl dX3_choose_104 ?_
    refine lv_iload_n hx hb dX3_choose_107 rfl (lv_at hl 2 rfl) ?_
    refine lv_iconst (v := 2) hx hb dX3_choose_108 (by decide) ?_
    refine m_sA (d := 6) (a := 11) (n := 16) (k := (p9).toNatClampNeg) (v := 2) hx hb hK hap hP hS (by decide) rfl rfl (h9) dX3_choose_109 (fun H locs hP hS => ?_)
    obtain ⟨S8, eS8⟩ : ∃ z : Ms, z = mQ Y 11 ((p9).toNatClampNeg) 2 := ⟨_, rfl⟩
    rw [← eS8] at hP
    refine lv_aload_n hx hb dX3_choose_110 rfl (lv_at hl 0 rfl) ?_
    refine m_gO hx hb hts hinX3 hown hK hP 15 (by decide) (hts (.fieldLink RX3 37 "FeedbackQueuesModel" "quantum" "[I") (by decide +kernel)) rfl dX3_choose_111 ?_
    refine lv_iload_n hx hb dX3_choose_114 rfl (lv_at hl 2 rfl) ?_
    refine lv_aload_n hx hb dX3_choose_115 rfl (lv_at hl 0 rfl) ?_
    refine m_gO hx hb hts hinX3 hown hK hP 17 (by decide) (hts (.fieldLink RX3 43 "FeedbackQueuesModel" "kept" "[Z") (by decide +kernel)) rfl dX3_choose_116 ?_
    refine lv_iload_n hx hb dX3_choose_119 rfl (lv_at hl 2 rfl) ?_
    refine m_zA (d := 12) (a := 17) (n := 16) (k := (p9).toNatClampNeg) hx hb hK hP (by decide) rfl rfl (h9) dX3_choose_120 ?_
    refine lv_if_eq (tgt := 133) hx hb dX3_choose_121 (by decide) (fun c_121 => ?_) (fun c_121 => ?_)
    · skip
      refine lv_aload_n hx hb dX3_choose_133 rfl (lv_at hl 0 rfl) ?_
      refine m_gO hx hb hts hinX3 hown hK hP 2 (by decide) (hts (.fieldLink RX3 7 "FeedbackQueuesModel" "quanta" "[I") (by decide +kernel)) rfl dX3_choose_134 ?_
      refine lv_aload_n hx hb dX3_choose_137 rfl (lv_at hl 0 rfl) ?_
      refine m_gO hx hb hts hinX3 hown hK hP 12 (by decide) (hts (.fieldLink RX3 28 "FeedbackQueuesModel" "level" "[I") (by decide +kernel)) rfl dX3_choose_138 ?_
      refine lv_iload_n hx hb dX3_choose_141 rfl (lv_at hl 2 rfl) ?_
      refine m_iA (d := 7) (a := 12) (n := 16) (k := (p9).toNatClampNeg) hx hb hK hP (by decide) rfl rfl (h9) dX3_choose_142 ?_
      refine m_iA (d := 1) (a := 2) (n := 6) (k := (mA S8 12 (p9).toNatClampNeg).toNatClampNeg) hx hb hK hP (by decide) rfl rfl (lvx (by subst eS8; exact hlv)) dX3_choose_143 ?_
      refine m_sA (d := 10) (a := 15) (n := 16) (k := (p9).toNatClampNeg) (v := mA S8 2 ((mA S8 12 (p9).toNatClampNeg).toNatClampNeg)) hx hb hK hap hP hS (by decide) rfl rfl (h9) dX3_choose_144 (fun H locs hP hS => ?_)
      obtain ⟨S9, eS9⟩ : ∃ z : Ms, z = mQ S8 15 ((p9).toNatClampNeg) (mA S8 2 ((mA S8 12 (p9).toNatClampNeg).toNatClampNeg)) := ⟨_, rfl⟩
      rw [← eS9] at hP
      exact j_145 S9 p9 H locs ls  h9 (by subst eS9 eS8; exact hw)  (hT.trans (by subst eS9 eS8; simp only [G_X3_choose_103, if_pos c_121])) hP hS (lv_sub hl [0, 1, 2] rfl)
    · skip
      refine lv_aload_n hx hb dX3_choose_124 rfl (lv_at hl 0 rfl) ?_
      refine m_gO hx hb hts hinX3 hown hK hP 15 (by decide) (hts (.fieldLink RX3 37 "FeedbackQueuesModel" "quantum" "[I") (by decide +kernel)) rfl dX3_choose_125 ?_
      refine lv_iload_n hx hb dX3_choose_128 rfl (lv_at hl 2 rfl) ?_
      refine m_iA (d := 10) (a := 15) (n := 16) (k := (p9).toNatClampNeg) hx hb hK hP (by decide) rfl rfl (h9) dX3_choose_129 ?_
      refine lv_goto (tgt := 144) hx hb dX3_choose_130 (by decide) ?_
      refine m_sA (d := 10) (a := 15) (n := 16) (k := (p9).toNatClampNeg) (v := mA S8 15 ((p9).toNatClampNeg)) hx hb hK hap hP hS (by decide) rfl rfl (h9) dX3_choose_144 (fun H locs hP hS => ?_)
      obtain ⟨S10, eS10⟩ : ∃ z : Ms, z = mQ S8 15 ((p9).toNatClampNeg) (mA S8 15 ((p9).toNatClampNeg)) := ⟨_, rfl⟩
      rw [← eS10] at hP
      exact j_145 S10 p9 H locs ls  h9 (by subst eS10 eS8; exact hw)  (hT.trans (by subst eS10 eS8; simp only [G_X3_choose_103, if_neg c_121])) hP hS (lv_sub hl [0, 1, 2] rfl)
  have j_80 : ∀ (Y : Ms) (p8 : Int32) (H : Heap) (locs : List Loc) (ls : Array Slot), okM N L b Y → (0 ≤ p8 → ix p8 (p8).toNatClampNeg 6 ∧ ¬ mA Y 21 (p8).toNatClampNeg = 0) → F_X3_choose S p1 = G_X3_choose_80 Y p1 p8 → va_P D vwCl (mwl cy ad Y) H → va_S A s.heap H locs → lv_has ls 4 [(0, .ref (ad 0)), (1, .int p1), (2, .int p8)] → W p l e (headSpec wsX3_choose { frames := 1, cells := 0, slots := 0, locals := 23 }).room s m ([.ref (ad 0), .int p1] : List Value).toArray below meth c H locs 0 0 (MQ below (va_Qv (fun _ : Unit => True) (fun _ t => mPost D cy ad (F_X3_choose S p1) t) A) ([.ref (ad 0), .int p1] : List Value).toArray s 0 0 A) (F0 m 80 ls []) := by
    intro Y p8 H locs ls hokY h8 hT hP hS hl
    refine lv_aload_n hx hb dX3_choose_80 rfl (lv_at hl 0 rfl) ?_
    refine m_gO hx hb hts hinX3 hown hK hP 10 (by decide) (hts (.fieldLink RX3 85 "FeedbackQueuesModel" "running" "I") (by decide +kernel)) rfl dX3_choose_81 ?_
    refine lv_if_ge (tgt := 91) hx hb dX3_choose_84 (by decide) (fun c_84 => ?_) (fun c_84 => ?_)
    · skip
      have hF : F_X3_choose S p1 = Y := hT.trans (by simp only [G_X3_choose_80, if_pos c_84])
      rw [hF]
      exact m_vret hx hb hr hlocks hP hS dX3_choose_91 (fun _ h => h)
    · skip
      refine lv_iload_n hx hb dX3_choose_87 rfl (lv_at hl 2 rfl) ?_
      refine lv_if_ge (tgt := 92) hx hb dX3_choose_88 (by decide) (fun c_88 => ?_) (fun c_88 => ?_)
      · skip
        refine lv_aload_n hx hb dX3_choose_92 rfl (lv_at hl 0 rfl) ?_
        refine lv_iload_n hx hb dX3_choose_93 rfl (lv_at hl 2 rfl) ?_
        refine m_cVi (As := [.int p8]) (rest := []) ⟨hx, hb, hml, hown, hts⟩ (k_X3_takeFirst l D cy ad Y p8  (h8 c_88).1 ((okM_q hokY).1 _ (h8 c_88).1.2.2) (h8 c_88).2) (cwV 1 hts gX3_choose_X3_takeFirst rfl rfl rfl (by decide +kernel) ⟨Nat.le_of_ble_eq_true rfl, Nat.le_of_ble_eq_true rfl⟩) hK hap hA hP hS rfl hl.1 rfl (Nat.le_of_ble_eq_true rfl) dX3_choose_94 ⟨Nat.zero_le _, Nat.zero_le _⟩ (fun H locs hP hS => ?_)
        obtain ⟨S11, eS11⟩ : ∃ z : Ms, z = (F_X3_takeFirst Y p8).1 := ⟨_, rfl⟩
        rw [← eS11] at hP
        refine lv_istore_n (lv' := [(3, .int ((F_X3_takeFirst Y p8).2)), (0, .ref (ad 0)), (1, .int p1), (2, .int p8)]) hx hb dX3_choose_97 rfl hl (by decide) rfl (fun ls hl => ?_)
        refine lv_aload_n hx hb dX3_choose_98 rfl (lv_at hl 1 rfl) ?_
        refine lv_iload_n hx hb dX3_choose_99 rfl (lv_at hl 0 rfl) ?_
        refine m_pO (ty := .int) (v := (F_X3_takeFirst Y p8).2) hx hb hts hinX3 hown hK hap hP hS 10 (by decide) (hts (.fieldLink RX3 85 "FeedbackQueuesModel" "running" "I") (by decide +kernel)) rfl (by decide +kernel) rfl rfl (mOf_10 ad S11 _) (Nat.le_of_ble_eq_true rfl) dX3_choose_100 (fun H locs hP hS => ?_)
        obtain ⟨S12, eS12⟩ : ∃ z : Ms, z = mP S11 10 ((F_X3_takeFirst Y p8).2) := ⟨_, rfl⟩
        rw [← eS12] at hP
        exact j_103 S12 ((F_X3_takeFirst Y p8).2) H locs ls  (by subst eS12 eS11; exact (ch_9 hokY h8 c_88).1) (by subst eS12 eS11; exact (ch_9 hokY h8 c_88).2.1) (by subst eS12 eS11; exact (ch_9 hokY h8 c_88).2.2)  (hT.trans (by subst eS12 eS11; simp only [G_X3_choose_80, if_neg c_84, if_pos c_88])) hP hS (lv_sub hl [1, 2, 0] rfl)
      · skip
        have hF : F_X3_choose S p1 = Y := hT.trans (by simp only [G_X3_choose_80, if_neg c_84, if_neg c_88])
        rw [hF]
        exact m_vret hx hb hr hlocks hP hS dX3_choose_91 (fun _ h => h)
  refine lv_aload_n hx hb dX3_choose_0 rfl (lv_at hl 0 rfl) ?_
  refine m_cVi (As := []) (rest := []) ⟨hx, hb, hml, hown, hts⟩ (k_X3_firstLevel l D cy ad S   hok) (cwV 0 hts gX3_choose_X3_firstLevel rfl rfl rfl (by decide +kernel) ⟨Nat.le_of_ble_eq_true rfl, Nat.le_of_ble_eq_true rfl⟩) hK hap hA hP hS rfl hl.1 rfl (Nat.le_of_ble_eq_true rfl) dX3_choose_1 ⟨Nat.zero_le _, Nat.zero_le _⟩ (fun H locs hP hS => ?_)
  obtain ⟨S13, eS13⟩ : ∃ z : Ms, z = (F_X3_firstLevel S).1 := ⟨_, rfl⟩
  rw [← eS13] at hP
  have hok1 : okM N L b S13 := by rw [eS13]; exact ok_X3_firstLevel hok
  refine lv_istore_n (lv' := [(2, .int ((F_X3_firstLevel S).2)), (0, .ref (ad 0)), (1, .int p1)]) hx hb dX3_choose_4 rfl hl (by decide) rfl (fun ls hl => ?_)
  refine lv_aload_n hx hb dX3_choose_5 rfl (lv_at hl 1 rfl) ?_
  refine m_gO hx hb hts hinX3 hown hK hP 10 (by decide) (hts (.fieldLink RX3 85 "FeedbackQueuesModel" "running" "I") (by decide +kernel)) rfl dX3_choose_6 ?_
  refine lv_if_lt (tgt := 80) hx hb dX3_choose_9 (by decide) (fun c_9 => ?_) (fun c_9 => ?_)
  · skip
    exact j_80 S13 ((F_X3_firstLevel S).2) H locs ls hok1 (by subst eS13; exact fl_h8 hok)  (by subst eS13; simp only [F_X3_choose, if_pos c_9]) hP hS (lv_sub hl [1, 2, 0] rfl)
  · skip
    refine lv_iload_n hx hb dX3_choose_12 rfl (lv_at hl 0 rfl) ?_
    refine lv_if_lt (tgt := 80) hx hb dX3_choose_13 (by decide) (fun c_13 => ?_) (fun c_13 => ?_)
    · skip
      exact j_80 S13 ((F_X3_firstLevel S).2) H locs ls hok1 (by subst eS13; exact fl_h8 hok)  (by subst eS13; simp only [F_X3_choose, if_neg c_9, if_pos c_13]) hP hS (lv_sub hl [1, 2, 0] rfl)
    · skip
      refine lv_iload_n hx hb dX3_choose_16 rfl (lv_at hl 0 rfl) ?_
      refine lv_aload_n hx hb dX3_choose_17 rfl (lv_at hl 1 rfl) ?_
      refine m_gO hx hb hts hinX3 hown hK hP 12 (by decide) (hts (.fieldLink RX3 28 "FeedbackQueuesModel" "level" "[I") (by decide +kernel)) rfl dX3_choose_18 ?_
      refine lv_aload_n hx hb dX3_choose_21 rfl (lv_at hl 1 rfl) ?_
      refine m_gO hx hb hts hinX3 hown hK hP 10 (by decide) (hts (.fieldLink RX3 85 "FeedbackQueuesModel" "running" "I") (by decide +kernel)) rfl dX3_choose_22 ?_
      refine m_iA (d := 7) (a := 12) (n := 16) (k := (mO S13 10).toNatClampNeg) hx hb hK hP (by decide) rfl rfl (okM_rx hok1 c_9) dX3_choose_25 ?_
      refine lv_icmp_ge (tgt := 80) hx hb dX3_choose_26 (by decide) (fun c_26 => ?_) (fun c_26 => ?_)
      · skip
        exact j_80 S13 ((F_X3_firstLevel S).2) H locs ls hok1 (by subst eS13; exact fl_h8 hok)  (by subst eS13; simp only [F_X3_choose, if_neg c_9, if_neg c_13, if_pos c_26]) hP hS (lv_sub hl [1, 2, 0] rfl)
      · skip
        refine lv_aload_n hx hb dX3_choose_29 rfl (lv_at hl 1 rfl) ?_
        refine m_gO hx hb hts hinX3 hown hK hP 17 (by decide) (hts (.fieldLink RX3 43 "FeedbackQueuesModel" "kept" "[Z") (by decide +kernel)) rfl dX3_choose_30 ?_
        refine lv_aload_n hx hb dX3_choose_33 rfl (lv_at hl 1 rfl) ?_
        refine m_gO hx hb hts hinX3 hown hK hP 10 (by decide) (hts (.fieldLink RX3 85 "FeedbackQueuesModel" "running" "I") (by decide +kernel)) rfl dX3_choose_34 ?_
        refine lv_iconst (v := 1) hx hb dX3_choose_37 (by decide) ?_
        refine m_tA (d := 12) (a := 17) (n := 16) (k := (mO S13 10).toNatClampNeg) (v := 1) hx hb hK hap hP hS (by decide) rfl rfl rfl (okM_rx hok1 c_9) dX3_choose_38 (fun H locs hP hS => ?_)
        obtain ⟨S14, eS14⟩ : ∃ z : Ms, z = mQ S13 17 ((mO S13 10).toNatClampNeg) 1 := ⟨_, rfl⟩
        rw [← eS14] at hP
        have hok2 : okM N L b S14 := by rw [eS14]; exact okM_mQ hok1 (by decide)
        refine lv_aload_n hx hb dX3_choose_39 rfl (lv_at hl 1 rfl) ?_
        refine m_gO hx hb hts hinX3 hown hK hP 19 (by decide) (hts (.fieldLink RX3 50 "FeedbackQueuesModel" "counts" "[I") (by decide +kernel)) rfl dX3_choose_40 ?_
        refine lv_bipush (v := 10) hx hb dX3_choose_43 (by decide) ?_
        refine lv_aload_n hx hb dX3_choose_45 rfl (lv_at hl 1 rfl) ?_
        refine m_gO hx hb hts hinX3 hown hK hP 10 (by decide) (hts (.fieldLink RX3 85 "FeedbackQueuesModel" "running" "I") (by decide +kernel)) rfl dX3_choose_46 ?_
        refine lv_imul hx hb dX3_choose_49 ?_
        refine lv_bipush (v := 9) hx hb dX3_choose_50 (by decide) ?_
        refine lv_iadd hx hb dX3_choose_52 ?_
        refine lv_dup2_11 hx hb dX3_choose_53 rfl rfl ?_
        refine m_iA (d := 14) (a := 19) (n := 160) (k := 10 * (mO S14 10).toNatClampNeg + 9) hx hb hK hP (by decide) rfl rfl (okM_r10 hok2 (by subst eS14 eS13; exact c_9)) dX3_choose_54 ?_
        refine lv_iconst (v := 1) hx hb dX3_choose_55 (by decide) ?_
        refine lv_iadd hx hb dX3_choose_56 ?_
        refine m_sA (d := 14) (a := 19) (n := 160) (k := 10 * (mO S14 10).toNatClampNeg + 9) (v := (mA S14 19 (10 * (mO S14 10).toNatClampNeg + 9)) + 1) hx hb hK hap hP hS (by decide) rfl rfl (okM_r10 hok2 (by subst eS14 eS13; exact c_9)) dX3_choose_57 (fun H locs hP hS => ?_)
        obtain ⟨S15, eS15⟩ : ∃ z : Ms, z = mQ S14 19 (10 * (mO S14 10).toNatClampNeg + 9) ((mA S14 19 (10 * (mO S14 10).toNatClampNeg + 9)) + 1) := ⟨_, rfl⟩
        rw [← eS15] at hP
        have hok3 : okM N L b S15 := by rw [eS15]; exact okM_mQ hok2 (by decide)
        refine lv_aload_n hx hb dX3_choose_58 rfl (lv_at hl 1 rfl) ?_
        refine lv_aload_n hx hb dX3_choose_59 rfl (lv_at hl 1 rfl) ?_
        refine m_gO hx hb hts hinX3 hown hK hP 12 (by decide) (hts (.fieldLink RX3 28 "FeedbackQueuesModel" "level" "[I") (by decide +kernel)) rfl dX3_choose_60 ?_
        refine lv_aload_n hx hb dX3_choose_63 rfl (lv_at hl 1 rfl) ?_
        refine m_gO hx hb hts hinX3 hown hK hP 10 (by decide) (hts (.fieldLink RX3 85 "FeedbackQueuesModel" "running" "I") (by decide +kernel)) rfl dX3_choose_64 ?_
        refine m_iA (d := 7) (a := 12) (n := 16) (k := (mO S15 10).toNatClampNeg) hx hb hK hP (by decide) rfl rfl (okM_rx hok3 (by subst eS15 eS14 eS13; exact c_9)) dX3_choose_67 ?_
        refine lv_aload_n hx hb dX3_choose_68 rfl (lv_at hl 1 rfl) ?_
        refine m_gO hx hb hts hinX3 hown hK hP 10 (by decide) (hts (.fieldLink RX3 85 "FeedbackQueuesModel" "running" "I") (by decide +kernel)) rfl dX3_choose_69 ?_
        refine m_cVv (As := [.int (mA S15 12 ((mO S15 10).toNatClampNeg)), .int (mO S15 10)]) (rest := []) ⟨hx, hb, hml, hown, hts⟩ (k_X3_toFront l D cy ad S15 (mA S15 12 ((mO S15 10).toNatClampNeg)) (mO S15 10)  (okM_ixl hok3 (okM_rx hok3 (by subst eS15 eS14 eS13; exact c_9)).2.2) (ixc (okM_rx hok3 (by subst eS15 eS14 eS13; exact c_9))) (okM_15r hok3 (by subst eS15 eS14 eS13; exact c_9) (okM_ixl hok3 (okM_rx hok3 (by subst eS15 eS14 eS13; exact c_9)).2.2))) (cwV 2 hts gX3_choose_X3_toFront rfl rfl rfl (by decide +kernel) ⟨Nat.le_of_ble_eq_true rfl, Nat.le_of_ble_eq_true rfl⟩) hK hap hA hP hS rfl hl.1 rfl (Nat.le_of_ble_eq_true rfl) dX3_choose_72 ⟨Nat.zero_le _, Nat.zero_le _⟩ (fun H locs hP hS => ?_)
        obtain ⟨S16, eS16⟩ : ∃ z : Ms, z = F_X3_toFront S15 (mA S15 12 ((mO S15 10).toNatClampNeg)) (mO S15 10) := ⟨_, rfl⟩
        rw [← eS16] at hP
        refine lv_aload_n hx hb dX3_choose_75 rfl (lv_at hl 1 rfl) ?_
        refine lv_iconst (v := (-1)) hx hb dX3_choose_76 (by decide) ?_
        refine m_pO (ty := .int) (v := (-1)) hx hb hts hinX3 hown hK hap hP hS 10 (by decide) (hts (.fieldLink RX3 85 "FeedbackQueuesModel" "running" "I") (by decide +kernel)) rfl (by decide +kernel) rfl rfl (mOf_10 ad S16 _) (Nat.le_of_ble_eq_true rfl) dX3_choose_77 (fun H locs hP hS => ?_)
        obtain ⟨S17, eS17⟩ : ∃ z : Ms, z = mP S16 10 ((-1)) := ⟨_, rfl⟩
        rw [← eS17] at hP
        have hok4 : okM N L b S17 := by rw [eS17, eS16]; exact okM_front hok3 (by subst eS17 eS16 eS15 eS14 eS13; exact c_9)
        exact j_80 S17 ((F_X3_firstLevel S).2) H locs ls hok4 (by subst eS17 eS16 eS15 eS14 eS13; exact fl_h8p hok c_9 c_26)  (by subst eS17 eS16 eS15 eS14 eS13; simp only [F_X3_choose, if_neg c_9, if_neg c_13, if_neg c_26]) hP hS (lv_sub hl [1, 2, 0] rfl)
