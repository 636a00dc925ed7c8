set_option maxHeartbeats 4000000 in
set_option maxRecDepth 100000 in
theorem lp_Model_wide_r0_L83 (l : Launch) {p : Program} {e : Env} {s : State} {m : MethodId} {args : Array Value} {below : List Frame} {meth : Method} {c : Code} {A : Nat → Prop} {D : va_G} {q tq : Nat → Nat} {cA : ClassId} {ru : sd_Me} (X : sd_Cx p s m args meth c prog_12_method_17_code "ScriptDeskModel" sx_tbl 8 none vwCl D [(cA, .int)] (ZM tq) A) {k279 : Int32 → Int32 → Int32 → sd_Me → Option (sd_Me)} (hk279 : ∀ (v1 : Int32) (v2 : Int32) (v3 : Int32) (μ : sd_Me) (H : Heap) (locs : List Loc) (ls : Array Slot), sd_CI vwCl (wdM q cA) D A s H locs μ → lv_has ls 8 [(0, .ref (q 0)), (1, .int v1), (2, .int v2), (3, .int v3)] → k279 v1 v2 v3 μ = some ru → W p l e ({ frames := 1, cells := 0, slots := 0, locals := 26 }) s m args below meth c H locs 0 0 (sd_QV below vwCl (wdM q cA) D [(cA, .int)] A args s ru) (F0 m 279 ls [])) :
    ∀ (n : Nat) (v1 : Int32) (v2 : Int32) (v3 : Int32) (v4 : Int32) (μ : sd_Me) (H : Heap) (locs : List Loc) (ls : Array Slot), sd_CI vwCl (wdM q cA) D A s H locs μ → lv_has ls 8 [(0, .ref (q 0)), (1, .int v1), (2, .int v2), (3, .int v3), (4, .int v4)] → fn_Model_wide_r0_L83 k279 n v1 v2 v3 v4 μ = some ru → W p l e ({ frames := 1, cells := 0, slots := 0, locals := 26 }) s m args below meth c H locs 0 0 (sd_QV below vwCl (wdM q cA) D [(cA, .int)] A args s ru) (F0 m 83 ls []) := by
  obtain ⟨hx, hb, hml, hown, hts, hK, hZ, hA, hr, hlocks⟩ := id X
  intro n
  induction n with
  | zero =>
    intro v1 v2 v3 v4 μ H locs ls hI hl hf
    cases hf
  | succ n ih =>
    intro v1 v2 v3 v4 μ H locs ls hI hl hf
    rw [fn_Model_wide_r0_L83] at hf
    refine lv_iload hx hb d_Model_wide_83 (lv_at hl 4 rfl) ?_
    refine lv_bipush (v := 64) hx hb d_Model_wide_85 (by decide) ?_
    refine lv_icmp_ge (tgt := 279) hx hb d_Model_wide_87 (by decide) (fun hc => ?_) (fun hc => ?_)
    · have hf := sd_t hf hc
      exact hk279 (v1) (v2) (v3) μ _ _ _ hI (lv_sub hl [0, 1, 2, 3] rfl) hf
    · have hf := sd_f hf hc
      refine lv_bipush (v := 64) hx hb d_Model_wide_90 (by decide) ?_
      refine lv_iload_n hx hb d_Model_wide_92 rfl (lv_at hl 3 rfl) ?_
      refine lv_imul hx hb d_Model_wide_93 ?_
      refine lv_iconst (v := 4) hx hb d_Model_wide_94 (by decide) ?_
      refine lv_iload hx hb d_Model_wide_95 (lv_at hl 4 rfl) ?_
      refine lv_imul hx hb d_Model_wide_97 ?_
      refine lv_iadd hx hb d_Model_wide_98 ?_
      refine k_li hf (fun x11 hf => ?_)
      refine lv_istore (lv' := [(5, .int x11), (0, .ref (q 0)), (1, .int v1), (2, .int v2), (3, .int v3), (4, .int v4)]) hx hb d_Model_wide_99 hl (by decide) rfl (fun ls hl => ?_)
      refine lv_aload_n hx hb d_Model_wide_101 rfl (lv_at hl 1 rfl) ?_
      refine va_get (D := D) (ci := 7) (v := .ref (q 6)) (C := "ScriptDeskModel") (T := T_Model) (N := 18) hx hb hts iw_Model hown hK hI.1 0 rfl rfl 15 (by decide) (hts _ tw_546) (fun _ h9 => h9) rfl d_Model_wide_102 ?_
      refine lv_iload hx hb d_Model_wide_105 (lv_at hl 5 rfl) ?_
      refine lv_iload hx hb d_Model_wide_107 (lv_at hl 5 rfl) ?_
      refine lv_bipush (v := 16) hx hb d_Model_wide_109 (by decide) ?_
      refine lv_icmp_ge (tgt := 163) hx hb d_Model_wide_111 (by decide) (fun hc => ?_) (fun hc => ?_)
      · have hf := sd_t hf hc
        refine lv_aload_n hx hb d_Model_wide_163 rfl (lv_at hl 1 rfl) ?_
        refine va_get (D := D) (ci := 7) (v := .ref (q 6)) (C := "ScriptDeskModel") (T := T_Model) (N := 18) hx hb hts iw_Model hown hK hI.1 0 rfl rfl 15 (by decide) (hts _ tw_546) (fun _ h9 => h9) rfl d_Model_wide_164 ?_
        refine lv_iload hx hb d_Model_wide_167 (lv_at hl 5 rfl) ?_
        refine lv_iconst (v := 2) hx hb d_Model_wide_169 (by decide) ?_
        refine lv_isub hx hb d_Model_wide_170 ?_
        obtain ⟨hg, hf⟩ := sd_gd_e hf
        refine k_iald hx hb hK hI 6 0 rfl rfl hg d_Model_wide_171 ?_
        refine lv_bipush (v := 17) hx hb d_Model_wide_172 (by decide) ?_
        obtain ⟨x13, m12, hq, hf⟩ := sd_bi_e hf
        refine k_callS (As := [.int (μ.1 6 (Int32.toNatClampNeg (v4 - (2 : Int32)))), .int (17 : Int32)]) (rest := [.int v4, .ref (q 6)]) ZM_ok X hI (mt_Model_right l hq) (va_cwS 2 hts (gd_S tw_717 tw_718 tw_9 tw_719) rfl rfl rfl (by decide +kernel) ⟨Nat.le_of_ble_eq_true rfl, Nat.le_of_ble_eq_true rfl⟩) rfl hl.1 rfl (Nat.le_of_ble_eq_true rfl) d_Model_wide_174 ⟨Nat.zero_le _, Nat.zero_le _⟩ (fun H locs hn_x13 hI => ?_)
        refine lv_aload_n hx hb d_Model_wide_177 rfl (lv_at hl 1 rfl) ?_
        refine va_get (D := D) (ci := 7) (v := .ref (q 6)) (C := "ScriptDeskModel") (T := T_Model) (N := 18) hx hb hts iw_Model hown hK hI.1 0 rfl rfl 15 (by decide) (hts _ tw_546) (fun _ h9 => h9) rfl d_Model_wide_178 ?_
        refine lv_iload hx hb d_Model_wide_181 (lv_at hl 5 rfl) ?_
        refine lv_iconst (v := 2) hx hb d_Model_wide_183 (by decide) ?_
        refine lv_isub hx hb d_Model_wide_184 ?_
        obtain ⟨hg, hf⟩ := sd_gd_e hf
        refine k_iald hx hb hK hI 6 0 rfl rfl hg d_Model_wide_185 ?_
        refine lv_bipush (v := 19) hx hb d_Model_wide_186 (by decide) ?_
        obtain ⟨x15, m14, hq, hf⟩ := sd_bi_e hf
        refine k_callS (As := [.int (m12.1 6 (Int32.toNatClampNeg (v4 - (2 : Int32)))), .int (19 : Int32)]) (rest := [.int x13, .int v4, .ref (q 6)]) ZM_ok X hI (mt_Model_right l hq) (va_cwS 2 hts (gd_S tw_717 tw_718 tw_9 tw_719) rfl rfl rfl (by decide +kernel) ⟨Nat.le_of_ble_eq_true rfl, Nat.le_of_ble_eq_true rfl⟩) rfl hl.1 rfl (Nat.le_of_ble_eq_true rfl) d_Model_wide_188 ⟨Nat.zero_le _, Nat.zero_le _⟩ (fun H locs hn_x15 hI => ?_)
        refine lv_ixor hx hb d_Model_wide_191 ?_
        refine lv_aload_n hx hb d_Model_wide_192 rfl (lv_at hl 1 rfl) ?_
        refine va_get (D := D) (ci := 7) (v := .ref (q 6)) (C := "ScriptDeskModel") (T := T_Model) (N := 18) hx hb hts iw_Model hown hK hI.1 0 rfl rfl 15 (by decide) (hts _ tw_546) (fun _ h9 => h9) rfl d_Model_wide_193 ?_
        refine lv_iload hx hb d_Model_wide_196 (lv_at hl 5 rfl) ?_
        refine lv_iconst (v := 2) hx hb d_Model_wide_198 (by decide) ?_
        refine lv_isub hx hb d_Model_wide_199 ?_
        obtain ⟨hg, hf⟩ := sd_gd_e hf
        refine k_iald hx hb hK hI 6 0 rfl rfl hg d_Model_wide_200 ?_
        refine lv_bipush (v := 10) hx hb d_Model_wide_201 (by decide) ?_
        refine lv_iushr (v := (sd_usr (m14.1 6 (Int32.toNatClampNeg (v4 - (2 : Int32)))) (10 : Int32))) hx hb d_Model_wide_203 rfl ?_
        refine lv_ixor hx hb d_Model_wide_204 ?_
        refine lv_aload_n hx hb d_Model_wide_205 rfl (lv_at hl 1 rfl) ?_
        refine va_get (D := D) (ci := 7) (v := .ref (q 6)) (C := "ScriptDeskModel") (T := T_Model) (N := 18) hx hb hts iw_Model hown hK hI.1 0 rfl rfl 15 (by decide) (hts _ tw_546) (fun _ h9 => h9) rfl d_Model_wide_206 ?_
        refine lv_iload hx hb d_Model_wide_209 (lv_at hl 5 rfl) ?_
        refine lv_bipush (v := 7) hx hb d_Model_wide_211 (by decide) ?_
        refine lv_isub hx hb d_Model_wide_213 ?_
        obtain ⟨hg, hf⟩ := sd_gd_e hf
        refine k_iald hx hb hK hI 6 0 rfl rfl hg d_Model_wide_214 ?_
        refine lv_iadd hx hb d_Model_wide_215 ?_
        refine lv_aload_n hx hb d_Model_wide_216 rfl (lv_at hl 1 rfl) ?_
        refine va_get (D := D) (ci := 7) (v := .ref (q 6)) (C := "ScriptDeskModel") (T := T_Model) (N := 18) hx hb hts iw_Model hown hK hI.1 0 rfl rfl 15 (by decide) (hts _ tw_546) (fun _ h9 => h9) rfl d_Model_wide_217 ?_
        refine lv_iload hx hb d_Model_wide_220 (lv_at hl 5 rfl) ?_
        refine lv_bipush (v := 15) hx hb d_Model_wide_222 (by decide) ?_
        refine lv_isub hx hb d_Model_wide_224 ?_
        obtain ⟨hg, hf⟩ := sd_gd_e hf
        refine k_iald hx hb hK hI 6 0 rfl rfl hg d_Model_wide_225 ?_
        refine lv_bipush (v := 7) hx hb d_Model_wide_226 (by decide) ?_
        obtain ⟨x17, m16, hq, hf⟩ := sd_bi_e hf
        refine k_callS (As := [.int (m14.1 6 (Int32.toNatClampNeg (v4 - (15 : Int32)))), .int (7 : Int32)]) (rest := [.int (((x13 ^^^ x15) ^^^ (sd_usr (m14.1 6 (Int32.toNatClampNeg (v4 - (2 : Int32)))) (10 : Int32))) + (m14.1 6 (Int32.toNatClampNeg (v4 - (7 : Int32))))), .int v4, .ref (q 6)]) ZM_ok X hI (mt_Model_right l hq) (va_cwS 2 hts (gd_S tw_717 tw_718 tw_9 tw_719) rfl rfl rfl (by decide +kernel) ⟨Nat.le_of_ble_eq_true rfl, Nat.le_of_ble_eq_true rfl⟩) rfl hl.1 rfl (Nat.le_of_ble_eq_true rfl) d_Model_wide_228 ⟨Nat.zero_le _, Nat.zero_le _⟩ (fun H locs hn_x17 hI => ?_)
        refine lv_aload_n hx hb d_Model_wide_231 rfl (lv_at hl 1 rfl) ?_
        refine va_get (D := D) (ci := 7) (v := .ref (q 6)) (C := "ScriptDeskModel") (T := T_Model) (N := 18) hx hb hts iw_Model hown hK hI.1 0 rfl rfl 15 (by decide) (hts _ tw_546) (fun _ h9 => h9) rfl d_Model_wide_232 ?_
        refine lv_iload hx hb d_Model_wide_235 (lv_at hl 5 rfl) ?_
        refine lv_bipush (v := 15) hx hb d_Model_wide_237 (by decide) ?_
        refine lv_isub hx hb d_Model_wide_239 ?_
        obtain ⟨hg, hf⟩ := sd_gd_e hf
        refine k_iald hx hb hK hI 6 0 rfl rfl hg d_Model_wide_240 ?_
        refine lv_bipush (v := 18) hx hb d_Model_wide_241 (by decide) ?_
        obtain ⟨x19, m18, hq, hf⟩ := sd_bi_e hf
        refine k_callS (As := [.int (m16.1 6 (Int32.toNatClampNeg (v4 - (15 : Int32)))), .int (18 : Int32)]) (rest := [.int x17, .int (((x13 ^^^ x15) ^^^ (sd_usr (m14.1 6 (Int32.toNatClampNeg (v4 - (2 : Int32)))) (10 : Int32))) + (m14.1 6 (Int32.toNatClampNeg (v4 - (7 : Int32))))), .int v4, .ref (q 6)]) ZM_ok X hI (mt_Model_right l hq) (va_cwS 2 hts (gd_S tw_717 tw_718 tw_9 tw_719) rfl rfl rfl (by decide +kernel) ⟨Nat.le_of_ble_eq_true rfl, Nat.le_of_ble_eq_true rfl⟩) rfl hl.1 rfl (Nat.le_of_ble_eq_true rfl) d_Model_wide_243 ⟨Nat.zero_le _, Nat.zero_le _⟩ (fun H locs hn_x19 hI => ?_)
        refine lv_ixor hx hb d_Model_wide_246 ?_
        refine lv_aload_n hx hb d_Model_wide_247 rfl (lv_at hl 1 rfl) ?_
        refine va_get (D := D) (ci := 7) (v := .ref (q 6)) (C := "ScriptDeskModel") (T := T_Model) (N := 18) hx hb hts iw_Model hown hK hI.1 0 rfl rfl 15 (by decide) (hts _ tw_546) (fun _ h9 => h9) rfl d_Model_wide_248 ?_
        refine lv_iload hx hb d_Model_wide_251 (lv_at hl 5 rfl) ?_
        refine lv_bipush (v := 15) hx hb d_Model_wide_253 (by decide) ?_
        refine lv_isub hx hb d_Model_wide_255 ?_
        obtain ⟨hg, hf⟩ := sd_gd_e hf
        refine k_iald hx hb hK hI 6 0 rfl rfl hg d_Model_wide_256 ?_
        refine lv_iconst (v := 3) hx hb d_Model_wide_257 (by decide) ?_
        refine lv_iushr (v := (sd_usr (m18.1 6 (Int32.toNatClampNeg (v4 - (15 : Int32)))) (3 : Int32))) hx hb d_Model_wide_258 rfl ?_
        refine lv_ixor hx hb d_Model_wide_259 ?_
        refine lv_iadd hx hb d_Model_wide_260 ?_
        refine lv_aload_n hx hb d_Model_wide_261 rfl (lv_at hl 1 rfl) ?_
        refine va_get (D := D) (ci := 7) (v := .ref (q 6)) (C := "ScriptDeskModel") (T := T_Model) (N := 18) hx hb hts iw_Model hown hK hI.1 0 rfl rfl 15 (by decide) (hts _ tw_546) (fun _ h9 => h9) rfl d_Model_wide_262 ?_
        refine lv_iload hx hb d_Model_wide_265 (lv_at hl 5 rfl) ?_
        refine lv_bipush (v := 16) hx hb d_Model_wide_267 (by decide) ?_
        refine lv_isub hx hb d_Model_wide_269 ?_
        obtain ⟨hg, hf⟩ := sd_gd_e hf
        refine k_iald hx hb hK hI 6 0 rfl rfl hg d_Model_wide_270 ?_
        refine lv_iadd hx hb d_Model_wide_271 ?_
        obtain ⟨hg, hf⟩ := sd_gd_e hf
        refine k_iast (μ' := sd_st m18 6 (Int32.toNatClampNeg v4) (((((x13 ^^^ x15) ^^^ (sd_usr (m14.1 6 (Int32.toNatClampNeg (v4 - (2 : Int32)))) (10 : Int32))) + (m14.1 6 (Int32.toNatClampNeg (v4 - (7 : Int32))))) + ((x17 ^^^ x19) ^^^ (sd_usr (m18.1 6 (Int32.toNatClampNeg (v4 - (15 : Int32)))) (3 : Int32)))) + (m18.1 6 (Int32.toNatClampNeg (v4 - (16 : Int32)))))) hx hb hK hI 6 0 rfl rfl rfl hg d_Model_wide_272 (fun H locs hI => ?_)
        obtain ⟨m20, hI, hf⟩ := k_lm hf hI
        refine lv_iinc (v := (v4 + (1 : Int32))) (lv' := [(4, .int (v4 + (1 : Int32))), (5, .int x11), (0, .ref (q 0)), (1, .int v1), (2, .int v2), (3, .int v3)]) hx hb d_Model_wide_273 hl (k := 5) rfl rfl (by decide) rfl (fun ls hl => ?_)
        refine lv_goto (tgt := 83) hx hb d_Model_wide_276 (by decide) ?_
        exact ih (v1) (v2) (v3) ((v4 + (1 : Int32))) m20 _ _ _ hI (lv_sub hl [2, 3, 4, 5, 0] rfl) hf
      · have hf := sd_f hf hc
        refine lv_aload_n hx hb d_Model_wide_114 rfl (lv_at hl 1 rfl) ?_
        refine va_get (D := D) (ci := 7) (v := .ref (q 5)) (C := "ScriptDeskModel") (T := T_Model) (N := 18) hx hb hts iw_Model hown hK hI.1 0 rfl rfl 14 (by decide) (hts _ tw_545) (fun _ h9 => h9) rfl d_Model_wide_115 ?_
        refine lv_iload hx hb d_Model_wide_118 (lv_at hl 0 rfl) ?_
        obtain ⟨hg, hf⟩ := sd_gd_e hf
        refine k_iald hx hb hK hI 5 0 rfl rfl hg d_Model_wide_120 ?_
        refine lv_bipush (v := 24) hx hb d_Model_wide_121 (by decide) ?_
        refine lv_ishl hx hb d_Model_wide_123 ?_
        refine lv_aload_n hx hb d_Model_wide_124 rfl (lv_at hl 1 rfl) ?_
        refine va_get (D := D) (ci := 7) (v := .ref (q 5)) (C := "ScriptDeskModel") (T := T_Model) (N := 18) hx hb hts iw_Model hown hK hI.1 0 rfl rfl 14 (by decide) (hts _ tw_545) (fun _ h9 => h9) rfl d_Model_wide_125 ?_
        refine lv_iload hx hb d_Model_wide_128 (lv_at hl 0 rfl) ?_
        refine lv_iconst (v := 1) hx hb d_Model_wide_130 (by decide) ?_
        refine lv_iadd hx hb d_Model_wide_131 ?_
        obtain ⟨hg, hf⟩ := sd_gd_e hf
        refine k_iald hx hb hK hI 5 0 rfl rfl hg d_Model_wide_132 ?_
        refine lv_bipush (v := 16) hx hb d_Model_wide_133 (by decide) ?_
        refine lv_ishl hx hb d_Model_wide_135 ?_
        refine lv_ior hx hb d_Model_wide_136 ?_
        refine lv_aload_n hx hb d_Model_wide_137 rfl (lv_at hl 1 rfl) ?_
        refine va_get (D := D) (ci := 7) (v := .ref (q 5)) (C := "ScriptDeskModel") (T := T_Model) (N := 18) hx hb hts iw_Model hown hK hI.1 0 rfl rfl 14 (by decide) (hts _ tw_545) (fun _ h9 => h9) rfl d_Model_wide_138 ?_
        refine lv_iload hx hb d_Model_wide_141 (lv_at hl 0 rfl) ?_
        refine lv_iconst (v := 2) hx hb d_Model_wide_143 (by decide) ?_
        refine lv_iadd hx hb d_Model_wide_144 ?_
        obtain ⟨hg, hf⟩ := sd_gd_e hf
        refine k_iald hx hb hK hI 5 0 rfl rfl hg d_Model_wide_145 ?_
        refine lv_bipush (v := 8) hx hb d_Model_wide_146 (by decide) ?_
        refine lv_ishl hx hb d_Model_wide_148 ?_
        refine lv_ior hx hb d_Model_wide_149 ?_
        refine lv_aload_n hx hb d_Model_wide_150 rfl (lv_at hl 1 rfl) ?_
        refine va_get (D := D) (ci := 7) (v := .ref (q 5)) (C := "ScriptDeskModel") (T := T_Model) (N := 18) hx hb hts iw_Model hown hK hI.1 0 rfl rfl 14 (by decide) (hts _ tw_545) (fun _ h9 => h9) rfl d_Model_wide_151 ?_
        refine lv_iload hx hb d_Model_wide_154 (lv_at hl 0 rfl) ?_
        refine lv_iconst (v := 3) hx hb d_Model_wide_156 (by decide) ?_
        refine lv_iadd hx hb d_Model_wide_157 ?_
        obtain ⟨hg, hf⟩ := sd_gd_e hf
        refine k_iald hx hb hK hI 5 0 rfl rfl hg d_Model_wide_158 ?_
        refine lv_ior hx hb d_Model_wide_159 ?_
        refine lv_goto (tgt := 272) hx hb d_Model_wide_160 (by decide) ?_
        obtain ⟨hg, hf⟩ := sd_gd_e hf
        refine k_iast (μ' := sd_st μ 6 (Int32.toNatClampNeg v4) (((((μ.1 5 (Int32.toNatClampNeg x11)) <<< ((24 : Int32) &&& 31)) ||| ((μ.1 5 (Int32.toNatClampNeg (x11 + (1 : Int32)))) <<< ((16 : Int32) &&& 31))) ||| ((μ.1 5 (Int32.toNatClampNeg (x11 + (2 : Int32)))) <<< ((8 : Int32) &&& 31))) ||| (μ.1 5 (Int32.toNatClampNeg (x11 + (3 : Int32)))))) hx hb hK hI 6 0 rfl rfl rfl hg d_Model_wide_272 (fun H locs hI => ?_)
        obtain ⟨m21, hI, hf⟩ := k_lm hf hI
        refine lv_iinc (v := (v4 + (1 : Int32))) (lv' := [(4, .int (v4 + (1 : Int32))), (5, .int x11), (0, .ref (q 0)), (1, .int v1), (2, .int v2), (3, .int v3)]) hx hb d_Model_wide_273 hl (k := 5) rfl rfl (by decide) rfl (fun ls hl => ?_)
        refine lv_goto (tgt := 83) hx hb d_Model_wide_276 (by decide) ?_
        exact ih (v1) (v2) (v3) ((v4 + (1 : Int32))) m21 _ _ _ hI (lv_sub hl [2, 3, 4, 5, 0] rfl) hf
set_option maxHeartbeats 4000000 in
set_option maxRecDepth 100000 in
theorem lp_Model_wide_r0_L282 (l : Launch) {p : Program} {e : Env} {s : State} {m : MethodId} {args : Array Value} {below : List Frame} {meth : Method} {c : Code} {A : Nat → Prop} {D : va_G} {q tq : Nat → Nat} {cA : ClassId} {ru : sd_Me} (X : sd_Cx p s m args meth c prog_12_method_17_code "ScriptDeskModel" sx_tbl 8 none vwCl D [(cA, .int)] (ZM tq) A) {k309 : Int32 → Int32 → Int32 → sd_Me → Option (sd_Me)} (hk309 : ∀ (v1 : Int32) (v2 : Int32) (v3 : Int32) (μ : sd_Me) (H : Heap) (locs : List Loc) (ls : Array Slot), sd_CI vwCl (wdM q cA) D A s H locs μ → lv_has ls 8 [(0, .ref (q 0)), (1, .int v1), (2, .int v2), (3, .int v3)] → k309 v1 v2 v3 μ = some ru → W p l e ({ frames := 1, cells := 0, slots := 0, locals := 26 }) s m args below meth c H locs 0 0 (sd_QV below vwCl (wdM q cA) D [(cA, .int)] A args s ru) (F0 m 309 ls [])) :
    ∀ (n : Nat) (v1 : Int32) (v2 : Int32) (v3 : Int32) (v4 : Int32) (μ : sd_Me) (H : Heap) (locs : List Loc) (ls : Array Slot), sd_CI vwCl (wdM q cA) D A s H locs μ → lv_has ls 8 [(0, .ref (q 0)), (1, .int v1), (2, .int v2), (3, .int v3), (4, .int v4)] → fn_Model_wide_r0_L282 k309 n v1 v2 v3 v4 μ = some ru → W p l e ({ frames := 1, cells := 0, slots := 0, locals := 26 }) s m args below meth c H locs 0 0 (sd_QV below vwCl (wdM q cA) D [(cA, .int)] A args s ru) (F0 m 282 ls []) := by
  obtain ⟨hx, hb, hml, hown, hts, hK, hZ, hA, hr, hlocks⟩ := id X
  intro n
  induction n with
  | zero =>
    intro v1 v2 v3 v4 μ H locs ls hI hl hf
    cases hf
  | succ n ih =>
    intro v1 v2 v3 v4 μ H locs ls hI hl hf
    rw [fn_Model_wide_r0_L282] at hf
    refine lv_iload hx hb d_Model_wide_282 (lv_at hl 4 rfl) ?_
    refine lv_bipush (v := 8) hx hb d_Model_wide_284 (by decide) ?_
    refine lv_icmp_ge (tgt := 309) hx hb d_Model_wide_286 (by decide) (fun hc => ?_) (fun hc => ?_)
    · have hf := sd_t hf hc
      exact hk309 (v1) (v2) (v3) μ _ _ _ hI (lv_sub hl [0, 1, 2, 3] rfl) hf
    · have hf := sd_f hf hc
      refine lv_aload_n hx hb d_Model_wide_289 rfl (lv_at hl 0 rfl) ?_
      refine va_get (D := D) (ci := 7) (v := .ref (q 8)) (C := "ScriptDeskModel") (T := T_Model) (N := 18) hx hb hts iw_Model hown hK hI.1 0 rfl rfl 17 (by decide) (hts _ tw_548) (fun _ h9 => h9) rfl d_Model_wide_290 ?_
      refine lv_iload hx hb d_Model_wide_293 (lv_at hl 4 rfl) ?_
      refine lv_aload_n hx hb d_Model_wide_295 rfl (lv_at hl 0 rfl) ?_
      refine va_get (D := D) (ci := 7) (v := .ref (q 7)) (C := "ScriptDeskModel") (T := T_Model) (N := 18) hx hb hts iw_Model hown hK hI.1 0 rfl rfl 16 (by decide) (hts _ tw_547) (fun _ h9 => h9) rfl d_Model_wide_296 ?_
      refine lv_iload hx hb d_Model_wide_299 (lv_at hl 4 rfl) ?_
      obtain ⟨hg, hf⟩ := sd_gd_e hf
      refine k_iald hx hb hK hI 7 0 rfl rfl hg d_Model_wide_301 ?_
      obtain ⟨hg, hf⟩ := sd_gd_e hf
      refine k_iast (μ' := sd_st μ 8 (Int32.toNatClampNeg v4) (μ.1 7 (Int32.toNatClampNeg v4))) hx hb hK hI 8 0 rfl rfl rfl hg d_Model_wide_302 (fun H locs hI => ?_)
      obtain ⟨m26, hI, hf⟩ := k_lm hf hI
      refine lv_iinc (v := (v4 + (1 : Int32))) (lv' := [(4, .int (v4 + (1 : Int32))), (0, .ref (q 0)), (1, .int v1), (2, .int v2), (3, .int v3)]) hx hb d_Model_wide_303 hl (k := 4) rfl rfl (by decide) rfl (fun ls hl => ?_)
      refine lv_goto (tgt := 282) hx hb d_Model_wide_306 (by decide) ?_
      exact ih (v1) (v2) (v3) ((v4 + (1 : Int32))) m26 _ _ _ hI (lv_sub hl [1, 2, 3, 4, 0] rfl) hf
set_option maxHeartbeats 4000000 in
set_option maxRecDepth 100000 in
theorem lp_Model_wide_r0_L492 (l : Launch) {p : Program} {e : Env} {s : State} {m : MethodId} {args : Array Value} {below : List Frame} {meth : Method} {c : Code} {A : Nat → Prop} {D : va_G} {q tq : Nat → Nat} {cA : ClassId} {ru : sd_Me} (X : sd_Cx p s m args meth c prog_12_method_17_code "ScriptDeskModel" sx_tbl 8 none vwCl D [(cA, .int)] (ZM tq) A) {k519 : Int32 → Int32 → Int32 → Int32 → Int32 → Int32 → sd_Me → Option (sd_Me)} (hk519 : ∀ (v1 : Int32) (v2 : Int32) (v3 : Int32) (v4 : Int32) (v5 : Int32) (v6 : Int32) (μ : sd_Me) (H : Heap) (locs : List Loc) (ls : Array Slot), sd_CI vwCl (wdM q cA) D A s H locs μ → lv_has ls 8 [(0, .ref (q 0)), (1, .int v1), (2, .int v2), (3, .int v3), (4, .int v4), (5, .int v5), (6, .int v6)] → k519 v1 v2 v3 v4 v5 v6 μ = some ru → W p l e ({ frames := 1, cells := 0, slots := 0, locals := 26 }) s m args below meth c H locs 0 0 (sd_QV below vwCl (wdM q cA) D [(cA, .int)] A args s ru) (F0 m 519 ls [])) :
    ∀ (n : Nat) (v1 : Int32) (v2 : Int32) (v3 : Int32) (v4 : Int32) (v5 : Int32) (v6 : Int32) (v7 : Int32) (μ : sd_Me) (H : Heap) (locs : List Loc) (ls : Array Slot), sd_CI vwCl (wdM q cA) D A s H locs μ → lv_has ls 8 [(0, .ref (q 0)), (1, .int v1), (2, .int v2), (3, .int v3), (4, .int v4), (5, .int v5), (6, .int v6), (7, .int v7)] → fn_Model_wide_r0_L492 k519 n v1 v2 v3 v4 v5 v6 v7 μ = some ru → W p l e ({ frames := 1, cells := 0, slots := 0, locals := 26 }) s m args below meth c H locs 0 0 (sd_QV below vwCl (wdM q cA) D [(cA, .int)] A args s ru) (F0 m 492 ls []) := by
  obtain ⟨hx, hb, hml, hown, hts, hK, hZ, hA, hr, hlocks⟩ := id X
  intro n
  induction n with
  | zero =>
    intro v1 v2 v3 v4 v5 v6 v7 μ H locs ls hI hl hf
    cases hf
  | succ n ih =>
    intro v1 v2 v3 v4 v5 v6 v7 μ H locs ls hI hl hf
    rw [fn_Model_wide_r0_L492] at hf
    refine lv_iload hx hb d_Model_wide_492 (lv_at hl 7 rfl) ?_
    refine lv_if_le (tgt := 519) hx hb d_Model_wide_494 (by decide) (fun hc => ?_) (fun hc => ?_)
    · have hf := sd_t hf hc
      exact hk519 (v1) (v2) (v3) (v4) (v5) (v6) μ _ _ _ hI (lv_sub hl [0, 1, 2, 3, 4, 5, 6] rfl) hf
    · have hf := sd_f hf hc
      refine lv_aload_n hx hb d_Model_wide_497 rfl (lv_at hl 0 rfl) ?_
      refine va_get (D := D) (ci := 7) (v := .ref (q 8)) (C := "ScriptDeskModel") (T := T_Model) (N := 18) hx hb hts iw_Model hown hK hI.1 0 rfl rfl 17 (by decide) (hts _ tw_548) (fun _ h9 => h9) rfl d_Model_wide_498 ?_
      refine lv_iload hx hb d_Model_wide_501 (lv_at hl 7 rfl) ?_
      refine lv_aload_n hx hb d_Model_wide_503 rfl (lv_at hl 0 rfl) ?_
      refine va_get (D := D) (ci := 7) (v := .ref (q 8)) (C := "ScriptDeskModel") (T := T_Model) (N := 18) hx hb hts iw_Model hown hK hI.1 0 rfl rfl 17 (by decide) (hts _ tw_548) (fun _ h9 => h9) rfl d_Model_wide_504 ?_
      refine lv_iload hx hb d_Model_wide_507 (lv_at hl 7 rfl) ?_
      refine lv_iconst (v := 1) hx hb d_Model_wide_509 (by decide) ?_
      refine lv_isub hx hb d_Model_wide_510 ?_
      obtain ⟨hg, hf⟩ := sd_gd_e hf
      refine k_iald hx hb hK hI 8 0 rfl rfl hg d_Model_wide_511 ?_
      obtain ⟨hg, hf⟩ := sd_gd_e hf
      refine k_iast (μ' := sd_st μ 8 (Int32.toNatClampNeg v7) (μ.1 8 (Int32.toNatClampNeg (v7 - (1 : Int32))))) hx hb hK hI 8 0 rfl rfl rfl hg d_Model_wide_512 (fun H locs hI => ?_)
      obtain ⟨m45, hI, hf⟩ := k_lm hf hI
      refine lv_iinc (v := (v7 + (-1 : Int32))) (lv' := [(7, .int (v7 + (-1 : Int32))), (0, .ref (q 0)), (1, .int v1), (2, .int v2), (3, .int v3), (4, .int v4), (5, .int v5), (6, .int v6)]) hx hb d_Model_wide_513 hl (k := 7) rfl rfl (by decide) rfl (fun ls hl => ?_)
      refine lv_goto (tgt := 492) hx hb d_Model_wide_516 (by decide) ?_
      exact ih (v1) (v2) (v3) (v4) (v5) (v6) ((v7 + (-1 : Int32))) m45 _ _ _ hI (lv_sub hl [1, 2, 3, 4, 5, 6, 7, 0] rfl) hf
set_option maxHeartbeats 4000000 in
set_option maxRecDepth 100000 in
theorem lp_Model_wide_r0_L312 (l : Launch) {p : Program} {e : Env} {s : State} {m : MethodId} {args : Array Value} {below : List Frame} {meth : Method} {c : Code} {A : Nat → Prop} {D : va_G} {q tq : Nat → Nat} {cA : ClassId} {ru : sd_Me} (X : sd_Cx p s m args meth c prog_12_method_17_code "ScriptDeskModel" sx_tbl 8 none vwCl D [(cA, .int)] (ZM tq) A) {k551 : Int32 → Int32 → Int32 → sd_Me → Option (sd_Me)} (hk551 : ∀ (v1 : Int32) (v2 : Int32) (v3 : Int32) (μ : sd_Me) (H : Heap) (locs : List Loc) (ls : Array Slot), sd_CI vwCl (wdM q cA) D A s H locs μ → lv_has ls 8 [(0, .ref (q 0)), (1, .int v1), (2, .int v2), (3, .int v3)] → k551 v1 v2 v3 μ = some ru → W p l e ({ frames := 1, cells := 0, slots := 0, locals := 26 }) s m args below meth c H locs 0 0 (sd_QV below vwCl (wdM q cA) D [(cA, .int)] A args s ru) (F0 m 551 ls [])) :
    ∀ (n : Nat) (v1 : Int32) (v2 : Int32) (v3 : Int32) (v4 : Int32) (μ : sd_Me) (H : Heap) (locs : List Loc) (ls : Array Slot), sd_CI vwCl (wdM q cA) D A s H locs μ → lv_has ls 8 [(0, .ref (q 0)), (1, .int v1), (2, .int v2), (3, .int v3), (4, .int v4)] → fn_Model_wide_r0_L312 k551 n v1 v2 v3 v4 μ = some ru → W p l e ({ frames := 1, cells := 0, slots := 0, locals := 26 }) s m args below meth c H locs 0 0 (sd_QV below vwCl (wdM q cA) D [(cA, .int)] A args s ru) (F0 m 312 ls []) := by
  obtain ⟨hx, hb, hml, hown, hts, hK, hZ, hA, hr, hlocks⟩ := id X
  intro n
  induction n with
  | zero =>
    intro v1 v2 v3 v4 μ H locs ls hI hl hf
    cases hf
  | succ n ih =>
    intro v1 v2 v3 v4 μ H locs ls hI hl hf
    rw [fn_Model_wide_r0_L312] at hf
    refine lv_iload hx hb d_Model_wide_312 (lv_at hl 4 rfl) ?_
    refine lv_bipush (v := 64) hx hb d_Model_wide_314 (by decide) ?_
    refine lv_icmp_ge (tgt := 551) hx hb d_Model_wide_316 (by decide) (fun hc => ?_) (fun hc => ?_)
    · have hf := sd_t hf hc
      exact hk551 (v1) (v2) (v3) μ _ _ _ hI (lv_sub hl [0, 1, 2, 3] rfl) hf
    · have hf := sd_f hf hc
      refine lv_aload_n hx hb d_Model_wide_319 rfl (lv_at hl 0 rfl) ?_
      refine va_get (D := D) (ci := 7) (v := .ref (q 8)) (C := "ScriptDeskModel") (T := T_Model) (N := 18) hx hb hts iw_Model hown hK hI.1 0 rfl rfl 17 (by decide) (hts _ tw_548) (fun _ h9 => h9) rfl d_Model_wide_320 ?_
      refine lv_bipush (v := 7) hx hb d_Model_wide_323 (by decide) ?_
      obtain ⟨hg, hf⟩ := sd_gd_e hf
      refine k_iald hx hb hK hI 8 0 rfl rfl hg d_Model_wide_325 ?_
      refine lv_aload_n hx hb d_Model_wide_326 rfl (lv_at hl 0 rfl) ?_
      refine va_get (D := D) (ci := 7) (v := .ref (q 8)) (C := "ScriptDeskModel") (T := T_Model) (N := 18) hx hb hts iw_Model hown hK hI.1 0 rfl rfl 17 (by decide) (hts _ tw_548) (fun _ h9 => h9) rfl d_Model_wide_327 ?_
      refine lv_iconst (v := 4) hx hb d_Model_wide_330 (by decide) ?_
      obtain ⟨hg, hf⟩ := sd_gd_e hf
      refine k_iald hx hb hK hI 8 0 rfl rfl hg d_Model_wide_331 ?_
      refine lv_bipush (v := 6) hx hb d_Model_wide_332 (by decide) ?_
      obtain ⟨x32, m31, hq, hf⟩ := sd_bi_e hf
      refine k_callS (As := [.int (μ.1 8 (Int32.toNatClampNeg (4 : Int32))), .int (6 : Int32)]) (rest := [.int (μ.1 8 (Int32.toNatClampNeg (7 : Int32)))]) ZM_ok X hI (mt_Model_right l hq) (va_cwS 2 hts (gd_S tw_717 tw_718 tw_9 tw_719) rfl rfl rfl (by decide +kernel) ⟨Nat.le_of_ble_eq_true rfl, Nat.le_of_ble_eq_true rfl⟩) rfl hl.1 rfl (Nat.le_of_ble_eq_true rfl) d_Model_wide_334 ⟨Nat.zero_le _, Nat.zero_le _⟩ (fun H locs hn_x32 hI => ?_)
      refine lv_aload_n hx hb d_Model_wide_337 rfl (lv_at hl 0 rfl) ?_
      refine va_get (D := D) (ci := 7) (v := .ref (q 8)) (C := "ScriptDeskModel") (T := T_Model) (N := 18) hx hb hts iw_Model hown hK hI.1 0 rfl rfl 17 (by decide) (hts _ tw_548) (fun _ h9 => h9) rfl d_Model_wide_338 ?_
      refine lv_iconst (v := 4) hx hb d_Model_wide_341 (by decide) ?_
      obtain ⟨hg, hf⟩ := sd_gd_e hf
      refine k_iald hx hb hK hI 8 0 rfl rfl hg d_Model_wide_342 ?_
      refine lv_bipush (v := 11) hx hb d_Model_wide_343 (by decide) ?_
      obtain ⟨x34, m33, hq, hf⟩ := sd_bi_e hf
      refine k_callS (As := [.int (m31.1 8 (Int32.toNatClampNeg (4 : Int32))), .int (11 : Int32)]) (rest := [.int x32, .int (μ.1 8 (Int32.toNatClampNeg (7 : Int32)))]) ZM_ok X hI (mt_Model_right l hq) (va_cwS 2 hts (gd_S tw_717 tw_718 tw_9 tw_719) rfl rfl rfl (by decide +kernel) ⟨Nat.le_of_ble_eq_true rfl, Nat.le_of_ble_eq_true rfl⟩) rfl hl.1 rfl (Nat.le_of_ble_eq_true rfl) d_Model_wide_345 ⟨Nat.zero_le _, Nat.zero_le _⟩ (fun H locs hn_x34 hI => ?_)
      refine lv_ixor hx hb d_Model_wide_348 ?_
      refine lv_aload_n hx hb d_Model_wide_349 rfl (lv_at hl 0 rfl) ?_
      refine va_get (D := D) (ci := 7) (v := .ref (q 8)) (C := "ScriptDeskModel") (T := T_Model) (N := 18) hx hb hts iw_Model hown hK hI.1 0 rfl rfl 17 (by decide) (hts _ tw_548) (fun _ h9 => h9) rfl d_Model_wide_350 ?_
      refine lv_iconst (v := 4) hx hb d_Model_wide_353 (by decide) ?_
      obtain ⟨hg, hf⟩ := sd_gd_e hf
      refine k_iald hx hb hK hI 8 0 rfl rfl hg d_Model_wide_354 ?_
      refine lv_bipush (v := 25) hx hb d_Model_wide_355 (by decide) ?_
      obtain ⟨x36, m35, hq, hf⟩ := sd_bi_e hf
      refine k_callS (As := [.int (m33.1 8 (Int32.toNatClampNeg (4 : Int32))), .int (25 : Int32)]) (rest := [.int (x32 ^^^ x34), .int (μ.1 8 (Int32.toNatClampNeg (7 : Int32)))]) ZM_ok X hI (mt_Model_right l hq) (va_cwS 2 hts (gd_S tw_717 tw_718 tw_9 tw_719) rfl rfl rfl (by decide +kernel) ⟨Nat.le_of_ble_eq_true rfl, Nat.le_of_ble_eq_true rfl⟩) rfl hl.1 rfl (Nat.le_of_ble_eq_true rfl) d_Model_wide_357 ⟨Nat.zero_le _, Nat.zero_le _⟩ (fun H locs hn_x36 hI => ?_)
      refine lv_ixor hx hb d_Model_wide_360 ?_
      refine lv_iadd hx hb d_Model_wide_361 ?_
      refine lv_aload_n hx hb d_Model_wide_362 rfl (lv_at hl 0 rfl) ?_
      refine va_get (D := D) (ci := 7) (v := .ref (q 8)) (C := "ScriptDeskModel") (T := T_Model) (N := 18) hx hb hts iw_Model hown hK hI.1 0 rfl rfl 17 (by decide) (hts _ tw_548) (fun _ h9 => h9) rfl d_Model_wide_363 ?_
      refine lv_iconst (v := 4) hx hb d_Model_wide_366 (by decide) ?_
      obtain ⟨hg, hf⟩ := sd_gd_e hf
      refine k_iald hx hb hK hI 8 0 rfl rfl hg d_Model_wide_367 ?_
      refine lv_aload_n hx hb d_Model_wide_368 rfl (lv_at hl 0 rfl) ?_
      refine va_get (D := D) (ci := 7) (v := .ref (q 8)) (C := "ScriptDeskModel") (T := T_Model) (N := 18) hx hb hts iw_Model hown hK hI.1 0 rfl rfl 17 (by decide) (hts _ tw_548) (fun _ h9 => h9) rfl d_Model_wide_369 ?_
      refine lv_iconst (v := 5) hx hb d_Model_wide_372 (by decide) ?_
      obtain ⟨hg, hf⟩ := sd_gd_e hf
      refine k_iald hx hb hK hI 8 0 rfl rfl hg d_Model_wide_373 ?_
      refine lv_iand hx hb d_Model_wide_374 ?_
      refine lv_aload_n hx hb d_Model_wide_375 rfl (lv_at hl 0 rfl) ?_
      refine va_get (D := D) (ci := 7) (v := .ref (q 8)) (C := "ScriptDeskModel") (T := T_Model) (N := 18) hx hb hts iw_Model hown hK hI.1 0 rfl rfl 17 (by decide) (hts _ tw_548) (fun _ h9 => h9) rfl d_Model_wide_376 ?_
      refine lv_iconst (v := 4) hx hb d_Model_wide_379 (by decide) ?_
      obtain ⟨hg, hf⟩ := sd_gd_e hf
      refine k_iald hx hb hK hI 8 0 rfl rfl hg d_Model_wide_380 ?_
      refine lv_iconst (v := -1) hx hb d_Model_wide_381 (by decide) ?_
      refine lv_ixor hx hb d_Model_wide_382 ?_
      refine lv_aload_n hx hb d_Model_wide_383 rfl (lv_at hl 0 rfl) ?_
      refine va_get (D := D) (ci := 7) (v := .ref (q 8)) (C := "ScriptDeskModel") (T := T_Model) (N := 18) hx hb hts iw_Model hown hK hI.1 0 rfl rfl 17 (by decide) (hts _ tw_548) (fun _ h9 => h9) rfl d_Model_wide_384 ?_
      refine lv_bipush (v := 6) hx hb d_Model_wide_387 (by decide) ?_
      obtain ⟨hg, hf⟩ := sd_gd_e hf
      refine k_iald hx hb hK hI 8 0 rfl rfl hg d_Model_wide_389 ?_
      refine lv_iand hx hb d_Model_wide_390 ?_
      refine lv_ixor hx hb d_Model_wide_391 ?_
      refine lv_iadd hx hb d_Model_wide_392 ?_
      refine va_gets hx hb (hZM_Z0 hZ) hI.2.2 hown (hts _ tw_720) (fun _ h9 => h9) d_Model_wide_393 ?_
      refine lv_iload hx hb d_Model_wide_396 (lv_at hl 4 rfl) ?_
      obtain ⟨hg, hf⟩ := sd_gd_e hf
      refine va_ti (v := .int (tabM0 (Int32.toNatClampNeg v4))) hx hb (hZM_T0 hZ) hI.2.2 (sd_ix_in hg) rfl d_Model_wide_398 ?_
      refine lv_iadd hx hb d_Model_wide_399 ?_
      refine lv_aload_n hx hb d_Model_wide_400 rfl (lv_at hl 0 rfl) ?_
      refine va_get (D := D) (ci := 7) (v := .ref (q 6)) (C := "ScriptDeskModel") (T := T_Model) (N := 18) hx hb hts iw_Model hown hK hI.1 0 rfl rfl 15 (by decide) (hts _ tw_546) (fun _ h9 => h9) rfl d_Model_wide_401 ?_
      refine lv_iload hx hb d_Model_wide_404 (lv_at hl 4 rfl) ?_
      obtain ⟨hg, hf⟩ := sd_gd_e hf
      refine k_iald hx hb hK hI 6 0 rfl rfl hg d_Model_wide_406 ?_
      refine lv_iadd hx hb d_Model_wide_407 ?_
      refine k_li hf (fun x37 hf => ?_)
      refine lv_istore (lv' := [(5, .int x37), (0, .ref (q 0)), (1, .int v1), (2, .int v2), (3, .int v3), (4, .int v4)]) hx hb d_Model_wide_408 hl (by decide) rfl (fun ls hl => ?_)
      refine lv_aload_n hx hb d_Model_wide_410 rfl (lv_at hl 1 rfl) ?_
      refine va_get (D := D) (ci := 7) (v := .ref (q 8)) (C := "ScriptDeskModel") (T := T_Model) (N := 18) hx hb hts iw_Model hown hK hI.1 0 rfl rfl 17 (by decide) (hts _ tw_548) (fun _ h9 => h9) rfl d_Model_wide_411 ?_
      refine lv_iconst (v := 0) hx hb d_Model_wide_414 (by decide) ?_
      obtain ⟨hg, hf⟩ := sd_gd_e hf
      refine k_iald hx hb hK hI 8 0 rfl rfl hg d_Model_wide_415 ?_
      refine lv_iconst (v := 2) hx hb d_Model_wide_416 (by decide) ?_
      obtain ⟨x39, m38, hq, hf⟩ := sd_bi_e hf
      refine k_callS (As := [.int (m35.1 8 (Int32.toNatClampNeg (0 : Int32))), .int (2 : Int32)]) (rest := []) ZM_ok X hI (mt_Model_right l hq) (va_cwS 2 hts (gd_S tw_717 tw_718 tw_9 tw_719) rfl rfl rfl (by decide +kernel) ⟨Nat.le_of_ble_eq_true rfl, Nat.le_of_ble_eq_true rfl⟩) rfl hl.1 rfl (Nat.le_of_ble_eq_true rfl) d_Model_wide_417 ⟨Nat.zero_le _, Nat.zero_le _⟩ (fun H locs hn_x39 hI => ?_)
      refine lv_aload_n hx hb d_Model_wide_420 rfl (lv_at hl 1 rfl) ?_
      refine va_get (D := D) (ci := 7) (v := .ref (q 8)) (C := "ScriptDeskModel") (T := T_Model) (N := 18) hx hb hts iw_Model hown hK hI.1 0 rfl rfl 17 (by decide) (hts _ tw_548) (fun _ h9 => h9) rfl d_Model_wide_421 ?_
      refine lv_iconst (v := 0) hx hb d_Model_wide_424 (by decide) ?_
      obtain ⟨hg, hf⟩ := sd_gd_e hf
      refine k_iald hx hb hK hI 8 0 rfl rfl hg d_Model_wide_425 ?_
      refine lv_bipush (v := 13) hx hb d_Model_wide_426 (by decide) ?_
      obtain ⟨x41, m40, hq, hf⟩ := sd_bi_e hf
      refine k_callS (As := [.int (m38.1 8 (Int32.toNatClampNeg (0 : Int32))), .int (13 : Int32)]) (rest := [.int x39]) ZM_ok X hI (mt_Model_right l hq) (va_cwS 2 hts (gd_S tw_717 tw_718 tw_9 tw_719) rfl rfl rfl (by decide +kernel) ⟨Nat.le_of_ble_eq_true rfl, Nat.le_of_ble_eq_true rfl⟩) rfl hl.1 rfl (Nat.le_of_ble_eq_true rfl) d_Model_wide_428 ⟨Nat.zero_le _, Nat.zero_le _⟩ (fun H locs hn_x41 hI => ?_)
      refine lv_ixor hx hb d_Model_wide_431 ?_
      refine lv_aload_n hx hb d_Model_wide_432 rfl (lv_at hl 1 rfl) ?_
      refine va_get (D := D) (ci := 7) (v := .ref (q 8)) (C := "ScriptDeskModel") (T := T_Model) (N := 18) hx hb hts iw_Model hown hK hI.1 0 rfl rfl 17 (by decide) (hts _ tw_548) (fun _ h9 => h9) rfl d_Model_wide_433 ?_
      refine lv_iconst (v := 0) hx hb d_Model_wide_436 (by decide) ?_
      obtain ⟨hg, hf⟩ := sd_gd_e hf
      refine k_iald hx hb hK hI 8 0 rfl rfl hg d_Model_wide_437 ?_
      refine lv_bipush (v := 22) hx hb d_Model_wide_438 (by decide) ?_
      obtain ⟨x43, m42, hq, hf⟩ := sd_bi_e hf
      refine k_callS (As := [.int (m40.1 8 (Int32.toNatClampNeg (0 : Int32))), .int (22 : Int32)]) (rest := [.int (x39 ^^^ x41)]) ZM_ok X hI (mt_Model_right l hq) (va_cwS 2 hts (gd_S tw_717 tw_718 tw_9 tw_719) rfl rfl rfl (by decide +kernel) ⟨Nat.le_of_ble_eq_true rfl, Nat.le_of_ble_eq_true rfl⟩) rfl hl.1 rfl (Nat.le_of_ble_eq_true rfl) d_Model_wide_440 ⟨Nat.zero_le _, Nat.zero_le _⟩ (fun H locs hn_x43 hI => ?_)
      refine lv_ixor hx hb d_Model_wide_443 ?_
      refine lv_aload_n hx hb d_Model_wide_444 rfl (lv_at hl 1 rfl) ?_
      refine va_get (D := D) (ci := 7) (v := .ref (q 8)) (C := "ScriptDeskModel") (T := T_Model) (N := 18) hx hb hts iw_Model hown hK hI.1 0 rfl rfl 17 (by decide) (hts _ tw_548) (fun _ h9 => h9) rfl d_Model_wide_445 ?_
      refine lv_iconst (v := 0) hx hb d_Model_wide_448 (by decide) ?_
      obtain ⟨hg, hf⟩ := sd_gd_e hf
      refine k_iald hx hb hK hI 8 0 rfl rfl hg d_Model_wide_449 ?_
      refine lv_aload_n hx hb d_Model_wide_450 rfl (lv_at hl 1 rfl) ?_
      refine va_get (D := D) (ci := 7) (v := .ref (q 8)) (C := "ScriptDeskModel") (T := T_Model) (N := 18) hx hb hts iw_Model hown hK hI.1 0 rfl rfl 17 (by decide) (hts _ tw_548) (fun _ h9 => h9) rfl d_Model_wide_451 ?_
      refine lv_iconst (v := 1) hx hb d_Model_wide_454 (by decide) ?_
      obtain ⟨hg, hf⟩ := sd_gd_e hf
      refine k_iald hx hb hK hI 8 0 rfl rfl hg d_Model_wide_455 ?_
      refine lv_iand hx hb d_Model_wide_456 ?_
      refine lv_aload_n hx hb d_Model_wide_457 rfl (lv_at hl 1 rfl) ?_
      refine va_get (D := D) (ci := 7) (v := .ref (q 8)) (C := "ScriptDeskModel") (T := T_Model) (N := 18) hx hb hts iw_Model hown hK hI.1 0 rfl rfl 17 (by decide) (hts _ tw_548) (fun _ h9 => h9) rfl d_Model_wide_458 ?_
      refine lv_iconst (v := 0) hx hb d_Model_wide_461 (by decide) ?_
      obtain ⟨hg, hf⟩ := sd_gd_e hf
      refine k_iald hx hb hK hI 8 0 rfl rfl hg d_Model_wide_462 ?_
      refine lv_aload_n hx hb d_Model_wide_463 rfl (lv_at hl 1 rfl) ?_
      refine va_get (D := D) (ci := 7) (v := .ref (q 8)) (C := "ScriptDeskModel") (T := T_Model) (N := 18) hx hb hts iw_Model hown hK hI.1 0 rfl rfl 17 (by decide) (hts _ tw_548) (fun _ h9 => h9) rfl d_Model_wide_464 ?_
      refine lv_iconst (v := 2) hx hb d_Model_wide_467 (by decide) ?_
      obtain ⟨hg, hf⟩ := sd_gd_e hf
      refine k_iald hx hb hK hI 8 0 rfl rfl hg d_Model_wide_468 ?_
      refine lv_iand hx hb d_Model_wide_469 ?_
      refine lv_ixor hx hb d_Model_wide_470 ?_
      refine lv_aload_n hx hb d_Model_wide_471 rfl (lv_at hl 1 rfl) ?_
      refine va_get (D := D) (ci := 7) (v := .ref (q 8)) (C := "ScriptDeskModel") (T := T_Model) (N := 18) hx hb hts iw_Model hown hK hI.1 0 rfl rfl 17 (by decide) (hts _ tw_548) (fun _ h9 => h9) rfl d_Model_wide_472 ?_
      refine lv_iconst (v := 1) hx hb d_Model_wide_475 (by decide) ?_
      obtain ⟨hg, hf⟩ := sd_gd_e hf
      refine k_iald hx hb hK hI 8 0 rfl rfl hg d_Model_wide_476 ?_
      refine lv_aload_n hx hb d_Model_wide_477 rfl (lv_at hl 1 rfl) ?_
      refine va_get (D := D) (ci := 7) (v := .ref (q 8)) (C := "ScriptDeskModel") (T := T_Model) (N := 18) hx hb hts iw_Model hown hK hI.1 0 rfl rfl 17 (by decide) (hts _ tw_548) (fun _ h9 => h9) rfl d_Model_wide_478 ?_
      refine lv_iconst (v := 2) hx hb d_Model_wide_481 (by decide) ?_
      obtain ⟨hg, hf⟩ := sd_gd_e hf
      refine k_iald hx hb hK hI 8 0 rfl rfl hg d_Model_wide_482 ?_
      refine lv_iand hx hb d_Model_wide_483 ?_
      refine lv_ixor hx hb d_Model_wide_484 ?_
      refine lv_iadd hx hb d_Model_wide_485 ?_
      refine k_li hf (fun x44 hf => ?_)
      refine lv_istore (lv' := [(6, .int x44), (5, .int x37), (0, .ref (q 0)), (1, .int v1), (2, .int v2), (3, .int v3), (4, .int v4)]) hx hb d_Model_wide_486 hl (by decide) rfl (fun ls hl => ?_)
      refine lv_bipush (v := 7) hx hb d_Model_wide_488 (by decide) ?_
      refine lv_istore (lv' := [(7, .int (7 : Int32)), (6, .int x44), (5, .int x37), (0, .ref (q 0)), (1, .int v1), (2, .int v2), (3, .int v3), (4, .int v4)]) hx hb d_Model_wide_490 hl (by decide) rfl (fun ls hl => ?_)
      refine lp_Model_wide_r0_L492 l X ?_ 10000 (v1) (v2) (v3) (v4) (x37) (x44) ((7 : Int32)) m42 _ _ _ hI (lv_sub hl [3, 4, 5, 6, 7, 2, 1, 0] rfl) hf
      · intro x46 x47 x48 x49 x50 x51 m52 H locs ls hI hl hf
        refine lv_aload_n hx hb d_Model_wide_519 rfl (lv_at hl 0 rfl) ?_
        refine va_get (D := D) (ci := 7) (v := .ref (q 8)) (C := "ScriptDeskModel") (T := T_Model) (N := 18) hx hb hts iw_Model hown hK hI.1 0 rfl rfl 17 (by decide) (hts _ tw_548) (fun _ h9 => h9) rfl d_Model_wide_520 ?_
        refine lv_iconst (v := 4) hx hb d_Model_wide_523 (by decide) ?_
        refine lv_aload_n hx hb d_Model_wide_524 rfl (lv_at hl 0 rfl) ?_
        refine va_get (D := D) (ci := 7) (v := .ref (q 8)) (C := "ScriptDeskModel") (T := T_Model) (N := 18) hx hb hts iw_Model hown hK hI.1 0 rfl rfl 17 (by decide) (hts _ tw_548) (fun _ h9 => h9) rfl d_Model_wide_525 ?_
        refine lv_iconst (v := 4) hx hb d_Model_wide_528 (by decide) ?_
        obtain ⟨hg, hf⟩ := sd_gd_e hf
        refine k_iald hx hb hK hI 8 0 rfl rfl hg d_Model_wide_529 ?_
        refine lv_iload hx hb d_Model_wide_530 (lv_at hl 5 rfl) ?_
        refine lv_iadd hx hb d_Model_wide_532 ?_
        obtain ⟨hg, hf⟩ := sd_gd_e hf
        refine k_iast (μ' := sd_st m52 8 (Int32.toNatClampNeg (4 : Int32)) ((m52.1 8 (Int32.toNatClampNeg (4 : Int32))) + x50)) hx hb hK hI 8 0 rfl rfl rfl hg d_Model_wide_533 (fun H locs hI => ?_)
        obtain ⟨m53, hI, hf⟩ := k_lm hf hI
        refine lv_aload_n hx hb d_Model_wide_534 rfl (lv_at hl 0 rfl) ?_
        refine va_get (D := D) (ci := 7) (v := .ref (q 8)) (C := "ScriptDeskModel") (T := T_Model) (N := 18) hx hb hts iw_Model hown hK hI.1 0 rfl rfl 17 (by decide) (hts _ tw_548) (fun _ h9 => h9) rfl d_Model_wide_535 ?_
        refine lv_iconst (v := 0) hx hb d_Model_wide_538 (by decide) ?_
        refine lv_iload hx hb d_Model_wide_539 (lv_at hl 5 rfl) ?_
        refine lv_iload hx hb d_Model_wide_541 (lv_at hl 6 rfl) ?_
        refine lv_iadd hx hb d_Model_wide_543 ?_
        obtain ⟨hg, hf⟩ := sd_gd_e hf
        refine k_iast (μ' := sd_st m53 8 (Int32.toNatClampNeg (0 : Int32)) (x50 + x51)) hx hb hK hI 8 0 rfl rfl rfl hg d_Model_wide_544 (fun H locs hI => ?_)
        obtain ⟨m54, hI, hf⟩ := k_lm hf hI
        refine lv_iinc (v := (x49 + (1 : Int32))) (lv' := [(4, .int (x49 + (1 : Int32))), (0, .ref (q 0)), (1, .int x46), (2, .int x47), (3, .int x48), (5, .int x50), (6, .int x51)]) hx hb d_Model_wide_545 hl (k := 4) rfl rfl (by decide) rfl (fun ls hl => ?_)
        refine lv_goto (tgt := 312) hx hb d_Model_wide_548 (by decide) ?_
        exact ih (x46) (x47) (x48) ((x49 + (1 : Int32))) m54 _ _ _ hI (lv_sub hl [1, 2, 3, 4, 0] rfl) hf
set_option maxHeartbeats 4000000 in
set_option maxRecDepth 100000 in
theorem lp_Model_wide_r0_L554 (l : Launch) {p : Program} {e : Env} {s : State} {m : MethodId} {args : Array Value} {below : List Frame} {meth : Method} {c : Code} {A : Nat → Prop} {D : va_G} {q tq : Nat → Nat} {cA : ClassId} {ru : sd_Me} (X : sd_Cx p s m args meth c prog_12_method_17_code "ScriptDeskModel" sx_tbl 8 none vwCl D [(cA, .int)] (ZM tq) A) {k589 : Int32 → Int32 → Int32 → sd_Me → Option (sd_Me)} (hk589 : ∀ (v1 : Int32) (v2 : Int32) (v3 : Int32) (μ : sd_Me) (H : Heap) (locs : List Loc) (ls : Array Slot), sd_CI vwCl (wdM q cA) D A s H locs μ → lv_has ls 8 [(0, .ref (q 0)), (1, .int v1), (2, .int v2), (3, .int v3)] → k589 v1 v2 v3 μ = some ru → W p l e ({ frames := 1, cells := 0, slots := 0, locals := 26 }) s m args below meth c H locs 0 0 (sd_QV below vwCl (wdM q cA) D [(cA, .int)] A args s ru) (F0 m 589 ls [])) :
    ∀ (n : Nat) (v1 : Int32) (v2 : Int32) (v3 : Int32) (v4 : Int32) (μ : sd_Me) (H : Heap) (locs : List Loc) (ls : Array Slot), sd_CI vwCl (wdM q cA) D A s H locs μ → lv_has ls 8 [(0, .ref (q 0)), (1, .int v1), (2, .int v2), (3, .int v3), (4, .int v4)] → fn_Model_wide_r0_L554 k589 n v1 v2 v3 v4 μ = some ru → W p l e ({ frames := 1, cells := 0, slots := 0, locals := 26 }) s m args below meth c H locs 0 0 (sd_QV below vwCl (wdM q cA) D [(cA, .int)] A args s ru) (F0 m 554 ls []) := by
  obtain ⟨hx, hb, hml, hown, hts, hK, hZ, hA, hr, hlocks⟩ := id X
  intro n
  induction n with
  | zero =>
    intro v1 v2 v3 v4 μ H locs ls hI hl hf
    cases hf
  | succ n ih =>
    intro v1 v2 v3 v4 μ H locs ls hI hl hf
    rw [fn_Model_wide_r0_L554] at hf
    refine lv_iload hx hb d_Model_wide_554 (lv_at hl 4 rfl) ?_
    refine lv_bipush (v := 8) hx hb d_Model_wide_556 (by decide) ?_
    refine lv_icmp_ge (tgt := 589) hx hb d_Model_wide_558 (by decide) (fun hc => ?_) (fun hc => ?_)
    · have hf := sd_t hf hc
      exact hk589 (v1) (v2) (v3) μ _ _ _ hI (lv_sub hl [0, 1, 2, 3] rfl) hf
    · have hf := sd_f hf hc
      refine lv_aload_n hx hb d_Model_wide_561 rfl (lv_at hl 0 rfl) ?_
      refine va_get (D := D) (ci := 7) (v := .ref (q 7)) (C := "ScriptDeskModel") (T := T_Model) (N := 18) hx hb hts iw_Model hown hK hI.1 0 rfl rfl 16 (by decide) (hts _ tw_547) (fun _ h9 => h9) rfl d_Model_wide_562 ?_
      refine lv_iload hx hb d_Model_wide_565 (lv_at hl 4 rfl) ?_
      refine lv_aload_n hx hb d_Model_wide_567 rfl (lv_at hl 0 rfl) ?_
      refine va_get (D := D) (ci := 7) (v := .ref (q 7)) (C := "ScriptDeskModel") (T := T_Model) (N := 18) hx hb hts iw_Model hown hK hI.1 0 rfl rfl 16 (by decide) (hts _ tw_547) (fun _ h9 => h9) rfl d_Model_wide_568 ?_
      refine lv_iload hx hb d_Model_wide_571 (lv_at hl 4 rfl) ?_
      obtain ⟨hg, hf⟩ := sd_gd_e hf
      refine k_iald hx hb hK hI 7 0 rfl rfl hg d_Model_wide_573 ?_
      refine lv_aload_n hx hb d_Model_wide_574 rfl (lv_at hl 0 rfl) ?_
      refine va_get (D := D) (ci := 7) (v := .ref (q 8)) (C := "ScriptDeskModel") (T := T_Model) (N := 18) hx hb hts iw_Model hown hK hI.1 0 rfl rfl 17 (by decide) (hts _ tw_548) (fun _ h9 => h9) rfl d_Model_wide_575 ?_
      refine lv_iload hx hb d_Model_wide_578 (lv_at hl 4 rfl) ?_
      obtain ⟨hg, hf⟩ := sd_gd_e hf
      refine k_iald hx hb hK hI 8 0 rfl rfl hg d_Model_wide_580 ?_
      refine lv_iadd hx hb d_Model_wide_581 ?_
      obtain ⟨hg, hf⟩ := sd_gd_e hf
      refine k_iast (μ' := sd_st μ 7 (Int32.toNatClampNeg v4) ((μ.1 7 (Int32.toNatClampNeg v4)) + (μ.1 8 (Int32.toNatClampNeg v4)))) hx hb hK hI 7 0 rfl rfl rfl hg d_Model_wide_582 (fun H locs hI => ?_)
      obtain ⟨m59, hI, hf⟩ := k_lm hf hI
      refine lv_iinc (v := (v4 + (1 : Int32))) (lv' := [(4, .int (v4 + (1 : Int32))), (0, .ref (q 0)), (1, .int v1), (2, .int v2), (3, .int v3)]) hx hb d_Model_wide_583 hl (k := 4) rfl rfl (by decide) rfl (fun ls hl => ?_)
      refine lv_goto (tgt := 554) hx hb d_Model_wide_586 (by decide) ?_
      exact ih (v1) (v2) (v3) ((v4 + (1 : Int32))) m59 _ _ _ hI (lv_sub hl [1, 2, 3, 4, 0] rfl) hf
set_option maxHeartbeats 4000000 in
set_option maxRecDepth 100000 in
theorem lp_Model_wide_r0_L75 (l : Launch) {p : Program} {e : Env} {s : State} {m : MethodId} {args : Array Value} {below : List Frame} {meth : Method} {c : Code} {A : Nat → Prop} {D : va_G} {q tq : Nat → Nat} {cA : ClassId} {ru : sd_Me} (X : sd_Cx p s m args meth c prog_12_method_17_code "ScriptDeskModel" sx_tbl 8 none vwCl D [(cA, .int)] (ZM tq) A) {k595 : Int32 → sd_Me → Option (sd_Me)} (hk595 : ∀ (v1 : Int32) (μ : sd_Me) (H : Heap) (locs : List Loc) (ls : Array Slot), sd_CI vwCl (wdM q cA) D A s H locs μ → lv_has ls 8 [(0, .ref (q 0)), (1, .int v1)] → k595 v1 μ = some ru → W p l e ({ frames := 1, cells := 0, slots := 0, locals := 26 }) s m args below meth c H locs 0 0 (sd_QV below vwCl (wdM q cA) D [(cA, .int)] A args s ru) (F0 m 595 ls [])) :
    ∀ (n : Nat) (v1 : Int32) (v2 : Int32) (v3 : Int32) (μ : sd_Me) (H : Heap) (locs : List Loc) (ls : Array Slot), sd_CI vwCl (wdM q cA) D A s H locs μ → lv_has ls 8 [(0, .ref (q 0)), (1, .int v1), (2, .int v2), (3, .int v3)] → fn_Model_wide_r0_L75 k595 n v1 v2 v3 μ = some ru → W p l e ({ frames := 1, cells := 0, slots := 0, locals := 26 }) s m args below meth c H locs 0 0 (sd_QV below vwCl (wdM q cA) D [(cA, .int)] A args s ru) (F0 m 75 ls []) := by
  obtain ⟨hx, hb, hml, hown, hts, hK, hZ, hA, hr, hlocks⟩ := id X
  intro n
  induction n with
  | zero =>
    intro v1 v2 v3 μ H locs ls hI hl hf
    cases hf
  | succ n ih =>
    intro v1 v2 v3 μ H locs ls hI hl hf
    rw [fn_Model_wide_r0_L75] at hf
    refine lv_iload_n hx hb d_Model_wide_75 rfl (lv_at hl 3 rfl) ?_
    refine lv_iload_n hx hb d_Model_wide_76 rfl (lv_at hl 2 rfl) ?_
    refine lv_icmp_ge (tgt := 595) hx hb d_Model_wide_77 (by decide) (fun hc => ?_) (fun hc => ?_)
    · have hf := sd_t hf hc
      exact hk595 (v1) μ _ _ _ hI (lv_sub hl [0, 1] rfl) hf
    · have hf := sd_f hf hc
      refine lv_iconst (v := 0) hx hb d_Model_wide_80 (by decide) ?_
      refine lv_istore (lv' := [(4, .int (0 : Int32)), (0, .ref (q 0)), (1, .int v1), (2, .int v2), (3, .int v3)]) hx hb d_Model_wide_81 hl (by decide) rfl (fun ls hl => ?_)
      refine lp_Model_wide_r0_L83 l X ?_ 10000 (v1) (v2) (v3) ((0 : Int32)) μ _ _ _ hI (lv_sub hl [1, 2, 3, 4, 0] rfl) hf
      · intro x22 x23 x24 m25 H locs ls hI hl hf
        refine lv_iconst (v := 0) hx hb d_Model_wide_279 (by decide) ?_
        refine lv_istore (lv' := [(4, .int (0 : Int32)), (0, .ref (q 0)), (1, .int x22), (2, .int x23), (3, .int x24)]) hx hb d_Model_wide_280 hl (by decide) rfl (fun ls hl => ?_)
        refine lp_Model_wide_r0_L282 l X ?_ 10000 (x22) (x23) (x24) ((0 : Int32)) m25 _ _ _ hI (lv_sub hl [1, 2, 3, 4, 0] rfl) hf
        · intro x27 x28 x29 m30 H locs ls hI hl hf
          refine lv_iconst (v := 0) hx hb d_Model_wide_309 (by decide) ?_
          refine lv_istore (lv' := [(4, .int (0 : Int32)), (0, .ref (q 0)), (1, .int x27), (2, .int x28), (3, .int x29)]) hx hb d_Model_wide_310 hl (by decide) rfl (fun ls hl => ?_)
          refine lp_Model_wide_r0_L312 l X ?_ 10000 (x27) (x28) (x29) ((0 : Int32)) m30 _ _ _ hI (lv_sub hl [1, 2, 3, 4, 0] rfl) hf
          · intro x55 x56 x57 m58 H locs ls hI hl hf
            refine lv_iconst (v := 0) hx hb d_Model_wide_551 (by decide) ?_
            refine lv_istore (lv' := [(4, .int (0 : Int32)), (0, .ref (q 0)), (1, .int x55), (2, .int x56), (3, .int x57)]) hx hb d_Model_wide_552 hl (by decide) rfl (fun ls hl => ?_)
            refine lp_Model_wide_r0_L554 l X ?_ 10000 (x55) (x56) (x57) ((0 : Int32)) m58 _ _ _ hI (lv_sub hl [1, 2, 3, 4, 0] rfl) hf
            · intro x60 x61 x62 m63 H locs ls hI hl hf
              refine lv_iinc (v := (x62 + (1 : Int32))) (lv' := [(3, .int (x62 + (1 : Int32))), (0, .ref (q 0)), (1, .int x60), (2, .int x61)]) hx hb d_Model_wide_589 hl (k := 3) rfl rfl (by decide) rfl (fun ls hl => ?_)
              refine lv_goto (tgt := 75) hx hb d_Model_wide_592 (by decide) ?_
              exact ih (x60) (x61) ((x62 + (1 : Int32))) m63 _ _ _ hI (lv_sub hl [1, 2, 3, 0] rfl) hf
set_option maxHeartbeats 4000000 in
set_option maxRecDepth 100000 in
theorem lp_Model_wide_r0_L605 (l : Launch) {p : Program} {e : Env} {s : State} {m : MethodId} {args : Array Value} {below : List Frame} {meth : Method} {c : Code} {A : Nat → Prop} {D : va_G} {q tq : Nat → Nat} {cA : ClassId} {ru : sd_Me} (X : sd_Cx p s m args meth c prog_12_method_17_code "ScriptDeskModel" sx_tbl 8 none vwCl D [(cA, .int)] (ZM tq) A) {k650 : sd_Me → Option (sd_Me)} (hk650 : ∀ (μ : sd_Me) (H : Heap) (locs : List Loc) (ls : Array Slot), sd_CI vwCl (wdM q cA) D A s H locs μ → lv_has ls 8 [] → k650 μ = some ru → W p l e ({ frames := 1, cells := 0, slots := 0, locals := 26 }) s m args below meth c H locs 0 0 (sd_QV below vwCl (wdM q cA) D [(cA, .int)] A args s ru) (F0 m 650 ls [])) :
    ∀ (n : Nat) (v1 : Int32) (v3 : Int32) (μ : sd_Me) (H : Heap) (locs : List Loc) (ls : Array Slot), sd_CI vwCl (wdM q cA) D A s H locs μ → lv_has ls 8 [(0, .ref (q 0)), (1, .int v1), (3, .int v3)] → fn_Model_wide_r0_L605 k650 n v1 v3 μ = some ru → W p l e ({ frames := 1, cells := 0, slots := 0, locals := 26 }) s m args below meth c H locs 0 0 (sd_QV below vwCl (wdM q cA) D [(cA, .int)] A args s ru) (F0 m 605 ls []) := by
  obtain ⟨hx, hb, hml, hown, hts, hK, hZ, hA, hr, hlocks⟩ := id X
  intro n
  induction n with
  | zero =>
    intro v1 v3 μ H locs ls hI hl hf
    cases hf
  | succ n ih =>
    intro v1 v3 μ H locs ls hI hl hf
    rw [fn_Model_wide_r0_L605] at hf
    refine lv_iload_n hx hb d_Model_wide_605 rfl (lv_at hl 2 rfl) ?_
    refine lv_bipush (v := 32) hx hb d_Model_wide_606 (by decide) ?_
    refine lv_icmp_ge (tgt := 650) hx hb d_Model_wide_608 (by decide) (fun hc => ?_) (fun hc => ?_)
    · have hf := sd_t hf hc
      exact hk650  μ _ _ _ hI (lv_sub hl [] rfl) hf
    · have hf := sd_f hf hc
      refine lv_aload_n hx hb d_Model_wide_611 rfl (lv_at hl 0 rfl) ?_
      refine va_get (D := D) (ci := 7) (v := .ref (q 1)) (C := "ScriptDeskModel") (T := T_Model) (N := 18) hx hb hts iw_Model hown hK hI.1 0 rfl rfl 0 (by decide) (hts _ tw_531) (fun _ h9 => h9) rfl d_Model_wide_612 ?_
      refine lv_bipush (v := 120) hx hb d_Model_wide_615 (by decide) ?_
      refine lv_iload_n hx hb d_Model_wide_617 rfl (lv_at hl 1 rfl) ?_
      refine lv_imul hx hb d_Model_wide_618 ?_
      refine lv_iload_n hx hb d_Model_wide_619 rfl (lv_at hl 2 rfl) ?_
      refine lv_iadd hx hb d_Model_wide_620 ?_
      refine lv_aload_n hx hb d_Model_wide_621 rfl (lv_at hl 0 rfl) ?_
      refine va_get (D := D) (ci := 7) (v := .ref (q 7)) (C := "ScriptDeskModel") (T := T_Model) (N := 18) hx hb hts iw_Model hown hK hI.1 0 rfl rfl 16 (by decide) (hts _ tw_547) (fun _ h9 => h9) rfl d_Model_wide_622 ?_
      refine lv_iload_n hx hb d_Model_wide_625 rfl (lv_at hl 2 rfl) ?_
      refine lv_iconst (v := 4) hx hb d_Model_wide_626 (by decide) ?_
      refine lv_idiv hx hb d_Model_wide_627 (by decide) ?_
      obtain ⟨hg, hf⟩ := sd_gd_e hf
      refine k_iald hx hb hK hI 7 0 rfl rfl hg d_Model_wide_628 ?_
      refine lv_bipush (v := 24) hx hb d_Model_wide_629 (by decide) ?_
      refine lv_bipush (v := 8) hx hb d_Model_wide_631 (by decide) ?_
      refine lv_iload_n hx hb d_Model_wide_633 rfl (lv_at hl 2 rfl) ?_
      refine lv_iconst (v := 4) hx hb d_Model_wide_634 (by decide) ?_
      refine lv_irem hx hb d_Model_wide_635 (by decide) ?_
      refine lv_imul hx hb d_Model_wide_636 ?_
      refine lv_isub hx hb d_Model_wide_637 ?_
      refine lv_iushr (v := (sd_usr (μ.1 7 (Int32.toNatClampNeg (v3 / (4 : Int32)))) ((24 : Int32) - ((8 : Int32) * (v3 - v3 / (4 : Int32) * (4 : Int32)))))) hx hb d_Model_wide_638 rfl ?_
      refine lv_sipush (v := 255) hx hb d_Model_wide_639 (by decide) ?_
      refine lv_iand hx hb d_Model_wide_642 ?_
      obtain ⟨hg, hf⟩ := sd_gd_e hf
      refine k_iast (μ' := sd_st μ 1 (Int32.toNatClampNeg (((120 : Int32) * v1) + v3)) ((sd_usr (μ.1 7 (Int32.toNatClampNeg (v3 / (4 : Int32)))) ((24 : Int32) - ((8 : Int32) * (v3 - v3 / (4 : Int32) * (4 : Int32))))) &&& (255 : Int32))) hx hb hK hI 1 0 rfl rfl rfl hg d_Model_wide_643 (fun H locs hI => ?_)
      obtain ⟨m67, hI, hf⟩ := k_lm hf hI
      refine lv_iinc (v := (v3 + (1 : Int32))) (lv' := [(3, .int (v3 + (1 : Int32))), (0, .ref (q 0)), (1, .int v1)]) hx hb d_Model_wide_644 hl (k := 2) rfl rfl (by decide) rfl (fun ls hl => ?_)
      refine lv_goto (tgt := 605) hx hb d_Model_wide_647 (by decide) ?_
      exact ih (v1) ((v3 + (1 : Int32))) m67 _ _ _ hI (lv_sub hl [1, 2, 0] rfl) hf
set_option maxHeartbeats 4000000 in
set_option maxRecDepth 100000 in
theorem mt_Model_wide_r0 (l : Launch) {D : va_G} {q tq : Nat → Nat} {cA : ClassId} {a1 : Int32} {μ : sd_Me} {ru : sd_Me} (hf : fn_Model_wide_r0 a1 μ = some ru) : sd_CTv l y_Model_wide w_Model_wide ({ frames := 1, cells := 0, slots := 0, locals := 26 }) vwCl (wdM q cA) D [(cA, .int)] (ZM tq) [.ref (q 0), .int a1] μ ru := by
  refine k_entv (cc := prog_12_method_17_code) 8 (by decide) rfl (Nat.le_of_ble_eq_true rfl) ?_
  intro p e s m below meth c A ls X hI hl
  have hl : lv_has ls 8 [(0, .ref (q 0)), (1, .int a1)] := hl
  obtain ⟨hx, hb, hml, hown, hts, hK, hZ, hA, hr, hlocks⟩ := id X
  unfold fn_Model_wide_r0 at hf
  refine lv_aload_n hx hb d_Model_wide_0 rfl (lv_at hl 0 rfl) ?_
  refine lv_iload_n hx hb d_Model_wide_1 rfl (lv_at hl 1 rfl) ?_
  refine lv_iconst (v := 1) hx hb d_Model_wide_2 (by decide) ?_
  obtain ⟨x2, m1, hq, hf⟩ := sd_bi_e hf
  refine k_callV (As := [.int a1, .int (1 : Int32)]) (rest := []) (C := "ScriptDeskModel") (ci := 7) ZM_ok X hI (mt_Model_pad_r0 l hq) (cwV 2 hts (gd_V tw_705 tw_707 ts_40 tw_9 tw_708) rfl rfl rfl (by decide +kernel) ⟨Nat.le_of_ble_eq_true rfl, Nat.le_of_ble_eq_true rfl⟩) 0 rfl rfl rfl hl.1 rfl (Nat.le_of_ble_eq_true rfl) d_Model_wide_3 ⟨Nat.zero_le _, Nat.zero_le _⟩ (fun H locs hn_x2 hI => ?_)
  refine lv_istore_n (lv' := [(2, .int x2), (0, .ref (q 0)), (1, .int a1)]) hx hb d_Model_wide_6 rfl hl (by decide) rfl (fun ls hl => ?_)
  refine lv_aload_n hx hb d_Model_wide_7 rfl (lv_at hl 1 rfl) ?_
  refine va_get (D := D) (ci := 7) (v := .ref (q 7)) (C := "ScriptDeskModel") (T := T_Model) (N := 18) hx hb hts iw_Model hown hK hI.1 0 rfl rfl 16 (by decide) (hts _ tw_547) (fun _ h9 => h9) rfl d_Model_wide_8 ?_
  refine lv_iconst (v := 0) hx hb d_Model_wide_11 (by decide) ?_
  refine lv_ldc (v := 1779033703) hx hb hown (hts _ tw_709) d_Model_wide_12 ?_
  obtain ⟨hg, hf⟩ := sd_gd_e hf
  refine k_iast (μ' := sd_st m1 7 (Int32.toNatClampNeg (0 : Int32)) (1779033703 : Int32)) hx hb hK hI 7 0 rfl rfl rfl hg d_Model_wide_14 (fun H locs hI => ?_)
  obtain ⟨m3, hI, hf⟩ := k_lm hf hI
  refine lv_aload_n hx hb d_Model_wide_15 rfl (lv_at hl 1 rfl) ?_
  refine va_get (D := D) (ci := 7) (v := .ref (q 7)) (C := "ScriptDeskModel") (T := T_Model) (N := 18) hx hb hts iw_Model hown hK hI.1 0 rfl rfl 16 (by decide) (hts _ tw_547) (fun _ h9 => h9) rfl d_Model_wide_16 ?_
  refine lv_iconst (v := 1) hx hb d_Model_wide_19 (by decide) ?_
  refine lv_ldc (v := -1150833019) hx hb hown (hts _ tw_710) d_Model_wide_20 ?_
  obtain ⟨hg, hf⟩ := sd_gd_e hf
  refine k_iast (μ' := sd_st m3 7 (Int32.toNatClampNeg (1 : Int32)) (-1150833019 : Int32)) hx hb hK hI 7 0 rfl rfl rfl hg d_Model_wide_22 (fun H locs hI => ?_)
  obtain ⟨m4, hI, hf⟩ := k_lm hf hI
  refine lv_aload_n hx hb d_Model_wide_23 rfl (lv_at hl 1 rfl) ?_
  refine va_get (D := D) (ci := 7) (v := .ref (q 7)) (C := "ScriptDeskModel") (T := T_Model) (N := 18) hx hb hts iw_Model hown hK hI.1 0 rfl rfl 16 (by decide) (hts _ tw_547) (fun _ h9 => h9) rfl d_Model_wide_24 ?_
  refine lv_iconst (v := 2) hx hb d_Model_wide_27 (by decide) ?_
  refine lv_ldc (v := 1013904242) hx hb hown (hts _ tw_711) d_Model_wide_28 ?_
  obtain ⟨hg, hf⟩ := sd_gd_e hf
  refine k_iast (μ' := sd_st m4 7 (Int32.toNatClampNeg (2 : Int32)) (1013904242 : Int32)) hx hb hK hI 7 0 rfl rfl rfl hg d_Model_wide_30 (fun H locs hI => ?_)
  obtain ⟨m5, hI, hf⟩ := k_lm hf hI
  refine lv_aload_n hx hb d_Model_wide_31 rfl (lv_at hl 1 rfl) ?_
  refine va_get (D := D) (ci := 7) (v := .ref (q 7)) (C := "ScriptDeskModel") (T := T_Model) (N := 18) hx hb hts iw_Model hown hK hI.1 0 rfl rfl 16 (by decide) (hts _ tw_547) (fun _ h9 => h9) rfl d_Model_wide_32 ?_
  refine lv_iconst (v := 3) hx hb d_Model_wide_35 (by decide) ?_
  refine lv_ldc (v := -1521486534) hx hb hown (hts _ tw_712) d_Model_wide_36 ?_
  obtain ⟨hg, hf⟩ := sd_gd_e hf
  refine k_iast (μ' := sd_st m5 7 (Int32.toNatClampNeg (3 : Int32)) (-1521486534 : Int32)) hx hb hK hI 7 0 rfl rfl rfl hg d_Model_wide_38 (fun H locs hI => ?_)
  obtain ⟨m6, hI, hf⟩ := k_lm hf hI
  refine lv_aload_n hx hb d_Model_wide_39 rfl (lv_at hl 1 rfl) ?_
  refine va_get (D := D) (ci := 7) (v := .ref (q 7)) (C := "ScriptDeskModel") (T := T_Model) (N := 18) hx hb hts iw_Model hown hK hI.1 0 rfl rfl 16 (by decide) (hts _ tw_547) (fun _ h9 => h9) rfl d_Model_wide_40 ?_
  refine lv_iconst (v := 4) hx hb d_Model_wide_43 (by decide) ?_
  refine lv_ldc (v := 1359893119) hx hb hown (hts _ tw_713) d_Model_wide_44 ?_
  obtain ⟨hg, hf⟩ := sd_gd_e hf
  refine k_iast (μ' := sd_st m6 7 (Int32.toNatClampNeg (4 : Int32)) (1359893119 : Int32)) hx hb hK hI 7 0 rfl rfl rfl hg d_Model_wide_46 (fun H locs hI => ?_)
  obtain ⟨m7, hI, hf⟩ := k_lm hf hI
  refine lv_aload_n hx hb d_Model_wide_47 rfl (lv_at hl 1 rfl) ?_
  refine va_get (D := D) (ci := 7) (v := .ref (q 7)) (C := "ScriptDeskModel") (T := T_Model) (N := 18) hx hb hts iw_Model hown hK hI.1 0 rfl rfl 16 (by decide) (hts _ tw_547) (fun _ h9 => h9) rfl d_Model_wide_48 ?_
  refine lv_iconst (v := 5) hx hb d_Model_wide_51 (by decide) ?_
  refine lv_ldc (v := -1694144372) hx hb hown (hts _ tw_714) d_Model_wide_52 ?_
  obtain ⟨hg, hf⟩ := sd_gd_e hf
  refine k_iast (μ' := sd_st m7 7 (Int32.toNatClampNeg (5 : Int32)) (-1694144372 : Int32)) hx hb hK hI 7 0 rfl rfl rfl hg d_Model_wide_54 (fun H locs hI => ?_)
  obtain ⟨m8, hI, hf⟩ := k_lm hf hI
  refine lv_aload_n hx hb d_Model_wide_55 rfl (lv_at hl 1 rfl) ?_
  refine va_get (D := D) (ci := 7) (v := .ref (q 7)) (C := "ScriptDeskModel") (T := T_Model) (N := 18) hx hb hts iw_Model hown hK hI.1 0 rfl rfl 16 (by decide) (hts _ tw_547) (fun _ h9 => h9) rfl d_Model_wide_56 ?_
  refine lv_bipush (v := 6) hx hb d_Model_wide_59 (by decide) ?_
  refine lv_ldc (v := 528734635) hx hb hown (hts _ tw_715) d_Model_wide_61 ?_
  obtain ⟨hg, hf⟩ := sd_gd_e hf
  refine k_iast (μ' := sd_st m8 7 (Int32.toNatClampNeg (6 : Int32)) (528734635 : Int32)) hx hb hK hI 7 0 rfl rfl rfl hg d_Model_wide_63 (fun H locs hI => ?_)
  obtain ⟨m9, hI, hf⟩ := k_lm hf hI
  refine lv_aload_n hx hb d_Model_wide_64 rfl (lv_at hl 1 rfl) ?_
  refine va_get (D := D) (ci := 7) (v := .ref (q 7)) (C := "ScriptDeskModel") (T := T_Model) (N := 18) hx hb hts iw_Model hown hK hI.1 0 rfl rfl 16 (by decide) (hts _ tw_547) (fun _ h9 => h9) rfl d_Model_wide_65 ?_
  refine lv_bipush (v := 7) hx hb d_Model_wide_68 (by decide) ?_
  refine lv_ldc (v := 1541459225) hx hb hown (hts _ tw_716) d_Model_wide_70 ?_
  obtain ⟨hg, hf⟩ := sd_gd_e hf
  refine k_iast (μ' := sd_st m9 7 (Int32.toNatClampNeg (7 : Int32)) (1541459225 : Int32)) hx hb hK hI 7 0 rfl rfl rfl hg d_Model_wide_72 (fun H locs hI => ?_)
  obtain ⟨m10, hI, hf⟩ := k_lm hf hI
  refine lv_iconst (v := 0) hx hb d_Model_wide_73 (by decide) ?_
  refine lv_istore_n (lv' := [(3, .int (0 : Int32)), (2, .int x2), (0, .ref (q 0)), (1, .int a1)]) hx hb d_Model_wide_74 rfl hl (by decide) rfl (fun ls hl => ?_)
  refine lp_Model_wide_r0_L75 l X ?_ 10000 (a1) (x2) ((0 : Int32)) m10 _ _ _ hI (lv_sub hl [2, 3, 1, 0] rfl) hf
  · intro x64 m65 H locs ls hI hl hf
    refine lv_aload_n hx hb d_Model_wide_595 rfl (lv_at hl 0 rfl) ?_
    refine va_get (D := D) (ci := 7) (v := .ref (q 2)) (C := "ScriptDeskModel") (T := T_Model) (N := 18) hx hb hts iw_Model hown hK hI.1 0 rfl rfl 1 (by decide) (hts _ tw_532) (fun _ h9 => h9) rfl d_Model_wide_596 ?_
    refine lv_iload_n hx hb d_Model_wide_599 rfl (lv_at hl 1 rfl) ?_
    refine lv_bipush (v := 32) hx hb d_Model_wide_600 (by decide) ?_
    obtain ⟨hg, hf⟩ := sd_gd_e hf
    refine k_iast (μ' := sd_st m65 2 (Int32.toNatClampNeg x64) (32 : Int32)) hx hb hK hI 2 0 rfl rfl rfl hg d_Model_wide_602 (fun H locs hI => ?_)
    obtain ⟨m66, hI, hf⟩ := k_lm hf hI
    refine lv_iconst (v := 0) hx hb d_Model_wide_603 (by decide) ?_
    refine lv_istore_n (lv' := [(3, .int (0 : Int32)), (0, .ref (q 0)), (1, .int x64)]) hx hb d_Model_wide_604 rfl hl (by decide) rfl (fun ls hl => ?_)
    refine lp_Model_wide_r0_L605 l X ?_ 10000 (x64) ((0 : Int32)) m66 _ _ _ hI (lv_sub hl [1, 2, 0] rfl) hf
    · intro m68 H locs ls hI hl hf
      exact k_retv X hI hf d_Model_wide_650
set_option maxHeartbeats 4000000 in
set_option maxRecDepth 100000 in
theorem jn_Model_digest_r0_J48 (l : Launch) {p : Program} {e : Env} {s : State} {m : MethodId} {args : Array Value} {below : List Frame} {meth : Method} {c : Code} {A : Nat → Prop} {D : va_G} {q tq : Nat → Nat} {cA : ClassId} {ru : sd_Me} (X : sd_Cx p s m args meth c prog_12_method_34_code "ScriptDeskModel" sx_tbl 2 none vwCl D [(cA, .int)] (ZM tq) A) (v1 : Int32) (μ : sd_Me) (H : Heap) (locs : List Loc) (ls : Array Slot) (hI : sd_CI vwCl (wdM q cA) D A s H locs μ) (hl : lv_has ls 2 [(0, .ref (q 0)), (1, .int v1)]) (hf : fn_Model_digest_r0_J48 v1 μ = some ru) : W p l e ({ frames := 3, cells := 0, slots := 0, locals := 72 }) s m args below meth c H locs 0 0 (sd_QV below vwCl (wdM q cA) D [(cA, .int)] A args s ru) (F0 m 48 ls []) := by
  obtain ⟨hx, hb, hml, hown, hts, hK, hZ, hA, hr, hlocks⟩ := id X
  unfold fn_Model_digest_r0_J48 at hf
  refine lv_iload_n hx hb d_Model_digest_48 rfl (lv_at hl 1 rfl) ?_
  refine lv_sipush (v := 170) hx hb d_Model_digest_49 (by decide) ?_
  refine lv_icmp_ne (tgt := 64) hx hb d_Model_digest_52 (by decide) (fun hc => ?_) (fun hc => ?_)
  · have hf := sd_f hf hc
    exact k_retv X hI hf d_Model_digest_64
  · have hf := sd_t hf hc
    refine lv_aload_n hx hb d_Model_digest_55 rfl (lv_at hl 0 rfl) ?_
    refine lv_aload_n hx hb d_Model_digest_56 rfl (lv_at hl 0 rfl) ?_
    refine lv_iconst (v := 0) hx hb d_Model_digest_57 (by decide) ?_
    obtain ⟨x7, m6, hq, hf⟩ := sd_bi_e hf
    refine k_callV (As := [.int (0 : Int32)]) (rest := [.ref (q 0)]) (C := "ScriptDeskModel") (ci := 7) ZM_ok X hI (mt_Model_top_r0 l hq) (cwV 1 hts (gd_V tw_657 tw_659 ts_28 tw_9 tw_660) rfl rfl rfl (by decide +kernel) ⟨Nat.le_of_ble_eq_true rfl, Nat.le_of_ble_eq_true rfl⟩) 0 rfl rfl rfl hl.1 rfl (Nat.le_of_ble_eq_true rfl) d_Model_digest_58 ⟨Nat.zero_le _, Nat.zero_le _⟩ (fun H locs hn_x7 hI => ?_)
    obtain ⟨m8, hq, hf⟩ := sd_bv_e hf
    refine k_callVv (As := [.int x7]) (rest := []) (C := "ScriptDeskModel") (ci := 7) ZM_ok X hI (mt_Model_wide_r0 l hq) (cwV 1 hts (gd_V tw_701 tw_703 ts_39 tw_9 tw_704) rfl rfl rfl (by decide +kernel) ⟨Nat.le_of_ble_eq_true rfl, Nat.le_of_ble_eq_true rfl⟩) 0 rfl rfl rfl hl.1 rfl (Nat.le_of_ble_eq_true rfl) d_Model_digest_61 ⟨Nat.zero_le _, Nat.zero_le _⟩ (fun H locs hI => ?_)
    exact k_retv X hI hf d_Model_digest_64
set_option maxHeartbeats 4000000 in
set_option maxRecDepth 100000 in
theorem jn_Model_digest_r0_J39 (l : Launch) {p : Program} {e : Env} {s : State} {m : MethodId} {args : Array Value} {below : List Frame} {meth : Method} {c : Code} {A : Nat → Prop} {D : va_G} {q tq : Nat → Nat} {cA : ClassId} {ru : sd_Me} (X : sd_Cx p s m args meth c prog_12_method_34_code "ScriptDeskModel" sx_tbl 2 none vwCl D [(cA, .int)] (ZM tq) A) (v1 : Int32) (μ : sd_Me) (H : Heap) (locs : List Loc) (ls : Array Slot) (hI : sd_CI vwCl (wdM q cA) D A s H locs μ) (hl : lv_has ls 2 [(0, .ref (q 0)), (1, .int v1)]) (hf : fn_Model_digest_r0_J39 v1 μ = some ru) : W p l e ({ frames := 3, cells := 0, slots := 0, locals := 72 }) s m args below meth c H locs 0 0 (sd_QV below vwCl (wdM q cA) D [(cA, .int)] A args s ru) (F0 m 39 ls []) := by
  obtain ⟨hx, hb, hml, hown, hts, hK, hZ, hA, hr, hlocks⟩ := id X
  unfold fn_Model_digest_r0_J39 at hf
  refine lv_aload_n hx hb d_Model_digest_39 rfl (lv_at hl 0 rfl) ?_
  refine lv_aload_n hx hb d_Model_digest_40 rfl (lv_at hl 0 rfl) ?_
  refine lv_iconst (v := 0) hx hb d_Model_digest_41 (by decide) ?_
  obtain ⟨x4, m3, hq, hf⟩ := sd_bi_e hf
  refine k_callV (As := [.int (0 : Int32)]) (rest := [.ref (q 0)]) (C := "ScriptDeskModel") (ci := 7) ZM_ok X hI (mt_Model_top_r0 l hq) (cwV 1 hts (gd_V tw_657 tw_659 ts_28 tw_9 tw_660) rfl rfl rfl (by decide +kernel) ⟨Nat.le_of_ble_eq_true rfl, Nat.le_of_ble_eq_true rfl⟩) 0 rfl rfl rfl hl.1 rfl (Nat.le_of_ble_eq_true rfl) d_Model_digest_42 ⟨Nat.zero_le _, Nat.zero_le _⟩ (fun H locs hn_x4 hI => ?_)
  obtain ⟨m5, hq, hf⟩ := sd_bv_e hf
  refine k_callVv (As := [.int x4]) (rest := []) (C := "ScriptDeskModel") (ci := 7) ZM_ok X hI (mt_Model_small_r0 l hq) (cwV 1 hts (gd_V tw_722 tw_724 ts_41 tw_9 tw_725) rfl rfl rfl (by decide +kernel) ⟨Nat.le_of_ble_eq_true rfl, Nat.le_of_ble_eq_true rfl⟩) 0 rfl rfl rfl hl.1 rfl (Nat.le_of_ble_eq_true rfl) d_Model_digest_45 ⟨Nat.zero_le _, Nat.zero_le _⟩ (fun H locs hI => ?_)
  exact jn_Model_digest_r0_J48 l X (v1) m5 _ _ _ hI (lv_sub hl [0, 1] rfl) hf
set_option maxHeartbeats 4000000 in
set_option maxRecDepth 100000 in
theorem jn_Model_digest_r0_J25 (l : Launch) {p : Program} {e : Env} {s : State} {m : MethodId} {args : Array Value} {below : List Frame} {meth : Method} {c : Code} {A : Nat → Prop} {D : va_G} {q tq : Nat → Nat} {cA : ClassId} {ru : sd_Me} (X : sd_Cx p s m args meth c prog_12_method_34_code "ScriptDeskModel" sx_tbl 2 none vwCl D [(cA, .int)] (ZM tq) A) (v1 : Int32) (μ : sd_Me) (H : Heap) (locs : List Loc) (ls : Array Slot) (hI : sd_CI vwCl (wdM q cA) D A s H locs μ) (hl : lv_has ls 2 [(0, .ref (q 0)), (1, .int v1)]) (hf : fn_Model_digest_r0_J25 v1 μ = some ru) : W p l e ({ frames := 3, cells := 0, slots := 0, locals := 72 }) s m args below meth c H locs 0 0 (sd_QV below vwCl (wdM q cA) D [(cA, .int)] A args s ru) (F0 m 25 ls []) := by
  obtain ⟨hx, hb, hml, hown, hts, hK, hZ, hA, hr, hlocks⟩ := id X
  unfold fn_Model_digest_r0_J25 at hf
  refine lv_iload_n hx hb d_Model_digest_25 rfl (lv_at hl 1 rfl) ?_
  refine lv_sipush (v := 166) hx hb d_Model_digest_26 (by decide) ?_
  refine lv_icmp_eq (tgt := 39) hx hb d_Model_digest_29 (by decide) (fun hc => ?_) (fun hc => ?_)
  · have hf := sd_t hf hc
    exact jn_Model_digest_r0_J39 l X (v1) μ _ _ _ hI (lv_sub hl [0, 1] rfl) hf
  · have hf := sd_f hf hc
    refine lv_iload_n hx hb d_Model_digest_32 rfl (lv_at hl 1 rfl) ?_
    refine lv_sipush (v := 169) hx hb d_Model_digest_33 (by decide) ?_
    refine lv_icmp_ne (tgt := 48) hx hb d_Model_digest_36 (by decide) (fun hc => ?_) (fun hc => ?_)
    · have hf := sd_f hf hc
      exact jn_Model_digest_r0_J48 l X (v1) μ _ _ _ hI (lv_sub hl [0, 1] rfl) hf
    · have hf := sd_t hf hc
      exact jn_Model_digest_r0_J39 l X (v1) μ _ _ _ hI (lv_sub hl [0, 1] rfl) hf
set_option maxHeartbeats 4000000 in
set_option maxRecDepth 100000 in
theorem mt_Model_digest_r0 (l : Launch) {D : va_G} {q tq : Nat → Nat} {cA : ClassId} {a1 : Int32} {μ : sd_Me} {ru : sd_Me} (hf : fn_Model_digest_r0 a1 μ = some ru) : sd_CTv l y_Model_digest w_Model_digest ({ frames := 3, cells := 0, slots := 0, locals := 72 }) vwCl (wdM q cA) D [(cA, .int)] (ZM tq) [.ref (q 0), .int a1] μ ru := by
  refine k_entv (cc := prog_12_method_34_code) 2 (by decide) rfl (Nat.le_of_ble_eq_true rfl) ?_
  intro p e s m below meth c A ls X hI hl
  have hl : lv_has ls 2 [(0, .ref (q 0)), (1, .int a1)] := hl
  obtain ⟨hx, hb, hml, hown, hts, hK, hZ, hA, hr, hlocks⟩ := id X
  unfold fn_Model_digest_r0 at hf
  refine lv_aload_n hx hb d_Model_digest_0 rfl (lv_at hl 0 rfl) ?_
  refine lv_iconst (v := 1) hx hb d_Model_digest_1 (by decide) ?_
  obtain ⟨x2, m1, hq, hf⟩ := sd_bi_e hf
  refine k_callV (As := [.int (1 : Int32)]) (rest := []) (C := "ScriptDeskModel") (ci := 7) ZM_ok X hI (mt_Model_has_r0 l hq) (cwV 1 hts (gd_V tw_619 tw_621 ts_19 tw_9 tw_622) rfl rfl rfl (by decide +kernel) ⟨Nat.le_of_ble_eq_true rfl, Nat.le_of_ble_eq_true rfl⟩) 0 rfl rfl rfl hl.1 rfl (Nat.le_of_ble_eq_true rfl) d_Model_digest_2 ⟨Nat.zero_le _, Nat.zero_le _⟩ (fun H locs hn_x2 hI => ?_)
  refine lv_if_ne (tgt := 9) hx hb d_Model_digest_5 (by decide) (fun hc => ?_) (fun hc => ?_)
  · have hf := sd_f hf hc
    refine lv_iload_n hx hb d_Model_digest_9 rfl (lv_at hl 1 rfl) ?_
    refine lv_sipush (v := 166) hx hb d_Model_digest_10 (by decide) ?_
    refine lv_icmp_eq (tgt := 25) hx hb d_Model_digest_13 (by decide) (fun hc => ?_) (fun hc => ?_)
    · have hf := sd_t hf hc
      exact jn_Model_digest_r0_J25 l X (a1) m1 _ _ _ hI (lv_sub hl [0, 1] rfl) hf
    · have hf := sd_f hf hc
      refine lv_aload_n hx hb d_Model_digest_16 rfl (lv_at hl 0 rfl) ?_
      refine lv_aload_n hx hb d_Model_digest_17 rfl (lv_at hl 0 rfl) ?_
      refine lv_iconst (v := 0) hx hb d_Model_digest_18 (by decide) ?_
      obtain ⟨x10, m9, hq, hf⟩ := sd_bi_e hf
      refine k_callV (As := [.int (0 : Int32)]) (rest := [.ref (q 0)]) (C := "ScriptDeskModel") (ci := 7) ZM_ok X hI (mt_Model_top_r0 l hq) (cwV 1 hts (gd_V tw_657 tw_659 ts_28 tw_9 tw_660) rfl rfl rfl (by decide +kernel) ⟨Nat.le_of_ble_eq_true rfl, Nat.le_of_ble_eq_true rfl⟩) 0 rfl rfl rfl hl.1 rfl (Nat.le_of_ble_eq_true rfl) d_Model_digest_19 ⟨Nat.zero_le _, Nat.zero_le _⟩ (fun H locs hn_x10 hI => ?_)
      obtain ⟨m11, hq, hf⟩ := sd_bv_e hf
      refine k_callVv (As := [.int x10]) (rest := []) (C := "ScriptDeskModel") (ci := 7) ZM_ok X hI (mt_Model_wide_r0 l hq) (cwV 1 hts (gd_V tw_701 tw_703 ts_39 tw_9 tw_704) rfl rfl rfl (by decide +kernel) ⟨Nat.le_of_ble_eq_true rfl, Nat.le_of_ble_eq_true rfl⟩) 0 rfl rfl rfl hl.1 rfl (Nat.le_of_ble_eq_true rfl) d_Model_digest_22 ⟨Nat.zero_le _, Nat.zero_le _⟩ (fun H locs hI => ?_)
      exact jn_Model_digest_r0_J25 l X (a1) m11 _ _ _ hI (lv_sub hl [0, 1] rfl) hf
  · have hf := sd_t hf hc
    exact k_retv X hI hf d_Model_digest_8
set_option maxHeartbeats 4000000 in
set_option maxRecDepth 100000 in
theorem mt_Model_fit_r0 (l : Launch) {D : va_G} {q tq : Nat → Nat} {cA : ClassId} {a1 : Int32} {a2 : Int32} {μ : sd_Me} {ru : Int32 × sd_Me} (hf : fn_Model_fit_r0 a1 a2 μ = some ru) : sd_CTi l y_Model_fit w_Model_fit ({ frames := 0, cells := 0, slots := 0, locals := 0 }) vwCl (wdM q cA) D [(cA, .int)] (ZM tq) .boolean [.ref (q 0), .int a1, .int a2] μ ru := by
  refine k_enti (cc := prog_12_method_21_code) 5 (by decide) rfl (Nat.le_of_ble_eq_true rfl) ?_
  intro p e s m below meth c A ls X hI hl
  have hl : lv_has ls 5 [(0, .ref (q 0)), (1, .int a1), (2, .int a2)] := hl
  obtain ⟨hx, hb, hml, hown, hts, hK, hZ, hA, hr, hlocks⟩ := id X
  unfold fn_Model_fit_r0 at hf
  refine lv_aload_n hx hb d_Model_fit_0 rfl (lv_at hl 0 rfl) ?_
  refine lv_dup hx hb d_Model_fit_1 rfl ?_
  refine va_get (D := D) (ci := 7) (v := .int (μ.1 0 10)) (C := "ScriptDeskModel") (T := T_Model) (N := 18) hx hb hts iw_Model hown hK hI.1 0 rfl rfl 10 (by decide) (hts _ tw_541) (fun _ h9 => h9) rfl d_Model_fit_2 ?_
  refine lv_iconst (v := 1) hx hb d_Model_fit_5 (by decide) ?_
  refine lv_iadd hx hb d_Model_fit_6 ?_
  refine k_put (ci := 7) (v := .int ((μ.1 0 10) + (1 : Int32))) (ty := .int) (C := "ScriptDeskModel") (T := T_Model) (N := 18) (μ' := sd_st μ 0 10 ((μ.1 0 10) + (1 : Int32))) hx hb hts iw_Model t_Model t_Model_ok n_Model hown hK hI 0 rfl rfl 10 (by decide) (hts _ tw_541) (fun _ h9 => h9) rfl (by decide +kernel) rfl rfl (Nat.le_of_ble_eq_true rfl) rfl d_Model_fit_7 (fun H locs hI => ?_)
  obtain ⟨m1, hI, hf⟩ := k_lm hf hI
  refine lv_aload_n hx hb d_Model_fit_10 rfl (lv_at hl 0 rfl) ?_
  refine va_get (D := D) (ci := 7) (v := .ref (q 2)) (C := "ScriptDeskModel") (T := T_Model) (N := 18) hx hb hts iw_Model hown hK hI.1 0 rfl rfl 1 (by decide) (hts _ tw_532) (fun _ h9 => h9) rfl d_Model_fit_11 ?_
  refine lv_iload_n hx hb d_Model_fit_14 rfl (lv_at hl 1 rfl) ?_
  obtain ⟨hg, hf⟩ := sd_gd_e hf
  refine k_iald hx hb hK hI 2 0 rfl rfl hg d_Model_fit_15 ?_
  refine lv_if_eq (tgt := 28) hx hb d_Model_fit_16 (by decide) (fun hc => ?_) (fun hc => ?_)
  · have hf := sd_t hf hc
    refine lv_iconst (v := 0) hx hb d_Model_fit_28 (by decide) ?_
    exact k_reti X hI rfl hf d_Model_fit_29
  · have hf := sd_f hf hc
    refine lv_aload_n hx hb d_Model_fit_19 rfl (lv_at hl 0 rfl) ?_
    refine va_get (D := D) (ci := 7) (v := .ref (q 2)) (C := "ScriptDeskModel") (T := T_Model) (N := 18) hx hb hts iw_Model hown hK hI.1 0 rfl rfl 1 (by decide) (hts _ tw_532) (fun _ h9 => h9) rfl d_Model_fit_20 ?_
    refine lv_iload_n hx hb d_Model_fit_23 rfl (lv_at hl 2 rfl) ?_
    obtain ⟨hg, hf⟩ := sd_gd_e hf
    refine k_iald hx hb hK hI 2 0 rfl rfl hg d_Model_fit_24 ?_
    refine lv_if_ne (tgt := 30) hx hb d_Model_fit_25 (by decide) (fun hc => ?_) (fun hc => ?_)
    · have hf := sd_f hf hc
      refine lv_aload_n hx hb d_Model_fit_30 rfl (lv_at hl 0 rfl) ?_
      refine va_get (D := D) (ci := 7) (v := .long (m1.2 0)) (C := "ScriptDeskModel") (T := T_Model) (N := 18) hx hb hts iw_Model hown hK hI.1 0 rfl rfl 6 (by decide) (hts _ tw_537) (fun _ h9 => h9) rfl d_Model_fit_31 ?_
      refine lv_aload_n hx hb d_Model_fit_34 rfl (lv_at hl 0 rfl) ?_
      refine va_get (D := D) (ci := 7) (v := .ref (q 1)) (C := "ScriptDeskModel") (T := T_Model) (N := 18) hx hb hts iw_Model hown hK hI.1 0 rfl rfl 0 (by decide) (hts _ tw_531) (fun _ h9 => h9) rfl d_Model_fit_35 ?_
      refine lv_bipush (v := 120) hx hb d_Model_fit_38 (by decide) ?_
      refine lv_iload_n hx hb d_Model_fit_40 rfl (lv_at hl 1 rfl) ?_
      refine lv_imul hx hb d_Model_fit_41 ?_
      obtain ⟨hg, hf⟩ := sd_gd_e hf
      refine k_iald hx hb hK hI 1 0 rfl rfl hg d_Model_fit_42 ?_
      refine lv_aload_n hx hb d_Model_fit_43 rfl (lv_at hl 0 rfl) ?_
      refine va_get (D := D) (ci := 7) (v := .ref (q 1)) (C := "ScriptDeskModel") (T := T_Model) (N := 18) hx hb hts iw_Model hown hK hI.1 0 rfl rfl 0 (by decide) (hts _ tw_531) (fun _ h9 => h9) rfl d_Model_fit_44 ?_
      refine lv_bipush (v := 120) hx hb d_Model_fit_47 (by decide) ?_
      refine lv_iload_n hx hb d_Model_fit_49 rfl (lv_at hl 2 rfl) ?_
      refine lv_imul hx hb d_Model_fit_50 ?_
      refine lv_aload_n hx hb d_Model_fit_51 rfl (lv_at hl 0 rfl) ?_
      refine va_get (D := D) (ci := 7) (v := .ref (q 2)) (C := "ScriptDeskModel") (T := T_Model) (N := 18) hx hb hts iw_Model hown hK hI.1 0 rfl rfl 1 (by decide) (hts _ tw_532) (fun _ h9 => h9) rfl d_Model_fit_52 ?_
      refine lv_iload_n hx hb d_Model_fit_55 rfl (lv_at hl 2 rfl) ?_
      obtain ⟨hg, hf⟩ := sd_gd_e hf
      refine k_iald hx hb hK hI 2 0 rfl rfl hg d_Model_fit_56 ?_
      refine lv_iadd hx hb d_Model_fit_57 ?_
      refine lv_iconst (v := 1) hx hb d_Model_fit_58 (by decide) ?_
      refine lv_isub hx hb d_Model_fit_59 ?_
      obtain ⟨hg, hf⟩ := sd_gd_e hf
      refine k_iald hx hb hK hI 1 0 rfl rfl hg d_Model_fit_60 ?_
      refine lv_imul hx hb d_Model_fit_61 ?_
      refine lv_i2l (v := (Int32.toInt64 ((m1.1 1 (Int32.toNatClampNeg ((120 : Int32) * a1))) * (m1.1 1 (Int32.toNatClampNeg ((((120 : Int32) * a2) + (m1.1 2 (Int32.toNatClampNeg a2))) - (1 : Int32))))))) hx hb d_Model_fit_62 rfl ?_
      refine lv_ladd hx hb d_Model_fit_63 ?_
      refine lv_aload_n hx hb d_Model_fit_64 rfl (lv_at hl 0 rfl) ?_
      refine va_get (D := D) (ci := 7) (v := .ref (q 1)) (C := "ScriptDeskModel") (T := T_Model) (N := 18) hx hb hts iw_Model hown hK hI.1 0 rfl rfl 0 (by decide) (hts _ tw_531) (fun _ h9 => h9) rfl d_Model_fit_65 ?_
      refine lv_bipush (v := 120) hx hb d_Model_fit_68 (by decide) ?_
      refine lv_iload_n hx hb d_Model_fit_70 rfl (lv_at hl 1 rfl) ?_
      refine lv_imul hx hb d_Model_fit_71 ?_
      refine lv_aload_n hx hb d_Model_fit_72 rfl (lv_at hl 0 rfl) ?_
      refine va_get (D := D) (ci := 7) (v := .ref (q 2)) (C := "ScriptDeskModel") (T := T_Model) (N := 18) hx hb hts iw_Model hown hK hI.1 0 rfl rfl 1 (by decide) (hts _ tw_532) (fun _ h9 => h9) rfl d_Model_fit_73 ?_
      refine lv_iload_n hx hb d_Model_fit_76 rfl (lv_at hl 1 rfl) ?_
      obtain ⟨hg, hf⟩ := sd_gd_e hf
      refine k_iald hx hb hK hI 2 0 rfl rfl hg d_Model_fit_77 ?_
      refine lv_iadd hx hb d_Model_fit_78 ?_
      refine lv_iconst (v := 1) hx hb d_Model_fit_79 (by decide) ?_
      refine lv_isub hx hb d_Model_fit_80 ?_
      obtain ⟨hg, hf⟩ := sd_gd_e hf
      refine k_iald hx hb hK hI 1 0 rfl rfl hg d_Model_fit_81 ?_
      refine lv_i2l (v := (Int32.toInt64 (m1.1 1 (Int32.toNatClampNeg ((((120 : Int32) * a1) + (m1.1 2 (Int32.toNatClampNeg a1))) - (1 : Int32)))))) hx hb d_Model_fit_82 rfl ?_
      refine lv_ladd hx hb d_Model_fit_83 ?_
      refine k_ll hf (fun x2 hf => ?_)
      refine lv_lstore_n (lv' := [(3, .long x2), (0, .ref (q 0)), (1, .int a1), (2, .int a2)]) hx hb d_Model_fit_84 rfl hl (by decide) rfl (fun ls hl => ?_)
      refine lv_lload_n hx hb d_Model_fit_85 rfl (lv_at hl 0 rfl) ?_
      refine lv_ldc2 (v := 3) hx hb hown (hts _ tw_762) d_Model_fit_86 ?_
      refine lv_lrem hx hb d_Model_fit_89 (by decide) ?_
      refine lv_lconst (v := 0) hx hb d_Model_fit_90 (by decide) ?_
      refine W.lcmp hx hb d_Model_fit_91 ?_
      refine lv_if_ne (tgt := 99) hx hb d_Model_fit_92 (by decide) (fun hc => ?_) (fun hc => ?_)
      · have hf := sd_f hf hc
        refine lv_iconst (v := 0) hx hb d_Model_fit_99 (by decide) ?_
        exact k_reti X hI rfl hf d_Model_fit_100
      · have hf := sd_t hf hc
        refine lv_iconst (v := 1) hx hb d_Model_fit_95 (by decide) ?_
        refine lv_goto (tgt := 100) hx hb d_Model_fit_96 (by decide) ?_
        exact k_reti X hI rfl hf d_Model_fit_100
    · have hf := sd_t hf hc
      refine lv_iconst (v := 0) hx hb d_Model_fit_28 (by decide) ?_
      exact k_reti X hI rfl hf d_Model_fit_29
set_option maxHeartbeats 4000000 in
set_option maxRecDepth 100000 in
theorem mt_Model_one_r0 (l : Launch) {D : va_G} {q tq : Nat → Nat} {cA : ClassId} {a1 : Int32} {μ : sd_Me} {ru : sd_Me} (hf : fn_Model_one_r0 a1 μ = some ru) : sd_CTv l y_Model_one w_Model_one ({ frames := 3, cells := 0, slots := 0, locals := 62 }) vwCl (wdM q cA) D [(cA, .int)] (ZM tq) [.ref (q 0), .int a1] μ ru := by
  refine k_entv (cc := prog_12_method_22_code) 3 (by decide) rfl (Nat.le_of_ble_eq_true rfl) ?_
  intro p e s m below meth c A ls X hI hl
  have hl : lv_has ls 3 [(0, .ref (q 0)), (1, .int a1)] := hl
  obtain ⟨hx, hb, hml, hown, hts, hK, hZ, hA, hr, hlocks⟩ := id X
  unfold fn_Model_one_r0 at hf
  refine lv_aload_n hx hb d_Model_one_0 rfl (lv_at hl 0 rfl) ?_
  refine lv_iconst (v := 2) hx hb d_Model_one_1 (by decide) ?_
  obtain ⟨x2, m1, hq, hf⟩ := sd_bi_e hf
  refine k_callV (As := [.int (2 : Int32)]) (rest := []) (C := "ScriptDeskModel") (ci := 7) ZM_ok X hI (mt_Model_has_r0 l hq) (cwV 1 hts (gd_V tw_619 tw_621 ts_19 tw_9 tw_622) rfl rfl rfl (by decide +kernel) ⟨Nat.le_of_ble_eq_true rfl, Nat.le_of_ble_eq_true rfl⟩) 0 rfl rfl rfl hl.1 rfl (Nat.le_of_ble_eq_true rfl) d_Model_one_2 ⟨Nat.zero_le _, Nat.zero_le _⟩ (fun H locs hn_x2 hI => ?_)
  refine lv_if_ne (tgt := 9) hx hb d_Model_one_5 (by decide) (fun hc => ?_) (fun hc => ?_)
  · have hf := sd_f hf hc
    refine lv_aload_n hx hb d_Model_one_9 rfl (lv_at hl 0 rfl) ?_
    refine lv_aload_n hx hb d_Model_one_10 rfl (lv_at hl 0 rfl) ?_
    refine lv_iconst (v := 1) hx hb d_Model_one_11 (by decide) ?_
    obtain ⟨x4, m3, hq, hf⟩ := sd_bi_e hf
    refine k_callV (As := [.int (1 : Int32)]) (rest := [.ref (q 0)]) (C := "ScriptDeskModel") (ci := 7) ZM_ok X hI (mt_Model_top_r0 l hq) (cwV 1 hts (gd_V tw_657 tw_659 ts_28 tw_9 tw_660) rfl rfl rfl (by decide +kernel) ⟨Nat.le_of_ble_eq_true rfl, Nat.le_of_ble_eq_true rfl⟩) 0 rfl rfl rfl hl.1 rfl (Nat.le_of_ble_eq_true rfl) d_Model_one_12 ⟨Nat.zero_le _, Nat.zero_le _⟩ (fun H locs hn_x4 hI => ?_)
    refine lv_aload_n hx hb d_Model_one_15 rfl (lv_at hl 0 rfl) ?_
    refine lv_iconst (v := 0) hx hb d_Model_one_16 (by decide) ?_
    obtain ⟨x6, m5, hq, hf⟩ := sd_bi_e hf
    refine k_callV (As := [.int (0 : Int32)]) (rest := [.int x4, .ref (q 0)]) (C := "ScriptDeskModel") (ci := 7) ZM_ok X hI (mt_Model_top_r0 l hq) (cwV 1 hts (gd_V tw_657 tw_659 ts_28 tw_9 tw_660) rfl rfl rfl (by decide +kernel) ⟨Nat.le_of_ble_eq_true rfl, Nat.le_of_ble_eq_true rfl⟩) 0 rfl rfl rfl hl.1 rfl (Nat.le_of_ble_eq_true rfl) d_Model_one_17 ⟨Nat.zero_le _, Nat.zero_le _⟩ (fun H locs hn_x6 hI => ?_)
    obtain ⟨x8, m7, hq, hf⟩ := sd_bi_e hf
    refine k_callV (As := [.int x4, .int x6]) (rest := []) (C := "ScriptDeskModel") (ci := 7) ZM_ok X hI (mt_Model_fit_r0 l hq) (cwV 2 hts (gd_V tw_758 tw_760 ts_44 tw_9 tw_761) rfl rfl rfl (by decide +kernel) ⟨Nat.le_of_ble_eq_true rfl, Nat.le_of_ble_eq_true rfl⟩) 0 rfl rfl rfl hl.1 rfl (Nat.le_of_ble_eq_true rfl) d_Model_one_20 ⟨Nat.zero_le _, Nat.zero_le _⟩ (fun H locs hn_x8 hI => ?_)
    refine lv_istore_n (lv' := [(2, .int x8), (0, .ref (q 0)), (1, .int a1)]) hx hb d_Model_one_23 rfl hl (by decide) rfl (fun ls hl => ?_)
    refine lv_aload_n hx hb d_Model_one_24 rfl (lv_at hl 1 rfl) ?_
    refine lv_dup hx hb d_Model_one_25 rfl ?_
    refine va_get (D := D) (ci := 7) (v := .int (m7.1 0 2)) (C := "ScriptDeskModel") (T := T_Model) (N := 18) hx hb hts iw_Model hown hK hI.1 0 rfl rfl 2 (by decide) (hts _ tw_533) (fun _ h9 => h9) rfl d_Model_one_26 ?_
    refine lv_iconst (v := 2) hx hb d_Model_one_29 (by decide) ?_
    refine lv_isub hx hb d_Model_one_30 ?_
    refine k_put (ci := 7) (v := .int ((m7.1 0 2) - (2 : Int32))) (ty := .int) (C := "ScriptDeskModel") (T := T_Model) (N := 18) (μ' := sd_st m7 0 2 ((m7.1 0 2) - (2 : Int32))) hx hb hts iw_Model t_Model t_Model_ok n_Model hown hK hI 0 rfl rfl 2 (by decide) (hts _ tw_533) (fun _ h9 => h9) rfl (by decide +kernel) rfl rfl (Nat.le_of_ble_eq_true rfl) rfl d_Model_one_31 (fun H locs hI => ?_)
    obtain ⟨m9, hI, hf⟩ := k_lm hf hI
    refine lv_aload_n hx hb d_Model_one_34 rfl (lv_at hl 1 rfl) ?_
    refine lv_iload_n hx hb d_Model_one_35 rfl (lv_at hl 0 rfl) ?_
    obtain ⟨m10, hq, hf⟩ := sd_bv_e hf
    refine k_callVv (As := [.int x8]) (rest := []) (C := "ScriptDeskModel") (ci := 7) ZM_ok X hI (mt_Model_pushTruth_r0 l hq) (cwV 1 hts (gd_V tw_681 tw_683 ts_34 tw_9 tw_684) rfl rfl rfl (by decide +kernel) ⟨Nat.le_of_ble_eq_true rfl, Nat.le_of_ble_eq_true rfl⟩) 0 rfl rfl rfl hl.1 rfl (Nat.le_of_ble_eq_true rfl) d_Model_one_36 ⟨Nat.zero_le _, Nat.zero_le _⟩ (fun H locs hI => ?_)
    refine lv_iload_n hx hb d_Model_one_39 rfl (lv_at hl 2 rfl) ?_
    refine lv_if_eq (tgt := 47) hx hb d_Model_one_40 (by decide) (fun hc => ?_) (fun hc => ?_)
    · have hf := sd_t hf hc
      exact k_retv X hI hf d_Model_one_47
    · have hf := sd_f hf hc
      refine lv_aload_n hx hb d_Model_one_43 rfl (lv_at hl 1 rfl) ?_
      obtain ⟨m11, hq, hf⟩ := sd_bv_e hf
      refine k_callVv (As := []) (rest := []) (C := "ScriptDeskModel") (ci := 7) ZM_ok X hI (mt_Model_mustBeTrue_r0 l hq) (cwV 0 hts (gd_V tw_685 tw_687 ts_35 tw_9 tw_688) rfl rfl rfl (by decide +kernel) ⟨Nat.le_of_ble_eq_true rfl, Nat.le_of_ble_eq_true rfl⟩) 0 rfl rfl rfl hl.1 rfl (Nat.le_of_ble_eq_true rfl) d_Model_one_44 ⟨Nat.zero_le _, Nat.zero_le _⟩ (fun H locs hI => ?_)
      exact k_retv X hI hf d_Model_one_47
  · have hf := sd_t hf hc
    exact k_retv X hI hf d_Model_one_8
