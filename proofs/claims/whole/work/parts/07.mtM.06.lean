set_option maxHeartbeats 4000000 in
set_option maxRecDepth 100000 in
theorem jn_Model_next_r0_J252 (l : Launch) {p : Program} {e : Env} {s : State} {m : MethodId} {args : Array Value} {below : List Frame} {meth : Method} {c : Code} {A : Nat → Prop} {D : va_G} {q tq : Nat → Nat} {cA : ClassId} {ru : Int32 × sd_Me} (X : sd_Cx p s m args meth c prog_12_method_37_code "ScriptDeskModel" sx_tbl 6 (some .int) vwCl D [(cA, .int)] (ZM tq) A) (v1 : Int32) (v2 : Int32) (v3 : Int32) (μ : sd_Me) (H : Heap) (locs : List Loc) (ls : Array Slot) (hI : sd_CI vwCl (wdM q cA) D A s H locs μ) (hl : lv_has ls 6 [(0, .ref (q 0)), (1, .int v1), (2, .int v2), (3, .int v3)]) (hf : fn_Model_next_r0_J252 v1 v2 v3 μ = some ru) : W p l e ({ frames := 6, cells := 0, slots := 0, locals := 130 }) s m args below meth c H locs 0 0 (sd_QI below vwCl (wdM q cA) D [(cA, .int)] .int A args s ru) (F0 m 252 ls []) := by
  obtain ⟨hx, hb, hml, hown, hts, hK, hZ, hA, hr, hlocks⟩ := id X
  unfold fn_Model_next_r0_J252 at hf
  refine lv_iload_n hx hb d_Model_next_252 rfl (lv_at hl 3 rfl) ?_
  refine lv_if_eq (tgt := 261) hx hb d_Model_next_253 (by decide) (fun hc => ?_) (fun hc => ?_)
  · have hf := sd_t hf hc
    refine lv_iload_n hx hb d_Model_next_261 rfl (lv_at hl 1 rfl) ?_
    refine lv_iconst (v := 1) hx hb d_Model_next_262 (by decide) ?_
    refine lv_iadd hx hb d_Model_next_263 ?_
    exact k_reti X hI (vp_nar_int _) hf d_Model_next_264
  · have hf := sd_f hf hc
    refine lv_aload_n hx hb d_Model_next_256 rfl (lv_at hl 0 rfl) ?_
    refine lv_iload_n hx hb d_Model_next_257 rfl (lv_at hl 2 rfl) ?_
    obtain ⟨m8, hq, hf⟩ := sd_bv_e hf
    refine k_callVv (As := [.int v2]) (rest := []) (C := "ScriptDeskModel") (ci := 7) ZM_ok X hI (mt_Model_operation_r0 l hq) (cwV 1 hts (gd_V tw_633 tw_635 ts_22 tw_9 tw_636) rfl rfl rfl (by decide +kernel) ⟨Nat.le_of_ble_eq_true rfl, Nat.le_of_ble_eq_true rfl⟩) 0 rfl rfl rfl hl.1 rfl (Nat.le_of_ble_eq_true rfl) d_Model_next_258 ⟨Nat.zero_le _, Nat.zero_le _⟩ (fun H locs hI => ?_)
    refine lv_iload_n hx hb d_Model_next_261 rfl (lv_at hl 1 rfl) ?_
    refine lv_iconst (v := 1) hx hb d_Model_next_262 (by decide) ?_
    refine lv_iadd hx hb d_Model_next_263 ?_
    exact k_reti X hI (vp_nar_int _) hf d_Model_next_264
set_option maxHeartbeats 4000000 in
set_option maxRecDepth 100000 in
theorem jn_Model_next_r0_J234 (l : Launch) {p : Program} {e : Env} {s : State} {m : MethodId} {args : Array Value} {below : List Frame} {meth : Method} {c : Code} {A : Nat → Prop} {D : va_G} {q tq : Nat → Nat} {cA : ClassId} {ru : Int32 × sd_Me} (X : sd_Cx p s m args meth c prog_12_method_37_code "ScriptDeskModel" sx_tbl 6 (some .int) vwCl D [(cA, .int)] (ZM tq) A) (v1 : Int32) (v2 : Int32) (v3 : Int32) (μ : sd_Me) (H : Heap) (locs : List Loc) (ls : Array Slot) (hI : sd_CI vwCl (wdM q cA) D A s H locs μ) (hl : lv_has ls 6 [(0, .ref (q 0)), (1, .int v1), (2, .int v2), (3, .int v3)]) (hf : fn_Model_next_r0_J234 v1 v2 v3 μ = some ru) : W p l e ({ frames := 6, cells := 0, slots := 0, locals := 130 }) s m args below meth c H locs 0 0 (sd_QI below vwCl (wdM q cA) D [(cA, .int)] .int A args s ru) (F0 m 234 ls []) := by
  obtain ⟨hx, hb, hml, hown, hts, hK, hZ, hA, hr, hlocks⟩ := id X
  unfold fn_Model_next_r0_J234 at hf
  refine lv_iload_n hx hb d_Model_next_234 rfl (lv_at hl 3 rfl) ?_
  refine lv_if_eq (tgt := 252) hx hb d_Model_next_235 (by decide) (fun hc => ?_) (fun hc => ?_)
  · have hf := sd_t hf hc
    exact jn_Model_next_r0_J252 l X (v1) (v2) (v3) μ _ _ _ hI (lv_sub hl [0, 1, 2, 3] rfl) hf
  · have hf := sd_f hf hc
    refine lv_iload_n hx hb d_Model_next_238 rfl (lv_at hl 2 rfl) ?_
    refine lv_bipush (v := 97) hx hb d_Model_next_239 (by decide) ?_
    refine lv_icmp_ge (tgt := 252) hx hb d_Model_next_241 (by decide) (fun hc => ?_) (fun hc => ?_)
    · have hf := sd_t hf hc
      exact jn_Model_next_r0_J252 l X (v1) (v2) (v3) μ _ _ _ hI (lv_sub hl [0, 1, 2, 3] rfl) hf
    · have hf := sd_f hf hc
      refine lv_aload_n hx hb d_Model_next_244 rfl (lv_at hl 0 rfl) ?_
      refine lv_iconst (v := 4) hx hb d_Model_next_245 (by decide) ?_
      obtain ⟨m9, hq, hf⟩ := sd_bv_e hf
      refine k_callVv (As := [.int (4 : Int32)]) (rest := []) (C := "ScriptDeskModel") (ci := 7) ZM_ok X hI (mt_Model_fails_r0 l hq) (cwV 1 hts (gd_V tw_607 tw_609 ts_16 tw_9 tw_610) rfl rfl rfl (by decide +kernel) ⟨Nat.le_of_ble_eq_true rfl, Nat.le_of_ble_eq_true rfl⟩) 0 rfl rfl rfl hl.1 rfl (Nat.le_of_ble_eq_true rfl) d_Model_next_246 ⟨Nat.zero_le _, Nat.zero_le _⟩ (fun H locs hI => ?_)
      refine lv_goto (tgt := 261) hx hb d_Model_next_249 (by decide) ?_
      refine lv_iload_n hx hb d_Model_next_261 rfl (lv_at hl 1 rfl) ?_
      refine lv_iconst (v := 1) hx hb d_Model_next_262 (by decide) ?_
      refine lv_iadd hx hb d_Model_next_263 ?_
      exact k_reti X hI (vp_nar_int _) hf d_Model_next_264
set_option maxHeartbeats 4000000 in
set_option maxRecDepth 100000 in
theorem jn_Model_next_r0_J206 (l : Launch) {p : Program} {e : Env} {s : State} {m : MethodId} {args : Array Value} {below : List Frame} {meth : Method} {c : Code} {A : Nat → Prop} {D : va_G} {q tq : Nat → Nat} {cA : ClassId} {ru : Int32 × sd_Me} (X : sd_Cx p s m args meth c prog_12_method_37_code "ScriptDeskModel" sx_tbl 6 (some .int) vwCl D [(cA, .int)] (ZM tq) A) (v1 : Int32) (v2 : Int32) (v3 : Int32) (μ : sd_Me) (H : Heap) (locs : List Loc) (ls : Array Slot) (hI : sd_CI vwCl (wdM q cA) D A s H locs μ) (hl : lv_has ls 6 [(0, .ref (q 0)), (1, .int v1), (2, .int v2), (3, .int v3)]) (hf : fn_Model_next_r0_J206 v1 v2 v3 μ = some ru) : W p l e ({ frames := 6, cells := 0, slots := 0, locals := 130 }) s m args below meth c H locs 0 0 (sd_QI below vwCl (wdM q cA) D [(cA, .int)] .int A args s ru) (F0 m 206 ls []) := by
  obtain ⟨hx, hb, hml, hown, hts, hK, hZ, hA, hr, hlocks⟩ := id X
  unfold fn_Model_next_r0_J206 at hf
  refine lv_iload_n hx hb d_Model_next_206 rfl (lv_at hl 3 rfl) ?_
  refine lv_if_eq (tgt := 234) hx hb d_Model_next_207 (by decide) (fun hc => ?_) (fun hc => ?_)
  · have hf := sd_t hf hc
    exact jn_Model_next_r0_J234 l X (v1) (v2) (v3) μ _ _ _ hI (lv_sub hl [0, 1, 2, 3] rfl) hf
  · have hf := sd_f hf hc
    refine lv_iload_n hx hb d_Model_next_210 rfl (lv_at hl 2 rfl) ?_
    refine lv_bipush (v := 80) hx hb d_Model_next_211 (by decide) ?_
    refine lv_icmp_le (tgt := 234) hx hb d_Model_next_213 (by decide) (fun hc => ?_) (fun hc => ?_)
    · have hf := sd_t hf hc
      exact jn_Model_next_r0_J234 l X (v1) (v2) (v3) μ _ _ _ hI (lv_sub hl [0, 1, 2, 3] rfl) hf
    · have hf := sd_f hf hc
      refine lv_iload_n hx hb d_Model_next_216 rfl (lv_at hl 2 rfl) ?_
      refine lv_bipush (v := 97) hx hb d_Model_next_217 (by decide) ?_
      refine lv_icmp_ge (tgt := 234) hx hb d_Model_next_219 (by decide) (fun hc => ?_) (fun hc => ?_)
      · have hf := sd_t hf hc
        exact jn_Model_next_r0_J234 l X (v1) (v2) (v3) μ _ _ _ hI (lv_sub hl [0, 1, 2, 3] rfl) hf
      · have hf := sd_f hf hc
        refine lv_aload_n hx hb d_Model_next_222 rfl (lv_at hl 0 rfl) ?_
        refine lv_iload_n hx hb d_Model_next_223 rfl (lv_at hl 2 rfl) ?_
        refine lv_bipush (v := 80) hx hb d_Model_next_224 (by decide) ?_
        refine lv_isub hx hb d_Model_next_226 ?_
        refine lv_i2l (v := (Int32.toInt64 (v2 - (80 : Int32)))) hx hb d_Model_next_227 rfl ?_
        obtain ⟨m10, hq, hf⟩ := sd_bv_e hf
        refine k_callVv (As := [.long (Int32.toInt64 (v2 - (80 : Int32)))]) (rest := []) (C := "ScriptDeskModel") (ci := 7) ZM_ok X hI (mt_Model_pushNumber_r0 l hq) (cwV 1 hts (gd_V tw_628 tw_630 ts_21 tw_9 tw_631) rfl rfl rfl (by decide +kernel) ⟨Nat.le_of_ble_eq_true rfl, Nat.le_of_ble_eq_true rfl⟩) 0 rfl rfl rfl hl.1 rfl (Nat.le_of_ble_eq_true rfl) d_Model_next_228 ⟨Nat.zero_le _, Nat.zero_le _⟩ (fun H locs hI => ?_)
        refine lv_goto (tgt := 261) hx hb d_Model_next_231 (by decide) ?_
        refine lv_iload_n hx hb d_Model_next_261 rfl (lv_at hl 1 rfl) ?_
        refine lv_iconst (v := 1) hx hb d_Model_next_262 (by decide) ?_
        refine lv_iadd hx hb d_Model_next_263 ?_
        exact k_reti X hI (vp_nar_int _) hf d_Model_next_264
set_option maxHeartbeats 4000000 in
set_option maxRecDepth 100000 in
theorem jn_Model_next_r0_J134 (l : Launch) {p : Program} {e : Env} {s : State} {m : MethodId} {args : Array Value} {below : List Frame} {meth : Method} {c : Code} {A : Nat → Prop} {D : va_G} {q tq : Nat → Nat} {cA : ClassId} {ru : Int32 × sd_Me} (X : sd_Cx p s m args meth c prog_12_method_37_code "ScriptDeskModel" sx_tbl 6 (some .int) vwCl D [(cA, .int)] (ZM tq) A) (v1 : Int32) (v2 : Int32) (v3 : Int32) (s1 : Int32) (μ : sd_Me) (H : Heap) (locs : List Loc) (ls : Array Slot) (hI : sd_CI vwCl (wdM q cA) D A s H locs μ) (hl : lv_has ls 6 [(0, .ref (q 0)), (1, .int v1), (2, .int v2), (3, .int v3)]) (hf : fn_Model_next_r0_J134 v1 v2 v3 s1 μ = some ru) : W p l e ({ frames := 6, cells := 0, slots := 0, locals := 130 }) s m args below meth c H locs 0 0 (sd_QI below vwCl (wdM q cA) D [(cA, .int)] .int A args s ru) (F0 m 134 ls [.int s1, .ref (q 0)]) := by
  obtain ⟨hx, hb, hml, hown, hts, hK, hZ, hA, hr, hlocks⟩ := id X
  unfold fn_Model_next_r0_J134 at hf
  refine k_put (ci := 7) (v := .int s1) (ty := .int) (C := "ScriptDeskModel") (T := T_Model) (N := 18) (μ' := sd_st μ 0 9 s1) hx hb hts iw_Model t_Model t_Model_ok n_Model hown hK hI 0 rfl rfl 9 (by decide) (hts _ tw_540) (fun _ h9 => h9) rfl (by decide +kernel) rfl rfl (Nat.le_of_ble_eq_true rfl) rfl d_Model_next_134 (fun H locs hI => ?_)
  obtain ⟨m4, hI, hf⟩ := k_lm hf hI
  refine lv_aload_n hx hb d_Model_next_137 rfl (lv_at hl 0 rfl) ?_
  refine va_get (D := D) (ci := 7) (v := .int (m4.1 0 9)) (C := "ScriptDeskModel") (T := T_Model) (N := 18) hx hb hts iw_Model hown hK hI.1 0 rfl rfl 9 (by decide) (hts _ tw_540) (fun _ h9 => h9) rfl d_Model_next_138 ?_
  refine lv_bipush (v := 100) hx hb d_Model_next_141 (by decide) ?_
  refine lv_icmp_le (tgt := 154) hx hb d_Model_next_143 (by decide) (fun hc => ?_) (fun hc => ?_)
  · have hf := sd_t hf hc
    refine lv_iload_n hx hb d_Model_next_154 rfl (lv_at hl 2 rfl) ?_
    refine lv_bipush (v := 99) hx hb d_Model_next_155 (by decide) ?_
    refine lv_icmp_eq (tgt := 178) hx hb d_Model_next_157 (by decide) (fun hc => ?_) (fun hc => ?_)
    · have hf := sd_t hf hc
      refine lv_aload_n hx hb d_Model_next_178 rfl (lv_at hl 0 rfl) ?_
      refine lv_iload_n hx hb d_Model_next_179 rfl (lv_at hl 2 rfl) ?_
      obtain ⟨m5, hq, hf⟩ := sd_bv_e hf
      refine k_callVv (As := [.int v2]) (rest := []) (C := "ScriptDeskModel") (ci := 7) ZM_ok X hI (mt_Model_flow_r0 l hq) (cwV 1 hts (gd_V tw_615 tw_617 ts_18 tw_9 tw_618) rfl rfl rfl (by decide +kernel) ⟨Nat.le_of_ble_eq_true rfl, Nat.le_of_ble_eq_true rfl⟩) 0 rfl rfl rfl hl.1 rfl (Nat.le_of_ble_eq_true rfl) d_Model_next_180 ⟨Nat.zero_le _, Nat.zero_le _⟩ (fun H locs hI => ?_)
      refine lv_goto (tgt := 261) hx hb d_Model_next_183 (by decide) ?_
      refine lv_iload_n hx hb d_Model_next_261 rfl (lv_at hl 1 rfl) ?_
      refine lv_iconst (v := 1) hx hb d_Model_next_262 (by decide) ?_
      refine lv_iadd hx hb d_Model_next_263 ?_
      exact k_reti X hI (vp_nar_int _) hf d_Model_next_264
    · have hf := sd_f hf hc
      refine lv_iload_n hx hb d_Model_next_160 rfl (lv_at hl 2 rfl) ?_
      refine lv_bipush (v := 100) hx hb d_Model_next_161 (by decide) ?_
      refine lv_icmp_eq (tgt := 178) hx hb d_Model_next_163 (by decide) (fun hc => ?_) (fun hc => ?_)
      · have hf := sd_t hf hc
        refine lv_aload_n hx hb d_Model_next_178 rfl (lv_at hl 0 rfl) ?_
        refine lv_iload_n hx hb d_Model_next_179 rfl (lv_at hl 2 rfl) ?_
        obtain ⟨m6, hq, hf⟩ := sd_bv_e hf
        refine k_callVv (As := [.int v2]) (rest := []) (C := "ScriptDeskModel") (ci := 7) ZM_ok X hI (mt_Model_flow_r0 l hq) (cwV 1 hts (gd_V tw_615 tw_617 ts_18 tw_9 tw_618) rfl rfl rfl (by decide +kernel) ⟨Nat.le_of_ble_eq_true rfl, Nat.le_of_ble_eq_true rfl⟩) 0 rfl rfl rfl hl.1 rfl (Nat.le_of_ble_eq_true rfl) d_Model_next_180 ⟨Nat.zero_le _, Nat.zero_le _⟩ (fun H locs hI => ?_)
        refine lv_goto (tgt := 261) hx hb d_Model_next_183 (by decide) ?_
        refine lv_iload_n hx hb d_Model_next_261 rfl (lv_at hl 1 rfl) ?_
        refine lv_iconst (v := 1) hx hb d_Model_next_262 (by decide) ?_
        refine lv_iadd hx hb d_Model_next_263 ?_
        exact k_reti X hI (vp_nar_int _) hf d_Model_next_264
      · have hf := sd_f hf hc
        refine lv_iload_n hx hb d_Model_next_166 rfl (lv_at hl 2 rfl) ?_
        refine lv_bipush (v := 103) hx hb d_Model_next_167 (by decide) ?_
        refine lv_icmp_eq (tgt := 178) hx hb d_Model_next_169 (by decide) (fun hc => ?_) (fun hc => ?_)
        · have hf := sd_t hf hc
          refine lv_aload_n hx hb d_Model_next_178 rfl (lv_at hl 0 rfl) ?_
          refine lv_iload_n hx hb d_Model_next_179 rfl (lv_at hl 2 rfl) ?_
          obtain ⟨m7, hq, hf⟩ := sd_bv_e hf
          refine k_callVv (As := [.int v2]) (rest := []) (C := "ScriptDeskModel") (ci := 7) ZM_ok X hI (mt_Model_flow_r0 l hq) (cwV 1 hts (gd_V tw_615 tw_617 ts_18 tw_9 tw_618) rfl rfl rfl (by decide +kernel) ⟨Nat.le_of_ble_eq_true rfl, Nat.le_of_ble_eq_true rfl⟩) 0 rfl rfl rfl hl.1 rfl (Nat.le_of_ble_eq_true rfl) d_Model_next_180 ⟨Nat.zero_le _, Nat.zero_le _⟩ (fun H locs hI => ?_)
          refine lv_goto (tgt := 261) hx hb d_Model_next_183 (by decide) ?_
          refine lv_iload_n hx hb d_Model_next_261 rfl (lv_at hl 1 rfl) ?_
          refine lv_iconst (v := 1) hx hb d_Model_next_262 (by decide) ?_
          refine lv_iadd hx hb d_Model_next_263 ?_
          exact k_reti X hI (vp_nar_int _) hf d_Model_next_264
        · have hf := sd_f hf hc
          refine lv_iload_n hx hb d_Model_next_172 rfl (lv_at hl 2 rfl) ?_
          refine lv_bipush (v := 104) hx hb d_Model_next_173 (by decide) ?_
          refine lv_icmp_ne (tgt := 186) hx hb d_Model_next_175 (by decide) (fun hc => ?_) (fun hc => ?_)
          · have hf := sd_f hf hc
            refine lv_iload_n hx hb d_Model_next_186 rfl (lv_at hl 3 rfl) ?_
            refine lv_if_eq (tgt := 206) hx hb d_Model_next_187 (by decide) (fun hc => ?_) (fun hc => ?_)
            · have hf := sd_t hf hc
              exact jn_Model_next_r0_J206 l X (v1) (v2) (v3) m4 _ _ _ hI (lv_sub hl [0, 1, 2, 3] rfl) hf
            · have hf := sd_f hf hc
              refine lv_iload_n hx hb d_Model_next_190 rfl (lv_at hl 2 rfl) ?_
              refine lv_bipush (v := 79) hx hb d_Model_next_191 (by decide) ?_
              refine lv_icmp_ne (tgt := 206) hx hb d_Model_next_193 (by decide) (fun hc => ?_) (fun hc => ?_)
              · have hf := sd_f hf hc
                exact jn_Model_next_r0_J206 l X (v1) (v2) (v3) m4 _ _ _ hI (lv_sub hl [0, 1, 2, 3] rfl) hf
              · have hf := sd_t hf hc
                refine lv_aload_n hx hb d_Model_next_196 rfl (lv_at hl 0 rfl) ?_
                refine lv_ldc2 (v := -1) hx hb hown (hts _ tw_627) d_Model_next_197 ?_
                obtain ⟨m11, hq, hf⟩ := sd_bv_e hf
                refine k_callVv (As := [.long (-1 : Int64)]) (rest := []) (C := "ScriptDeskModel") (ci := 7) ZM_ok X hI (mt_Model_pushNumber_r0 l hq) (cwV 1 hts (gd_V tw_628 tw_630 ts_21 tw_9 tw_631) rfl rfl rfl (by decide +kernel) ⟨Nat.le_of_ble_eq_true rfl, Nat.le_of_ble_eq_true rfl⟩) 0 rfl rfl rfl hl.1 rfl (Nat.le_of_ble_eq_true rfl) d_Model_next_200 ⟨Nat.zero_le _, Nat.zero_le _⟩ (fun H locs hI => ?_)
                refine lv_goto (tgt := 261) hx hb d_Model_next_203 (by decide) ?_
                refine lv_iload_n hx hb d_Model_next_261 rfl (lv_at hl 1 rfl) ?_
                refine lv_iconst (v := 1) hx hb d_Model_next_262 (by decide) ?_
                refine lv_iadd hx hb d_Model_next_263 ?_
                exact k_reti X hI (vp_nar_int _) hf d_Model_next_264
          · have hf := sd_t hf hc
            refine lv_aload_n hx hb d_Model_next_178 rfl (lv_at hl 0 rfl) ?_
            refine lv_iload_n hx hb d_Model_next_179 rfl (lv_at hl 2 rfl) ?_
            obtain ⟨m12, hq, hf⟩ := sd_bv_e hf
            refine k_callVv (As := [.int v2]) (rest := []) (C := "ScriptDeskModel") (ci := 7) ZM_ok X hI (mt_Model_flow_r0 l hq) (cwV 1 hts (gd_V tw_615 tw_617 ts_18 tw_9 tw_618) rfl rfl rfl (by decide +kernel) ⟨Nat.le_of_ble_eq_true rfl, Nat.le_of_ble_eq_true rfl⟩) 0 rfl rfl rfl hl.1 rfl (Nat.le_of_ble_eq_true rfl) d_Model_next_180 ⟨Nat.zero_le _, Nat.zero_le _⟩ (fun H locs hI => ?_)
            refine lv_goto (tgt := 261) hx hb d_Model_next_183 (by decide) ?_
            refine lv_iload_n hx hb d_Model_next_261 rfl (lv_at hl 1 rfl) ?_
            refine lv_iconst (v := 1) hx hb d_Model_next_262 (by decide) ?_
            refine lv_iadd hx hb d_Model_next_263 ?_
            exact k_reti X hI (vp_nar_int _) hf d_Model_next_264
  · have hf := sd_f hf hc
    refine lv_aload_n hx hb d_Model_next_146 rfl (lv_at hl 0 rfl) ?_
    refine lv_iconst (v := 3) hx hb d_Model_next_147 (by decide) ?_
    obtain ⟨m13, hq, hf⟩ := sd_bv_e hf
    refine k_callVv (As := [.int (3 : Int32)]) (rest := []) (C := "ScriptDeskModel") (ci := 7) ZM_ok X hI (mt_Model_fails_r0 l hq) (cwV 1 hts (gd_V tw_607 tw_609 ts_16 tw_9 tw_610) rfl rfl rfl (by decide +kernel) ⟨Nat.le_of_ble_eq_true rfl, Nat.le_of_ble_eq_true rfl⟩) 0 rfl rfl rfl hl.1 rfl (Nat.le_of_ble_eq_true rfl) d_Model_next_148 ⟨Nat.zero_le _, Nat.zero_le _⟩ (fun H locs hI => ?_)
    refine lv_goto (tgt := 261) hx hb d_Model_next_151 (by decide) ?_
    refine lv_iload_n hx hb d_Model_next_261 rfl (lv_at hl 1 rfl) ?_
    refine lv_iconst (v := 1) hx hb d_Model_next_262 (by decide) ?_
    refine lv_iadd hx hb d_Model_next_263 ?_
    exact k_reti X hI (vp_nar_int _) hf d_Model_next_264
set_option maxHeartbeats 4000000 in
set_option maxRecDepth 100000 in
theorem jn_Model_next_r0_J98 (l : Launch) {p : Program} {e : Env} {s : State} {m : MethodId} {args : Array Value} {below : List Frame} {meth : Method} {c : Code} {A : Nat → Prop} {D : va_G} {q tq : Nat → Nat} {cA : ClassId} {ru : Int32 × sd_Me} (X : sd_Cx p s m args meth c prog_12_method_37_code "ScriptDeskModel" sx_tbl 6 (some .int) vwCl D [(cA, .int)] (ZM tq) A) (v1 : Int32) (v3 : Int32) (v4 : Int32) (s0 : Int32) (μ : sd_Me) (H : Heap) (locs : List Loc) (ls : Array Slot) (hI : sd_CI vwCl (wdM q cA) D A s H locs μ) (hl : lv_has ls 6 [(0, .ref (q 0)), (1, .int v1), (3, .int v3), (4, .int v4)]) (hf : fn_Model_next_r0_J98 v1 v3 v4 s0 μ = some ru) : W p l e ({ frames := 6, cells := 0, slots := 0, locals := 130 }) s m args below meth c H locs 0 0 (sd_QI below vwCl (wdM q cA) D [(cA, .int)] .int A args s ru) (F0 m 98 ls [.int s0]) := by
  obtain ⟨hx, hb, hml, hown, hts, hK, hZ, hA, hr, hlocks⟩ := id X
  unfold fn_Model_next_r0_J98 at hf
  refine lv_istore (lv' := [(5, .int s0), (0, .ref (q 0)), (1, .int v1), (3, .int v3), (4, .int v4)]) hx hb d_Model_next_98 hl (by decide) rfl (fun ls hl => ?_)
  refine lv_aload_n hx hb d_Model_next_100 rfl (lv_at hl 1 rfl) ?_
  refine lv_iload_n hx hb d_Model_next_101 rfl (lv_at hl 2 rfl) ?_
  refine lv_iconst (v := 1) hx hb d_Model_next_102 (by decide) ?_
  refine lv_iadd hx hb d_Model_next_103 ?_
  refine lv_iload hx hb d_Model_next_104 (lv_at hl 4 rfl) ?_
  refine lv_iadd hx hb d_Model_next_106 ?_
  refine lv_iload hx hb d_Model_next_107 (lv_at hl 0 rfl) ?_
  refine lv_iload_n hx hb d_Model_next_109 rfl (lv_at hl 3 rfl) ?_
  obtain ⟨x15, m14, hq, hf⟩ := sd_bi_e hf
  refine k_callV (As := [.int ((v1 + (1 : Int32)) + v4), .int s0, .int v3]) (rest := []) (C := "ScriptDeskModel") (ci := 7) ZM_ok X hI (mt_Model_pushes_r0 l hq) (cwV 3 hts (gd_V tw_611 tw_613 ts_17 tw_9 tw_614) rfl rfl rfl (by decide +kernel) ⟨Nat.le_of_ble_eq_true rfl, Nat.le_of_ble_eq_true rfl⟩) 0 rfl rfl rfl hl.1 rfl (Nat.le_of_ble_eq_true rfl) d_Model_next_110 ⟨Nat.zero_le _, Nat.zero_le _⟩ (fun H locs hn_x15 hI => ?_)
  exact k_reti X hI (vp_nar_int _) hf d_Model_next_113
set_option maxHeartbeats 4000000 in
set_option maxRecDepth 100000 in
theorem jn_Model_next_r0_J97 (l : Launch) {p : Program} {e : Env} {s : State} {m : MethodId} {args : Array Value} {below : List Frame} {meth : Method} {c : Code} {A : Nat → Prop} {D : va_G} {q tq : Nat → Nat} {cA : ClassId} {ru : Int32 × sd_Me} (X : sd_Cx p s m args meth c prog_12_method_37_code "ScriptDeskModel" sx_tbl 6 (some .int) vwCl D [(cA, .int)] (ZM tq) A) (v1 : Int32) (v3 : Int32) (v4 : Int32) (s0 : Int32) (s1 : Int32) (μ : sd_Me) (H : Heap) (locs : List Loc) (ls : Array Slot) (hI : sd_CI vwCl (wdM q cA) D A s H locs μ) (hl : lv_has ls 6 [(0, .ref (q 0)), (1, .int v1), (3, .int v3), (4, .int v4)]) (hf : fn_Model_next_r0_J97 v1 v3 v4 s0 s1 μ = some ru) : W p l e ({ frames := 6, cells := 0, slots := 0, locals := 130 }) s m args below meth c H locs 0 0 (sd_QI below vwCl (wdM q cA) D [(cA, .int)] .int A args s ru) (F0 m 97 ls [.int s1, .int s0]) := by
  obtain ⟨hx, hb, hml, hown, hts, hK, hZ, hA, hr, hlocks⟩ := id X
  unfold fn_Model_next_r0_J97 at hf
  refine lv_iadd hx hb d_Model_next_97 ?_
  exact jn_Model_next_r0_J98 l X (v1) (v3) (v4) ((s0 + s1)) μ _ _ _ hI (lv_sub hl [0, 1, 2, 3] rfl) hf
set_option maxHeartbeats 4000000 in
set_option maxRecDepth 100000 in
theorem jn_Model_next_r0_J32 (l : Launch) {p : Program} {e : Env} {s : State} {m : MethodId} {args : Array Value} {below : List Frame} {meth : Method} {c : Code} {A : Nat → Prop} {D : va_G} {q tq : Nat → Nat} {cA : ClassId} {ru : Int32 × sd_Me} (X : sd_Cx p s m args meth c prog_12_method_37_code "ScriptDeskModel" sx_tbl 6 (some .int) vwCl D [(cA, .int)] (ZM tq) A) (v1 : Int32) (v2 : Int32) (v3 : Int32) (s0 : Int32) (μ : sd_Me) (H : Heap) (locs : List Loc) (ls : Array Slot) (hI : sd_CI vwCl (wdM q cA) D A s H locs μ) (hl : lv_has ls 6 [(0, .ref (q 0)), (1, .int v1), (2, .int v2), (3, .int v3)]) (hf : fn_Model_next_r0_J32 v1 v2 v3 s0 μ = some ru) : W p l e ({ frames := 6, cells := 0, slots := 0, locals := 130 }) s m args below meth c H locs 0 0 (sd_QI below vwCl (wdM q cA) D [(cA, .int)] .int A args s ru) (F0 m 32 ls [.int s0]) := by
  obtain ⟨hx, hb, hml, hown, hts, hK, hZ, hA, hr, hlocks⟩ := id X
  unfold fn_Model_next_r0_J32 at hf
  refine lv_istore (lv' := [(4, .int s0), (0, .ref (q 0)), (1, .int v1), (2, .int v2), (3, .int v3)]) hx hb d_Model_next_32 hl (by decide) rfl (fun ls hl => ?_)
  refine lv_iload_n hx hb d_Model_next_34 rfl (lv_at hl 2 rfl) ?_
  refine lv_iconst (v := 1) hx hb d_Model_next_35 (by decide) ?_
  refine lv_iadd hx hb d_Model_next_36 ?_
  refine lv_iload hx hb d_Model_next_37 (lv_at hl 0 rfl) ?_
  refine lv_iadd hx hb d_Model_next_39 ?_
  refine lv_aload_n hx hb d_Model_next_40 rfl (lv_at hl 1 rfl) ?_
  refine va_get (D := D) (ci := 7) (v := .int (μ.1 0 5)) (C := "ScriptDeskModel") (T := T_Model) (N := 18) hx hb hts iw_Model hown hK hI.1 0 rfl rfl 5 (by decide) (hts _ tw_536) (fun _ h9 => h9) rfl d_Model_next_41 ?_
  refine lv_icmp_le (tgt := 57) hx hb d_Model_next_44 (by decide) (fun hc => ?_) (fun hc => ?_)
  · have hf := sd_t hf hc
    refine lv_iload_n hx hb d_Model_next_57 rfl (lv_at hl 3 rfl) ?_
    refine lv_bipush (v := 76) hx hb d_Model_next_58 (by decide) ?_
    refine lv_icmp_ge (tgt := 67) hx hb d_Model_next_60 (by decide) (fun hc => ?_) (fun hc => ?_)
    · have hf := sd_t hf hc
      refine lv_aload_n hx hb d_Model_next_67 rfl (lv_at hl 1 rfl) ?_
      refine va_get (D := D) (ci := 7) (v := .ref (q 3)) (C := "ScriptDeskModel") (T := T_Model) (N := 18) hx hb hts iw_Model hown hK hI.1 0 rfl rfl 4 (by decide) (hts _ tw_535) (fun _ h9 => h9) rfl d_Model_next_68 ?_
      refine lv_iload_n hx hb d_Model_next_71 rfl (lv_at hl 2 rfl) ?_
      refine lv_iconst (v := 1) hx hb d_Model_next_72 (by decide) ?_
      refine lv_iadd hx hb d_Model_next_73 ?_
      obtain ⟨hg, hf⟩ := sd_gd_e hf
      refine k_iald hx hb hK hI 3 0 rfl rfl hg d_Model_next_74 ?_
      refine lv_iload hx hb d_Model_next_75 (lv_at hl 0 rfl) ?_
      refine lv_iconst (v := 2) hx hb d_Model_next_77 (by decide) ?_
      refine lv_icmp_ne (tgt := 96) hx hb d_Model_next_78 (by decide) (fun hc => ?_) (fun hc => ?_)
      · have hf := sd_f hf hc
        refine lv_iconst (v := 0) hx hb d_Model_next_96 (by decide) ?_
        exact jn_Model_next_r0_J97 l X (v1) (v3) (s0) ((μ.1 3 (Int32.toNatClampNeg (v1 + (1 : Int32))))) ((0 : Int32)) μ _ _ _ hI (lv_sub hl [1, 2, 4, 0] rfl) hf
      · have hf := sd_t hf hc
        refine lv_sipush (v := 256) hx hb d_Model_next_81 (by decide) ?_
        refine lv_aload_n hx hb d_Model_next_84 rfl (lv_at hl 1 rfl) ?_
        refine va_get (D := D) (ci := 7) (v := .ref (q 3)) (C := "ScriptDeskModel") (T := T_Model) (N := 18) hx hb hts iw_Model hown hK hI.1 0 rfl rfl 4 (by decide) (hts _ tw_535) (fun _ h9 => h9) rfl d_Model_next_85 ?_
        refine lv_iload_n hx hb d_Model_next_88 rfl (lv_at hl 2 rfl) ?_
        refine lv_iconst (v := 2) hx hb d_Model_next_89 (by decide) ?_
        refine lv_iadd hx hb d_Model_next_90 ?_
        obtain ⟨hg, hf⟩ := sd_gd_e hf
        refine k_iald hx hb hK hI 3 0 rfl rfl hg d_Model_next_91 ?_
        refine lv_imul hx hb d_Model_next_92 ?_
        refine lv_goto (tgt := 97) hx hb d_Model_next_93 (by decide) ?_
        exact jn_Model_next_r0_J97 l X (v1) (v3) (s0) ((μ.1 3 (Int32.toNatClampNeg (v1 + (1 : Int32))))) (((256 : Int32) * (μ.1 3 (Int32.toNatClampNeg (v1 + (2 : Int32)))))) μ _ _ _ hI (lv_sub hl [1, 2, 4, 0] rfl) hf
    · have hf := sd_f hf hc
      refine lv_iload_n hx hb d_Model_next_63 rfl (lv_at hl 3 rfl) ?_
      refine lv_goto (tgt := 98) hx hb d_Model_next_64 (by decide) ?_
      exact jn_Model_next_r0_J98 l X (v1) (v3) (s0) (v2) μ _ _ _ hI (lv_sub hl [1, 2, 4, 0] rfl) hf
  · have hf := sd_f hf hc
    refine lv_aload_n hx hb d_Model_next_47 rfl (lv_at hl 1 rfl) ?_
    refine lv_iconst (v := 1) hx hb d_Model_next_48 (by decide) ?_
    obtain ⟨m16, hq, hf⟩ := sd_bv_e hf
    refine k_callVv (As := [.int (1 : Int32)]) (rest := []) (C := "ScriptDeskModel") (ci := 7) ZM_ok X hI (mt_Model_fails_r0 l hq) (cwV 1 hts (gd_V tw_607 tw_609 ts_16 tw_9 tw_610) rfl rfl rfl (by decide +kernel) ⟨Nat.le_of_ble_eq_true rfl, Nat.le_of_ble_eq_true rfl⟩) 0 rfl rfl rfl hl.1 rfl (Nat.le_of_ble_eq_true rfl) d_Model_next_49 ⟨Nat.zero_le _, Nat.zero_le _⟩ (fun H locs hI => ?_)
    refine lv_aload_n hx hb d_Model_next_52 rfl (lv_at hl 1 rfl) ?_
    refine va_get (D := D) (ci := 7) (v := .int (m16.1 0 5)) (C := "ScriptDeskModel") (T := T_Model) (N := 18) hx hb hts iw_Model hown hK hI.1 0 rfl rfl 5 (by decide) (hts _ tw_536) (fun _ h9 => h9) rfl d_Model_next_53 ?_
    exact k_reti X hI (vp_nar_int _) hf d_Model_next_56
set_option maxHeartbeats 4000000 in
set_option maxRecDepth 100000 in
theorem mt_Model_next_r0 (l : Launch) {D : va_G} {q tq : Nat → Nat} {cA : ClassId} {a1 : Int32} {μ : sd_Me} {ru : Int32 × sd_Me} (hf : fn_Model_next_r0 a1 μ = some ru) : sd_CTi l y_Model_next w_Model_next ({ frames := 6, cells := 0, slots := 0, locals := 130 }) vwCl (wdM q cA) D [(cA, .int)] (ZM tq) .int [.ref (q 0), .int a1] μ ru := by
  refine k_enti (cc := prog_12_method_37_code) 6 (by decide) rfl (Nat.le_of_ble_eq_true rfl) ?_
  intro p e s m below meth c A ls X hI hl
  have hl : lv_has ls 6 [(0, .ref (q 0)), (1, .int a1)] := hl
  obtain ⟨hx, hb, hml, hown, hts, hK, hZ, hA, hr, hlocks⟩ := id X
  unfold fn_Model_next_r0 at hf
  refine lv_aload_n hx hb d_Model_next_0 rfl (lv_at hl 0 rfl) ?_
  refine va_get (D := D) (ci := 7) (v := .ref (q 3)) (C := "ScriptDeskModel") (T := T_Model) (N := 18) hx hb hts iw_Model hown hK hI.1 0 rfl rfl 4 (by decide) (hts _ tw_535) (fun _ h9 => h9) rfl d_Model_next_1 ?_
  refine lv_iload_n hx hb d_Model_next_4 rfl (lv_at hl 1 rfl) ?_
  obtain ⟨hg, hf⟩ := sd_gd_e hf
  refine k_iald hx hb hK hI 3 0 rfl rfl hg d_Model_next_5 ?_
  refine k_li hf (fun x1 hf => ?_)
  refine lv_istore_n (lv' := [(2, .int x1), (0, .ref (q 0)), (1, .int a1)]) hx hb d_Model_next_6 rfl hl (by decide) rfl (fun ls hl => ?_)
  refine lv_aload_n hx hb d_Model_next_7 rfl (lv_at hl 1 rfl) ?_
  obtain ⟨x3, m2, hq, hf⟩ := sd_bi_e hf
  refine k_callV (As := []) (rest := []) (C := "ScriptDeskModel") (ci := 7) ZM_ok X hI (mt_Model_isDone_r0 l hq) (cwV 0 hts (gd_V tw_603 tw_605 ts_15 tw_9 tw_606) rfl rfl rfl (by decide +kernel) ⟨Nat.le_of_ble_eq_true rfl, Nat.le_of_ble_eq_true rfl⟩) 0 rfl rfl rfl hl.1 rfl (Nat.le_of_ble_eq_true rfl) d_Model_next_8 ⟨Nat.zero_le _, Nat.zero_le _⟩ (fun H locs hn_x3 hI => ?_)
  refine lv_istore_n (lv' := [(3, .int x3), (2, .int x1), (0, .ref (q 0)), (1, .int a1)]) hx hb d_Model_next_11 rfl hl (by decide) rfl (fun ls hl => ?_)
  refine lv_iload_n hx hb d_Model_next_12 rfl (lv_at hl 1 rfl) ?_
  refine lv_bipush (v := 78) hx hb d_Model_next_13 (by decide) ?_
  refine lv_icmp_ge (tgt := 114) hx hb d_Model_next_15 (by decide) (fun hc => ?_) (fun hc => ?_)
  · have hf := sd_t hf hc
    refine lv_aload_n hx hb d_Model_next_114 rfl (lv_at hl 2 rfl) ?_
    refine lv_iload_n hx hb d_Model_next_115 rfl (lv_at hl 1 rfl) ?_
    refine lv_bipush (v := 96) hx hb d_Model_next_116 (by decide) ?_
    refine lv_icmp_le (tgt := 130) hx hb d_Model_next_118 (by decide) (fun hc => ?_) (fun hc => ?_)
    · have hf := sd_t hf hc
      refine lv_aload_n hx hb d_Model_next_130 rfl (lv_at hl 2 rfl) ?_
      refine va_get (D := D) (ci := 7) (v := .int (m2.1 0 9)) (C := "ScriptDeskModel") (T := T_Model) (N := 18) hx hb hts iw_Model hown hK hI.1 0 rfl rfl 9 (by decide) (hts _ tw_540) (fun _ h9 => h9) rfl d_Model_next_131 ?_
      exact jn_Model_next_r0_J134 l X (a1) (x1) (x3) ((m2.1 0 9)) m2 _ _ _ hI (lv_sub hl [2, 3, 1, 0] rfl) hf
    · have hf := sd_f hf hc
      refine lv_aload_n hx hb d_Model_next_121 rfl (lv_at hl 2 rfl) ?_
      refine va_get (D := D) (ci := 7) (v := .int (m2.1 0 9)) (C := "ScriptDeskModel") (T := T_Model) (N := 18) hx hb hts iw_Model hown hK hI.1 0 rfl rfl 9 (by decide) (hts _ tw_540) (fun _ h9 => h9) rfl d_Model_next_122 ?_
      refine lv_iconst (v := 1) hx hb d_Model_next_125 (by decide) ?_
      refine lv_iadd hx hb d_Model_next_126 ?_
      refine lv_goto (tgt := 134) hx hb d_Model_next_127 (by decide) ?_
      exact jn_Model_next_r0_J134 l X (a1) (x1) (x3) (((m2.1 0 9) + (1 : Int32))) m2 _ _ _ hI (lv_sub hl [2, 3, 1, 0] rfl) hf
  · have hf := sd_f hf hc
    refine lv_iload_n hx hb d_Model_next_18 rfl (lv_at hl 1 rfl) ?_
    refine lv_bipush (v := 76) hx hb d_Model_next_19 (by decide) ?_
    refine lv_icmp_ge (tgt := 28) hx hb d_Model_next_21 (by decide) (fun hc => ?_) (fun hc => ?_)
    · have hf := sd_t hf hc
      refine lv_iload_n hx hb d_Model_next_28 rfl (lv_at hl 1 rfl) ?_
      refine lv_bipush (v := 75) hx hb d_Model_next_29 (by decide) ?_
      refine lv_isub hx hb d_Model_next_31 ?_
      exact jn_Model_next_r0_J32 l X (a1) (x1) (x3) ((x1 - (75 : Int32))) m2 _ _ _ hI (lv_sub hl [2, 3, 1, 0] rfl) hf
    · have hf := sd_f hf hc
      refine lv_iconst (v := 0) hx hb d_Model_next_24 (by decide) ?_
      refine lv_goto (tgt := 32) hx hb d_Model_next_25 (by decide) ?_
      exact jn_Model_next_r0_J32 l X (a1) (x1) (x3) ((0 : Int32)) m2 _ _ _ hI (lv_sub hl [2, 3, 1, 0] rfl) hf
set_option maxHeartbeats 4000000 in
set_option maxRecDepth 100000 in
theorem jn_Model_run_r0_J82 (l : Launch) {p : Program} {e : Env} {s : State} {m : MethodId} {args : Array Value} {below : List Frame} {meth : Method} {c : Code} {A : Nat → Prop} {D : va_G} {q tq : Nat → Nat} {cA : ClassId} {ru : Int32 × sd_Me} (X : sd_Cx p s m args meth c prog_12_method_38_code "ScriptDeskModel" sx_tbl 3 (some .int) vwCl D [(cA, .int)] (ZM tq) A) {rc : Int32 → sd_Me → Option (Int32 × sd_Me)} (hrc : ∀ (v1 : Int32) (μ : sd_Me) (H : Heap) (locs : List Loc) (ls : Array Slot), sd_CI vwCl (wdM q cA) D A s H locs μ → lv_has ls 3 [(0, .ref (q 0)), (1, .int v1)] → rc v1 μ = some ru → W p l e ({ frames := 7, cells := 0, slots := 0, locals := 155 }) s m args below meth c H locs 0 0 (sd_QI below vwCl (wdM q cA) D [(cA, .int)] .int A args s ru) (F0 m 32 ls [])) (v1 : Int32) (v2 : Int32) (μ : sd_Me) (H : Heap) (locs : List Loc) (ls : Array Slot) (hI : sd_CI vwCl (wdM q cA) D A s H locs μ) (hl : lv_has ls 3 [(0, .ref (q 0)), (1, .int v1), (2, .int v2)]) (hf : fn_Model_run_r0_J82 rc v1 v2 μ = some ru) : W p l e ({ frames := 7, cells := 0, slots := 0, locals := 155 }) s m args below meth c H locs 0 0 (sd_QI below vwCl (wdM q cA) D [(cA, .int)] .int A args s ru) (F0 m 82 ls []) := by
  obtain ⟨hx, hb, hml, hown, hts, hK, hZ, hA, hr, hlocks⟩ := id X
  unfold fn_Model_run_r0_J82 at hf
  refine lv_aload_n hx hb d_Model_run_82 rfl (lv_at hl 0 rfl) ?_
  refine lv_aload_n hx hb d_Model_run_83 rfl (lv_at hl 0 rfl) ?_
  refine va_get (D := D) (ci := 7) (v := .int (μ.1 0 7)) (C := "ScriptDeskModel") (T := T_Model) (N := 18) hx hb hts iw_Model hown hK hI.1 0 rfl rfl 7 (by decide) (hts _ tw_538) (fun _ h9 => h9) rfl d_Model_run_84 ?_
  refine lv_if_le (tgt := 94) hx hb d_Model_run_87 (by decide) (fun hc => ?_) (fun hc => ?_)
  · have hf := sd_t hf hc
    refine lv_iconst (v := -1) hx hb d_Model_run_94 (by decide) ?_
    refine k_put (ci := 7) (v := .int (-1 : Int32)) (ty := .int) (C := "ScriptDeskModel") (T := T_Model) (N := 18) (μ' := sd_st μ 0 8 (-1 : Int32)) hx hb hts iw_Model t_Model t_Model_ok n_Model hown hK hI 0 rfl rfl 8 (by decide) (hts _ tw_539) (fun _ h9 => h9) rfl (by decide +kernel) rfl rfl (Nat.le_of_ble_eq_true rfl) rfl d_Model_run_95 (fun H locs hI => ?_)
    obtain ⟨m9, hI, hf⟩ := k_lm hf hI
    refine lv_goto (tgt := 32) hx hb d_Model_run_98 (by decide) ?_
    exact hrc (v1) m9 _ _ _ hI (lv_sub hl [0, 1] rfl) hf
  · have hf := sd_f hf hc
    refine lv_iload_n hx hb d_Model_run_90 rfl (lv_at hl 2 rfl) ?_
    refine lv_goto (tgt := 95) hx hb d_Model_run_91 (by decide) ?_
    refine k_put (ci := 7) (v := .int v2) (ty := .int) (C := "ScriptDeskModel") (T := T_Model) (N := 18) (μ' := sd_st μ 0 8 v2) hx hb hts iw_Model t_Model t_Model_ok n_Model hown hK hI 0 rfl rfl 8 (by decide) (hts _ tw_539) (fun _ h9 => h9) rfl (by decide +kernel) rfl rfl (Nat.le_of_ble_eq_true rfl) rfl d_Model_run_95 (fun H locs hI => ?_)
    obtain ⟨m10, hI, hf⟩ := k_lm hf hI
    refine lv_goto (tgt := 32) hx hb d_Model_run_98 (by decide) ?_
    exact hrc (v1) m10 _ _ _ hI (lv_sub hl [0, 1] rfl) hf
set_option maxHeartbeats 4000000 in
set_option maxRecDepth 100000 in
theorem lp_Model_run_r0_L32 (l : Launch) {p : Program} {e : Env} {s : State} {m : MethodId} {args : Array Value} {below : List Frame} {meth : Method} {c : Code} {A : Nat → Prop} {D : va_G} {q tq : Nat → Nat} {cA : ClassId} {ru : Int32 × sd_Me} (X : sd_Cx p s m args meth c prog_12_method_38_code "ScriptDeskModel" sx_tbl 3 (some .int) vwCl D [(cA, .int)] (ZM tq) A) {k101 : sd_Me → Option (Int32 × sd_Me)} (hk101 : ∀ (μ : sd_Me) (H : Heap) (locs : List Loc) (ls : Array Slot), sd_CI vwCl (wdM q cA) D A s H locs μ → lv_has ls 3 [(0, .ref (q 0))] → k101 μ = some ru → W p l e ({ frames := 7, cells := 0, slots := 0, locals := 155 }) s m args below meth c H locs 0 0 (sd_QI below vwCl (wdM q cA) D [(cA, .int)] .int A args s ru) (F0 m 101 ls [])) :
    ∀ (n : Nat) (v1 : Int32) (μ : sd_Me) (H : Heap) (locs : List Loc) (ls : Array Slot), sd_CI vwCl (wdM q cA) D A s H locs μ → lv_has ls 3 [(0, .ref (q 0)), (1, .int v1)] → fn_Model_run_r0_L32 k101 n v1 μ = some ru → W p l e ({ frames := 7, cells := 0, slots := 0, locals := 155 }) s m args below meth c H locs 0 0 (sd_QI below vwCl (wdM q cA) D [(cA, .int)] .int A args s ru) (F0 m 32 ls []) := by
  obtain ⟨hx, hb, hml, hown, hts, hK, hZ, hA, hr, hlocks⟩ := id X
  intro n
  induction n with
  | zero =>
    intro v1 μ H locs ls hI hl hf
    cases hf
  | succ n ih =>
    intro v1 μ H locs ls hI hl hf
    rw [fn_Model_run_r0_L32] at hf
    refine lv_iload_n hx hb d_Model_run_32 rfl (lv_at hl 1 rfl) ?_
    refine lv_aload_n hx hb d_Model_run_33 rfl (lv_at hl 0 rfl) ?_
    refine va_get (D := D) (ci := 7) (v := .int (μ.1 0 5)) (C := "ScriptDeskModel") (T := T_Model) (N := 18) hx hb hts iw_Model hown hK hI.1 0 rfl rfl 5 (by decide) (hts _ tw_536) (fun _ h9 => h9) rfl d_Model_run_34 ?_
    refine lv_icmp_ge (tgt := 101) hx hb d_Model_run_37 (by decide) (fun hc => ?_) (fun hc => ?_)
    · have hf := sd_t hf hc
      exact hk101  μ _ _ _ hI (lv_sub hl [0] rfl) hf
    · have hf := sd_f hf hc
      refine lv_aload_n hx hb d_Model_run_40 rfl (lv_at hl 0 rfl) ?_
      refine va_get (D := D) (ci := 7) (v := .int (μ.1 0 7)) (C := "ScriptDeskModel") (T := T_Model) (N := 18) hx hb hts iw_Model hown hK hI.1 0 rfl rfl 7 (by decide) (hts _ tw_538) (fun _ h9 => h9) rfl d_Model_run_41 ?_
      refine lv_if_ne (tgt := 101) hx hb d_Model_run_44 (by decide) (fun hc => ?_) (fun hc => ?_)
      · have hf := sd_f hf hc
        exact hk101  μ _ _ _ hI (lv_sub hl [0] rfl) hf
      · have hf := sd_t hf hc
        refine lv_iload_n hx hb d_Model_run_47 rfl (lv_at hl 1 rfl) ?_
        refine lv_istore_n (lv' := [(2, .int v1), (0, .ref (q 0)), (1, .int v1)]) hx hb d_Model_run_48 rfl hl (by decide) rfl (fun ls hl => ?_)
        refine lv_aload_n hx hb d_Model_run_49 rfl (lv_at hl 1 rfl) ?_
        refine lv_iload_n hx hb d_Model_run_50 rfl (lv_at hl 2 rfl) ?_
        obtain ⟨x8, m7, hq, hf⟩ := sd_bi_e hf
        refine k_callV (As := [.int v1]) (rest := []) (C := "ScriptDeskModel") (ci := 7) ZM_ok X hI (mt_Model_next_r0 l hq) (cwV 1 hts (gd_V tw_599 tw_601 ts_14 tw_9 tw_602) rfl rfl rfl (by decide +kernel) ⟨Nat.le_of_ble_eq_true rfl, Nat.le_of_ble_eq_true rfl⟩) 0 rfl rfl rfl hl.1 rfl (Nat.le_of_ble_eq_true rfl) d_Model_run_51 ⟨Nat.zero_le _, Nat.zero_le _⟩ (fun H locs hn_x8 hI => ?_)
        refine lv_istore_n (lv' := [(1, .int x8), (2, .int v1), (0, .ref (q 0))]) hx hb d_Model_run_54 rfl hl (by decide) rfl (fun ls hl => ?_)
        refine lv_aload_n hx hb d_Model_run_55 rfl (lv_at hl 2 rfl) ?_
        refine va_get (D := D) (ci := 7) (v := .int (m7.1 0 7)) (C := "ScriptDeskModel") (T := T_Model) (N := 18) hx hb hts iw_Model hown hK hI.1 0 rfl rfl 7 (by decide) (hts _ tw_538) (fun _ h9 => h9) rfl d_Model_run_56 ?_
        refine lv_if_ne (tgt := 82) hx hb d_Model_run_59 (by decide) (fun hc => ?_) (fun hc => ?_)
        · have hf := sd_f hf hc
          exact jn_Model_run_r0_J82 l X ih (x8) (v1) m7 _ _ _ hI (lv_sub hl [2, 0, 1] rfl) hf
        · have hf := sd_t hf hc
          refine lv_aload_n hx hb d_Model_run_62 rfl (lv_at hl 2 rfl) ?_
          refine va_get (D := D) (ci := 7) (v := .int (m7.1 0 2)) (C := "ScriptDeskModel") (T := T_Model) (N := 18) hx hb hts iw_Model hown hK hI.1 0 rfl rfl 2 (by decide) (hts _ tw_533) (fun _ h9 => h9) rfl d_Model_run_63 ?_
          refine lv_aload_n hx hb d_Model_run_66 rfl (lv_at hl 2 rfl) ?_
          refine va_get (D := D) (ci := 7) (v := .int (m7.1 0 3)) (C := "ScriptDeskModel") (T := T_Model) (N := 18) hx hb hts iw_Model hown hK hI.1 0 rfl rfl 3 (by decide) (hts _ tw_534) (fun _ h9 => h9) rfl d_Model_run_67 ?_
          refine lv_iadd hx hb d_Model_run_70 ?_
          refine lv_bipush (v := 60) hx hb d_Model_run_71 (by decide) ?_
          refine lv_icmp_le (tgt := 82) hx hb d_Model_run_73 (by decide) (fun hc => ?_) (fun hc => ?_)
          · have hf := sd_t hf hc
            exact jn_Model_run_r0_J82 l X ih (x8) (v1) m7 _ _ _ hI (lv_sub hl [2, 0, 1] rfl) hf
          · have hf := sd_f hf hc
            refine lv_aload_n hx hb d_Model_run_76 rfl (lv_at hl 2 rfl) ?_
            refine lv_bipush (v := 11) hx hb d_Model_run_77 (by decide) ?_
            obtain ⟨m11, hq, hf⟩ := sd_bv_e hf
            refine k_callVv (As := [.int (11 : Int32)]) (rest := []) (C := "ScriptDeskModel") (ci := 7) ZM_ok X hI (mt_Model_fails_r0 l hq) (cwV 1 hts (gd_V tw_607 tw_609 ts_16 tw_9 tw_610) rfl rfl rfl (by decide +kernel) ⟨Nat.le_of_ble_eq_true rfl, Nat.le_of_ble_eq_true rfl⟩) 0 rfl rfl rfl hl.1 rfl (Nat.le_of_ble_eq_true rfl) d_Model_run_79 ⟨Nat.zero_le _, Nat.zero_le _⟩ (fun H locs hI => ?_)
            exact jn_Model_run_r0_J82 l X ih (x8) (v1) m11 _ _ _ hI (lv_sub hl [2, 0, 1] rfl) hf
set_option maxHeartbeats 4000000 in
set_option maxRecDepth 100000 in
theorem jn_Model_run_r0_J150 (l : Launch) {p : Program} {e : Env} {s : State} {m : MethodId} {args : Array Value} {below : List Frame} {meth : Method} {c : Code} {A : Nat → Prop} {D : va_G} {q tq : Nat → Nat} {cA : ClassId} {ru : Int32 × sd_Me} (X : sd_Cx p s m args meth c prog_12_method_38_code "ScriptDeskModel" sx_tbl 3 (some .int) vwCl D [(cA, .int)] (ZM tq) A) (s1 : Int32) (μ : sd_Me) (H : Heap) (locs : List Loc) (ls : Array Slot) (hI : sd_CI vwCl (wdM q cA) D A s H locs μ) (hl : lv_has ls 3 [(0, .ref (q 0))]) (hf : fn_Model_run_r0_J150 s1 μ = some ru) : W p l e ({ frames := 7, cells := 0, slots := 0, locals := 155 }) s m args below meth c H locs 0 0 (sd_QI below vwCl (wdM q cA) D [(cA, .int)] .int A args s ru) (F0 m 150 ls [.int s1, .ref (q 0)]) := by
  obtain ⟨hx, hb, hml, hown, hts, hK, hZ, hA, hr, hlocks⟩ := id X
  unfold fn_Model_run_r0_J150 at hf
  refine k_put (ci := 7) (v := .int s1) (ty := .int) (C := "ScriptDeskModel") (T := T_Model) (N := 18) (μ' := sd_st μ 0 2 s1) hx hb hts iw_Model t_Model t_Model_ok n_Model hown hK hI 0 rfl rfl 2 (by decide) (hts _ tw_533) (fun _ h9 => h9) rfl (by decide +kernel) rfl rfl (Nat.le_of_ble_eq_true rfl) rfl d_Model_run_150 (fun H locs hI => ?_)
  obtain ⟨m14, hI, hf⟩ := k_lm hf hI
  refine lv_aload_n hx hb d_Model_run_153 rfl (lv_at hl 0 rfl) ?_
  refine va_get (D := D) (ci := 7) (v := .int (m14.1 0 7)) (C := "ScriptDeskModel") (T := T_Model) (N := 18) hx hb hts iw_Model hown hK hI.1 0 rfl rfl 7 (by decide) (hts _ tw_538) (fun _ h9 => h9) rfl d_Model_run_154 ?_
  refine lv_if_le (tgt := 169) hx hb d_Model_run_157 (by decide) (fun hc => ?_) (fun hc => ?_)
  · have hf := sd_t hf hc
    refine lv_iconst (v := 1) hx hb d_Model_run_169 (by decide) ?_
    exact k_reti X hI (vp_nar_int _) hf d_Model_run_170
  · have hf := sd_f hf hc
    refine lv_iconst (v := -1) hx hb d_Model_run_160 (by decide) ?_
    refine lv_aload_n hx hb d_Model_run_161 rfl (lv_at hl 0 rfl) ?_
    refine va_get (D := D) (ci := 7) (v := .int (m14.1 0 7)) (C := "ScriptDeskModel") (T := T_Model) (N := 18) hx hb hts iw_Model hown hK hI.1 0 rfl rfl 7 (by decide) (hts _ tw_538) (fun _ h9 => h9) rfl d_Model_run_162 ?_
    refine lv_isub hx hb d_Model_run_165 ?_
    refine lv_goto (tgt := 170) hx hb d_Model_run_166 (by decide) ?_
    exact k_reti X hI (vp_nar_int _) hf d_Model_run_170
set_option maxHeartbeats 4000000 in
set_option maxRecDepth 100000 in
theorem jn_Model_run_r0_J129 (l : Launch) {p : Program} {e : Env} {s : State} {m : MethodId} {args : Array Value} {below : List Frame} {meth : Method} {c : Code} {A : Nat → Prop} {D : va_G} {q tq : Nat → Nat} {cA : ClassId} {ru : Int32 × sd_Me} (X : sd_Cx p s m args meth c prog_12_method_38_code "ScriptDeskModel" sx_tbl 3 (some .int) vwCl D [(cA, .int)] (ZM tq) A) (μ : sd_Me) (H : Heap) (locs : List Loc) (ls : Array Slot) (hI : sd_CI vwCl (wdM q cA) D A s H locs μ) (hl : lv_has ls 3 [(0, .ref (q 0))]) (hf : fn_Model_run_r0_J129 μ = some ru) : W p l e ({ frames := 7, cells := 0, slots := 0, locals := 155 }) s m args below meth c H locs 0 0 (sd_QI below vwCl (wdM q cA) D [(cA, .int)] .int A args s ru) (F0 m 129 ls []) := by
  obtain ⟨hx, hb, hml, hown, hts, hK, hZ, hA, hr, hlocks⟩ := id X
  unfold fn_Model_run_r0_J129 at hf
  refine lv_aload_n hx hb d_Model_run_129 rfl (lv_at hl 0 rfl) ?_
  refine lv_iconst (v := 0) hx hb d_Model_run_130 (by decide) ?_
  refine k_put (ci := 7) (v := .int (0 : Int32)) (ty := .int) (C := "ScriptDeskModel") (T := T_Model) (N := 18) (μ' := sd_st μ 0 5 (0 : Int32)) hx hb hts iw_Model t_Model t_Model_ok n_Model hown hK hI 0 rfl rfl 5 (by decide) (hts _ tw_536) (fun _ h9 => h9) rfl (by decide +kernel) rfl rfl (Nat.le_of_ble_eq_true rfl) rfl d_Model_run_131 (fun H locs hI => ?_)
  obtain ⟨m13, hI, hf⟩ := k_lm hf hI
  refine lv_aload_n hx hb d_Model_run_134 rfl (lv_at hl 0 rfl) ?_
  refine lv_aload_n hx hb d_Model_run_135 rfl (lv_at hl 0 rfl) ?_
  refine va_get (D := D) (ci := 7) (v := .int (m13.1 0 7)) (C := "ScriptDeskModel") (T := T_Model) (N := 18) hx hb hts iw_Model hown hK hI.1 0 rfl rfl 7 (by decide) (hts _ tw_538) (fun _ h9 => h9) rfl d_Model_run_136 ?_
  refine lv_if_le (tgt := 146) hx hb d_Model_run_139 (by decide) (fun hc => ?_) (fun hc => ?_)
  · have hf := sd_t hf hc
    refine lv_aload_n hx hb d_Model_run_146 rfl (lv_at hl 0 rfl) ?_
    refine va_get (D := D) (ci := 7) (v := .int (m13.1 0 2)) (C := "ScriptDeskModel") (T := T_Model) (N := 18) hx hb hts iw_Model hown hK hI.1 0 rfl rfl 2 (by decide) (hts _ tw_533) (fun _ h9 => h9) rfl d_Model_run_147 ?_
    exact jn_Model_run_r0_J150 l X ((m13.1 0 2)) m13 _ _ _ hI (lv_sub hl [0] rfl) hf
  · have hf := sd_f hf hc
    refine lv_iconst (v := 0) hx hb d_Model_run_142 (by decide) ?_
    refine lv_goto (tgt := 150) hx hb d_Model_run_143 (by decide) ?_
    exact jn_Model_run_r0_J150 l X ((0 : Int32)) m13 _ _ _ hI (lv_sub hl [0] rfl) hf
set_option maxHeartbeats 4000000 in
set_option maxRecDepth 100000 in
theorem jn_Model_run_r0_J101 (l : Launch) {p : Program} {e : Env} {s : State} {m : MethodId} {args : Array Value} {below : List Frame} {meth : Method} {c : Code} {A : Nat → Prop} {D : va_G} {q tq : Nat → Nat} {cA : ClassId} {ru : Int32 × sd_Me} (X : sd_Cx p s m args meth c prog_12_method_38_code "ScriptDeskModel" sx_tbl 3 (some .int) vwCl D [(cA, .int)] (ZM tq) A) (μ : sd_Me) (H : Heap) (locs : List Loc) (ls : Array Slot) (hI : sd_CI vwCl (wdM q cA) D A s H locs μ) (hl : lv_has ls 3 [(0, .ref (q 0))]) (hf : fn_Model_run_r0_J101 μ = some ru) : W p l e ({ frames := 7, cells := 0, slots := 0, locals := 155 }) s m args below meth c H locs 0 0 (sd_QI below vwCl (wdM q cA) D [(cA, .int)] .int A args s ru) (F0 m 101 ls []) := by
  obtain ⟨hx, hb, hml, hown, hts, hK, hZ, hA, hr, hlocks⟩ := id X
  unfold fn_Model_run_r0_J101 at hf
  refine lv_aload_n hx hb d_Model_run_101 rfl (lv_at hl 0 rfl) ?_
  refine va_get (D := D) (ci := 7) (v := .int (μ.1 0 7)) (C := "ScriptDeskModel") (T := T_Model) (N := 18) hx hb hts iw_Model hown hK hI.1 0 rfl rfl 7 (by decide) (hts _ tw_538) (fun _ h9 => h9) rfl d_Model_run_102 ?_
  refine lv_if_ne (tgt := 129) hx hb d_Model_run_105 (by decide) (fun hc => ?_) (fun hc => ?_)
  · have hf := sd_f hf hc
    exact jn_Model_run_r0_J129 l X μ _ _ _ hI (lv_sub hl [0] rfl) hf
  · have hf := sd_t hf hc
    refine lv_aload_n hx hb d_Model_run_108 rfl (lv_at hl 0 rfl) ?_
    refine va_get (D := D) (ci := 7) (v := .int (μ.1 0 11)) (C := "ScriptDeskModel") (T := T_Model) (N := 18) hx hb hts iw_Model hown hK hI.1 0 rfl rfl 11 (by decide) (hts _ tw_542) (fun _ h9 => h9) rfl d_Model_run_109 ?_
    refine lv_if_le (tgt := 129) hx hb d_Model_run_112 (by decide) (fun hc => ?_) (fun hc => ?_)
    · have hf := sd_t hf hc
      exact jn_Model_run_r0_J129 l X μ _ _ _ hI (lv_sub hl [0] rfl) hf
    · have hf := sd_f hf hc
      refine lv_aload_n hx hb d_Model_run_115 rfl (lv_at hl 0 rfl) ?_
      refine lv_bipush (v := 12) hx hb d_Model_run_116 (by decide) ?_
      obtain ⟨m15, hq, hf⟩ := sd_bv_e hf
      refine k_callVv (As := [.int (12 : Int32)]) (rest := []) (C := "ScriptDeskModel") (ci := 7) ZM_ok X hI (mt_Model_fails_r0 l hq) (cwV 1 hts (gd_V tw_607 tw_609 ts_16 tw_9 tw_610) rfl rfl rfl (by decide +kernel) ⟨Nat.le_of_ble_eq_true rfl, Nat.le_of_ble_eq_true rfl⟩) 0 rfl rfl rfl hl.1 rfl (Nat.le_of_ble_eq_true rfl) d_Model_run_118 ⟨Nat.zero_le _, Nat.zero_le _⟩ (fun H locs hI => ?_)
      refine lv_aload_n hx hb d_Model_run_121 rfl (lv_at hl 0 rfl) ?_
      refine lv_aload_n hx hb d_Model_run_122 rfl (lv_at hl 0 rfl) ?_
      refine va_get (D := D) (ci := 7) (v := .int (m15.1 0 5)) (C := "ScriptDeskModel") (T := T_Model) (N := 18) hx hb hts iw_Model hown hK hI.1 0 rfl rfl 5 (by decide) (hts _ tw_536) (fun _ h9 => h9) rfl d_Model_run_123 ?_
      refine k_put (ci := 7) (v := .int (m15.1 0 5)) (ty := .int) (C := "ScriptDeskModel") (T := T_Model) (N := 18) (μ' := sd_st m15 0 8 (m15.1 0 5)) hx hb hts iw_Model t_Model t_Model_ok n_Model hown hK hI 0 rfl rfl 8 (by decide) (hts _ tw_539) (fun _ h9 => h9) rfl (by decide +kernel) rfl rfl (Nat.le_of_ble_eq_true rfl) rfl d_Model_run_126 (fun H locs hI => ?_)
      obtain ⟨m16, hI, hf⟩ := k_lm hf hI
      exact jn_Model_run_r0_J129 l X m16 _ _ _ hI (lv_sub hl [0] rfl) hf
set_option maxHeartbeats 4000000 in
set_option maxRecDepth 100000 in
theorem mt_Model_run_r0 (l : Launch) {D : va_G} {q tq : Nat → Nat} {cA : ClassId} {μ : sd_Me} {ru : Int32 × sd_Me} (hf : fn_Model_run_r0 μ = some ru) : sd_CTi l y_Model_run w_Model_run ({ frames := 7, cells := 0, slots := 0, locals := 155 }) vwCl (wdM q cA) D [(cA, .int)] (ZM tq) .int [.ref (q 0)] μ ru := by
  refine k_enti (cc := prog_12_method_38_code) 3 (by decide) rfl (Nat.le_of_ble_eq_true rfl) ?_
  intro p e s m below meth c A ls X hI hl
  have hl : lv_has ls 3 [(0, .ref (q 0))] := hl
  obtain ⟨hx, hb, hml, hown, hts, hK, hZ, hA, hr, hlocks⟩ := id X
  unfold fn_Model_run_r0 at hf
  refine lv_aload_n hx hb d_Model_run_0 rfl (lv_at hl 0 rfl) ?_
  refine lv_iconst (v := 0) hx hb d_Model_run_1 (by decide) ?_
  refine k_put (ci := 7) (v := .int (0 : Int32)) (ty := .int) (C := "ScriptDeskModel") (T := T_Model) (N := 18) (μ' := sd_st μ 0 3 (0 : Int32)) hx hb hts iw_Model t_Model t_Model_ok n_Model hown hK hI 0 rfl rfl 3 (by decide) (hts _ tw_534) (fun _ h9 => h9) rfl (by decide +kernel) rfl rfl (Nat.le_of_ble_eq_true rfl) rfl d_Model_run_2 (fun H locs hI => ?_)
  obtain ⟨m1, hI, hf⟩ := k_lm hf hI
  refine lv_aload_n hx hb d_Model_run_5 rfl (lv_at hl 0 rfl) ?_
  refine lv_iconst (v := 0) hx hb d_Model_run_6 (by decide) ?_
  refine k_put (ci := 7) (v := .int (0 : Int32)) (ty := .int) (C := "ScriptDeskModel") (T := T_Model) (N := 18) (μ' := sd_st m1 0 11 (0 : Int32)) hx hb hts iw_Model t_Model t_Model_ok n_Model hown hK hI 0 rfl rfl 11 (by decide) (hts _ tw_542) (fun _ h9 => h9) rfl (by decide +kernel) rfl rfl (Nat.le_of_ble_eq_true rfl) rfl d_Model_run_7 (fun H locs hI => ?_)
  obtain ⟨m2, hI, hf⟩ := k_lm hf hI
  refine lv_aload_n hx hb d_Model_run_10 rfl (lv_at hl 0 rfl) ?_
  refine lv_iconst (v := 0) hx hb d_Model_run_11 (by decide) ?_
  refine k_put (ci := 7) (v := .int (0 : Int32)) (ty := .int) (C := "ScriptDeskModel") (T := T_Model) (N := 18) (μ' := sd_st m2 0 7 (0 : Int32)) hx hb hts iw_Model t_Model t_Model_ok n_Model hown hK hI 0 rfl rfl 7 (by decide) (hts _ tw_538) (fun _ h9 => h9) rfl (by decide +kernel) rfl rfl (Nat.le_of_ble_eq_true rfl) rfl d_Model_run_12 (fun H locs hI => ?_)
  obtain ⟨m3, hI, hf⟩ := k_lm hf hI
  refine lv_aload_n hx hb d_Model_run_15 rfl (lv_at hl 0 rfl) ?_
  refine lv_iconst (v := -1) hx hb d_Model_run_16 (by decide) ?_
  refine k_put (ci := 7) (v := .int (-1 : Int32)) (ty := .int) (C := "ScriptDeskModel") (T := T_Model) (N := 18) (μ' := sd_st m3 0 8 (-1 : Int32)) hx hb hts iw_Model t_Model t_Model_ok n_Model hown hK hI 0 rfl rfl 8 (by decide) (hts _ tw_539) (fun _ h9 => h9) rfl (by decide +kernel) rfl rfl (Nat.le_of_ble_eq_true rfl) rfl d_Model_run_17 (fun H locs hI => ?_)
  obtain ⟨m4, hI, hf⟩ := k_lm hf hI
  refine lv_aload_n hx hb d_Model_run_20 rfl (lv_at hl 0 rfl) ?_
  refine lv_iconst (v := 0) hx hb d_Model_run_21 (by decide) ?_
  refine k_put (ci := 7) (v := .int (0 : Int32)) (ty := .int) (C := "ScriptDeskModel") (T := T_Model) (N := 18) (μ' := sd_st m4 0 9 (0 : Int32)) hx hb hts iw_Model t_Model t_Model_ok n_Model hown hK hI 0 rfl rfl 9 (by decide) (hts _ tw_540) (fun _ h9 => h9) rfl (by decide +kernel) rfl rfl (Nat.le_of_ble_eq_true rfl) rfl d_Model_run_22 (fun H locs hI => ?_)
  obtain ⟨m5, hI, hf⟩ := k_lm hf hI
  refine lv_aload_n hx hb d_Model_run_25 rfl (lv_at hl 0 rfl) ?_
  refine lv_iconst (v := 0) hx hb d_Model_run_26 (by decide) ?_
  refine k_put (ci := 7) (v := .int (0 : Int32)) (ty := .int) (C := "ScriptDeskModel") (T := T_Model) (N := 18) (μ' := sd_st m5 0 10 (0 : Int32)) hx hb hts iw_Model t_Model t_Model_ok n_Model hown hK hI 0 rfl rfl 10 (by decide) (hts _ tw_541) (fun _ h9 => h9) rfl (by decide +kernel) rfl rfl (Nat.le_of_ble_eq_true rfl) rfl d_Model_run_27 (fun H locs hI => ?_)
  obtain ⟨m6, hI, hf⟩ := k_lm hf hI
  refine lv_iconst (v := 0) hx hb d_Model_run_30 (by decide) ?_
  refine lv_istore_n (lv' := [(1, .int (0 : Int32)), (0, .ref (q 0))]) hx hb d_Model_run_31 rfl hl (by decide) rfl (fun ls hl => ?_)
  refine lp_Model_run_r0_L32 l X ?_ 10000 ((0 : Int32)) m6 _ _ _ hI (lv_sub hl [1, 0] rfl) hf
  · intro m12 H locs ls hI hl hf
    exact jn_Model_run_r0_J101 l X m12 _ _ _ hI (lv_sub hl [0] rfl) hf
set_option maxHeartbeats 4000000 in
set_option maxRecDepth 100000 in
theorem mt_Model_place_r0 (l : Launch) {D : va_G} {q tq : Nat → Nat} {cA : ClassId} {μ : sd_Me} {ru : Int32 × sd_Me} (hf : fn_Model_place_r0 μ = some ru) : sd_CTi l y_Model_place w_Model_place ({ frames := 0, cells := 0, slots := 0, locals := 0 }) vwCl (wdM q cA) D [(cA, .int)] (ZM tq) .int [.ref (q 0)] μ ru := by
  refine k_enti (cc := prog_12_method_39_code) 1 (by decide) rfl (Nat.le_of_ble_eq_true rfl) ?_
  intro p e s m below meth c A ls X hI hl
  have hl : lv_has ls 1 [(0, .ref (q 0))] := hl
  obtain ⟨hx, hb, hml, hown, hts, hK, hZ, hA, hr, hlocks⟩ := id X
  unfold fn_Model_place_r0 at hf
  refine lv_aload_n hx hb d_Model_place_0 rfl (lv_at hl 0 rfl) ?_
  refine va_get (D := D) (ci := 7) (v := .int (μ.1 0 8)) (C := "ScriptDeskModel") (T := T_Model) (N := 18) hx hb hts iw_Model hown hK hI.1 0 rfl rfl 8 (by decide) (hts _ tw_539) (fun _ h9 => h9) rfl d_Model_place_1 ?_
  exact k_reti X hI (vp_nar_int _) hf d_Model_place_4
set_option maxHeartbeats 4000000 in
set_option maxRecDepth 100000 in
theorem mt_Model_clear_r0 (l : Launch) {D : va_G} {q tq : Nat → Nat} {cA : ClassId} {μ : sd_Me} {ru : Int32 × sd_Me} (hf : fn_Model_clear_r0 μ = some ru) : sd_CTi l y_Model_clear w_Model_clear ({ frames := 0, cells := 0, slots := 0, locals := 0 }) vwCl (wdM q cA) D [(cA, .int)] (ZM tq) .int [.ref (q 0)] μ ru := by
  refine k_enti (cc := prog_12_method_40_code) 2 (by decide) rfl (Nat.le_of_ble_eq_true rfl) ?_
  intro p e s m below meth c A ls X hI hl
  have hl : lv_has ls 2 [(0, .ref (q 0))] := hl
  obtain ⟨hx, hb, hml, hown, hts, hK, hZ, hA, hr, hlocks⟩ := id X
  unfold fn_Model_clear_r0 at hf
  refine lv_aload_n hx hb d_Model_clear_0 rfl (lv_at hl 0 rfl) ?_
  refine va_get (D := D) (ci := 7) (v := .int (μ.1 0 2)) (C := "ScriptDeskModel") (T := T_Model) (N := 18) hx hb hts iw_Model hown hK hI.1 0 rfl rfl 2 (by decide) (hts _ tw_533) (fun _ h9 => h9) rfl d_Model_clear_1 ?_
  refine k_li hf (fun x1 hf => ?_)
  refine lv_istore_n (lv' := [(1, .int x1), (0, .ref (q 0))]) hx hb d_Model_clear_4 rfl hl (by decide) rfl (fun ls hl => ?_)
  refine lv_aload_n hx hb d_Model_clear_5 rfl (lv_at hl 1 rfl) ?_
  refine lv_iconst (v := 0) hx hb d_Model_clear_6 (by decide) ?_
  refine k_put (ci := 7) (v := .int (0 : Int32)) (ty := .int) (C := "ScriptDeskModel") (T := T_Model) (N := 18) (μ' := sd_st μ 0 2 (0 : Int32)) hx hb hts iw_Model t_Model t_Model_ok n_Model hown hK hI 0 rfl rfl 2 (by decide) (hts _ tw_533) (fun _ h9 => h9) rfl (by decide +kernel) rfl rfl (Nat.le_of_ble_eq_true rfl) rfl d_Model_clear_7 (fun H locs hI => ?_)
  obtain ⟨m2, hI, hf⟩ := k_lm hf hI
  refine lv_iload_n hx hb d_Model_clear_10 rfl (lv_at hl 0 rfl) ?_
  exact k_reti X hI (vp_nar_int _) hf d_Model_clear_11
set_option maxHeartbeats 4000000 in
set_option maxRecDepth 100000 in
theorem mt_Model_size_r0 (l : Launch) {D : va_G} {q tq : Nat → Nat} {cA : ClassId} {μ : sd_Me} {ru : Int32 × sd_Me} (hf : fn_Model_size_r0 μ = some ru) : sd_CTi l y_Model_size w_Model_size ({ frames := 0, cells := 0, slots := 0, locals := 0 }) vwCl (wdM q cA) D [(cA, .int)] (ZM tq) .int [.ref (q 0)] μ ru := by
  refine k_enti (cc := prog_12_method_41_code) 1 (by decide) rfl (Nat.le_of_ble_eq_true rfl) ?_
  intro p e s m below meth c A ls X hI hl
  have hl : lv_has ls 1 [(0, .ref (q 0))] := hl
  obtain ⟨hx, hb, hml, hown, hts, hK, hZ, hA, hr, hlocks⟩ := id X
  unfold fn_Model_size_r0 at hf
  refine lv_aload_n hx hb d_Model_size_0 rfl (lv_at hl 0 rfl) ?_
  refine va_get (D := D) (ci := 7) (v := .int (μ.1 0 2)) (C := "ScriptDeskModel") (T := T_Model) (N := 18) hx hb hts iw_Model hown hK hI.1 0 rfl rfl 2 (by decide) (hts _ tw_533) (fun _ h9 => h9) rfl d_Model_size_1 ?_
  exact k_reti X hI (vp_nar_int _) hf d_Model_size_4
set_option maxHeartbeats 4000000 in
set_option maxRecDepth 100000 in
theorem mt_Model_isTrue_r0 (l : Launch) {D : va_G} {q tq : Nat → Nat} {cA : ClassId} {μ : sd_Me} {ru : Int32 × sd_Me} (hf : fn_Model_isTrue_r0 μ = some ru) : sd_CTi l y_Model_isTrue w_Model_isTrue ({ frames := 1, cells := 0, slots := 0, locals := 24 }) vwCl (wdM q cA) D [(cA, .int)] (ZM tq) .boolean [.ref (q 0)] μ ru := by
  refine k_enti (cc := prog_12_method_42_code) 1 (by decide) rfl (Nat.le_of_ble_eq_true rfl) ?_
  intro p e s m below meth c A ls X hI hl
  have hl : lv_has ls 1 [(0, .ref (q 0))] := hl
  obtain ⟨hx, hb, hml, hown, hts, hK, hZ, hA, hr, hlocks⟩ := id X
  unfold fn_Model_isTrue_r0 at hf
  refine lv_aload_n hx hb d_Model_isTrue_0 rfl (lv_at hl 0 rfl) ?_
  refine va_get (D := D) (ci := 7) (v := .int (μ.1 0 2)) (C := "ScriptDeskModel") (T := T_Model) (N := 18) hx hb hts iw_Model hown hK hI.1 0 rfl rfl 2 (by decide) (hts _ tw_533) (fun _ h9 => h9) rfl d_Model_isTrue_1 ?_
  refine lv_if_le (tgt := 24) hx hb d_Model_isTrue_4 (by decide) (fun hc => ?_) (fun hc => ?_)
  · have hf := sd_t hf hc
    refine lv_iconst (v := 0) hx hb d_Model_isTrue_24 (by decide) ?_
    exact k_reti X hI rfl hf d_Model_isTrue_25
  · have hf := sd_f hf hc
    refine lv_aload_n hx hb d_Model_isTrue_7 rfl (lv_at hl 0 rfl) ?_
    refine lv_aload_n hx hb d_Model_isTrue_8 rfl (lv_at hl 0 rfl) ?_
    refine va_get (D := D) (ci := 7) (v := .int (μ.1 0 2)) (C := "ScriptDeskModel") (T := T_Model) (N := 18) hx hb hts iw_Model hown hK hI.1 0 rfl rfl 2 (by decide) (hts _ tw_533) (fun _ h9 => h9) rfl d_Model_isTrue_9 ?_
    refine lv_iconst (v := 1) hx hb d_Model_isTrue_12 (by decide) ?_
    refine lv_isub hx hb d_Model_isTrue_13 ?_
    obtain ⟨x2, m1, hq, hf⟩ := sd_bi_e hf
    refine k_callV (As := [.int ((μ.1 0 2) - (1 : Int32))]) (rest := []) (C := "ScriptDeskModel") (ci := 7) ZM_ok X hI (mt_Model_isTrueRow_r0 l hq) (cwV 1 hts (gd_V tw_623 tw_625 ts_20 tw_9 tw_626) rfl rfl rfl (by decide +kernel) ⟨Nat.le_of_ble_eq_true rfl, Nat.le_of_ble_eq_true rfl⟩) 0 rfl rfl rfl hl.1 rfl (Nat.le_of_ble_eq_true rfl) d_Model_isTrue_14 ⟨Nat.zero_le _, Nat.zero_le _⟩ (fun H locs hn_x2 hI => ?_)
    refine lv_if_eq (tgt := 24) hx hb d_Model_isTrue_17 (by decide) (fun hc => ?_) (fun hc => ?_)
    · have hf := sd_t hf hc
      refine lv_iconst (v := 0) hx hb d_Model_isTrue_24 (by decide) ?_
      exact k_reti X hI rfl hf d_Model_isTrue_25
    · have hf := sd_f hf hc
      refine lv_iconst (v := 1) hx hb d_Model_isTrue_20 (by decide) ?_
      refine lv_goto (tgt := 25) hx hb d_Model_isTrue_21 (by decide) ?_
      exact k_reti X hI rfl hf d_Model_isTrue_25
set_option maxHeartbeats 4000000 in
set_option maxRecDepth 100000 in
theorem mt_Model_bytes_r0 (l : Launch) {D : va_G} {q tq : Nat → Nat} {cA : ClassId} {a1 : Int32} {μ : sd_Me} {ru : Int32 × sd_Me} (hf : fn_Model_bytes_r0 a1 μ = some ru) : sd_CTi l y_Model_bytes w_Model_bytes ({ frames := 1, cells := 0, slots := 0, locals := 21 }) vwCl (wdM q cA) D [(cA, .int)] (ZM tq) .int [.ref (q 0), .int a1] μ ru := by
  refine k_enti (cc := prog_12_method_43_code) 2 (by decide) rfl (Nat.le_of_ble_eq_true rfl) ?_
  intro p e s m below meth c A ls X hI hl
  have hl : lv_has ls 2 [(0, .ref (q 0)), (1, .int a1)] := hl
  obtain ⟨hx, hb, hml, hown, hts, hK, hZ, hA, hr, hlocks⟩ := id X
  unfold fn_Model_bytes_r0 at hf
  refine lv_iload_n hx hb d_Model_bytes_0 rfl (lv_at hl 1 rfl) ?_
  refine lv_if_lt (tgt := 25) hx hb d_Model_bytes_1 (by decide) (fun hc => ?_) (fun hc => ?_)
  · have hf := sd_t hf hc
    refine lv_iconst (v := -1) hx hb d_Model_bytes_25 (by decide) ?_
    exact k_reti X hI (vp_nar_int _) hf d_Model_bytes_26
  · have hf := sd_f hf hc
    refine lv_iload_n hx hb d_Model_bytes_4 rfl (lv_at hl 1 rfl) ?_
    refine lv_aload_n hx hb d_Model_bytes_5 rfl (lv_at hl 0 rfl) ?_
    refine va_get (D := D) (ci := 7) (v := .int (μ.1 0 2)) (C := "ScriptDeskModel") (T := T_Model) (N := 18) hx hb hts iw_Model hown hK hI.1 0 rfl rfl 2 (by decide) (hts _ tw_533) (fun _ h9 => h9) rfl d_Model_bytes_6 ?_
    refine lv_icmp_ge (tgt := 25) hx hb d_Model_bytes_9 (by decide) (fun hc => ?_) (fun hc => ?_)
    · have hf := sd_t hf hc
      refine lv_iconst (v := -1) hx hb d_Model_bytes_25 (by decide) ?_
      exact k_reti X hI (vp_nar_int _) hf d_Model_bytes_26
    · have hf := sd_f hf hc
      refine lv_aload_n hx hb d_Model_bytes_12 rfl (lv_at hl 0 rfl) ?_
      refine va_get (D := D) (ci := 7) (v := .ref (q 2)) (C := "ScriptDeskModel") (T := T_Model) (N := 18) hx hb hts iw_Model hown hK hI.1 0 rfl rfl 1 (by decide) (hts _ tw_532) (fun _ h9 => h9) rfl d_Model_bytes_13 ?_
      refine lv_aload_n hx hb d_Model_bytes_16 rfl (lv_at hl 0 rfl) ?_
      refine lv_iload_n hx hb d_Model_bytes_17 rfl (lv_at hl 1 rfl) ?_
      obtain ⟨x2, m1, hq, hf⟩ := sd_bi_e hf
      refine k_callV (As := [.int a1]) (rest := [.ref (q 2)]) (C := "ScriptDeskModel") (ci := 7) ZM_ok X hI (mt_Model_top_r0 l hq) (cwV 1 hts (gd_V tw_657 tw_659 ts_28 tw_9 tw_660) rfl rfl rfl (by decide +kernel) ⟨Nat.le_of_ble_eq_true rfl, Nat.le_of_ble_eq_true rfl⟩) 0 rfl rfl rfl hl.1 rfl (Nat.le_of_ble_eq_true rfl) d_Model_bytes_18 ⟨Nat.zero_le _, Nat.zero_le _⟩ (fun H locs hn_x2 hI => ?_)
      obtain ⟨hg, hf⟩ := sd_gd_e hf
      refine k_iald hx hb hK hI 2 0 rfl rfl hg d_Model_bytes_21 ?_
      refine lv_goto (tgt := 26) hx hb d_Model_bytes_22 (by decide) ?_
      exact k_reti X hI (vp_nar_int _) hf d_Model_bytes_26
set_option maxHeartbeats 4000000 in
set_option maxRecDepth 100000 in
theorem mt_Model_byteOf_r0 (l : Launch) {D : va_G} {q tq : Nat → Nat} {cA : ClassId} {a1 : Int32} {a2 : Int32} {μ : sd_Me} {ru : Int32 × sd_Me} (hf : fn_Model_byteOf_r0 a1 a2 μ = some ru) : sd_CTi l y_Model_byteOf w_Model_byteOf ({ frames := 1, cells := 0, slots := 0, locals := 21 }) vwCl (wdM q cA) D [(cA, .int)] (ZM tq) .int [.ref (q 0), .int a1, .int a2] μ ru := by
  refine k_enti (cc := prog_12_method_44_code) 3 (by decide) rfl (Nat.le_of_ble_eq_true rfl) ?_
  intro p e s m below meth c A ls X hI hl
  have hl : lv_has ls 3 [(0, .ref (q 0)), (1, .int a1), (2, .int a2)] := hl
  obtain ⟨hx, hb, hml, hown, hts, hK, hZ, hA, hr, hlocks⟩ := id X
  unfold fn_Model_byteOf_r0 at hf
  refine lv_iload_n hx hb d_Model_byteOf_0 rfl (lv_at hl 1 rfl) ?_
  refine lv_if_lt (tgt := 48) hx hb d_Model_byteOf_1 (by decide) (fun hc => ?_) (fun hc => ?_)
  · have hf := sd_t hf hc
    refine lv_iconst (v := -1) hx hb d_Model_byteOf_48 (by decide) ?_
    exact k_reti X hI (vp_nar_int _) hf d_Model_byteOf_49
  · have hf := sd_f hf hc
    refine lv_iload_n hx hb d_Model_byteOf_4 rfl (lv_at hl 1 rfl) ?_
    refine lv_aload_n hx hb d_Model_byteOf_5 rfl (lv_at hl 0 rfl) ?_
    refine va_get (D := D) (ci := 7) (v := .int (μ.1 0 2)) (C := "ScriptDeskModel") (T := T_Model) (N := 18) hx hb hts iw_Model hown hK hI.1 0 rfl rfl 2 (by decide) (hts _ tw_533) (fun _ h9 => h9) rfl d_Model_byteOf_6 ?_
    refine lv_icmp_ge (tgt := 48) hx hb d_Model_byteOf_9 (by decide) (fun hc => ?_) (fun hc => ?_)
    · have hf := sd_t hf hc
      refine lv_iconst (v := -1) hx hb d_Model_byteOf_48 (by decide) ?_
      exact k_reti X hI (vp_nar_int _) hf d_Model_byteOf_49
    · have hf := sd_f hf hc
      refine lv_iload_n hx hb d_Model_byteOf_12 rfl (lv_at hl 2 rfl) ?_
      refine lv_if_lt (tgt := 48) hx hb d_Model_byteOf_13 (by decide) (fun hc => ?_) (fun hc => ?_)
      · have hf := sd_t hf hc
        refine lv_iconst (v := -1) hx hb d_Model_byteOf_48 (by decide) ?_
        exact k_reti X hI (vp_nar_int _) hf d_Model_byteOf_49
      · have hf := sd_f hf hc
        refine lv_iload_n hx hb d_Model_byteOf_16 rfl (lv_at hl 2 rfl) ?_
        refine lv_aload_n hx hb d_Model_byteOf_17 rfl (lv_at hl 0 rfl) ?_
        refine va_get (D := D) (ci := 7) (v := .ref (q 2)) (C := "ScriptDeskModel") (T := T_Model) (N := 18) hx hb hts iw_Model hown hK hI.1 0 rfl rfl 1 (by decide) (hts _ tw_532) (fun _ h9 => h9) rfl d_Model_byteOf_18 ?_
        refine lv_aload_n hx hb d_Model_byteOf_21 rfl (lv_at hl 0 rfl) ?_
        refine lv_iload_n hx hb d_Model_byteOf_22 rfl (lv_at hl 1 rfl) ?_
        obtain ⟨x2, m1, hq, hf⟩ := sd_bi_e hf
        refine k_callV (As := [.int a1]) (rest := [.ref (q 2), .int a2]) (C := "ScriptDeskModel") (ci := 7) ZM_ok X hI (mt_Model_top_r0 l hq) (cwV 1 hts (gd_V tw_657 tw_659 ts_28 tw_9 tw_660) rfl rfl rfl (by decide +kernel) ⟨Nat.le_of_ble_eq_true rfl, Nat.le_of_ble_eq_true rfl⟩) 0 rfl rfl rfl hl.1 rfl (Nat.le_of_ble_eq_true rfl) d_Model_byteOf_23 ⟨Nat.zero_le _, Nat.zero_le _⟩ (fun H locs hn_x2 hI => ?_)
        obtain ⟨hg, hf⟩ := sd_gd_e hf
        refine k_iald hx hb hK hI 2 0 rfl rfl hg d_Model_byteOf_26 ?_
        refine lv_icmp_ge (tgt := 48) hx hb d_Model_byteOf_27 (by decide) (fun hc => ?_) (fun hc => ?_)
        · have hf := sd_t hf hc
          refine lv_iconst (v := -1) hx hb d_Model_byteOf_48 (by decide) ?_
          exact k_reti X hI (vp_nar_int _) hf d_Model_byteOf_49
        · have hf := sd_f hf hc
          refine lv_aload_n hx hb d_Model_byteOf_30 rfl (lv_at hl 0 rfl) ?_
          refine va_get (D := D) (ci := 7) (v := .ref (q 1)) (C := "ScriptDeskModel") (T := T_Model) (N := 18) hx hb hts iw_Model hown hK hI.1 0 rfl rfl 0 (by decide) (hts _ tw_531) (fun _ h9 => h9) rfl d_Model_byteOf_31 ?_
          refine lv_bipush (v := 120) hx hb d_Model_byteOf_34 (by decide) ?_
          refine lv_aload_n hx hb d_Model_byteOf_36 rfl (lv_at hl 0 rfl) ?_
          refine lv_iload_n hx hb d_Model_byteOf_37 rfl (lv_at hl 1 rfl) ?_
          obtain ⟨x4, m3, hq, hf⟩ := sd_bi_e hf
          refine k_callV (As := [.int a1]) (rest := [.int (120 : Int32), .ref (q 1)]) (C := "ScriptDeskModel") (ci := 7) ZM_ok X hI (mt_Model_top_r0 l hq) (cwV 1 hts (gd_V tw_657 tw_659 ts_28 tw_9 tw_660) rfl rfl rfl (by decide +kernel) ⟨Nat.le_of_ble_eq_true rfl, Nat.le_of_ble_eq_true rfl⟩) 0 rfl rfl rfl hl.1 rfl (Nat.le_of_ble_eq_true rfl) d_Model_byteOf_38 ⟨Nat.zero_le _, Nat.zero_le _⟩ (fun H locs hn_x4 hI => ?_)
          refine lv_imul hx hb d_Model_byteOf_41 ?_
          refine lv_iload_n hx hb d_Model_byteOf_42 rfl (lv_at hl 2 rfl) ?_
          refine lv_iadd hx hb d_Model_byteOf_43 ?_
          obtain ⟨hg, hf⟩ := sd_gd_e hf
          refine k_iald hx hb hK hI 1 0 rfl rfl hg d_Model_byteOf_44 ?_
          refine lv_goto (tgt := 49) hx hb d_Model_byteOf_45 (by decide) ?_
          exact k_reti X hI (vp_nar_int _) hf d_Model_byteOf_49
set_option maxHeartbeats 4000000 in
set_option maxRecDepth 100000 in
theorem mt_Model_count_r0 (l : Launch) {D : va_G} {q tq : Nat → Nat} {cA : ClassId} {a1 : Int32} {μ : sd_Me} {ru : Int32 × sd_Me} (hf : fn_Model_count_r0 a1 μ = some ru) : sd_CTi l y_Model_count w_Model_count ({ frames := 0, cells := 0, slots := 0, locals := 0 }) vwCl (wdM q cA) D [(cA, .int)] (ZM tq) .int [.ref (q 0), .int a1] μ ru := by
  refine k_enti (cc := prog_12_method_45_code) 2 (by decide) rfl (Nat.le_of_ble_eq_true rfl) ?_
  intro p e s m below meth c A ls X hI hl
  have hl : lv_has ls 2 [(0, .ref (q 0)), (1, .int a1)] := hl
  obtain ⟨hx, hb, hml, hown, hts, hK, hZ, hA, hr, hlocks⟩ := id X
  unfold fn_Model_count_r0 at hf
  refine lv_iload_n hx hb d_Model_count_0 rfl (lv_at hl 1 rfl) ?_
  refine lv_if_ne (tgt := 11) hx hb d_Model_count_1 (by decide) (fun hc => ?_) (fun hc => ?_)
  · have hf := sd_f hf hc
    refine lv_iload_n hx hb d_Model_count_11 rfl (lv_at hl 1 rfl) ?_
    refine lv_iconst (v := 1) hx hb d_Model_count_12 (by decide) ?_
    refine lv_icmp_ne (tgt := 23) hx hb d_Model_count_13 (by decide) (fun hc => ?_) (fun hc => ?_)
    · have hf := sd_f hf hc
      refine lv_iconst (v := -1) hx hb d_Model_count_23 (by decide) ?_
      exact k_reti X hI (vp_nar_int _) hf d_Model_count_24
    · have hf := sd_t hf hc
      refine lv_aload_n hx hb d_Model_count_16 rfl (lv_at hl 0 rfl) ?_
      refine va_get (D := D) (ci := 7) (v := .int (μ.1 0 10)) (C := "ScriptDeskModel") (T := T_Model) (N := 18) hx hb hts iw_Model hown hK hI.1 0 rfl rfl 10 (by decide) (hts _ tw_541) (fun _ h9 => h9) rfl d_Model_count_17 ?_
      refine lv_goto (tgt := 24) hx hb d_Model_count_20 (by decide) ?_
      exact k_reti X hI (vp_nar_int _) hf d_Model_count_24
  · have hf := sd_t hf hc
    refine lv_aload_n hx hb d_Model_count_4 rfl (lv_at hl 0 rfl) ?_
    refine va_get (D := D) (ci := 7) (v := .int (μ.1 0 9)) (C := "ScriptDeskModel") (T := T_Model) (N := 18) hx hb hts iw_Model hown hK hI.1 0 rfl rfl 9 (by decide) (hts _ tw_540) (fun _ h9 => h9) rfl d_Model_count_5 ?_
    refine lv_goto (tgt := 24) hx hb d_Model_count_8 (by decide) ?_
    exact k_reti X hI (vp_nar_int _) hf d_Model_count_24
