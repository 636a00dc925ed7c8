set_option maxHeartbeats 4000000 in
set_option maxRecDepth 100000 in
theorem jn_Desk_perform_r0_J31 (l : Launch) {p : Program} {e : Env} {s : State} {m : MethodId} {args : Array Value} {below : List Frame} {meth : Method} {c : Code} {A : Nat → Prop} {D : va_G} {q tq : Nat → Nat} {cA : ClassId} {ru : Int32 × sd_Me} (X : sd_Cx p s m args meth c prog_1_method_14_code "ScriptDesk" sx_tbl 2 (some .int) vwCl D [(cA, .int)] (ZX tq) A) (v1 : Int32) (μ : sd_Me) (H : Heap) (locs : List Loc) (ls : Array Slot) (hI : sd_CI vwCl (wdX q cA) D A s H locs μ) (hl : lv_has ls 2 [(0, .ref (q 0)), (1, .int v1)]) (hf : fn_Desk_perform_r0_J31 v1 μ = some ru) : W p l e ({ frames := 6, cells := 0, slots := 0, locals := 147 }) s m args below meth c H locs 0 0 (sd_QI below vwCl (wdX q cA) D [(cA, .int)] .int A args s ru) (F0 m 31 ls []) := by
  obtain ⟨hx, hb, hml, hown, hts, hK, hZ, hA, hr, hlocks⟩ := id X
  unfold fn_Desk_perform_r0_J31 at hf
  refine lv_aload_n hx hb d_Desk_perform_31 rfl (lv_at hl 0 rfl) ?_
  refine lv_iload_n hx hb d_Desk_perform_32 rfl (lv_at hl 1 rfl) ?_
  refine lv_bipush (v := 99) hx hb d_Desk_perform_33 (by decide) ?_
  refine lv_icmp_ne (tgt := 42) hx hb d_Desk_perform_35 (by decide) (fun hc => ?_) (fun hc => ?_)
  · have hf := sd_f hf hc
    refine lv_iconst (v := 0) hx hb d_Desk_perform_42 (by decide) ?_
    obtain ⟨x2, m1, hq, hf⟩ := sd_bi_e hf
    refine k_callV (As := [.int (0 : Int32)]) (rest := []) (C := "ScriptDesk") (ci := 0) ZX_ok X hI (mt_Desk_enterPart_r0 l hq) (cwV 1 hts (gd_V tw_214 tw_216 ts_3 tw_1 tw_217) rfl rfl rfl (by decide +kernel) ⟨Nat.le_of_ble_eq_true rfl, Nat.le_of_ble_eq_true rfl⟩) 0 rfl rfl rfl hl.1 rfl (Nat.le_of_ble_eq_true rfl) d_Desk_perform_43 ⟨Nat.zero_le _, Nat.zero_le _⟩ (fun H locs hn_x2 hI => ?_)
    exact k_reti X hI (vp_nar_int _) hf d_Desk_perform_46
  · have hf := sd_t hf hc
    refine lv_iconst (v := 1) hx hb d_Desk_perform_38 (by decide) ?_
    refine lv_goto (tgt := 43) hx hb d_Desk_perform_39 (by decide) ?_
    obtain ⟨x4, m3, hq, hf⟩ := sd_bi_e hf
    refine k_callV (As := [.int (1 : Int32)]) (rest := []) (C := "ScriptDesk") (ci := 0) ZX_ok X hI (mt_Desk_enterPart_r0 l hq) (cwV 1 hts (gd_V tw_214 tw_216 ts_3 tw_1 tw_217) rfl rfl rfl (by decide +kernel) ⟨Nat.le_of_ble_eq_true rfl, Nat.le_of_ble_eq_true rfl⟩) 0 rfl rfl rfl hl.1 rfl (Nat.le_of_ble_eq_true rfl) d_Desk_perform_43 ⟨Nat.zero_le _, Nat.zero_le _⟩ (fun H locs hn_x4 hI => ?_)
    exact k_reti X hI (vp_nar_int _) hf d_Desk_perform_46
set_option maxHeartbeats 4000000 in
set_option maxRecDepth 100000 in
theorem jn_Desk_perform_r0_J59 (l : Launch) {p : Program} {e : Env} {s : State} {m : MethodId} {args : Array Value} {below : List Frame} {meth : Method} {c : Code} {A : Nat → Prop} {D : va_G} {q tq : Nat → Nat} {cA : ClassId} {ru : Int32 × sd_Me} (X : sd_Cx p s m args meth c prog_1_method_14_code "ScriptDesk" sx_tbl 2 (some .int) vwCl D [(cA, .int)] (ZX tq) A) (v1 : Int32) (μ : sd_Me) (H : Heap) (locs : List Loc) (ls : Array Slot) (hI : sd_CI vwCl (wdX q cA) D A s H locs μ) (hl : lv_has ls 2 [(0, .ref (q 0)), (1, .int v1)]) (hf : fn_Desk_perform_r0_J59 v1 μ = some ru) : W p l e ({ frames := 6, cells := 0, slots := 0, locals := 147 }) s m args below meth c H locs 0 0 (sd_QI below vwCl (wdX q cA) D [(cA, .int)] .int A args s ru) (F0 m 59 ls []) := by
  obtain ⟨hx, hb, hml, hown, hts, hK, hZ, hA, hr, hlocks⟩ := id X
  unfold fn_Desk_perform_r0_J59 at hf
  refine lv_aload_n hx hb d_Desk_perform_59 rfl (lv_at hl 0 rfl) ?_
  refine lv_iload_n hx hb d_Desk_perform_60 rfl (lv_at hl 1 rfl) ?_
  refine lv_bipush (v := 104) hx hb d_Desk_perform_61 (by decide) ?_
  refine lv_icmp_ne (tgt := 70) hx hb d_Desk_perform_63 (by decide) (fun hc => ?_) (fun hc => ?_)
  · have hf := sd_f hf hc
    refine lv_iconst (v := 0) hx hb d_Desk_perform_70 (by decide) ?_
    obtain ⟨x6, m5, hq, hf⟩ := sd_bi_e hf
    refine k_callV (As := [.int (0 : Int32)]) (rest := []) (C := "ScriptDesk") (ci := 0) ZX_ok X hI (mt_Desk_leavePart_r0 l hq) (cwV 1 hts (gd_V tw_241 tw_243 ts_4 tw_1 tw_244) rfl rfl rfl (by decide +kernel) ⟨Nat.le_of_ble_eq_true rfl, Nat.le_of_ble_eq_true rfl⟩) 0 rfl rfl rfl hl.1 rfl (Nat.le_of_ble_eq_true rfl) d_Desk_perform_71 ⟨Nat.zero_le _, Nat.zero_le _⟩ (fun H locs hn_x6 hI => ?_)
    exact k_reti X hI (vp_nar_int _) hf d_Desk_perform_74
  · have hf := sd_t hf hc
    refine lv_iconst (v := 1) hx hb d_Desk_perform_66 (by decide) ?_
    refine lv_goto (tgt := 71) hx hb d_Desk_perform_67 (by decide) ?_
    obtain ⟨x8, m7, hq, hf⟩ := sd_bi_e hf
    refine k_callV (As := [.int (1 : Int32)]) (rest := []) (C := "ScriptDesk") (ci := 0) ZX_ok X hI (mt_Desk_leavePart_r0 l hq) (cwV 1 hts (gd_V tw_241 tw_243 ts_4 tw_1 tw_244) rfl rfl rfl (by decide +kernel) ⟨Nat.le_of_ble_eq_true rfl, Nat.le_of_ble_eq_true rfl⟩) 0 rfl rfl rfl hl.1 rfl (Nat.le_of_ble_eq_true rfl) d_Desk_perform_71 ⟨Nat.zero_le _, Nat.zero_le _⟩ (fun H locs hn_x8 hI => ?_)
    exact k_reti X hI (vp_nar_int _) hf d_Desk_perform_74
set_option maxHeartbeats 4000000 in
set_option maxRecDepth 100000 in
theorem jn_Desk_perform_r0_J19 (l : Launch) {p : Program} {e : Env} {s : State} {m : MethodId} {args : Array Value} {below : List Frame} {meth : Method} {c : Code} {A : Nat → Prop} {D : va_G} {q tq : Nat → Nat} {cA : ClassId} {ru : Int32 × sd_Me} (X : sd_Cx p s m args meth c prog_1_method_14_code "ScriptDesk" sx_tbl 2 (some .int) vwCl D [(cA, .int)] (ZX tq) A) (v1 : Int32) (μ : sd_Me) (H : Heap) (locs : List Loc) (ls : Array Slot) (hI : sd_CI vwCl (wdX q cA) D A s H locs μ) (hl : lv_has ls 2 [(0, .ref (q 0)), (1, .int v1)]) (hf : fn_Desk_perform_r0_J19 v1 μ = some ru) : W p l e ({ frames := 6, cells := 0, slots := 0, locals := 147 }) s m args below meth c H locs 0 0 (sd_QI below vwCl (wdX q cA) D [(cA, .int)] .int A args s ru) (F0 m 19 ls []) := by
  obtain ⟨hx, hb, hml, hown, hts, hK, hZ, hA, hr, hlocks⟩ := id X
  unfold fn_Desk_perform_r0_J19 at hf
  refine lv_iload_n hx hb d_Desk_perform_19 rfl (lv_at hl 1 rfl) ?_
  refine lv_bipush (v := 99) hx hb d_Desk_perform_20 (by decide) ?_
  refine lv_icmp_eq (tgt := 31) hx hb d_Desk_perform_22 (by decide) (fun hc => ?_) (fun hc => ?_)
  · have hf := sd_t hf hc
    exact jn_Desk_perform_r0_J31 l X (v1) μ _ _ _ hI (lv_sub hl [0, 1] rfl) hf
  · have hf := sd_f hf hc
    refine lv_iload_n hx hb d_Desk_perform_25 rfl (lv_at hl 1 rfl) ?_
    refine lv_bipush (v := 100) hx hb d_Desk_perform_26 (by decide) ?_
    refine lv_icmp_ne (tgt := 47) hx hb d_Desk_perform_28 (by decide) (fun hc => ?_) (fun hc => ?_)
    · have hf := sd_f hf hc
      refine lv_iload_n hx hb d_Desk_perform_47 rfl (lv_at hl 1 rfl) ?_
      refine lv_bipush (v := 103) hx hb d_Desk_perform_48 (by decide) ?_
      refine lv_icmp_eq (tgt := 59) hx hb d_Desk_perform_50 (by decide) (fun hc => ?_) (fun hc => ?_)
      · have hf := sd_t hf hc
        exact jn_Desk_perform_r0_J59 l X (v1) μ _ _ _ hI (lv_sub hl [0, 1] rfl) hf
      · have hf := sd_f hf hc
        refine lv_iload_n hx hb d_Desk_perform_53 rfl (lv_at hl 1 rfl) ?_
        refine lv_bipush (v := 104) hx hb d_Desk_perform_54 (by decide) ?_
        refine lv_icmp_ne (tgt := 75) hx hb d_Desk_perform_56 (by decide) (fun hc => ?_) (fun hc => ?_)
        · have hf := sd_f hf hc
          refine lv_aload_n hx hb d_Desk_perform_75 rfl (lv_at hl 0 rfl) ?_
          refine va_get (D := D) (ci := 0) (v := .ref (q 7)) (C := "ScriptDesk") (T := T_Desk) (N := 10) hx hb hts iw_Desk hown hK hI.1 0 rfl rfl 6 (by decide) (hts _ tw_145) (fun _ h9 => h9) rfl d_Desk_perform_76 ?_
          obtain ⟨x10, m9, hq, hf⟩ := sd_bi_e hf
          refine k_callV (As := []) (rest := []) (C := "ScriptDesk$Flow") (ci := 3) ZX_ok X hI (mt_Flow_isDone_r7 l hq) (cwV 0 hts (gd_V tw_195 tw_196 tw_197 tw_4 tw_198) rfl rfl rfl (by decide +kernel) ⟨Nat.le_of_ble_eq_true rfl, Nat.le_of_ble_eq_true rfl⟩) 7 rfl rfl rfl hl.1 rfl (Nat.le_of_ble_eq_true rfl) d_Desk_perform_79 ⟨Nat.zero_le _, Nat.zero_le _⟩ (fun H locs hn_x10 hI => ?_)
          refine lv_if_ne (tgt := 87) hx hb d_Desk_perform_82 (by decide) (fun hc => ?_) (fun hc => ?_)
          · have hf := sd_f hf hc
            refine lv_iload_n hx hb d_Desk_perform_87 rfl (lv_at hl 1 rfl) ?_
            refine lv_bipush (v := 96) hx hb d_Desk_perform_88 (by decide) ?_
            refine lv_icmp_gt (tgt := 99) hx hb d_Desk_perform_90 (by decide) (fun hc => ?_) (fun hc => ?_)
            · have hf := sd_t hf hc
              refine lv_iload_n hx hb d_Desk_perform_99 rfl (lv_at hl 1 rfl) ?_
              refine lv_bipush (v := 108) hx hb d_Desk_perform_100 (by decide) ?_
              refine lv_icmp_gt (tgt := 111) hx hb d_Desk_perform_102 (by decide) (fun hc => ?_) (fun hc => ?_)
              · have hf := sd_t hf hc
                refine lv_iload_n hx hb d_Desk_perform_111 rfl (lv_at hl 1 rfl) ?_
                refine lv_sipush (v := 136) hx hb d_Desk_perform_112 (by decide) ?_
                refine lv_icmp_gt (tgt := 127) hx hb d_Desk_perform_115 (by decide) (fun hc => ?_) (fun hc => ?_)
                · have hf := sd_t hf hc
                  refine lv_iload_n hx hb d_Desk_perform_127 rfl (lv_at hl 1 rfl) ?_
                  refine lv_sipush (v := 165) hx hb d_Desk_perform_128 (by decide) ?_
                  refine lv_icmp_gt (tgt := 143) hx hb d_Desk_perform_131 (by decide) (fun hc => ?_) (fun hc => ?_)
                  · have hf := sd_t hf hc
                    refine lv_iload_n hx hb d_Desk_perform_143 rfl (lv_at hl 1 rfl) ?_
                    refine lv_sipush (v := 170) hx hb d_Desk_perform_144 (by decide) ?_
                    refine lv_icmp_gt (tgt := 158) hx hb d_Desk_perform_147 (by decide) (fun hc => ?_) (fun hc => ?_)
                    · have hf := sd_t hf hc
                      refine lv_aload_n hx hb d_Desk_perform_158 rfl (lv_at hl 0 rfl) ?_
                      refine va_get (D := D) (ci := 0) (v := .ref (q 8)) (C := "ScriptDesk") (T := T_Desk) (N := 10) hx hb hts iw_Desk hown hK hI.1 0 rfl rfl 7 (by decide) (hts _ tw_146) (fun _ h9 => h9) rfl d_Desk_perform_159 ?_
                      refine lv_aload_n hx hb d_Desk_perform_162 rfl (lv_at hl 0 rfl) ?_
                      refine va_get (D := D) (ci := 0) (v := .ref (q 2)) (C := "ScriptDesk") (T := T_Desk) (N := 10) hx hb hts iw_Desk hown hK hI.1 0 rfl rfl 4 (by decide) (hts _ tw_143) (fun _ h9 => h9) rfl d_Desk_perform_163 ?_
                      refine lv_aload_n hx hb d_Desk_perform_166 rfl (lv_at hl 0 rfl) ?_
                      refine va_get (D := D) (ci := 0) (v := .ref (q 6)) (C := "ScriptDesk") (T := T_Desk) (N := 10) hx hb hts iw_Desk hown hK hI.1 0 rfl rfl 5 (by decide) (hts _ tw_144) (fun _ h9 => h9) rfl d_Desk_perform_167 ?_
                      refine lv_iload_n hx hb d_Desk_perform_170 rfl (lv_at hl 1 rfl) ?_
                      obtain ⟨x12, m11, hq, hf⟩ := sd_bi_e hf
                      refine k_callV (As := [.ref (q 2), .ref (q 6), .int v1]) (rest := []) (C := "ScriptDesk$Signatures") (ci := 4) ZX_ok X hI (mt_Signatures_perform_r8_r2_r6 l hq) (cwV 3 hts (gd_V tw_456 tw_457 tw_458 tw_5 tw_459) rfl rfl rfl (by decide +kernel) ⟨Nat.le_of_ble_eq_true rfl, Nat.le_of_ble_eq_true rfl⟩) 8 rfl rfl rfl hl.1 rfl (Nat.le_of_ble_eq_true rfl) d_Desk_perform_171 ⟨Nat.zero_le _, Nat.zero_le _⟩ (fun H locs hn_x12 hI => ?_)
                      exact k_reti X hI (vp_nar_int _) hf d_Desk_perform_174
                    · have hf := sd_f hf hc
                      refine lv_aload_n hx hb d_Desk_perform_150 rfl (lv_at hl 0 rfl) ?_
                      refine lv_iload_n hx hb d_Desk_perform_151 rfl (lv_at hl 1 rfl) ?_
                      obtain ⟨x14, m13, hq, hf⟩ := sd_bi_e hf
                      refine k_callV (As := [.int v1]) (rest := []) (C := "ScriptDesk") (ci := 0) ZX_ok X hI (mt_Desk_performDigest_r0 l hq) (cwV 1 hts (gd_V tw_369 tw_371 ts_8 tw_1 tw_372) rfl rfl rfl (by decide +kernel) ⟨Nat.le_of_ble_eq_true rfl, Nat.le_of_ble_eq_true rfl⟩) 0 rfl rfl rfl hl.1 rfl (Nat.le_of_ble_eq_true rfl) d_Desk_perform_152 ⟨Nat.zero_le _, Nat.zero_le _⟩ (fun H locs hn_x14 hI => ?_)
                      refine lv_goto (tgt := 174) hx hb d_Desk_perform_155 (by decide) ?_
                      exact k_reti X hI (vp_nar_int _) hf d_Desk_perform_174
                  · have hf := sd_f hf hc
                    refine lv_aload_n hx hb d_Desk_perform_134 rfl (lv_at hl 0 rfl) ?_
                    refine va_get (D := D) (ci := 0) (v := .ref (q 2)) (C := "ScriptDesk") (T := T_Desk) (N := 10) hx hb hts iw_Desk hown hK hI.1 0 rfl rfl 4 (by decide) (hts _ tw_143) (fun _ h9 => h9) rfl d_Desk_perform_135 ?_
                    refine lv_iload_n hx hb d_Desk_perform_138 rfl (lv_at hl 1 rfl) ?_
                    obtain ⟨x16, m15, hq, hf⟩ := sd_bi_e hf
                    refine k_callS (As := [.ref (q 2), .int v1]) (rest := []) ZX_ok X hI (mt_Numbers_perform_r2 l hq) (va_cwS 2 hts (gd_S tw_343 tw_344 tw_13 tw_345) rfl rfl rfl (by decide +kernel) ⟨Nat.le_of_ble_eq_true rfl, Nat.le_of_ble_eq_true rfl⟩) rfl hl.1 rfl (Nat.le_of_ble_eq_true rfl) d_Desk_perform_139 ⟨Nat.zero_le _, Nat.zero_le _⟩ (fun H locs hn_x16 hI => ?_)
                    exact k_reti X hI (vp_nar_int _) hf d_Desk_perform_142
                · have hf := sd_f hf hc
                  refine lv_aload_n hx hb d_Desk_perform_118 rfl (lv_at hl 0 rfl) ?_
                  refine va_get (D := D) (ci := 0) (v := .ref (q 2)) (C := "ScriptDesk") (T := T_Desk) (N := 10) hx hb hts iw_Desk hown hK hI.1 0 rfl rfl 4 (by decide) (hts _ tw_143) (fun _ h9 => h9) rfl d_Desk_perform_119 ?_
                  refine lv_iload_n hx hb d_Desk_perform_122 rfl (lv_at hl 1 rfl) ?_
                  obtain ⟨x18, m17, hq, hf⟩ := sd_bi_e hf
                  refine k_callS (As := [.ref (q 2), .int v1]) (rest := []) ZX_ok X hI (mt_Moves_perform_r2 l hq) (va_cwS 2 hts (gd_S tw_288 tw_289 tw_12 tw_290) rfl rfl rfl (by decide +kernel) ⟨Nat.le_of_ble_eq_true rfl, Nat.le_of_ble_eq_true rfl⟩) rfl hl.1 rfl (Nat.le_of_ble_eq_true rfl) d_Desk_perform_123 ⟨Nat.zero_le _, Nat.zero_le _⟩ (fun H locs hn_x18 hI => ?_)
                  exact k_reti X hI (vp_nar_int _) hf d_Desk_perform_126
              · have hf := sd_f hf hc
                refine lv_aload_n hx hb d_Desk_perform_105 rfl (lv_at hl 0 rfl) ?_
                refine lv_iload_n hx hb d_Desk_perform_106 rfl (lv_at hl 1 rfl) ?_
                obtain ⟨x20, m19, hq, hf⟩ := sd_bi_e hf
                refine k_callV (As := [.int v1]) (rest := []) (C := "ScriptDesk") (ci := 0) ZX_ok X hI (mt_Desk_performPlain_r0 l hq) (cwV 1 hts (gd_V tw_266 tw_268 ts_6 tw_1 tw_269) rfl rfl rfl (by decide +kernel) ⟨Nat.le_of_ble_eq_true rfl, Nat.le_of_ble_eq_true rfl⟩) 0 rfl rfl rfl hl.1 rfl (Nat.le_of_ble_eq_true rfl) d_Desk_perform_107 ⟨Nat.zero_le _, Nat.zero_le _⟩ (fun H locs hn_x20 hI => ?_)
                exact k_reti X hI (vp_nar_int _) hf d_Desk_perform_110
            · have hf := sd_f hf hc
              refine lv_aload_n hx hb d_Desk_perform_93 rfl (lv_at hl 0 rfl) ?_
              refine lv_iload_n hx hb d_Desk_perform_94 rfl (lv_at hl 1 rfl) ?_
              obtain ⟨x22, m21, hq, hf⟩ := sd_bi_e hf
              refine k_callV (As := [.int v1]) (rest := []) (C := "ScriptDesk") (ci := 0) ZX_ok X hI (mt_Desk_pushSmallNumber_r0 l hq) (cwV 1 hts (gd_V tw_257 tw_259 ts_5 tw_1 tw_260) rfl rfl rfl (by decide +kernel) ⟨Nat.le_of_ble_eq_true rfl, Nat.le_of_ble_eq_true rfl⟩) 0 rfl rfl rfl hl.1 rfl (Nat.le_of_ble_eq_true rfl) d_Desk_perform_95 ⟨Nat.zero_le _, Nat.zero_le _⟩ (fun H locs hn_x22 hI => ?_)
              exact k_reti X hI (vp_nar_int _) hf d_Desk_perform_98
          · have hf := sd_t hf hc
            refine lv_iconst (v := 0) hx hb d_Desk_perform_85 (by decide) ?_
            exact k_reti X hI (vp_nar_int _) hf d_Desk_perform_86
        · have hf := sd_t hf hc
          exact jn_Desk_perform_r0_J59 l X (v1) μ _ _ _ hI (lv_sub hl [0, 1] rfl) hf
    · have hf := sd_t hf hc
      exact jn_Desk_perform_r0_J31 l X (v1) μ _ _ _ hI (lv_sub hl [0, 1] rfl) hf
set_option maxHeartbeats 4000000 in
set_option maxRecDepth 100000 in
theorem mt_Desk_perform_r0 (l : Launch) {D : va_G} {q tq : Nat → Nat} {cA : ClassId} {a1 : Int32} {μ : sd_Me} {ru : Int32 × sd_Me} (hf : fn_Desk_perform_r0 a1 μ = some ru) : sd_CTi l y_Desk_perform w_Desk_perform ({ frames := 6, cells := 0, slots := 0, locals := 147 }) vwCl (wdX q cA) D [(cA, .int)] (ZX tq) .int [.ref (q 0), .int a1] μ ru := by
  refine k_enti (cc := prog_1_method_14_code) 2 (by decide) rfl (Nat.le_of_ble_eq_true rfl) ?_
  intro p e s m below meth c A ls X hI hl
  have hl : lv_has ls 2 [(0, .ref (q 0)), (1, .int a1)] := hl
  obtain ⟨hx, hb, hml, hown, hts, hK, hZ, hA, hr, hlocks⟩ := id X
  unfold fn_Desk_perform_r0 at hf
  refine lv_iload_n hx hb d_Desk_perform_0 rfl (lv_at hl 1 rfl) ?_
  refine lv_bipush (v := 96) hx hb d_Desk_perform_1 (by decide) ?_
  refine lv_icmp_le (tgt := 19) hx hb d_Desk_perform_3 (by decide) (fun hc => ?_) (fun hc => ?_)
  · have hf := sd_t hf hc
    exact jn_Desk_perform_r0_J19 l X (a1) μ _ _ _ hI (lv_sub hl [0, 1] rfl) hf
  · have hf := sd_f hf hc
    refine lv_aload_n hx hb d_Desk_perform_6 rfl (lv_at hl 0 rfl) ?_
    refine va_get (D := D) (ci := 0) (v := .ref (q 6)) (C := "ScriptDesk") (T := T_Desk) (N := 10) hx hb hts iw_Desk hown hK hI.1 0 rfl rfl 5 (by decide) (hts _ tw_144) (fun _ h9 => h9) rfl d_Desk_perform_7 ?_
    refine lv_iconst (v := 1) hx hb d_Desk_perform_10 (by decide) ?_
    obtain ⟨x24, m23, hq, hf⟩ := sd_bi_e hf
    refine k_callV (As := [.int (1 : Int32)]) (rest := []) (C := "ScriptDesk$Tally") (ci := 2) ZX_ok X hI (mt_Tally_passesLimit_r6 l hq) (cwV 1 hts (gd_V tw_210 tw_211 tw_212 tw_3 tw_213) rfl rfl rfl (by decide +kernel) ⟨Nat.le_of_ble_eq_true rfl, Nat.le_of_ble_eq_true rfl⟩) 6 rfl rfl rfl hl.1 rfl (Nat.le_of_ble_eq_true rfl) d_Desk_perform_11 ⟨Nat.zero_le _, Nat.zero_le _⟩ (fun H locs hn_x24 hI => ?_)
    refine lv_if_eq (tgt := 19) hx hb d_Desk_perform_14 (by decide) (fun hc => ?_) (fun hc => ?_)
    · have hf := sd_t hf hc
      exact jn_Desk_perform_r0_J19 l X (a1) m23 _ _ _ hI (lv_sub hl [0, 1] rfl) hf
    · have hf := sd_f hf hc
      refine lv_iconst (v := 3) hx hb d_Desk_perform_17 (by decide) ?_
      exact k_reti X hI (vp_nar_int _) hf d_Desk_perform_18
set_option maxHeartbeats 4000000 in
set_option maxRecDepth 100000 in
theorem mt_Elements_areTooMany_r2 (l : Launch) {D : va_G} {q tq : Nat → Nat} {cA : ClassId} {μ : sd_Me} {ru : Int32 × sd_Me} (hf : fn_Elements_areTooMany_r2 μ = some ru) : sd_CTi l y_Elements_areTooMany w_Elements_areTooMany ({ frames := 0, cells := 0, slots := 0, locals := 0 }) vwCl (wdX q cA) D [(cA, .int)] (ZX tq) .boolean [.ref (q 2)] μ ru := by
  refine k_enti (cc := prog_3_method_2_code) 1 (by decide) rfl (Nat.le_of_ble_eq_true rfl) ?_
  intro p e s m below meth c A ls X hI hl
  have hl : lv_has ls 1 [(0, .ref (q 2))] := hl
  obtain ⟨hx, hb, hml, hown, hts, hK, hZ, hA, hr, hlocks⟩ := id X
  unfold fn_Elements_areTooMany_r2 at hf
  refine lv_aload_n hx hb d_Elements_areTooMany_0 rfl (lv_at hl 0 rfl) ?_
  refine va_get (D := D) (ci := 1) (v := .int (μ.1 2 4)) (C := "ScriptDesk$Elements") (T := T_Elements) (N := 5) hx hb hts iw_Elements hown hK hI.1 2 rfl rfl 4 (by decide) (hts _ tw_33) (fun _ h9 => h9) rfl d_Elements_areTooMany_1 ?_
  refine lv_aload_n hx hb d_Elements_areTooMany_4 rfl (lv_at hl 0 rfl) ?_
  refine va_get (D := D) (ci := 1) (v := .int (μ.1 2 3)) (C := "ScriptDesk$Elements") (T := T_Elements) (N := 5) hx hb hts iw_Elements hown hK hI.1 2 rfl rfl 3 (by decide) (hts _ tw_32) (fun _ h9 => h9) rfl d_Elements_areTooMany_5 ?_
  refine lv_iadd hx hb d_Elements_areTooMany_8 ?_
  refine lv_bipush (v := 60) hx hb d_Elements_areTooMany_9 (by decide) ?_
  refine lv_icmp_le (tgt := 18) hx hb d_Elements_areTooMany_11 (by decide) (fun hc => ?_) (fun hc => ?_)
  · have hf := sd_t hf hc
    refine lv_iconst (v := 0) hx hb d_Elements_areTooMany_18 (by decide) ?_
    exact k_reti X hI rfl hf d_Elements_areTooMany_19
  · have hf := sd_f hf hc
    refine lv_iconst (v := 1) hx hb d_Elements_areTooMany_14 (by decide) ?_
    refine lv_goto (tgt := 19) hx hb d_Elements_areTooMany_15 (by decide) ?_
    exact k_reti X hI rfl hf d_Elements_areTooMany_19
set_option maxHeartbeats 4000000 in
set_option maxRecDepth 100000 in
theorem mt_Elements_push_r2_r1 (l : Launch) {D : va_G} {q tq : Nat → Nat} {cA : ClassId} {a2 : Int32} {a3 : Int32} {μ : sd_Me} {ru : sd_Me} (hf : fn_Elements_push_r2_r1 a2 a3 μ = some ru) : sd_CTv l y_Elements_push w_Elements_push ({ frames := 1, cells := 0, slots := 0, locals := 35 }) vwCl (wdX q cA) D [(cA, .int)] (ZX tq) [.ref (q 2), .ref (q 1), .int a2, .int a3] μ ru := by
  refine k_entv (cc := prog_3_method_11_code) 5 (by decide) rfl (Nat.le_of_ble_eq_true rfl) ?_
  intro p e s m below meth c A ls X hI hl
  have hl : lv_has ls 5 [(0, .ref (q 2)), (1, .ref (q 1)), (2, .int a2), (3, .int a3)] := hl
  obtain ⟨hx, hb, hml, hown, hts, hK, hZ, hA, hr, hlocks⟩ := id X
  unfold fn_Elements_push_r2_r1 at hf
  refine lv_iload_n hx hb d_Elements_push_0 rfl (lv_at hl 2 rfl) ?_
  refine lv_if_lt (tgt := 36) hx hb d_Elements_push_1 (by decide) (fun hc => ?_) (fun hc => ?_)
  · have hf := sd_t hf hc
    exact k_retv X hI hf d_Elements_push_36
  · have hf := sd_f hf hc
    refine lv_iload_n hx hb d_Elements_push_4 rfl (lv_at hl 3 rfl) ?_
    refine lv_if_lt (tgt := 36) hx hb d_Elements_push_5 (by decide) (fun hc => ?_) (fun hc => ?_)
    · have hf := sd_t hf hc
      exact k_retv X hI hf d_Elements_push_36
    · have hf := sd_f hf hc
      refine lv_iload_n hx hb d_Elements_push_8 rfl (lv_at hl 3 rfl) ?_
      refine lv_bipush (v := 120) hx hb d_Elements_push_9 (by decide) ?_
      refine lv_icmp_gt (tgt := 36) hx hb d_Elements_push_11 (by decide) (fun hc => ?_) (fun hc => ?_)
      · have hf := sd_t hf hc
        exact k_retv X hI hf d_Elements_push_36
      · have hf := sd_f hf hc
        refine lv_iload_n hx hb d_Elements_push_14 rfl (lv_at hl 3 rfl) ?_
        refine lv_aload_n hx hb d_Elements_push_15 rfl (lv_at hl 1 rfl) ?_
        refine va_alen (v := 200) hx hb hK hI.1 1 0 rfl rfl (show Int32.ofNat 200 = 200 by decide) d_Elements_push_16 ?_
        refine lv_iload_n hx hb d_Elements_push_17 rfl (lv_at hl 2 rfl) ?_
        refine lv_isub hx hb d_Elements_push_18 ?_
        refine lv_icmp_gt (tgt := 36) hx hb d_Elements_push_19 (by decide) (fun hc => ?_) (fun hc => ?_)
        · have hf := sd_t hf hc
          exact k_retv X hI hf d_Elements_push_36
        · have hf := sd_f hf hc
          refine lv_aload_n hx hb d_Elements_push_22 rfl (lv_at hl 0 rfl) ?_
          refine va_get (D := D) (ci := 1) (v := .int (μ.1 2 4)) (C := "ScriptDesk$Elements") (T := T_Elements) (N := 5) hx hb hts iw_Elements hown hK hI.1 2 rfl rfl 4 (by decide) (hts _ tw_33) (fun _ h9 => h9) rfl d_Elements_push_23 ?_
          refine lv_aload_n hx hb d_Elements_push_26 rfl (lv_at hl 0 rfl) ?_
          refine va_get (D := D) (ci := 1) (v := .int (μ.1 2 3)) (C := "ScriptDesk$Elements") (T := T_Elements) (N := 5) hx hb hts iw_Elements hown hK hI.1 2 rfl rfl 3 (by decide) (hts _ tw_32) (fun _ h9 => h9) rfl d_Elements_push_27 ?_
          refine lv_iadd hx hb d_Elements_push_30 ?_
          refine lv_bipush (v := 64) hx hb d_Elements_push_31 (by decide) ?_
          refine lv_icmp_lt (tgt := 37) hx hb d_Elements_push_33 (by decide) (fun hc => ?_) (fun hc => ?_)
          · have hf := sd_t hf hc
            refine lv_aload_n hx hb d_Elements_push_37 rfl (lv_at hl 0 rfl) ?_
            refine va_get (D := D) (ci := 1) (v := .ref (q 5)) (C := "ScriptDesk$Elements") (T := T_Elements) (N := 5) hx hb hts iw_Elements hown hK hI.1 2 rfl rfl 2 (by decide) (hts _ tw_31) (fun _ h9 => h9) rfl d_Elements_push_38 ?_
            refine lv_aload_n hx hb d_Elements_push_41 rfl (lv_at hl 0 rfl) ?_
            refine va_get (D := D) (ci := 1) (v := .int (μ.1 2 4)) (C := "ScriptDesk$Elements") (T := T_Elements) (N := 5) hx hb hts iw_Elements hown hK hI.1 2 rfl rfl 4 (by decide) (hts _ tw_33) (fun _ h9 => h9) rfl d_Elements_push_42 ?_
            obtain ⟨hg, hf⟩ := sd_gd_e hf
            refine k_iald hx hb hK hI 5 0 rfl rfl hg d_Elements_push_45 ?_
            refine k_li hf (fun x1 hf => ?_)
            refine lv_istore (lv' := [(4, .int x1), (0, .ref (q 2)), (1, .ref (q 1)), (2, .int a2), (3, .int a3)]) hx hb d_Elements_push_46 hl (by decide) rfl (fun ls hl => ?_)
            refine lv_aload_n hx hb d_Elements_push_48 rfl (lv_at hl 2 rfl) ?_
            refine lv_iload_n hx hb d_Elements_push_49 rfl (lv_at hl 3 rfl) ?_
            refine lv_aload_n hx hb d_Elements_push_50 rfl (lv_at hl 1 rfl) ?_
            refine va_get (D := D) (ci := 1) (v := .ref (q 3)) (C := "ScriptDesk$Elements") (T := T_Elements) (N := 5) hx hb hts iw_Elements hown hK hI.1 2 rfl rfl 0 (by decide) (hts _ tw_29) (fun _ h9 => h9) rfl d_Elements_push_51 ?_
            refine lv_iload hx hb d_Elements_push_54 (lv_at hl 0 rfl) ?_
            refine lv_bipush (v := 120) hx hb d_Elements_push_56 (by decide) ?_
            refine lv_imul hx hb d_Elements_push_58 ?_
            refine lv_iload_n hx hb d_Elements_push_59 rfl (lv_at hl 4 rfl) ?_
            obtain ⟨hg, hf⟩ := sd_gd_e hf
            refine k_copy (μ' := sd_mrow μ 3 (va_cpy (μ.1 1) (μ.1 3) (Int32.toNatClampNeg a2) (Int32.toNatClampNeg (x1 * (120 : Int32))) (Int32.toNatClampNeg a3))) hx hb (hml.trans hl.1.symm) hown (hts _ tw_203) (hts _ tw_205) (hts _ tw_204) (hts _ tw_10) hK hI 1 3 0 0 rfl rfl rfl rfl rfl hg (Nat.le_of_ble_eq_true rfl) (Nat.le_of_ble_eq_true rfl) d_Elements_push_60 (fun H locs hI => ?_)
            obtain ⟨m2, hI, hf⟩ := k_lm hf hI
            refine lv_aload_n hx hb d_Elements_push_63 rfl (lv_at hl 1 rfl) ?_
            refine va_get (D := D) (ci := 1) (v := .ref (q 4)) (C := "ScriptDesk$Elements") (T := T_Elements) (N := 5) hx hb hts iw_Elements hown hK hI.1 2 rfl rfl 1 (by decide) (hts _ tw_30) (fun _ h9 => h9) rfl d_Elements_push_64 ?_
            refine lv_iload hx hb d_Elements_push_67 (lv_at hl 0 rfl) ?_
            refine lv_iload_n hx hb d_Elements_push_69 rfl (lv_at hl 4 rfl) ?_
            obtain ⟨hg, hf⟩ := sd_gd_e hf
            refine k_iast (μ' := sd_st m2 4 (Int32.toNatClampNeg x1) a3) hx hb hK hI 4 0 rfl rfl rfl hg d_Elements_push_70 (fun H locs hI => ?_)
            obtain ⟨m3, hI, hf⟩ := k_lm hf hI
            refine lv_aload_n hx hb d_Elements_push_71 rfl (lv_at hl 1 rfl) ?_
            refine lv_dup hx hb d_Elements_push_72 rfl ?_
            refine va_get (D := D) (ci := 1) (v := .int (m3.1 2 4)) (C := "ScriptDesk$Elements") (T := T_Elements) (N := 5) hx hb hts iw_Elements hown hK hI.1 2 rfl rfl 4 (by decide) (hts _ tw_33) (fun _ h9 => h9) rfl d_Elements_push_73 ?_
            refine lv_iconst (v := 1) hx hb d_Elements_push_76 (by decide) ?_
            refine lv_iadd hx hb d_Elements_push_77 ?_
            refine k_put (ci := 1) (v := .int ((m3.1 2 4) + (1 : Int32))) (ty := .int) (C := "ScriptDesk$Elements") (T := T_Elements) (N := 5) (μ' := sd_st m3 2 4 ((m3.1 2 4) + (1 : Int32))) hx hb hts iw_Elements t_Elements t_Elements_ok n_Elements hown hK hI 2 rfl rfl 4 (by decide) (hts _ tw_33) (fun _ h9 => h9) rfl (by decide +kernel) rfl rfl (Nat.le_of_ble_eq_true rfl) rfl d_Elements_push_78 (fun H locs hI => ?_)
            obtain ⟨m4, hI, hf⟩ := k_lm hf hI
            exact k_retv X hI hf d_Elements_push_81
          · have hf := sd_f hf hc
            exact k_retv X hI hf d_Elements_push_36
set_option maxHeartbeats 4000000 in
set_option maxRecDepth 100000 in
theorem jn_Desk_pushFromScript_r0_J73 (l : Launch) {p : Program} {e : Env} {s : State} {m : MethodId} {args : Array Value} {below : List Frame} {meth : Method} {c : Code} {A : Nat → Prop} {D : va_G} {q tq : Nat → Nat} {cA : ClassId} {ru : Int32 × sd_Me} (X : sd_Cx p s m args meth c prog_1_method_13_code "ScriptDesk" sx_tbl 7 (some .int) vwCl D [(cA, .int)] (ZX tq) A) (v3 : Int32) (v5 : Int32) (v6 : Int32) (μ : sd_Me) (H : Heap) (locs : List Loc) (ls : Array Slot) (hI : sd_CI vwCl (wdX q cA) D A s H locs μ) (hl : lv_has ls 7 [(0, .ref (q 0)), (3, .int v3), (5, .int v5), (6, .int v6)]) (hf : fn_Desk_pushFromScript_r0_J73 v3 v5 v6 μ = some ru) : W p l e ({ frames := 2, cells := 0, slots := 0, locals := 59 }) s m args below meth c H locs 0 0 (sd_QI below vwCl (wdX q cA) D [(cA, .int)] .int A args s ru) (F0 m 73 ls []) := by
  obtain ⟨hx, hb, hml, hown, hts, hK, hZ, hA, hr, hlocks⟩ := id X
  unfold fn_Desk_pushFromScript_r0_J73 at hf
  refine lv_iload hx hb d_Desk_pushFromScript_73 (lv_at hl 3 rfl) ?_
  refine lv_iload_n hx hb d_Desk_pushFromScript_75 rfl (lv_at hl 1 rfl) ?_
  refine lv_iload hx hb d_Desk_pushFromScript_76 (lv_at hl 2 rfl) ?_
  refine lv_isub hx hb d_Desk_pushFromScript_78 ?_
  refine lv_icmp_le (tgt := 84) hx hb d_Desk_pushFromScript_79 (by decide) (fun hc => ?_) (fun hc => ?_)
  · have hf := sd_t hf hc
    refine lv_iload hx hb d_Desk_pushFromScript_84 (lv_at hl 3 rfl) ?_
    refine lv_bipush (v := 120) hx hb d_Desk_pushFromScript_86 (by decide) ?_
    refine lv_icmp_le (tgt := 93) hx hb d_Desk_pushFromScript_88 (by decide) (fun hc => ?_) (fun hc => ?_)
    · have hf := sd_t hf hc
      refine lv_aload_n hx hb d_Desk_pushFromScript_93 rfl (lv_at hl 0 rfl) ?_
      refine lv_iload hx hb d_Desk_pushFromScript_94 (lv_at hl 2 rfl) ?_
      refine lv_iload hx hb d_Desk_pushFromScript_96 (lv_at hl 3 rfl) ?_
      refine lv_iadd hx hb d_Desk_pushFromScript_98 ?_
      refine k_put (ci := 0) (v := .int (v5 + v6)) (ty := .int) (C := "ScriptDesk") (T := T_Desk) (N := 10) (μ' := sd_st μ 0 2 (v5 + v6)) hx hb hts iw_Desk t_Desk t_Desk_ok n_Desk hown hK hI 0 rfl rfl 2 (by decide) (hts _ tw_141) (fun _ h9 => h9) rfl (by decide +kernel) rfl rfl (Nat.le_of_ble_eq_true rfl) rfl d_Desk_pushFromScript_99 (fun H locs hI => ?_)
      obtain ⟨m2, hI, hf⟩ := k_lm hf hI
      refine lv_aload_n hx hb d_Desk_pushFromScript_102 rfl (lv_at hl 0 rfl) ?_
      refine va_get (D := D) (ci := 0) (v := .ref (q 7)) (C := "ScriptDesk") (T := T_Desk) (N := 10) hx hb hts iw_Desk hown hK hI.1 0 rfl rfl 6 (by decide) (hts _ tw_145) (fun _ h9 => h9) rfl d_Desk_pushFromScript_103 ?_
      obtain ⟨x4, m3, hq, hf⟩ := sd_bi_e hf
      refine k_callV (As := []) (rest := []) (C := "ScriptDesk$Flow") (ci := 3) ZX_ok X hI (mt_Flow_isDone_r7 l hq) (cwV 0 hts (gd_V tw_195 tw_196 tw_197 tw_4 tw_198) rfl rfl rfl (by decide +kernel) ⟨Nat.le_of_ble_eq_true rfl, Nat.le_of_ble_eq_true rfl⟩) 7 rfl rfl rfl hl.1 rfl (Nat.le_of_ble_eq_true rfl) d_Desk_pushFromScript_106 ⟨Nat.zero_le _, Nat.zero_le _⟩ (fun H locs hn_x4 hI => ?_)
      refine lv_if_eq (tgt := 127) hx hb d_Desk_pushFromScript_109 (by decide) (fun hc => ?_) (fun hc => ?_)
      · have hf := sd_t hf hc
        refine lv_iconst (v := 0) hx hb d_Desk_pushFromScript_127 (by decide) ?_
        exact k_reti X hI (vp_nar_int _) hf d_Desk_pushFromScript_128
      · have hf := sd_f hf hc
        refine lv_aload_n hx hb d_Desk_pushFromScript_112 rfl (lv_at hl 0 rfl) ?_
        refine va_get (D := D) (ci := 0) (v := .ref (q 2)) (C := "ScriptDesk") (T := T_Desk) (N := 10) hx hb hts iw_Desk hown hK hI.1 0 rfl rfl 4 (by decide) (hts _ tw_143) (fun _ h9 => h9) rfl d_Desk_pushFromScript_113 ?_
        refine lv_aload_n hx hb d_Desk_pushFromScript_116 rfl (lv_at hl 0 rfl) ?_
        refine va_get (D := D) (ci := 0) (v := .ref (q 1)) (C := "ScriptDesk") (T := T_Desk) (N := 10) hx hb hts iw_Desk hown hK hI.1 0 rfl rfl 0 (by decide) (hts _ tw_139) (fun _ h9 => h9) rfl d_Desk_pushFromScript_117 ?_
        refine lv_iload hx hb d_Desk_pushFromScript_120 (lv_at hl 2 rfl) ?_
        refine lv_iload hx hb d_Desk_pushFromScript_122 (lv_at hl 3 rfl) ?_
        obtain ⟨m5, hq, hf⟩ := sd_bv_e hf
        refine k_callVv (As := [.ref (q 1), .int v5, .int v6]) (rest := []) (C := "ScriptDesk$Elements") (ci := 1) ZX_ok X hI (mt_Elements_push_r2_r1 l hq) (cwV 3 hts (gd_V tw_199 tw_200 tw_201 tw_2 tw_202) rfl rfl rfl (by decide +kernel) ⟨Nat.le_of_ble_eq_true rfl, Nat.le_of_ble_eq_true rfl⟩) 2 rfl rfl rfl hl.1 rfl (Nat.le_of_ble_eq_true rfl) d_Desk_pushFromScript_124 ⟨Nat.zero_le _, Nat.zero_le _⟩ (fun H locs hI => ?_)
        refine lv_iconst (v := 0) hx hb d_Desk_pushFromScript_127 (by decide) ?_
        exact k_reti X hI (vp_nar_int _) hf d_Desk_pushFromScript_128
    · have hf := sd_f hf hc
      refine lv_iconst (v := 2) hx hb d_Desk_pushFromScript_91 (by decide) ?_
      exact k_reti X hI (vp_nar_int _) hf d_Desk_pushFromScript_92
  · have hf := sd_f hf hc
    refine lv_iconst (v := 1) hx hb d_Desk_pushFromScript_82 (by decide) ?_
    exact k_reti X hI (vp_nar_int _) hf d_Desk_pushFromScript_83
set_option maxHeartbeats 4000000 in
set_option maxRecDepth 100000 in
theorem jn_Desk_pushFromScript_r0_J70 (l : Launch) {p : Program} {e : Env} {s : State} {m : MethodId} {args : Array Value} {below : List Frame} {meth : Method} {c : Code} {A : Nat → Prop} {D : va_G} {q tq : Nat → Nat} {cA : ClassId} {ru : Int32 × sd_Me} (X : sd_Cx p s m args meth c prog_1_method_13_code "ScriptDesk" sx_tbl 7 (some .int) vwCl D [(cA, .int)] (ZX tq) A) (v3 : Int32) (v5 : Int32) (s0 : Int32) (s1 : Int32) (μ : sd_Me) (H : Heap) (locs : List Loc) (ls : Array Slot) (hI : sd_CI vwCl (wdX q cA) D A s H locs μ) (hl : lv_has ls 7 [(0, .ref (q 0)), (3, .int v3), (5, .int v5)]) (hf : fn_Desk_pushFromScript_r0_J70 v3 v5 s0 s1 μ = some ru) : W p l e ({ frames := 2, cells := 0, slots := 0, locals := 59 }) s m args below meth c H locs 0 0 (sd_QI below vwCl (wdX q cA) D [(cA, .int)] .int A args s ru) (F0 m 70 ls [.int s1, .int s0]) := by
  obtain ⟨hx, hb, hml, hown, hts, hK, hZ, hA, hr, hlocks⟩ := id X
  unfold fn_Desk_pushFromScript_r0_J70 at hf
  refine lv_iadd hx hb d_Desk_pushFromScript_70 ?_
  refine k_li hf (fun x6 hf => ?_)
  refine lv_istore (lv' := [(6, .int x6), (0, .ref (q 0)), (3, .int v3), (5, .int v5)]) hx hb d_Desk_pushFromScript_71 hl (by decide) rfl (fun ls hl => ?_)
  exact jn_Desk_pushFromScript_r0_J73 l X (v3) (v5) (x6) μ _ _ _ hI (lv_sub hl [1, 2, 3, 0] rfl) hf
set_option maxHeartbeats 4000000 in
set_option maxRecDepth 100000 in
theorem jn_Desk_pushFromScript_r0_J14 (l : Launch) {p : Program} {e : Env} {s : State} {m : MethodId} {args : Array Value} {below : List Frame} {meth : Method} {c : Code} {A : Nat → Prop} {D : va_G} {q tq : Nat → Nat} {cA : ClassId} {ru : Int32 × sd_Me} (X : sd_Cx p s m args meth c prog_1_method_13_code "ScriptDesk" sx_tbl 7 (some .int) vwCl D [(cA, .int)] (ZX tq) A) (v1 : Int32) (v2 : Int32) (v3 : Int32) (s0 : Int32) (μ : sd_Me) (H : Heap) (locs : List Loc) (ls : Array Slot) (hI : sd_CI vwCl (wdX q cA) D A s H locs μ) (hl : lv_has ls 7 [(0, .ref (q 0)), (1, .int v1), (2, .int v2), (3, .int v3)]) (hf : fn_Desk_pushFromScript_r0_J14 v1 v2 v3 s0 μ = some ru) : W p l e ({ frames := 2, cells := 0, slots := 0, locals := 59 }) s m args below meth c H locs 0 0 (sd_QI below vwCl (wdX q cA) D [(cA, .int)] .int A args s ru) (F0 m 14 ls [.int s0]) := by
  obtain ⟨hx, hb, hml, hown, hts, hK, hZ, hA, hr, hlocks⟩ := id X
  unfold fn_Desk_pushFromScript_r0_J14 at hf
  refine lv_istore (lv' := [(4, .int s0), (0, .ref (q 0)), (1, .int v1), (2, .int v2), (3, .int v3)]) hx hb d_Desk_pushFromScript_14 hl (by decide) rfl (fun ls hl => ?_)
  refine lv_iload_n hx hb d_Desk_pushFromScript_16 rfl (lv_at hl 3 rfl) ?_
  refine lv_iconst (v := 1) hx hb d_Desk_pushFromScript_17 (by decide) ?_
  refine lv_iadd hx hb d_Desk_pushFromScript_18 ?_
  refine lv_iload hx hb d_Desk_pushFromScript_19 (lv_at hl 0 rfl) ?_
  refine lv_iadd hx hb d_Desk_pushFromScript_21 ?_
  refine k_li hf (fun x1 hf => ?_)
  refine lv_istore (lv' := [(5, .int x1), (4, .int s0), (0, .ref (q 0)), (1, .int v1), (2, .int v2), (3, .int v3)]) hx hb d_Desk_pushFromScript_22 hl (by decide) rfl (fun ls hl => ?_)
  refine lv_iload hx hb d_Desk_pushFromScript_24 (lv_at hl 0 rfl) ?_
  refine lv_iload_n hx hb d_Desk_pushFromScript_26 rfl (lv_at hl 5 rfl) ?_
  refine lv_icmp_le (tgt := 32) hx hb d_Desk_pushFromScript_27 (by decide) (fun hc => ?_) (fun hc => ?_)
  · have hf := sd_t hf hc
    refine lv_iload_n hx hb d_Desk_pushFromScript_32 rfl (lv_at hl 3 rfl) ?_
    refine lv_istore (lv' := [(6, .int v1), (5, .int x1), (4, .int s0), (0, .ref (q 0)), (1, .int v1), (2, .int v2), (3, .int v3)]) hx hb d_Desk_pushFromScript_33 hl (by decide) rfl (fun ls hl => ?_)
    refine lv_iload hx hb d_Desk_pushFromScript_35 (lv_at hl 2 rfl) ?_
    refine lv_if_le (tgt := 73) hx hb d_Desk_pushFromScript_37 (by decide) (fun hc => ?_) (fun hc => ?_)
    · have hf := sd_t hf hc
      exact jn_Desk_pushFromScript_r0_J73 l X (v3) (x1) (v1) μ _ _ _ hI (lv_sub hl [3, 6, 1, 0] rfl) hf
    · have hf := sd_f hf hc
      refine lv_aload_n hx hb d_Desk_pushFromScript_40 rfl (lv_at hl 3 rfl) ?_
      refine va_get (D := D) (ci := 0) (v := .ref (q 1)) (C := "ScriptDesk") (T := T_Desk) (N := 10) hx hb hts iw_Desk hown hK hI.1 0 rfl rfl 0 (by decide) (hts _ tw_139) (fun _ h9 => h9) rfl d_Desk_pushFromScript_41 ?_
      refine lv_iload_n hx hb d_Desk_pushFromScript_44 rfl (lv_at hl 5 rfl) ?_
      refine lv_iconst (v := 1) hx hb d_Desk_pushFromScript_45 (by decide) ?_
      refine lv_iadd hx hb d_Desk_pushFromScript_46 ?_
      obtain ⟨hg, hf⟩ := sd_gd_e hf
      refine k_iald hx hb hK hI 1 0 rfl rfl hg d_Desk_pushFromScript_47 ?_
      refine lv_iload hx hb d_Desk_pushFromScript_48 (lv_at hl 2 rfl) ?_
      refine lv_iconst (v := 2) hx hb d_Desk_pushFromScript_50 (by decide) ?_
      refine lv_icmp_ne (tgt := 69) hx hb d_Desk_pushFromScript_51 (by decide) (fun hc => ?_) (fun hc => ?_)
      · have hf := sd_f hf hc
        refine lv_iconst (v := 0) hx hb d_Desk_pushFromScript_69 (by decide) ?_
        exact jn_Desk_pushFromScript_r0_J70 l X (v3) (x1) ((μ.1 1 (Int32.toNatClampNeg (v2 + (1 : Int32))))) ((0 : Int32)) μ _ _ _ hI (lv_sub hl [3, 6, 1] rfl) hf
      · have hf := sd_t hf hc
        refine lv_sipush (v := 256) hx hb d_Desk_pushFromScript_54 (by decide) ?_
        refine lv_aload_n hx hb d_Desk_pushFromScript_57 rfl (lv_at hl 3 rfl) ?_
        refine va_get (D := D) (ci := 0) (v := .ref (q 1)) (C := "ScriptDesk") (T := T_Desk) (N := 10) hx hb hts iw_Desk hown hK hI.1 0 rfl rfl 0 (by decide) (hts _ tw_139) (fun _ h9 => h9) rfl d_Desk_pushFromScript_58 ?_
        refine lv_iload_n hx hb d_Desk_pushFromScript_61 rfl (lv_at hl 5 rfl) ?_
        refine lv_iconst (v := 2) hx hb d_Desk_pushFromScript_62 (by decide) ?_
        refine lv_iadd hx hb d_Desk_pushFromScript_63 ?_
        obtain ⟨hg, hf⟩ := sd_gd_e hf
        refine k_iald hx hb hK hI 1 0 rfl rfl hg d_Desk_pushFromScript_64 ?_
        refine lv_imul hx hb d_Desk_pushFromScript_65 ?_
        refine lv_goto (tgt := 70) hx hb d_Desk_pushFromScript_66 (by decide) ?_
        exact jn_Desk_pushFromScript_r0_J70 l X (v3) (x1) ((μ.1 1 (Int32.toNatClampNeg (v2 + (1 : Int32))))) (((256 : Int32) * (μ.1 1 (Int32.toNatClampNeg (v2 + (2 : Int32)))))) μ _ _ _ hI (lv_sub hl [3, 6, 1] rfl) hf
  · have hf := sd_f hf hc
    refine lv_iconst (v := 1) hx hb d_Desk_pushFromScript_30 (by decide) ?_
    exact k_reti X hI (vp_nar_int _) hf d_Desk_pushFromScript_31
set_option maxHeartbeats 4000000 in
set_option maxRecDepth 100000 in
theorem mt_Desk_pushFromScript_r0 (l : Launch) {D : va_G} {q tq : Nat → Nat} {cA : ClassId} {a1 : Int32} {a2 : Int32} {a3 : Int32} {μ : sd_Me} {ru : Int32 × sd_Me} (hf : fn_Desk_pushFromScript_r0 a1 a2 a3 μ = some ru) : sd_CTi l y_Desk_pushFromScript w_Desk_pushFromScript ({ frames := 2, cells := 0, slots := 0, locals := 59 }) vwCl (wdX q cA) D [(cA, .int)] (ZX tq) .int [.ref (q 0), .int a1, .int a2, .int a3] μ ru := by
  refine k_enti (cc := prog_1_method_13_code) 7 (by decide) rfl (Nat.le_of_ble_eq_true rfl) ?_
  intro p e s m below meth c A ls X hI hl
  have hl : lv_has ls 7 [(0, .ref (q 0)), (1, .int a1), (2, .int a2), (3, .int a3)] := hl
  obtain ⟨hx, hb, hml, hown, hts, hK, hZ, hA, hr, hlocks⟩ := id X
  unfold fn_Desk_pushFromScript_r0 at hf
  refine lv_iload_n hx hb d_Desk_pushFromScript_0 rfl (lv_at hl 1 rfl) ?_
  refine lv_bipush (v := 75) hx hb d_Desk_pushFromScript_1 (by decide) ?_
  refine lv_icmp_gt (tgt := 10) hx hb d_Desk_pushFromScript_3 (by decide) (fun hc => ?_) (fun hc => ?_)
  · have hf := sd_t hf hc
    refine lv_iload_n hx hb d_Desk_pushFromScript_10 rfl (lv_at hl 1 rfl) ?_
    refine lv_bipush (v := 75) hx hb d_Desk_pushFromScript_11 (by decide) ?_
    refine lv_isub hx hb d_Desk_pushFromScript_13 ?_
    exact jn_Desk_pushFromScript_r0_J14 l X (a1) (a2) (a3) ((a1 - (75 : Int32))) μ _ _ _ hI (lv_sub hl [0, 1, 2, 3] rfl) hf
  · have hf := sd_f hf hc
    refine lv_iconst (v := 0) hx hb d_Desk_pushFromScript_6 (by decide) ?_
    refine lv_goto (tgt := 14) hx hb d_Desk_pushFromScript_7 (by decide) ?_
    exact jn_Desk_pushFromScript_r0_J14 l X (a1) (a2) (a3) ((0 : Int32)) μ _ _ _ hI (lv_sub hl [0, 1, 2, 3] rfl) hf
set_option maxHeartbeats 4000000 in
set_option maxRecDepth 100000 in
theorem mt_Elements_dropSide_r2 (l : Launch) {D : va_G} {q tq : Nat → Nat} {cA : ClassId} {μ : sd_Me} {ru : sd_Me} (hf : fn_Elements_dropSide_r2 μ = some ru) : sd_CTv l y_Elements_dropSide w_Elements_dropSide ({ frames := 0, cells := 0, slots := 0, locals := 0 }) vwCl (wdX q cA) D [(cA, .int)] (ZX tq) [.ref (q 2)] μ ru := by
  refine k_entv (cc := prog_3_method_10_code) 1 (by decide) rfl (Nat.le_of_ble_eq_true rfl) ?_
  intro p e s m below meth c A ls X hI hl
  have hl : lv_has ls 1 [(0, .ref (q 2))] := hl
  obtain ⟨hx, hb, hml, hown, hts, hK, hZ, hA, hr, hlocks⟩ := id X
  unfold fn_Elements_dropSide_r2 at hf
  refine lv_aload_n hx hb d_Elements_dropSide_0 rfl (lv_at hl 0 rfl) ?_
  refine lv_iconst (v := 0) hx hb d_Elements_dropSide_1 (by decide) ?_
  refine k_put (ci := 1) (v := .int (0 : Int32)) (ty := .int) (C := "ScriptDesk$Elements") (T := T_Elements) (N := 5) (μ' := sd_st μ 2 3 (0 : Int32)) hx hb hts iw_Elements t_Elements t_Elements_ok n_Elements hown hK hI 2 rfl rfl 3 (by decide) (hts _ tw_32) (fun _ h9 => h9) rfl (by decide +kernel) rfl rfl (Nat.le_of_ble_eq_true rfl) rfl d_Elements_dropSide_2 (fun H locs hI => ?_)
  obtain ⟨m1, hI, hf⟩ := k_lm hf hI
  exact k_retv X hI hf d_Elements_dropSide_5
set_option maxHeartbeats 4000000 in
set_option maxRecDepth 100000 in
theorem jn_Desk_run_r0_J80 (l : Launch) {p : Program} {e : Env} {s : State} {m : MethodId} {args : Array Value} {below : List Frame} {meth : Method} {c : Code} {A : Nat → Prop} {D : va_G} {q tq : Nat → Nat} {cA : ClassId} {ru : Int32 × sd_Me} (X : sd_Cx p s m args meth c prog_1_method_4_code "ScriptDesk" sx_tbl 6 (some .int) vwCl D [(cA, .int)] (ZX tq) A) {rc : Int32 → Int32 → Int32 → Int32 → sd_Me → Option (Int32 × sd_Me)} (hrc : ∀ (v1 : Int32) (v2 : Int32) (v3 : Int32) (v4 : Int32) (μ : sd_Me) (H : Heap) (locs : List Loc) (ls : Array Slot), sd_CI vwCl (wdX q cA) D A s H locs μ → lv_has ls 6 [(0, .ref (q 0)), (1, .int v1), (2, .int v2), (3, .int v3), (4, .int v4)] → rc v1 v2 v3 v4 μ = some ru → W p l e ({ frames := 7, cells := 0, slots := 0, locals := 168 }) s m args below meth c H locs 0 0 (sd_QI below vwCl (wdX q cA) D [(cA, .int)] .int A args s ru) (F0 m 16 ls [])) (v1 : Int32) (v2 : Int32) (v4 : Int32) (s0 : Int32) (μ : sd_Me) (H : Heap) (locs : List Loc) (ls : Array Slot) (hI : sd_CI vwCl (wdX q cA) D A s H locs μ) (hl : lv_has ls 6 [(0, .ref (q 0)), (1, .int v1), (2, .int v2), (4, .int v4)]) (hf : fn_Desk_run_r0_J80 rc v1 v2 v4 s0 μ = some ru) : W p l e ({ frames := 7, cells := 0, slots := 0, locals := 168 }) s m args below meth c H locs 0 0 (sd_QI below vwCl (wdX q cA) D [(cA, .int)] .int A args s ru) (F0 m 80 ls [.int s0]) := by
  obtain ⟨hx, hb, hml, hown, hts, hK, hZ, hA, hr, hlocks⟩ := id X
  unfold fn_Desk_run_r0_J80 at hf
  refine lv_istore_n (lv' := [(3, .int s0), (0, .ref (q 0)), (1, .int v1), (2, .int v2), (4, .int v4)]) hx hb d_Desk_run_80 rfl hl (by decide) rfl (fun ls hl => ?_)
  refine lv_iload_n hx hb d_Desk_run_81 rfl (lv_at hl 0 rfl) ?_
  refine lv_if_ne (tgt := 98) hx hb d_Desk_run_82 (by decide) (fun hc => ?_) (fun hc => ?_)
  · have hf := sd_f hf hc
    refine lv_iinc (v := (v4 + (1 : Int32))) (lv' := [(4, .int (v4 + (1 : Int32))), (3, .int s0), (0, .ref (q 0)), (1, .int v1), (2, .int v2)]) hx hb d_Desk_run_98 hl (k := 4) rfl rfl (by decide) rfl (fun ls hl => ?_)
    refine lv_goto (tgt := 16) hx hb d_Desk_run_101 (by decide) ?_
    exact hrc (v1) (v2) (s0) ((v4 + (1 : Int32))) μ _ _ _ hI (lv_sub hl [2, 3, 4, 1, 0] rfl) hf
  · have hf := sd_t hf hc
    refine lv_aload_n hx hb d_Desk_run_85 rfl (lv_at hl 1 rfl) ?_
    refine va_get (D := D) (ci := 0) (v := .ref (q 2)) (C := "ScriptDesk") (T := T_Desk) (N := 10) hx hb hts iw_Desk hown hK hI.1 0 rfl rfl 4 (by decide) (hts _ tw_143) (fun _ h9 => h9) rfl d_Desk_run_86 ?_
    obtain ⟨x9, m8, hq, hf⟩ := sd_bi_e hf
    refine k_callV (As := []) (rest := []) (C := "ScriptDesk$Elements") (ci := 1) ZX_ok X hI (mt_Elements_areTooMany_r2 l hq) (cwV 0 hts (gd_V tw_487 tw_488 tw_489 tw_2 tw_490) rfl rfl rfl (by decide +kernel) ⟨Nat.le_of_ble_eq_true rfl, Nat.le_of_ble_eq_true rfl⟩) 2 rfl rfl rfl hl.1 rfl (Nat.le_of_ble_eq_true rfl) d_Desk_run_89 ⟨Nat.zero_le _, Nat.zero_le _⟩ (fun H locs hn_x9 hI => ?_)
    refine lv_if_eq (tgt := 98) hx hb d_Desk_run_92 (by decide) (fun hc => ?_) (fun hc => ?_)
    · have hf := sd_t hf hc
      refine lv_iinc (v := (v4 + (1 : Int32))) (lv' := [(4, .int (v4 + (1 : Int32))), (3, .int s0), (0, .ref (q 0)), (1, .int v1), (2, .int v2)]) hx hb d_Desk_run_98 hl (k := 4) rfl rfl (by decide) rfl (fun ls hl => ?_)
      refine lv_goto (tgt := 16) hx hb d_Desk_run_101 (by decide) ?_
      exact hrc (v1) (v2) (s0) ((v4 + (1 : Int32))) m8 _ _ _ hI (lv_sub hl [2, 3, 4, 1, 0] rfl) hf
    · have hf := sd_f hf hc
      refine lv_bipush (v := 11) hx hb d_Desk_run_95 (by decide) ?_
      refine lv_istore_n (lv' := [(3, .int (11 : Int32)), (0, .ref (q 0)), (1, .int v1), (2, .int v2), (4, .int v4)]) hx hb d_Desk_run_97 rfl hl (by decide) rfl (fun ls hl => ?_)
      refine lv_iinc (v := (v4 + (1 : Int32))) (lv' := [(4, .int (v4 + (1 : Int32))), (3, .int (11 : Int32)), (0, .ref (q 0)), (1, .int v1), (2, .int v2)]) hx hb d_Desk_run_98 hl (k := 4) rfl rfl (by decide) rfl (fun ls hl => ?_)
      refine lv_goto (tgt := 16) hx hb d_Desk_run_101 (by decide) ?_
      exact hrc (v1) (v2) ((11 : Int32)) ((v4 + (1 : Int32))) m8 _ _ _ hI (lv_sub hl [2, 3, 4, 1, 0] rfl) hf
set_option maxHeartbeats 4000000 in
set_option maxRecDepth 100000 in
theorem lp_Desk_run_r0_L16 (l : Launch) {p : Program} {e : Env} {s : State} {m : MethodId} {args : Array Value} {below : List Frame} {meth : Method} {c : Code} {A : Nat → Prop} {D : va_G} {q tq : Nat → Nat} {cA : ClassId} {ru : Int32 × sd_Me} (X : sd_Cx p s m args meth c prog_1_method_4_code "ScriptDesk" sx_tbl 6 (some .int) vwCl D [(cA, .int)] (ZX tq) A) {k104 : Int32 → Int32 → Int32 → sd_Me → Option (Int32 × sd_Me)} (hk104 : ∀ (v1 : Int32) (v2 : Int32) (v3 : Int32) (μ : sd_Me) (H : Heap) (locs : List Loc) (ls : Array Slot), sd_CI vwCl (wdX q cA) D A s H locs μ → lv_has ls 6 [(0, .ref (q 0)), (1, .int v1), (2, .int v2), (3, .int v3)] → k104 v1 v2 v3 μ = some ru → W p l e ({ frames := 7, cells := 0, slots := 0, locals := 168 }) s m args below meth c H locs 0 0 (sd_QI below vwCl (wdX q cA) D [(cA, .int)] .int A args s ru) (F0 m 104 ls [])) :
    ∀ (n : Nat) (v1 : Int32) (v2 : Int32) (v3 : Int32) (v4 : Int32) (μ : sd_Me) (H : Heap) (locs : List Loc) (ls : Array Slot), sd_CI vwCl (wdX q cA) D A s H locs μ → lv_has ls 6 [(0, .ref (q 0)), (1, .int v1), (2, .int v2), (3, .int v3), (4, .int v4)] → fn_Desk_run_r0_L16 k104 n v1 v2 v3 v4 μ = some ru → W p l e ({ frames := 7, cells := 0, slots := 0, locals := 168 }) s m args below meth c H locs 0 0 (sd_QI below vwCl (wdX q cA) D [(cA, .int)] .int A args s ru) (F0 m 16 ls []) := by
  obtain ⟨hx, hb, hml, hown, hts, hK, hZ, hA, hr, hlocks⟩ := id X
  intro n
  induction n with
  | zero =>
    intro v1 v2 v3 v4 μ H locs ls hI hl hf
    cases hf
  | succ n ih =>
    intro v1 v2 v3 v4 μ H locs ls hI hl hf
    rw [fn_Desk_run_r0_L16] at hf
    refine lv_iload hx hb d_Desk_run_16 (lv_at hl 4 rfl) ?_
    refine lv_sipush (v := 200) hx hb d_Desk_run_18 (by decide) ?_
    refine lv_icmp_ge (tgt := 104) hx hb d_Desk_run_21 (by decide) (fun hc => ?_) (fun hc => ?_)
    · have hf := sd_t hf hc
      exact hk104 (v1) (v2) (v3) μ _ _ _ hI (lv_sub hl [0, 1, 2, 3] rfl) hf
    · have hf := sd_f hf hc
      refine lv_aload_n hx hb d_Desk_run_24 rfl (lv_at hl 0 rfl) ?_
      refine va_get (D := D) (ci := 0) (v := .int (μ.1 0 2)) (C := "ScriptDesk") (T := T_Desk) (N := 10) hx hb hts iw_Desk hown hK hI.1 0 rfl rfl 2 (by decide) (hts _ tw_141) (fun _ h9 => h9) rfl d_Desk_run_25 ?_
      refine lv_iload_n hx hb d_Desk_run_28 rfl (lv_at hl 1 rfl) ?_
      refine lv_icmp_ge (tgt := 104) hx hb d_Desk_run_29 (by decide) (fun hc => ?_) (fun hc => ?_)
      · have hf := sd_t hf hc
        exact hk104 (v1) (v2) (v3) μ _ _ _ hI (lv_sub hl [0, 1, 2, 3] rfl) hf
      · have hf := sd_f hf hc
        refine lv_iload_n hx hb d_Desk_run_32 rfl (lv_at hl 3 rfl) ?_
        refine lv_if_ne (tgt := 104) hx hb d_Desk_run_33 (by decide) (fun hc => ?_) (fun hc => ?_)
        · have hf := sd_f hf hc
          exact hk104 (v1) (v2) (v3) μ _ _ _ hI (lv_sub hl [0, 1, 2, 3] rfl) hf
        · have hf := sd_t hf hc
          refine lv_aload_n hx hb d_Desk_run_36 rfl (lv_at hl 0 rfl) ?_
          refine va_get (D := D) (ci := 0) (v := .int (μ.1 0 2)) (C := "ScriptDesk") (T := T_Desk) (N := 10) hx hb hts iw_Desk hown hK hI.1 0 rfl rfl 2 (by decide) (hts _ tw_141) (fun _ h9 => h9) rfl d_Desk_run_37 ?_
          refine k_li hf (fun x3 hf => ?_)
          refine lv_istore_n (lv' := [(2, .int x3), (0, .ref (q 0)), (1, .int v1), (3, .int v3), (4, .int v4)]) hx hb d_Desk_run_40 rfl hl (by decide) rfl (fun ls hl => ?_)
          refine lv_aload_n hx hb d_Desk_run_41 rfl (lv_at hl 1 rfl) ?_
          refine lv_iload_n hx hb d_Desk_run_42 rfl (lv_at hl 0 rfl) ?_
          refine lv_iconst (v := 1) hx hb d_Desk_run_43 (by decide) ?_
          refine lv_iadd hx hb d_Desk_run_44 ?_
          refine k_put (ci := 0) (v := .int (x3 + (1 : Int32))) (ty := .int) (C := "ScriptDesk") (T := T_Desk) (N := 10) (μ' := sd_st μ 0 2 (x3 + (1 : Int32))) hx hb hts iw_Desk t_Desk t_Desk_ok n_Desk hown hK hI 0 rfl rfl 2 (by decide) (hts _ tw_141) (fun _ h9 => h9) rfl (by decide +kernel) rfl rfl (Nat.le_of_ble_eq_true rfl) rfl d_Desk_run_45 (fun H locs hI => ?_)
          obtain ⟨m4, hI, hf⟩ := k_lm hf hI
          refine lv_aload_n hx hb d_Desk_run_48 rfl (lv_at hl 1 rfl) ?_
          refine va_get (D := D) (ci := 0) (v := .ref (q 1)) (C := "ScriptDesk") (T := T_Desk) (N := 10) hx hb hts iw_Desk hown hK hI.1 0 rfl rfl 0 (by decide) (hts _ tw_139) (fun _ h9 => h9) rfl d_Desk_run_49 ?_
          refine lv_iload_n hx hb d_Desk_run_52 rfl (lv_at hl 0 rfl) ?_
          obtain ⟨hg, hf⟩ := sd_gd_e hf
          refine k_iald hx hb hK hI 1 0 rfl rfl hg d_Desk_run_53 ?_
          refine k_li hf (fun x5 hf => ?_)
          refine lv_istore (lv' := [(5, .int x5), (2, .int x3), (0, .ref (q 0)), (1, .int v1), (3, .int v3), (4, .int v4)]) hx hb d_Desk_run_54 hl (by decide) rfl (fun ls hl => ?_)
          refine lv_iload hx hb d_Desk_run_56 (lv_at hl 0 rfl) ?_
          refine lv_bipush (v := 77) hx hb d_Desk_run_58 (by decide) ?_
          refine lv_icmp_gt (tgt := 74) hx hb d_Desk_run_60 (by decide) (fun hc => ?_) (fun hc => ?_)
          · have hf := sd_t hf hc
            refine lv_aload_n hx hb d_Desk_run_74 rfl (lv_at hl 2 rfl) ?_
            refine lv_iload hx hb d_Desk_run_75 (lv_at hl 0 rfl) ?_
            obtain ⟨x7, m6, hq, hf⟩ := sd_bi_e hf
            refine k_callV (As := [.int x5]) (rest := []) (C := "ScriptDesk") (ci := 0) ZX_ok X hI (mt_Desk_perform_r0 l hq) (cwV 1 hts (gd_V tw_206 tw_208 ts_2 tw_1 tw_209) rfl rfl rfl (by decide +kernel) ⟨Nat.le_of_ble_eq_true rfl, Nat.le_of_ble_eq_true rfl⟩) 0 rfl rfl rfl hl.1 rfl (Nat.le_of_ble_eq_true rfl) d_Desk_run_77 ⟨Nat.zero_le _, Nat.zero_le _⟩ (fun H locs hn_x7 hI => ?_)
            exact jn_Desk_run_r0_J80 l X ih (v1) (x3) (v4) (x7) m6 _ _ _ hI (lv_sub hl [2, 3, 1, 5] rfl) hf
          · have hf := sd_f hf hc
            refine lv_aload_n hx hb d_Desk_run_63 rfl (lv_at hl 2 rfl) ?_
            refine lv_iload hx hb d_Desk_run_64 (lv_at hl 0 rfl) ?_
            refine lv_iload_n hx hb d_Desk_run_66 rfl (lv_at hl 1 rfl) ?_
            refine lv_iload_n hx hb d_Desk_run_67 rfl (lv_at hl 3 rfl) ?_
            obtain ⟨x11, m10, hq, hf⟩ := sd_bi_e hf
            refine k_callV (As := [.int x5, .int x3, .int v1]) (rest := []) (C := "ScriptDesk") (ci := 0) ZX_ok X hI (mt_Desk_pushFromScript_r0 l hq) (cwV 3 hts (gd_V tw_191 tw_193 ts_1 tw_1 tw_194) rfl rfl rfl (by decide +kernel) ⟨Nat.le_of_ble_eq_true rfl, Nat.le_of_ble_eq_true rfl⟩) 0 rfl rfl rfl hl.1 rfl (Nat.le_of_ble_eq_true rfl) d_Desk_run_68 ⟨Nat.zero_le _, Nat.zero_le _⟩ (fun H locs hn_x11 hI => ?_)
            refine lv_goto (tgt := 80) hx hb d_Desk_run_71 (by decide) ?_
            exact jn_Desk_run_r0_J80 l X ih (v1) (x3) (v4) (x11) m10 _ _ _ hI (lv_sub hl [2, 3, 1, 5] rfl) hf
set_option maxHeartbeats 4000000 in
set_option maxRecDepth 100000 in
theorem jn_Desk_run_r0_J123 (l : Launch) {p : Program} {e : Env} {s : State} {m : MethodId} {args : Array Value} {below : List Frame} {meth : Method} {c : Code} {A : Nat → Prop} {D : va_G} {q tq : Nat → Nat} {cA : ClassId} {ru : Int32 × sd_Me} (X : sd_Cx p s m args meth c prog_1_method_4_code "ScriptDesk" sx_tbl 6 (some .int) vwCl D [(cA, .int)] (ZX tq) A) (v2 : Int32) (v3 : Int32) (μ : sd_Me) (H : Heap) (locs : List Loc) (ls : Array Slot) (hI : sd_CI vwCl (wdX q cA) D A s H locs μ) (hl : lv_has ls 6 [(0, .ref (q 0)), (2, .int v2), (3, .int v3)]) (hf : fn_Desk_run_r0_J123 v2 v3 μ = some ru) : W p l e ({ frames := 7, cells := 0, slots := 0, locals := 168 }) s m args below meth c H locs 0 0 (sd_QI below vwCl (wdX q cA) D [(cA, .int)] .int A args s ru) (F0 m 123 ls []) := by
  obtain ⟨hx, hb, hml, hown, hts, hK, hZ, hA, hr, hlocks⟩ := id X
  unfold fn_Desk_run_r0_J123 at hf
  refine lv_aload_n hx hb d_Desk_run_123 rfl (lv_at hl 0 rfl) ?_
  refine va_get (D := D) (ci := 0) (v := .ref (q 2)) (C := "ScriptDesk") (T := T_Desk) (N := 10) hx hb hts iw_Desk hown hK hI.1 0 rfl rfl 4 (by decide) (hts _ tw_143) (fun _ h9 => h9) rfl d_Desk_run_124 ?_
  obtain ⟨m16, hq, hf⟩ := sd_bv_e hf
  refine k_callVv (As := []) (rest := []) (C := "ScriptDesk$Elements") (ci := 1) ZX_ok X hI (mt_Elements_dropSide_r2 l hq) (cwV 0 hts (gd_V tw_491 tw_492 tw_493 tw_2 tw_494) rfl rfl rfl (by decide +kernel) ⟨Nat.le_of_ble_eq_true rfl, Nat.le_of_ble_eq_true rfl⟩) 2 rfl rfl rfl hl.1 rfl (Nat.le_of_ble_eq_true rfl) d_Desk_run_127 ⟨Nat.zero_le _, Nat.zero_le _⟩ (fun H locs hI => ?_)
  refine lv_iload_n hx hb d_Desk_run_130 rfl (lv_at hl 2 rfl) ?_
  refine lv_if_ne (tgt := 136) hx hb d_Desk_run_131 (by decide) (fun hc => ?_) (fun hc => ?_)
  · have hf := sd_f hf hc
    refine lv_aload_n hx hb d_Desk_run_136 rfl (lv_at hl 0 rfl) ?_
    refine va_get (D := D) (ci := 0) (v := .ref (q 2)) (C := "ScriptDesk") (T := T_Desk) (N := 10) hx hb hts iw_Desk hown hK hI.1 0 rfl rfl 4 (by decide) (hts _ tw_143) (fun _ h9 => h9) rfl d_Desk_run_137 ?_
    refine lv_aload_n hx hb d_Desk_run_140 rfl (lv_at hl 0 rfl) ?_
    refine va_get (D := D) (ci := 0) (v := .ref (q 2)) (C := "ScriptDesk") (T := T_Desk) (N := 10) hx hb hts iw_Desk hown hK hI.1 0 rfl rfl 4 (by decide) (hts _ tw_143) (fun _ h9 => h9) rfl d_Desk_run_141 ?_
    refine va_get (D := D) (ci := 1) (v := .int (m16.1 2 4)) (C := "ScriptDesk$Elements") (T := T_Elements) (N := 5) hx hb hts iw_Elements hown hK hI.1 2 rfl rfl 4 (by decide) (hts _ tw_36) (fun _ h9 => h9) rfl d_Desk_run_144 ?_
    obtain ⟨m17, hq, hf⟩ := sd_bv_e hf
    refine k_callVv (As := [.int (m16.1 2 4)]) (rest := []) (C := "ScriptDesk$Elements") (ci := 1) ZX_ok X hI (mt_Elements_drop_r2 l hq) (cwV 1 hts (gd_V tw_234 tw_235 tw_236 tw_2 tw_237) rfl rfl rfl (by decide +kernel) ⟨Nat.le_of_ble_eq_true rfl, Nat.le_of_ble_eq_true rfl⟩) 2 rfl rfl rfl hl.1 rfl (Nat.le_of_ble_eq_true rfl) d_Desk_run_147 ⟨Nat.zero_le _, Nat.zero_le _⟩ (fun H locs hI => ?_)
    refine lv_aload_n hx hb d_Desk_run_150 rfl (lv_at hl 0 rfl) ?_
    refine lv_iload_n hx hb d_Desk_run_151 rfl (lv_at hl 1 rfl) ?_
    refine k_put (ci := 0) (v := .int v2) (ty := .int) (C := "ScriptDesk") (T := T_Desk) (N := 10) (μ' := sd_st m17 0 3 v2) hx hb hts iw_Desk t_Desk t_Desk_ok n_Desk hown hK hI 0 rfl rfl 3 (by decide) (hts _ tw_142) (fun _ h9 => h9) rfl (by decide +kernel) rfl rfl (Nat.le_of_ble_eq_true rfl) rfl d_Desk_run_152 (fun H locs hI => ?_)
    obtain ⟨m18, hI, hf⟩ := k_lm hf hI
    refine lv_iconst (v := -1) hx hb d_Desk_run_155 (by decide) ?_
    refine lv_iload_n hx hb d_Desk_run_156 rfl (lv_at hl 2 rfl) ?_
    refine lv_isub hx hb d_Desk_run_157 ?_
    exact k_reti X hI (vp_nar_int _) hf d_Desk_run_158
  · have hf := sd_t hf hc
    refine lv_iconst (v := 1) hx hb d_Desk_run_134 (by decide) ?_
    exact k_reti X hI (vp_nar_int _) hf d_Desk_run_135
set_option maxHeartbeats 4000000 in
set_option maxRecDepth 100000 in
theorem jn_Desk_run_r0_J104 (l : Launch) {p : Program} {e : Env} {s : State} {m : MethodId} {args : Array Value} {below : List Frame} {meth : Method} {c : Code} {A : Nat → Prop} {D : va_G} {q tq : Nat → Nat} {cA : ClassId} {ru : Int32 × sd_Me} (X : sd_Cx p s m args meth c prog_1_method_4_code "ScriptDesk" sx_tbl 6 (some .int) vwCl D [(cA, .int)] (ZX tq) A) (v1 : Int32) (v2 : Int32) (v3 : Int32) (μ : sd_Me) (H : Heap) (locs : List Loc) (ls : Array Slot) (hI : sd_CI vwCl (wdX q cA) D A s H locs μ) (hl : lv_has ls 6 [(0, .ref (q 0)), (1, .int v1), (2, .int v2), (3, .int v3)]) (hf : fn_Desk_run_r0_J104 v1 v2 v3 μ = some ru) : W p l e ({ frames := 7, cells := 0, slots := 0, locals := 168 }) s m args below meth c H locs 0 0 (sd_QI below vwCl (wdX q cA) D [(cA, .int)] .int A args s ru) (F0 m 104 ls []) := by
  obtain ⟨hx, hb, hml, hown, hts, hK, hZ, hA, hr, hlocks⟩ := id X
  unfold fn_Desk_run_r0_J104 at hf
  refine lv_iload_n hx hb d_Desk_run_104 rfl (lv_at hl 3 rfl) ?_
  refine lv_if_ne (tgt := 123) hx hb d_Desk_run_105 (by decide) (fun hc => ?_) (fun hc => ?_)
  · have hf := sd_f hf hc
    exact jn_Desk_run_r0_J123 l X (v2) (v3) μ _ _ _ hI (lv_sub hl [0, 2, 3] rfl) hf
  · have hf := sd_t hf hc
    refine lv_aload_n hx hb d_Desk_run_108 rfl (lv_at hl 0 rfl) ?_
    refine va_get (D := D) (ci := 0) (v := .ref (q 7)) (C := "ScriptDesk") (T := T_Desk) (N := 10) hx hb hts iw_Desk hown hK hI.1 0 rfl rfl 6 (by decide) (hts _ tw_145) (fun _ h9 => h9) rfl d_Desk_run_109 ?_
    obtain ⟨x20, m19, hq, hf⟩ := sd_bi_e hf
    refine k_callV (As := []) (rest := []) (C := "ScriptDesk$Flow") (ci := 3) ZX_ok X hI (mt_Flow_isInside_r7 l hq) (cwV 0 hts (gd_V tw_245 tw_246 tw_247 tw_4 tw_248) rfl rfl rfl (by decide +kernel) ⟨Nat.le_of_ble_eq_true rfl, Nat.le_of_ble_eq_true rfl⟩) 7 rfl rfl rfl hl.1 rfl (Nat.le_of_ble_eq_true rfl) d_Desk_run_112 ⟨Nat.zero_le _, Nat.zero_le _⟩ (fun H locs hn_x20 hI => ?_)
    refine lv_if_eq (tgt := 123) hx hb d_Desk_run_115 (by decide) (fun hc => ?_) (fun hc => ?_)
    · have hf := sd_t hf hc
      exact jn_Desk_run_r0_J123 l X (v2) (v3) m19 _ _ _ hI (lv_sub hl [0, 2, 3] rfl) hf
    · have hf := sd_f hf hc
      refine lv_iload_n hx hb d_Desk_run_118 rfl (lv_at hl 1 rfl) ?_
      refine lv_istore_n (lv' := [(2, .int v1), (0, .ref (q 0)), (1, .int v1), (3, .int v3)]) hx hb d_Desk_run_119 rfl hl (by decide) rfl (fun ls hl => ?_)
      refine lv_bipush (v := 12) hx hb d_Desk_run_120 (by decide) ?_
      refine lv_istore_n (lv' := [(3, .int (12 : Int32)), (2, .int v1), (0, .ref (q 0)), (1, .int v1)]) hx hb d_Desk_run_122 rfl hl (by decide) rfl (fun ls hl => ?_)
      exact jn_Desk_run_r0_J123 l X (v1) ((12 : Int32)) m19 _ _ _ hI (lv_sub hl [2, 1, 0] rfl) hf
set_option maxHeartbeats 4000000 in
set_option maxRecDepth 100000 in
theorem mt_Desk_run_r0 (l : Launch) {D : va_G} {q tq : Nat → Nat} {cA : ClassId} {μ : sd_Me} {ru : Int32 × sd_Me} (hf : fn_Desk_run_r0 μ = some ru) : sd_CTi l y_Desk_run w_Desk_run ({ frames := 7, cells := 0, slots := 0, locals := 168 }) vwCl (wdX q cA) D [(cA, .int)] (ZX tq) .int [.ref (q 0)] μ ru := by
  refine k_enti (cc := prog_1_method_4_code) 6 (by decide) rfl (Nat.le_of_ble_eq_true rfl) ?_
  intro p e s m below meth c A ls X hI hl
  have hl : lv_has ls 6 [(0, .ref (q 0))] := hl
  obtain ⟨hx, hb, hml, hown, hts, hK, hZ, hA, hr, hlocks⟩ := id X
  unfold fn_Desk_run_r0 at hf
  refine lv_aload_n hx hb d_Desk_run_0 rfl (lv_at hl 0 rfl) ?_
  refine va_get (D := D) (ci := 0) (v := .int (μ.1 0 1)) (C := "ScriptDesk") (T := T_Desk) (N := 10) hx hb hts iw_Desk hown hK hI.1 0 rfl rfl 1 (by decide) (hts _ tw_140) (fun _ h9 => h9) rfl d_Desk_run_1 ?_
  refine k_li hf (fun x1 hf => ?_)
  refine lv_istore_n (lv' := [(1, .int x1), (0, .ref (q 0))]) hx hb d_Desk_run_4 rfl hl (by decide) rfl (fun ls hl => ?_)
  refine lv_aload_n hx hb d_Desk_run_5 rfl (lv_at hl 1 rfl) ?_
  obtain ⟨m2, hq, hf⟩ := sd_bv_e hf
  refine k_callVv (As := []) (rest := []) (C := "ScriptDesk") (ci := 0) ZX_ok X hI (mt_Desk_restart_r0 l hq) (cwV 0 hts (gd_V tw_183 tw_185 ts_0 tw_1 tw_186) rfl rfl rfl (by decide +kernel) ⟨Nat.le_of_ble_eq_true rfl, Nat.le_of_ble_eq_true rfl⟩) 0 rfl rfl rfl hl.1 rfl (Nat.le_of_ble_eq_true rfl) d_Desk_run_6 ⟨Nat.zero_le _, Nat.zero_le _⟩ (fun H locs hI => ?_)
  refine lv_iconst (v := 0) hx hb d_Desk_run_9 (by decide) ?_
  refine lv_istore_n (lv' := [(2, .int (0 : Int32)), (1, .int x1), (0, .ref (q 0))]) hx hb d_Desk_run_10 rfl hl (by decide) rfl (fun ls hl => ?_)
  refine lv_iconst (v := 0) hx hb d_Desk_run_11 (by decide) ?_
  refine lv_istore_n (lv' := [(3, .int (0 : Int32)), (2, .int (0 : Int32)), (1, .int x1), (0, .ref (q 0))]) hx hb d_Desk_run_12 rfl hl (by decide) rfl (fun ls hl => ?_)
  refine lv_iconst (v := 0) hx hb d_Desk_run_13 (by decide) ?_
  refine lv_istore (lv' := [(4, .int (0 : Int32)), (3, .int (0 : Int32)), (2, .int (0 : Int32)), (1, .int x1), (0, .ref (q 0))]) hx hb d_Desk_run_14 hl (by decide) rfl (fun ls hl => ?_)
  refine lp_Desk_run_r0_L16 l X ?_ 10000 (x1) ((0 : Int32)) ((0 : Int32)) ((0 : Int32)) m2 _ _ _ hI (lv_sub hl [4, 3, 2, 1, 0] rfl) hf
  · intro x12 x13 x14 m15 H locs ls hI hl hf
    exact jn_Desk_run_r0_J104 l X (x12) (x13) (x14) m15 _ _ _ hI (lv_sub hl [0, 1, 2, 3] rfl) hf
set_option maxHeartbeats 4000000 in
set_option maxRecDepth 100000 in
theorem mt_Desk_place_r0 (l : Launch) {D : va_G} {q tq : Nat → Nat} {cA : ClassId} {μ : sd_Me} {ru : Int32 × sd_Me} (hf : fn_Desk_place_r0 μ = some ru) : sd_CTi l y_Desk_place w_Desk_place ({ frames := 0, cells := 0, slots := 0, locals := 0 }) vwCl (wdX q cA) D [(cA, .int)] (ZX tq) .int [.ref (q 0)] μ ru := by
  refine k_enti (cc := prog_1_method_5_code) 1 (by decide) rfl (Nat.le_of_ble_eq_true rfl) ?_
  intro p e s m below meth c A ls X hI hl
  have hl : lv_has ls 1 [(0, .ref (q 0))] := hl
  obtain ⟨hx, hb, hml, hown, hts, hK, hZ, hA, hr, hlocks⟩ := id X
  unfold fn_Desk_place_r0 at hf
  refine lv_aload_n hx hb d_Desk_place_0 rfl (lv_at hl 0 rfl) ?_
  refine va_get (D := D) (ci := 0) (v := .int (μ.1 0 3)) (C := "ScriptDesk") (T := T_Desk) (N := 10) hx hb hts iw_Desk hown hK hI.1 0 rfl rfl 3 (by decide) (hts _ tw_142) (fun _ h9 => h9) rfl d_Desk_place_1 ?_
  exact k_reti X hI (vp_nar_int _) hf d_Desk_place_4
set_option maxHeartbeats 4000000 in
set_option maxRecDepth 100000 in
theorem mt_Desk_clear_r0 (l : Launch) {D : va_G} {q tq : Nat → Nat} {cA : ClassId} {μ : sd_Me} {ru : Int32 × sd_Me} (hf : fn_Desk_clear_r0 μ = some ru) : sd_CTi l y_Desk_clear w_Desk_clear ({ frames := 2, cells := 0, slots := 0, locals := 44 }) vwCl (wdX q cA) D [(cA, .int)] (ZX tq) .int [.ref (q 0)] μ ru := by
  refine k_enti (cc := prog_1_method_6_code) 2 (by decide) rfl (Nat.le_of_ble_eq_true rfl) ?_
  intro p e s m below meth c A ls X hI hl
  have hl : lv_has ls 2 [(0, .ref (q 0))] := hl
  obtain ⟨hx, hb, hml, hown, hts, hK, hZ, hA, hr, hlocks⟩ := id X
  unfold fn_Desk_clear_r0 at hf
  refine lv_aload_n hx hb d_Desk_clear_0 rfl (lv_at hl 0 rfl) ?_
  refine va_get (D := D) (ci := 0) (v := .ref (q 2)) (C := "ScriptDesk") (T := T_Desk) (N := 10) hx hb hts iw_Desk hown hK hI.1 0 rfl rfl 4 (by decide) (hts _ tw_143) (fun _ h9 => h9) rfl d_Desk_clear_1 ?_
  refine va_get (D := D) (ci := 1) (v := .int (μ.1 2 4)) (C := "ScriptDesk$Elements") (T := T_Elements) (N := 5) hx hb hts iw_Elements hown hK hI.1 2 rfl rfl 4 (by decide) (hts _ tw_36) (fun _ h9 => h9) rfl d_Desk_clear_4 ?_
  refine k_li hf (fun x1 hf => ?_)
  refine lv_istore_n (lv' := [(1, .int x1), (0, .ref (q 0))]) hx hb d_Desk_clear_7 rfl hl (by decide) rfl (fun ls hl => ?_)
  refine lv_aload_n hx hb d_Desk_clear_8 rfl (lv_at hl 1 rfl) ?_
  refine va_get (D := D) (ci := 0) (v := .ref (q 2)) (C := "ScriptDesk") (T := T_Desk) (N := 10) hx hb hts iw_Desk hown hK hI.1 0 rfl rfl 4 (by decide) (hts _ tw_143) (fun _ h9 => h9) rfl d_Desk_clear_9 ?_
  refine lv_iload_n hx hb d_Desk_clear_12 rfl (lv_at hl 0 rfl) ?_
  obtain ⟨m2, hq, hf⟩ := sd_bv_e hf
  refine k_callVv (As := [.int x1]) (rest := []) (C := "ScriptDesk$Elements") (ci := 1) ZX_ok X hI (mt_Elements_drop_r2 l hq) (cwV 1 hts (gd_V tw_234 tw_235 tw_236 tw_2 tw_237) rfl rfl rfl (by decide +kernel) ⟨Nat.le_of_ble_eq_true rfl, Nat.le_of_ble_eq_true rfl⟩) 2 rfl rfl rfl hl.1 rfl (Nat.le_of_ble_eq_true rfl) d_Desk_clear_13 ⟨Nat.zero_le _, Nat.zero_le _⟩ (fun H locs hI => ?_)
  refine lv_iload_n hx hb d_Desk_clear_16 rfl (lv_at hl 0 rfl) ?_
  exact k_reti X hI (vp_nar_int _) hf d_Desk_clear_17
set_option maxHeartbeats 4000000 in
set_option maxRecDepth 100000 in
theorem mt_Desk_size_r0 (l : Launch) {D : va_G} {q tq : Nat → Nat} {cA : ClassId} {μ : sd_Me} {ru : Int32 × sd_Me} (hf : fn_Desk_size_r0 μ = some ru) : sd_CTi l y_Desk_size w_Desk_size ({ frames := 0, cells := 0, slots := 0, locals := 0 }) vwCl (wdX q cA) D [(cA, .int)] (ZX tq) .int [.ref (q 0)] μ ru := by
  refine k_enti (cc := prog_1_method_7_code) 1 (by decide) rfl (Nat.le_of_ble_eq_true rfl) ?_
  intro p e s m below meth c A ls X hI hl
  have hl : lv_has ls 1 [(0, .ref (q 0))] := hl
  obtain ⟨hx, hb, hml, hown, hts, hK, hZ, hA, hr, hlocks⟩ := id X
  unfold fn_Desk_size_r0 at hf
  refine lv_aload_n hx hb d_Desk_size_0 rfl (lv_at hl 0 rfl) ?_
  refine va_get (D := D) (ci := 0) (v := .ref (q 2)) (C := "ScriptDesk") (T := T_Desk) (N := 10) hx hb hts iw_Desk hown hK hI.1 0 rfl rfl 4 (by decide) (hts _ tw_143) (fun _ h9 => h9) rfl d_Desk_size_1 ?_
  refine va_get (D := D) (ci := 1) (v := .int (μ.1 2 4)) (C := "ScriptDesk$Elements") (T := T_Elements) (N := 5) hx hb hts iw_Elements hown hK hI.1 2 rfl rfl 4 (by decide) (hts _ tw_36) (fun _ h9 => h9) rfl d_Desk_size_4 ?_
  exact k_reti X hI (vp_nar_int _) hf d_Desk_size_7
set_option maxHeartbeats 4000000 in
set_option maxRecDepth 100000 in
theorem mt_Desk_isTrue_r0 (l : Launch) {D : va_G} {q tq : Nat → Nat} {cA : ClassId} {μ : sd_Me} {ru : Int32 × sd_Me} (hf : fn_Desk_isTrue_r0 μ = some ru) : sd_CTi l y_Desk_isTrue w_Desk_isTrue ({ frames := 2, cells := 0, slots := 0, locals := 45 }) vwCl (wdX q cA) D [(cA, .int)] (ZX tq) .boolean [.ref (q 0)] μ ru := by
  refine k_enti (cc := prog_1_method_8_code) 1 (by decide) rfl (Nat.le_of_ble_eq_true rfl) ?_
  intro p e s m below meth c A ls X hI hl
  have hl : lv_has ls 1 [(0, .ref (q 0))] := hl
  obtain ⟨hx, hb, hml, hown, hts, hK, hZ, hA, hr, hlocks⟩ := id X
  unfold fn_Desk_isTrue_r0 at hf
  refine lv_aload_n hx hb d_Desk_isTrue_0 rfl (lv_at hl 0 rfl) ?_
  refine va_get (D := D) (ci := 0) (v := .ref (q 2)) (C := "ScriptDesk") (T := T_Desk) (N := 10) hx hb hts iw_Desk hown hK hI.1 0 rfl rfl 4 (by decide) (hts _ tw_143) (fun _ h9 => h9) rfl d_Desk_isTrue_1 ?_
  obtain ⟨x2, m1, hq, hf⟩ := sd_bi_e hf
  refine k_callV (As := []) (rest := []) (C := "ScriptDesk$Elements") (ci := 1) ZX_ok X hI (mt_Elements_topHolds_r2 l hq) (cwV 0 hts (gd_V tw_222 tw_223 tw_224 tw_2 tw_225) rfl rfl rfl (by decide +kernel) ⟨Nat.le_of_ble_eq_true rfl, Nat.le_of_ble_eq_true rfl⟩) 2 rfl rfl rfl hl.1 rfl (Nat.le_of_ble_eq_true rfl) d_Desk_isTrue_4 ⟨Nat.zero_le _, Nat.zero_le _⟩ (fun H locs hn_x2 hI => ?_)
  exact k_reti X hI hn_x2 hf d_Desk_isTrue_7
set_option maxHeartbeats 4000000 in
set_option maxRecDepth 100000 in
theorem mt_Desk_bytes_r0 (l : Launch) {D : va_G} {q tq : Nat → Nat} {cA : ClassId} {a1 : Int32} {μ : sd_Me} {ru : Int32 × sd_Me} (hf : fn_Desk_bytes_r0 a1 μ = some ru) : sd_CTi l y_Desk_bytes w_Desk_bytes ({ frames := 1, cells := 0, slots := 0, locals := 21 }) vwCl (wdX q cA) D [(cA, .int)] (ZX tq) .int [.ref (q 0), .int a1] μ ru := by
  refine k_enti (cc := prog_1_method_9_code) 2 (by decide) rfl (Nat.le_of_ble_eq_true rfl) ?_
  intro p e s m below meth c A ls X hI hl
  have hl : lv_has ls 2 [(0, .ref (q 0)), (1, .int a1)] := hl
  obtain ⟨hx, hb, hml, hown, hts, hK, hZ, hA, hr, hlocks⟩ := id X
  unfold fn_Desk_bytes_r0 at hf
  refine lv_aload_n hx hb d_Desk_bytes_0 rfl (lv_at hl 0 rfl) ?_
  refine va_get (D := D) (ci := 0) (v := .ref (q 2)) (C := "ScriptDesk") (T := T_Desk) (N := 10) hx hb hts iw_Desk hown hK hI.1 0 rfl rfl 4 (by decide) (hts _ tw_143) (fun _ h9 => h9) rfl d_Desk_bytes_1 ?_
  refine lv_iload_n hx hb d_Desk_bytes_4 rfl (lv_at hl 1 rfl) ?_
  obtain ⟨x2, m1, hq, hf⟩ := sd_bi_e hf
  refine k_callV (As := [.int a1]) (rest := []) (C := "ScriptDesk$Elements") (ci := 1) ZX_ok X hI (mt_Elements_lengthAt_r2 l hq) (cwV 1 hts (gd_V tw_515 tw_227 tw_228 tw_2 tw_229) rfl rfl rfl (by decide +kernel) ⟨Nat.le_of_ble_eq_true rfl, Nat.le_of_ble_eq_true rfl⟩) 2 rfl rfl rfl hl.1 rfl (Nat.le_of_ble_eq_true rfl) d_Desk_bytes_5 ⟨Nat.zero_le _, Nat.zero_le _⟩ (fun H locs hn_x2 hI => ?_)
  exact k_reti X hI (vp_nar_int _) hf d_Desk_bytes_8
set_option maxHeartbeats 4000000 in
set_option maxRecDepth 100000 in
theorem mt_Desk_byteOf_r0 (l : Launch) {D : va_G} {q tq : Nat → Nat} {cA : ClassId} {a1 : Int32} {a2 : Int32} {μ : sd_Me} {ru : Int32 × sd_Me} (hf : fn_Desk_byteOf_r0 a1 a2 μ = some ru) : sd_CTi l y_Desk_byteOf w_Desk_byteOf ({ frames := 1, cells := 0, slots := 0, locals := 23 }) vwCl (wdX q cA) D [(cA, .int)] (ZX tq) .int [.ref (q 0), .int a1, .int a2] μ ru := by
  refine k_enti (cc := prog_1_method_10_code) 3 (by decide) rfl (Nat.le_of_ble_eq_true rfl) ?_
  intro p e s m below meth c A ls X hI hl
  have hl : lv_has ls 3 [(0, .ref (q 0)), (1, .int a1), (2, .int a2)] := hl
  obtain ⟨hx, hb, hml, hown, hts, hK, hZ, hA, hr, hlocks⟩ := id X
  unfold fn_Desk_byteOf_r0 at hf
  refine lv_aload_n hx hb d_Desk_byteOf_0 rfl (lv_at hl 0 rfl) ?_
  refine va_get (D := D) (ci := 0) (v := .ref (q 2)) (C := "ScriptDesk") (T := T_Desk) (N := 10) hx hb hts iw_Desk hown hK hI.1 0 rfl rfl 4 (by decide) (hts _ tw_143) (fun _ h9 => h9) rfl d_Desk_byteOf_1 ?_
  refine lv_iload_n hx hb d_Desk_byteOf_4 rfl (lv_at hl 1 rfl) ?_
  refine lv_iload_n hx hb d_Desk_byteOf_5 rfl (lv_at hl 2 rfl) ?_
  obtain ⟨x2, m1, hq, hf⟩ := sd_bi_e hf
  refine k_callV (As := [.int a1, .int a2]) (rest := []) (C := "ScriptDesk$Elements") (ci := 1) ZX_ok X hI (mt_Elements_octetAt_r2 l hq) (cwV 2 hts (gd_V tw_520 tw_231 tw_232 tw_2 tw_233) rfl rfl rfl (by decide +kernel) ⟨Nat.le_of_ble_eq_true rfl, Nat.le_of_ble_eq_true rfl⟩) 2 rfl rfl rfl hl.1 rfl (Nat.le_of_ble_eq_true rfl) d_Desk_byteOf_6 ⟨Nat.zero_le _, Nat.zero_le _⟩ (fun H locs hn_x2 hI => ?_)
  exact k_reti X hI (vp_nar_int _) hf d_Desk_byteOf_9
set_option maxHeartbeats 4000000 in
set_option maxRecDepth 100000 in
theorem mt_Desk_count_r0 (l : Launch) {D : va_G} {q tq : Nat → Nat} {cA : ClassId} {a1 : Int32} {μ : sd_Me} {ru : Int32 × sd_Me} (hf : fn_Desk_count_r0 a1 μ = some ru) : sd_CTi l y_Desk_count w_Desk_count ({ frames := 0, cells := 0, slots := 0, locals := 0 }) vwCl (wdX q cA) D [(cA, .int)] (ZX tq) .int [.ref (q 0), .int a1] μ ru := by
  refine k_enti (cc := prog_1_method_11_code) 2 (by decide) rfl (Nat.le_of_ble_eq_true rfl) ?_
  intro p e s m below meth c A ls X hI hl
  have hl : lv_has ls 2 [(0, .ref (q 0)), (1, .int a1)] := hl
  obtain ⟨hx, hb, hml, hown, hts, hK, hZ, hA, hr, hlocks⟩ := id X
  unfold fn_Desk_count_r0 at hf
  refine lv_iload_n hx hb d_Desk_count_0 rfl (lv_at hl 1 rfl) ?_
  refine lv_if_ne (tgt := 12) hx hb d_Desk_count_1 (by decide) (fun hc => ?_) (fun hc => ?_)
  · have hf := sd_f hf hc
    refine lv_iload_n hx hb d_Desk_count_12 rfl (lv_at hl 1 rfl) ?_
    refine lv_iconst (v := 1) hx hb d_Desk_count_13 (by decide) ?_
    refine lv_icmp_ne (tgt := 27) hx hb d_Desk_count_14 (by decide) (fun hc => ?_) (fun hc => ?_)
    · have hf := sd_f hf hc
      refine lv_iconst (v := -1) hx hb d_Desk_count_27 (by decide) ?_
      exact k_reti X hI (vp_nar_int _) hf d_Desk_count_28
    · have hf := sd_t hf hc
      refine lv_aload_n hx hb d_Desk_count_17 rfl (lv_at hl 0 rfl) ?_
      refine va_get (D := D) (ci := 0) (v := .ref (q 8)) (C := "ScriptDesk") (T := T_Desk) (N := 10) hx hb hts iw_Desk hown hK hI.1 0 rfl rfl 7 (by decide) (hts _ tw_146) (fun _ h9 => h9) rfl d_Desk_count_18 ?_
      refine va_get (D := D) (ci := 4) (v := .int (μ.1 8 1)) (C := "ScriptDesk$Signatures") (T := T_Signatures) (N := 2) hx hb hts iw_Signatures hown hK hI.1 8 rfl rfl 1 (by decide) (hts _ tw_82) (fun _ h9 => h9) rfl d_Desk_count_21 ?_
      refine lv_goto (tgt := 28) hx hb d_Desk_count_24 (by decide) ?_
      exact k_reti X hI (vp_nar_int _) hf d_Desk_count_28
  · have hf := sd_t hf hc
    refine lv_aload_n hx hb d_Desk_count_4 rfl (lv_at hl 0 rfl) ?_
    refine va_get (D := D) (ci := 0) (v := .ref (q 6)) (C := "ScriptDesk") (T := T_Desk) (N := 10) hx hb hts iw_Desk hown hK hI.1 0 rfl rfl 5 (by decide) (hts _ tw_144) (fun _ h9 => h9) rfl d_Desk_count_5 ?_
    refine va_get (D := D) (ci := 2) (v := .int (μ.1 6 0)) (C := "ScriptDesk$Tally") (T := T_Tally) (N := 1) hx hb hts iw_Tally hown hK hI.1 6 rfl rfl 0 (by decide) (hts _ tw_56) (fun _ h9 => h9) rfl d_Desk_count_8 ?_
    exact k_reti X hI (vp_nar_int _) hf d_Desk_count_11
