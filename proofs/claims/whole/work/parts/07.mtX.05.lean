set_option maxHeartbeats 4000000 in
set_option maxRecDepth 100000 in
theorem mt_Moves_pick_r2 (l : Launch) {D : va_G} {q tq : Nat → Nat} {cA : ClassId} {a1 : Int32} {μ : sd_Me} {ru : Int32 × sd_Me} (hf : fn_Moves_pick_r2 a1 μ = some ru) : sd_CTi l y_Moves_pick w_Moves_pick ({ frames := 3, cells := 0, slots := 0, locals := 81 }) vwCl (wdX q cA) D [(cA, .int)] (ZX tq) .int [.ref (q 2), .int a1] μ ru := by
  refine k_enti (cc := prog_5_method_4_code) 5 (by decide) rfl (Nat.le_of_ble_eq_true rfl) ?_
  intro p e s m below meth c A ls X hI hl
  have hl : lv_has ls 5 [(0, .ref (q 2)), (1, .int a1)] := hl
  obtain ⟨hx, hb, hml, hown, hts, hK, hZ, hA, hr, hlocks⟩ := id X
  unfold fn_Moves_pick_r2 at hf
  refine lv_aload_n hx hb d_Moves_pick_0 rfl (lv_at hl 0 rfl) ?_
  refine lv_iconst (v := 0) hx hb d_Moves_pick_1 (by decide) ?_
  obtain ⟨x2, m1, hq, hf⟩ := sd_bi_e hf
  refine k_callV (As := [.int (0 : Int32)]) (rest := []) (C := "ScriptDesk$Elements") (ci := 1) ZX_ok X hI (mt_Elements_faultOfNumber_r2 l hq) (cwV 1 hts (gd_V tw_294 tw_295 tw_296 tw_2 tw_297) rfl rfl rfl (by decide +kernel) ⟨Nat.le_of_ble_eq_true rfl, Nat.le_of_ble_eq_true rfl⟩) 2 rfl rfl rfl hl.1 rfl (Nat.le_of_ble_eq_true rfl) d_Moves_pick_2 ⟨Nat.zero_le _, Nat.zero_le _⟩ (fun H locs hn_x2 hI => ?_)
  refine lv_istore_n (lv' := [(2, .int x2), (0, .ref (q 2)), (1, .int a1)]) hx hb d_Moves_pick_5 rfl hl (by decide) rfl (fun ls hl => ?_)
  refine lv_iload_n hx hb d_Moves_pick_6 rfl (lv_at hl 0 rfl) ?_
  refine lv_if_eq (tgt := 12) hx hb d_Moves_pick_7 (by decide) (fun hc => ?_) (fun hc => ?_)
  · have hf := sd_t hf hc
    refine lv_aload_n hx hb d_Moves_pick_12 rfl (lv_at hl 1 rfl) ?_
    refine lv_iconst (v := 0) hx hb d_Moves_pick_13 (by decide) ?_
    obtain ⟨x4, m3, hq, hf⟩ := sd_bl_e hf
    refine k_callVl (As := [.int (0 : Int32)]) (rest := []) (C := "ScriptDesk$Elements") (ci := 1) ZX_ok X hI (mt_Elements_numberAt_r2 l hq) (cwV 1 hts (gd_V tw_298 tw_299 tw_300 tw_2 tw_301) rfl rfl rfl (by decide +kernel) ⟨Nat.le_of_ble_eq_true rfl, Nat.le_of_ble_eq_true rfl⟩) 2 rfl rfl rfl hl.1 rfl (Nat.le_of_ble_eq_true rfl) d_Moves_pick_14 ⟨Nat.zero_le _, Nat.zero_le _⟩ (fun H locs hI => ?_)
    refine lv_lstore_n (lv' := [(3, .long x4), (2, .int x2), (0, .ref (q 2)), (1, .int a1)]) hx hb d_Moves_pick_17 rfl hl (by decide) rfl (fun ls hl => ?_)
    refine lv_lload_n hx hb d_Moves_pick_18 rfl (lv_at hl 0 rfl) ?_
    refine lv_lconst (v := 0) hx hb d_Moves_pick_19 (by decide) ?_
    refine W.lcmp hx hb d_Moves_pick_20 ?_
    refine lv_if_lt (tgt := 36) hx hb d_Moves_pick_21 (by decide) (fun hc => ?_) (fun hc => ?_)
    · have hf := sd_t hf hc
      refine lv_bipush (v := 7) hx hb d_Moves_pick_36 (by decide) ?_
      exact k_reti X hI (vp_nar_int _) hf d_Moves_pick_38
    · have hf := sd_f hf hc
      refine lv_lload_n hx hb d_Moves_pick_24 rfl (lv_at hl 0 rfl) ?_
      refine lv_aload_n hx hb d_Moves_pick_25 rfl (lv_at hl 2 rfl) ?_
      refine va_get (D := D) (ci := 1) (v := .int (m3.1 2 4)) (C := "ScriptDesk$Elements") (T := T_Elements) (N := 5) hx hb hts iw_Elements hown hK hI.1 2 rfl rfl 4 (by decide) (hts _ tw_34) (fun _ h9 => h9) rfl d_Moves_pick_26 ?_
      refine lv_iconst (v := 1) hx hb d_Moves_pick_29 (by decide) ?_
      refine lv_isub hx hb d_Moves_pick_30 ?_
      refine lv_i2l (v := (Int32.toInt64 ((m3.1 2 4) - (1 : Int32)))) hx hb d_Moves_pick_31 rfl ?_
      refine W.lcmp hx hb d_Moves_pick_32 ?_
      refine lv_if_lt (tgt := 39) hx hb d_Moves_pick_33 (by decide) (fun hc => ?_) (fun hc => ?_)
      · have hf := sd_t hf hc
        refine lv_aload_n hx hb d_Moves_pick_39 rfl (lv_at hl 2 rfl) ?_
        refine lv_iconst (v := 1) hx hb d_Moves_pick_40 (by decide) ?_
        obtain ⟨m5, hq, hf⟩ := sd_bv_e hf
        refine k_callVv (As := [.int (1 : Int32)]) (rest := []) (C := "ScriptDesk$Elements") (ci := 1) ZX_ok X hI (mt_Elements_drop_r2 l hq) (cwV 1 hts (gd_V tw_303 tw_235 tw_236 tw_2 tw_237) rfl rfl rfl (by decide +kernel) ⟨Nat.le_of_ble_eq_true rfl, Nat.le_of_ble_eq_true rfl⟩) 2 rfl rfl rfl hl.1 rfl (Nat.le_of_ble_eq_true rfl) d_Moves_pick_41 ⟨Nat.zero_le _, Nat.zero_le _⟩ (fun H locs hI => ?_)
        refine lv_iload_n hx hb d_Moves_pick_44 rfl (lv_at hl 3 rfl) ?_
        refine lv_if_eq (tgt := 57) hx hb d_Moves_pick_45 (by decide) (fun hc => ?_) (fun hc => ?_)
        · have hf := sd_t hf hc
          refine lv_aload_n hx hb d_Moves_pick_57 rfl (lv_at hl 2 rfl) ?_
          refine lv_lload_n hx hb d_Moves_pick_58 rfl (lv_at hl 0 rfl) ?_
          refine lv_l2i (v := (Int64.toInt32 x4)) hx hb d_Moves_pick_59 rfl ?_
          obtain ⟨m6, hq, hf⟩ := sd_bv_e hf
          refine k_callVv (As := [.int (Int64.toInt32 x4)]) (rest := []) (C := "ScriptDesk$Elements") (ci := 1) ZX_ok X hI (mt_Elements_pushCopy_r2 l hq) (cwV 1 hts (gd_V tw_308 tw_309 tw_310 tw_2 tw_311) rfl rfl rfl (by decide +kernel) ⟨Nat.le_of_ble_eq_true rfl, Nat.le_of_ble_eq_true rfl⟩) 2 rfl rfl rfl hl.1 rfl (Nat.le_of_ble_eq_true rfl) d_Moves_pick_60 ⟨Nat.zero_le _, Nat.zero_le _⟩ (fun H locs hI => ?_)
          refine lv_iconst (v := 0) hx hb d_Moves_pick_63 (by decide) ?_
          exact k_reti X hI (vp_nar_int _) hf d_Moves_pick_64
        · have hf := sd_f hf hc
          refine lv_aload_n hx hb d_Moves_pick_48 rfl (lv_at hl 2 rfl) ?_
          refine lv_lload_n hx hb d_Moves_pick_49 rfl (lv_at hl 0 rfl) ?_
          refine lv_l2i (v := (Int64.toInt32 x4)) hx hb d_Moves_pick_50 rfl ?_
          obtain ⟨m7, hq, hf⟩ := sd_bv_e hf
          refine k_callVv (As := [.int (Int64.toInt32 x4)]) (rest := []) (C := "ScriptDesk$Elements") (ci := 1) ZX_ok X hI (mt_Elements_lift_r2 l hq) (cwV 1 hts (gd_V tw_304 tw_305 tw_306 tw_2 tw_307) rfl rfl rfl (by decide +kernel) ⟨Nat.le_of_ble_eq_true rfl, Nat.le_of_ble_eq_true rfl⟩) 2 rfl rfl rfl hl.1 rfl (Nat.le_of_ble_eq_true rfl) d_Moves_pick_51 ⟨Nat.zero_le _, Nat.zero_le _⟩ (fun H locs hI => ?_)
          refine lv_goto (tgt := 63) hx hb d_Moves_pick_54 (by decide) ?_
          refine lv_iconst (v := 0) hx hb d_Moves_pick_63 (by decide) ?_
          exact k_reti X hI (vp_nar_int _) hf d_Moves_pick_64
      · have hf := sd_f hf hc
        refine lv_bipush (v := 7) hx hb d_Moves_pick_36 (by decide) ?_
        exact k_reti X hI (vp_nar_int _) hf d_Moves_pick_38
  · have hf := sd_f hf hc
    refine lv_iload_n hx hb d_Moves_pick_10 rfl (lv_at hl 0 rfl) ?_
    exact k_reti X hI (vp_nar_int _) hf d_Moves_pick_11
set_option maxHeartbeats 4000000 in
set_option maxRecDepth 100000 in
theorem mt_Moves_operandsOf (l : Launch) {D : va_G} {q tq : Nat → Nat} {cA : ClassId} {a0 : Int32} {μ : sd_Me} {ru : Int32 × sd_Me} (hf : fn_Moves_operandsOf a0 μ = some ru) : sd_CTi l y_Moves_operandsOf w_Moves_operandsOf ({ frames := 0, cells := 0, slots := 0, locals := 0 }) vwCl (wdX q cA) D [(cA, .int)] (ZX tq) .int [.int a0] μ ru := by
  refine k_enti (cc := prog_5_method_3_code) 1 (by decide) rfl (Nat.le_of_ble_eq_true rfl) ?_
  intro p e s m below meth c A ls X hI hl
  have hl : lv_has ls 1 [(0, .int a0)] := hl
  obtain ⟨hx, hb, hml, hown, hts, hK, hZ, hA, hr, hlocks⟩ := id X
  unfold fn_Moves_operandsOf at hf
  refine lv_iload_n hx hb d_Moves_operandsOf_0 rfl (lv_at hl 0 rfl) ?_
  by_cases hc109 : a0 = (109 : Int32)
  · have hf := sd_t hf hc109
    refine k_tbl (off := 131) (tgt := 132) hx hb d_Moves_operandsOf_1 (by decide) (by rw [hc109]; decide) (by decide) ?_
    refine lv_iconst (v := 2) hx hb d_Moves_operandsOf_132 (by decide) ?_
    exact k_reti X hI (vp_nar_int _) hf d_Moves_operandsOf_133
  · have hf := sd_f hf hc109
    by_cases hc110 : a0 = (110 : Int32)
    · have hf := sd_t hf hc110
      refine k_tbl (off := 131) (tgt := 132) hx hb d_Moves_operandsOf_1 (by decide) (by rw [hc110]; decide) (by decide) ?_
      refine lv_iconst (v := 2) hx hb d_Moves_operandsOf_132 (by decide) ?_
      exact k_reti X hI (vp_nar_int _) hf d_Moves_operandsOf_133
    · have hf := sd_f hf hc110
      by_cases hc111 : a0 = (111 : Int32)
      · have hf := sd_t hf hc111
        refine k_tbl (off := 133) (tgt := 134) hx hb d_Moves_operandsOf_1 (by decide) (by rw [hc111]; decide) (by decide) ?_
        refine lv_iconst (v := 3) hx hb d_Moves_operandsOf_134 (by decide) ?_
        exact k_reti X hI (vp_nar_int _) hf d_Moves_operandsOf_135
      · have hf := sd_f hf hc111
        by_cases hc112 : a0 = (112 : Int32)
        · have hf := sd_t hf hc112
          refine k_tbl (off := 135) (tgt := 136) hx hb d_Moves_operandsOf_1 (by decide) (by rw [hc112]; decide) (by decide) ?_
          refine lv_iconst (v := 4) hx hb d_Moves_operandsOf_136 (by decide) ?_
          exact k_reti X hI (vp_nar_int _) hf d_Moves_operandsOf_137
        · have hf := sd_f hf hc112
          by_cases hc113 : a0 = (113 : Int32)
          · have hf := sd_t hf hc113
            refine k_tbl (off := 137) (tgt := 138) hx hb d_Moves_operandsOf_1 (by decide) (by rw [hc113]; decide) (by decide) ?_
            refine lv_bipush (v := 6) hx hb d_Moves_operandsOf_138 (by decide) ?_
            exact k_reti X hI (vp_nar_int _) hf d_Moves_operandsOf_140
          · have hf := sd_f hf hc113
            by_cases hc114 : a0 = (114 : Int32)
            · have hf := sd_t hf hc114
              refine k_tbl (off := 135) (tgt := 136) hx hb d_Moves_operandsOf_1 (by decide) (by rw [hc114]; decide) (by decide) ?_
              refine lv_iconst (v := 4) hx hb d_Moves_operandsOf_136 (by decide) ?_
              exact k_reti X hI (vp_nar_int _) hf d_Moves_operandsOf_137
            · have hf := sd_f hf hc114
              by_cases hc115 : a0 = (115 : Int32)
              · have hf := sd_t hf hc115
                refine k_tbl (off := 129) (tgt := 130) hx hb d_Moves_operandsOf_1 (by decide) (by rw [hc115]; decide) (by decide) ?_
                refine lv_iconst (v := 1) hx hb d_Moves_operandsOf_130 (by decide) ?_
                exact k_reti X hI (vp_nar_int _) hf d_Moves_operandsOf_131
              · have hf := sd_f hf hc115
                by_cases hc116 : a0 = (116 : Int32)
                · have hf := sd_t hf hc116
                  refine k_tbl (off := 127) (tgt := 128) hx hb d_Moves_operandsOf_1 (by decide) (by rw [hc116]; decide) (by decide) ?_
                  refine lv_iconst (v := 0) hx hb d_Moves_operandsOf_128 (by decide) ?_
                  exact k_reti X hI (vp_nar_int _) hf d_Moves_operandsOf_129
                · have hf := sd_f hf hc116
                  by_cases hc117 : a0 = (117 : Int32)
                  · have hf := sd_t hf hc117
                    refine k_tbl (off := 129) (tgt := 130) hx hb d_Moves_operandsOf_1 (by decide) (by rw [hc117]; decide) (by decide) ?_
                    refine lv_iconst (v := 1) hx hb d_Moves_operandsOf_130 (by decide) ?_
                    exact k_reti X hI (vp_nar_int _) hf d_Moves_operandsOf_131
                  · have hf := sd_f hf hc117
                    by_cases hc118 : a0 = (118 : Int32)
                    · have hf := sd_t hf hc118
                      refine k_tbl (off := 129) (tgt := 130) hx hb d_Moves_operandsOf_1 (by decide) (by rw [hc118]; decide) (by decide) ?_
                      refine lv_iconst (v := 1) hx hb d_Moves_operandsOf_130 (by decide) ?_
                      exact k_reti X hI (vp_nar_int _) hf d_Moves_operandsOf_131
                    · have hf := sd_f hf hc118
                      by_cases hc119 : a0 = (119 : Int32)
                      · have hf := sd_t hf hc119
                        refine k_tbl (off := 131) (tgt := 132) hx hb d_Moves_operandsOf_1 (by decide) (by rw [hc119]; decide) (by decide) ?_
                        refine lv_iconst (v := 2) hx hb d_Moves_operandsOf_132 (by decide) ?_
                        exact k_reti X hI (vp_nar_int _) hf d_Moves_operandsOf_133
                      · have hf := sd_f hf hc119
                        by_cases hc120 : a0 = (120 : Int32)
                        · have hf := sd_t hf hc120
                          refine k_tbl (off := 131) (tgt := 132) hx hb d_Moves_operandsOf_1 (by decide) (by rw [hc120]; decide) (by decide) ?_
                          refine lv_iconst (v := 2) hx hb d_Moves_operandsOf_132 (by decide) ?_
                          exact k_reti X hI (vp_nar_int _) hf d_Moves_operandsOf_133
                        · have hf := sd_f hf hc120
                          by_cases hc123 : a0 = (123 : Int32)
                          · have hf := sd_t hf hc123
                            refine k_tbl (off := 133) (tgt := 134) hx hb d_Moves_operandsOf_1 (by decide) (by rw [hc123]; decide) (by decide) ?_
                            refine lv_iconst (v := 3) hx hb d_Moves_operandsOf_134 (by decide) ?_
                            exact k_reti X hI (vp_nar_int _) hf d_Moves_operandsOf_135
                          · have hf := sd_f hf hc123
                            by_cases hc124 : a0 = (124 : Int32)
                            · have hf := sd_t hf hc124
                              refine k_tbl (off := 131) (tgt := 132) hx hb d_Moves_operandsOf_1 (by decide) (by rw [hc124]; decide) (by decide) ?_
                              refine lv_iconst (v := 2) hx hb d_Moves_operandsOf_132 (by decide) ?_
                              exact k_reti X hI (vp_nar_int _) hf d_Moves_operandsOf_133
                            · have hf := sd_f hf hc124
                              by_cases hc125 : a0 = (125 : Int32)
                              · have hf := sd_t hf hc125
                                refine k_tbl (off := 131) (tgt := 132) hx hb d_Moves_operandsOf_1 (by decide) (by rw [hc125]; decide) (by decide) ?_
                                refine lv_iconst (v := 2) hx hb d_Moves_operandsOf_132 (by decide) ?_
                                exact k_reti X hI (vp_nar_int _) hf d_Moves_operandsOf_133
                              · have hf := sd_f hf hc125
                                by_cases hc130 : a0 = (130 : Int32)
                                · have hf := sd_t hf hc130
                                  refine k_tbl (off := 129) (tgt := 130) hx hb d_Moves_operandsOf_1 (by decide) (by rw [hc130]; decide) (by decide) ?_
                                  refine lv_iconst (v := 1) hx hb d_Moves_operandsOf_130 (by decide) ?_
                                  exact k_reti X hI (vp_nar_int _) hf d_Moves_operandsOf_131
                                · have hf := sd_f hf hc130
                                  by_cases hc135 : a0 = (135 : Int32)
                                  · have hf := sd_t hf hc135
                                    refine k_tbl (off := 131) (tgt := 132) hx hb d_Moves_operandsOf_1 (by decide) (by rw [hc135]; decide) (by decide) ?_
                                    refine lv_iconst (v := 2) hx hb d_Moves_operandsOf_132 (by decide) ?_
                                    exact k_reti X hI (vp_nar_int _) hf d_Moves_operandsOf_133
                                  · have hf := sd_f hf hc135
                                    by_cases hc136 : a0 = (136 : Int32)
                                    · have hf := sd_t hf hc136
                                      refine k_tbl (off := 131) (tgt := 132) hx hb d_Moves_operandsOf_1 (by decide) (by rw [hc136]; decide) (by decide) ?_
                                      refine lv_iconst (v := 2) hx hb d_Moves_operandsOf_132 (by decide) ?_
                                      exact k_reti X hI (vp_nar_int _) hf d_Moves_operandsOf_133
                                    · have hf := sd_f hf hc136
                                      refine k_tbl (off := 140) (tgt := 141) hx hb d_Moves_operandsOf_1 (by decide) (k_tbld [(109 : Int32), (110 : Int32), (111 : Int32), (112 : Int32), (113 : Int32), (114 : Int32), (115 : Int32), (116 : Int32), (117 : Int32), (118 : Int32), (119 : Int32), (120 : Int32), (123 : Int32), (124 : Int32), (125 : Int32), (130 : Int32), (135 : Int32), (136 : Int32)] (by decide) (by
                                          intro k hk
                                          simp only [List.mem_cons, List.not_mem_nil, or_false] at hk
                                          rcases hk with rfl | rfl | rfl | rfl | rfl | rfl | rfl | rfl | rfl | rfl | rfl | rfl | rfl | rfl | rfl | rfl | rfl | rfl
                                          · exact hc109
                                          · exact hc110
                                          · exact hc111
                                          · exact hc112
                                          · exact hc113
                                          · exact hc114
                                          · exact hc115
                                          · exact hc116
                                          · exact hc117
                                          · exact hc118
                                          · exact hc119
                                          · exact hc120
                                          · exact hc123
                                          · exact hc124
                                          · exact hc125
                                          · exact hc130
                                          · exact hc135
                                          · exact hc136
                                          )) (by decide) ?_
                                      refine lv_iconst (v := -1) hx hb d_Moves_operandsOf_141 (by decide) ?_
                                      exact k_reti X hI (vp_nar_int _) hf d_Moves_operandsOf_142
set_option maxHeartbeats 4000000 in
set_option maxRecDepth 100000 in
theorem lp_Elements_pushCopies_r2_L2 (l : Launch) {p : Program} {e : Env} {s : State} {m : MethodId} {args : Array Value} {below : List Frame} {meth : Method} {c : Code} {A : Nat → Prop} {D : va_G} {q tq : Nat → Nat} {cA : ClassId} {ru : sd_Me} (X : sd_Cx p s m args meth c prog_3_method_13_code "ScriptDesk$Elements" sx_tbl 4 none vwCl D [(cA, .int)] (ZX tq) A) {k18 : sd_Me → Option (sd_Me)} (hk18 : ∀ (μ : sd_Me) (H : Heap) (locs : List Loc) (ls : Array Slot), sd_CI vwCl (wdX q cA) D A s H locs μ → lv_has ls 4 [] → k18 μ = some ru → W p l e ({ frames := 3, cells := 0, slots := 0, locals := 81 }) s m args below meth c H locs 0 0 (sd_QV below vwCl (wdX q cA) D [(cA, .int)] A args s ru) (F0 m 18 ls [])) :
    ∀ (n : Nat) (v1 : Int32) (v2 : Int32) (v3 : Int32) (μ : sd_Me) (H : Heap) (locs : List Loc) (ls : Array Slot), sd_CI vwCl (wdX q cA) D A s H locs μ → lv_has ls 4 [(0, .ref (q 2)), (1, .int v1), (2, .int v2), (3, .int v3)] → fn_Elements_pushCopies_r2_L2 k18 n v1 v2 v3 μ = some ru → W p l e ({ frames := 3, cells := 0, slots := 0, locals := 81 }) s m args below meth c H locs 0 0 (sd_QV below vwCl (wdX q cA) D [(cA, .int)] A args s ru) (F0 m 2 ls []) := by
  obtain ⟨hx, hb, hml, hown, hts, hK, hZ, hA, hr, hlocks⟩ := id X
  intro n
  induction n with
  | zero =>
    intro v1 v2 v3 μ H locs ls hI hl hf
    cases hf
  | succ n ih =>
    intro v1 v2 v3 μ H locs ls hI hl hf
    rw [fn_Elements_pushCopies_r2_L2] at hf
    refine lv_iload_n hx hb d_Elements_pushCopies_2 rfl (lv_at hl 3 rfl) ?_
    refine lv_iload_n hx hb d_Elements_pushCopies_3 rfl (lv_at hl 2 rfl) ?_
    refine lv_icmp_ge (tgt := 18) hx hb d_Elements_pushCopies_4 (by decide) (fun hc => ?_) (fun hc => ?_)
    · have hf := sd_t hf hc
      exact hk18  μ _ _ _ hI (lv_sub hl [] rfl) hf
    · have hf := sd_f hf hc
      refine lv_aload_n hx hb d_Elements_pushCopies_7 rfl (lv_at hl 0 rfl) ?_
      refine lv_iload_n hx hb d_Elements_pushCopies_8 rfl (lv_at hl 1 rfl) ?_
      obtain ⟨m1, hq, hf⟩ := sd_bv_e hf
      refine k_callVv (As := [.int v1]) (rest := []) (C := "ScriptDesk$Elements") (ci := 1) ZX_ok X hI (mt_Elements_pushCopy_r2 l hq) (cwV 1 hts (gd_V tw_338 tw_309 tw_310 tw_2 tw_311) rfl rfl rfl (by decide +kernel) ⟨Nat.le_of_ble_eq_true rfl, Nat.le_of_ble_eq_true rfl⟩) 2 rfl rfl rfl hl.1 rfl (Nat.le_of_ble_eq_true rfl) d_Elements_pushCopies_9 ⟨Nat.zero_le _, Nat.zero_le _⟩ (fun H locs hI => ?_)
      refine lv_iinc (v := (v3 + (1 : Int32))) (lv' := [(3, .int (v3 + (1 : Int32))), (0, .ref (q 2)), (1, .int v1), (2, .int v2)]) hx hb d_Elements_pushCopies_12 hl (k := 3) rfl rfl (by decide) rfl (fun ls hl => ?_)
      refine lv_goto (tgt := 2) hx hb d_Elements_pushCopies_15 (by decide) ?_
      exact ih (v1) (v2) ((v3 + (1 : Int32))) m1 _ _ _ hI (lv_sub hl [1, 2, 3, 0] rfl) hf
set_option maxHeartbeats 4000000 in
set_option maxRecDepth 100000 in
theorem mt_Elements_pushCopies_r2 (l : Launch) {D : va_G} {q tq : Nat → Nat} {cA : ClassId} {a1 : Int32} {a2 : Int32} {μ : sd_Me} {ru : sd_Me} (hf : fn_Elements_pushCopies_r2 a1 a2 μ = some ru) : sd_CTv l y_Elements_pushCopies w_Elements_pushCopies ({ frames := 3, cells := 0, slots := 0, locals := 81 }) vwCl (wdX q cA) D [(cA, .int)] (ZX tq) [.ref (q 2), .int a1, .int a2] μ ru := by
  refine k_entv (cc := prog_3_method_13_code) 4 (by decide) rfl (Nat.le_of_ble_eq_true rfl) ?_
  intro p e s m below meth c A ls X hI hl
  have hl : lv_has ls 4 [(0, .ref (q 2)), (1, .int a1), (2, .int a2)] := hl
  obtain ⟨hx, hb, hml, hown, hts, hK, hZ, hA, hr, hlocks⟩ := id X
  unfold fn_Elements_pushCopies_r2 at hf
  refine lv_iconst (v := 0) hx hb d_Elements_pushCopies_0 (by decide) ?_
  refine lv_istore_n (lv' := [(3, .int (0 : Int32)), (0, .ref (q 2)), (1, .int a1), (2, .int a2)]) hx hb d_Elements_pushCopies_1 rfl hl (by decide) rfl (fun ls hl => ?_)
  refine lp_Elements_pushCopies_r2_L2 l X ?_ 10000 (a1) (a2) ((0 : Int32)) μ _ _ _ hI (lv_sub hl [1, 2, 3, 0] rfl) hf
  · intro m2 H locs ls hI hl hf
    exact k_retv X hI hf d_Elements_pushCopies_18
set_option maxHeartbeats 4000000 in
set_option maxRecDepth 100000 in
theorem mt_Moves_moveSingles_r2 (l : Launch) {D : va_G} {q tq : Nat → Nat} {cA : ClassId} {a1 : Int32} {μ : sd_Me} {ru : sd_Me} (hf : fn_Moves_moveSingles_r2 a1 μ = some ru) : sd_CTv l y_Moves_moveSingles w_Moves_moveSingles ({ frames := 4, cells := 0, slots := 0, locals := 104 }) vwCl (wdX q cA) D [(cA, .int)] (ZX tq) [.ref (q 2), .int a1] μ ru := by
  refine k_entv (cc := prog_5_method_6_code) 2 (by decide) rfl (Nat.le_of_ble_eq_true rfl) ?_
  intro p e s m below meth c A ls X hI hl
  have hl : lv_has ls 2 [(0, .ref (q 2)), (1, .int a1)] := hl
  obtain ⟨hx, hb, hml, hown, hts, hK, hZ, hA, hr, hlocks⟩ := id X
  unfold fn_Moves_moveSingles_r2 at hf
  refine lv_iload_n hx hb d_Moves_moveSingles_0 rfl (lv_at hl 1 rfl) ?_
  by_cases hc115 : a1 = (115 : Int32)
  · have hf := sd_t hf hc115
    refine k_tbl (off := 55) (tgt := 56) hx hb d_Moves_moveSingles_1 (by decide) (by rw [hc115]; decide) (by decide) ?_
    refine lv_aload_n hx hb d_Moves_moveSingles_56 rfl (lv_at hl 0 rfl) ?_
    refine lv_iconst (v := 0) hx hb d_Moves_moveSingles_57 (by decide) ?_
    refine lv_aload_n hx hb d_Moves_moveSingles_58 rfl (lv_at hl 0 rfl) ?_
    obtain ⟨x2, m1, hq, hf⟩ := sd_bi_e hf
    refine k_callV (As := []) (rest := [.int (0 : Int32), .ref (q 2)]) (C := "ScriptDesk$Elements") (ci := 1) ZX_ok X hI (mt_Elements_topHolds_r2 l hq) (cwV 0 hts (gd_V tw_342 tw_223 tw_224 tw_2 tw_225) rfl rfl rfl (by decide +kernel) ⟨Nat.le_of_ble_eq_true rfl, Nat.le_of_ble_eq_true rfl⟩) 2 rfl rfl rfl hl.1 rfl (Nat.le_of_ble_eq_true rfl) d_Moves_moveSingles_59 ⟨Nat.zero_le _, Nat.zero_le _⟩ (fun H locs hn_x2 hI => ?_)
    refine lv_if_eq (tgt := 69) hx hb d_Moves_moveSingles_62 (by decide) (fun hc => ?_) (fun hc => ?_)
    · have hf := sd_t hf hc
      refine lv_iconst (v := 0) hx hb d_Moves_moveSingles_69 (by decide) ?_
      obtain ⟨m3, hq, hf⟩ := sd_bv_e hf
      refine k_callVv (As := [.int (0 : Int32), .int (0 : Int32)]) (rest := []) (C := "ScriptDesk$Elements") (ci := 1) ZX_ok X hI (mt_Elements_pushCopies_r2 l hq) (cwV 2 hts (gd_V tw_334 tw_335 tw_336 tw_2 tw_337) rfl rfl rfl (by decide +kernel) ⟨Nat.le_of_ble_eq_true rfl, Nat.le_of_ble_eq_true rfl⟩) 2 rfl rfl rfl hl.1 rfl (Nat.le_of_ble_eq_true rfl) d_Moves_moveSingles_70 ⟨Nat.zero_le _, Nat.zero_le _⟩ (fun H locs hI => ?_)
      refine lv_goto (tgt := 151) hx hb d_Moves_moveSingles_73 (by decide) ?_
      exact k_retv X hI hf d_Moves_moveSingles_151
    · have hf := sd_f hf hc
      refine lv_iconst (v := 1) hx hb d_Moves_moveSingles_65 (by decide) ?_
      refine lv_goto (tgt := 70) hx hb d_Moves_moveSingles_66 (by decide) ?_
      obtain ⟨m4, hq, hf⟩ := sd_bv_e hf
      refine k_callVv (As := [.int (0 : Int32), .int (1 : Int32)]) (rest := []) (C := "ScriptDesk$Elements") (ci := 1) ZX_ok X hI (mt_Elements_pushCopies_r2 l hq) (cwV 2 hts (gd_V tw_334 tw_335 tw_336 tw_2 tw_337) rfl rfl rfl (by decide +kernel) ⟨Nat.le_of_ble_eq_true rfl, Nat.le_of_ble_eq_true rfl⟩) 2 rfl rfl rfl hl.1 rfl (Nat.le_of_ble_eq_true rfl) d_Moves_moveSingles_70 ⟨Nat.zero_le _, Nat.zero_le _⟩ (fun H locs hI => ?_)
      refine lv_goto (tgt := 151) hx hb d_Moves_moveSingles_73 (by decide) ?_
      exact k_retv X hI hf d_Moves_moveSingles_151
  · have hf := sd_f hf hc115
    by_cases hc116 : a1 = (116 : Int32)
    · have hf := sd_t hf hc116
      refine k_tbl (off := 75) (tgt := 76) hx hb d_Moves_moveSingles_1 (by decide) (by rw [hc116]; decide) (by decide) ?_
      refine lv_aload_n hx hb d_Moves_moveSingles_76 rfl (lv_at hl 0 rfl) ?_
      refine lv_aload_n hx hb d_Moves_moveSingles_77 rfl (lv_at hl 0 rfl) ?_
      refine va_get (D := D) (ci := 1) (v := .int (μ.1 2 4)) (C := "ScriptDesk$Elements") (T := T_Elements) (N := 5) hx hb hts iw_Elements hown hK hI.1 2 rfl rfl 4 (by decide) (hts _ tw_34) (fun _ h9 => h9) rfl d_Moves_moveSingles_78 ?_
      refine lv_i2l (v := (Int32.toInt64 (μ.1 2 4))) hx hb d_Moves_moveSingles_81 rfl ?_
      obtain ⟨m5, hq, hf⟩ := sd_bv_e hf
      refine k_callVv (As := [.long (Int32.toInt64 (μ.1 2 4))]) (rest := []) (C := "ScriptDesk$Elements") (ci := 1) ZX_ok X hI (mt_Elements_pushNumber_r2 l hq) (cwV 1 hts (gd_V tw_320 tw_262 tw_263 tw_2 tw_264) rfl rfl rfl (by decide +kernel) ⟨Nat.le_of_ble_eq_true rfl, Nat.le_of_ble_eq_true rfl⟩) 2 rfl rfl rfl hl.1 rfl (Nat.le_of_ble_eq_true rfl) d_Moves_moveSingles_82 ⟨Nat.zero_le _, Nat.zero_le _⟩ (fun H locs hI => ?_)
      refine lv_goto (tgt := 151) hx hb d_Moves_moveSingles_85 (by decide) ?_
      exact k_retv X hI hf d_Moves_moveSingles_151
    · have hf := sd_f hf hc116
      by_cases hc117 : a1 = (117 : Int32)
      · have hf := sd_t hf hc117
        refine k_tbl (off := 87) (tgt := 88) hx hb d_Moves_moveSingles_1 (by decide) (by rw [hc117]; decide) (by decide) ?_
        refine lv_aload_n hx hb d_Moves_moveSingles_88 rfl (lv_at hl 0 rfl) ?_
        refine lv_iconst (v := 1) hx hb d_Moves_moveSingles_89 (by decide) ?_
        obtain ⟨m6, hq, hf⟩ := sd_bv_e hf
        refine k_callVv (As := [.int (1 : Int32)]) (rest := []) (C := "ScriptDesk$Elements") (ci := 1) ZX_ok X hI (mt_Elements_drop_r2 l hq) (cwV 1 hts (gd_V tw_303 tw_235 tw_236 tw_2 tw_237) rfl rfl rfl (by decide +kernel) ⟨Nat.le_of_ble_eq_true rfl, Nat.le_of_ble_eq_true rfl⟩) 2 rfl rfl rfl hl.1 rfl (Nat.le_of_ble_eq_true rfl) d_Moves_moveSingles_90 ⟨Nat.zero_le _, Nat.zero_le _⟩ (fun H locs hI => ?_)
        refine lv_goto (tgt := 151) hx hb d_Moves_moveSingles_93 (by decide) ?_
        exact k_retv X hI hf d_Moves_moveSingles_151
      · have hf := sd_f hf hc117
        by_cases hc118 : a1 = (118 : Int32)
        · have hf := sd_t hf hc118
          refine k_tbl (off := 95) (tgt := 96) hx hb d_Moves_moveSingles_1 (by decide) (by rw [hc118]; decide) (by decide) ?_
          refine lv_aload_n hx hb d_Moves_moveSingles_96 rfl (lv_at hl 0 rfl) ?_
          refine lv_iconst (v := 0) hx hb d_Moves_moveSingles_97 (by decide) ?_
          obtain ⟨m7, hq, hf⟩ := sd_bv_e hf
          refine k_callVv (As := [.int (0 : Int32)]) (rest := []) (C := "ScriptDesk$Elements") (ci := 1) ZX_ok X hI (mt_Elements_pushCopy_r2 l hq) (cwV 1 hts (gd_V tw_308 tw_309 tw_310 tw_2 tw_311) rfl rfl rfl (by decide +kernel) ⟨Nat.le_of_ble_eq_true rfl, Nat.le_of_ble_eq_true rfl⟩) 2 rfl rfl rfl hl.1 rfl (Nat.le_of_ble_eq_true rfl) d_Moves_moveSingles_98 ⟨Nat.zero_le _, Nat.zero_le _⟩ (fun H locs hI => ?_)
          refine lv_goto (tgt := 151) hx hb d_Moves_moveSingles_101 (by decide) ?_
          exact k_retv X hI hf d_Moves_moveSingles_151
        · have hf := sd_f hf hc118
          by_cases hc119 : a1 = (119 : Int32)
          · have hf := sd_t hf hc119
            refine k_tbl (off := 103) (tgt := 104) hx hb d_Moves_moveSingles_1 (by decide) (by rw [hc119]; decide) (by decide) ?_
            refine lv_aload_n hx hb d_Moves_moveSingles_104 rfl (lv_at hl 0 rfl) ?_
            refine lv_iconst (v := 1) hx hb d_Moves_moveSingles_105 (by decide) ?_
            obtain ⟨m8, hq, hf⟩ := sd_bv_e hf
            refine k_callVv (As := [.int (1 : Int32)]) (rest := []) (C := "ScriptDesk$Elements") (ci := 1) ZX_ok X hI (mt_Elements_lift_r2 l hq) (cwV 1 hts (gd_V tw_304 tw_305 tw_306 tw_2 tw_307) rfl rfl rfl (by decide +kernel) ⟨Nat.le_of_ble_eq_true rfl, Nat.le_of_ble_eq_true rfl⟩) 2 rfl rfl rfl hl.1 rfl (Nat.le_of_ble_eq_true rfl) d_Moves_moveSingles_106 ⟨Nat.zero_le _, Nat.zero_le _⟩ (fun H locs hI => ?_)
            refine lv_aload_n hx hb d_Moves_moveSingles_109 rfl (lv_at hl 0 rfl) ?_
            refine lv_iconst (v := 1) hx hb d_Moves_moveSingles_110 (by decide) ?_
            obtain ⟨m9, hq, hf⟩ := sd_bv_e hf
            refine k_callVv (As := [.int (1 : Int32)]) (rest := []) (C := "ScriptDesk$Elements") (ci := 1) ZX_ok X hI (mt_Elements_drop_r2 l hq) (cwV 1 hts (gd_V tw_303 tw_235 tw_236 tw_2 tw_237) rfl rfl rfl (by decide +kernel) ⟨Nat.le_of_ble_eq_true rfl, Nat.le_of_ble_eq_true rfl⟩) 2 rfl rfl rfl hl.1 rfl (Nat.le_of_ble_eq_true rfl) d_Moves_moveSingles_111 ⟨Nat.zero_le _, Nat.zero_le _⟩ (fun H locs hI => ?_)
            refine lv_goto (tgt := 151) hx hb d_Moves_moveSingles_114 (by decide) ?_
            exact k_retv X hI hf d_Moves_moveSingles_151
          · have hf := sd_f hf hc119
            by_cases hc120 : a1 = (120 : Int32)
            · have hf := sd_t hf hc120
              refine k_tbl (off := 116) (tgt := 117) hx hb d_Moves_moveSingles_1 (by decide) (by rw [hc120]; decide) (by decide) ?_
              refine lv_aload_n hx hb d_Moves_moveSingles_117 rfl (lv_at hl 0 rfl) ?_
              refine lv_iconst (v := 1) hx hb d_Moves_moveSingles_118 (by decide) ?_
              obtain ⟨m10, hq, hf⟩ := sd_bv_e hf
              refine k_callVv (As := [.int (1 : Int32)]) (rest := []) (C := "ScriptDesk$Elements") (ci := 1) ZX_ok X hI (mt_Elements_pushCopy_r2 l hq) (cwV 1 hts (gd_V tw_308 tw_309 tw_310 tw_2 tw_311) rfl rfl rfl (by decide +kernel) ⟨Nat.le_of_ble_eq_true rfl, Nat.le_of_ble_eq_true rfl⟩) 2 rfl rfl rfl hl.1 rfl (Nat.le_of_ble_eq_true rfl) d_Moves_moveSingles_119 ⟨Nat.zero_le _, Nat.zero_le _⟩ (fun H locs hI => ?_)
              refine lv_goto (tgt := 151) hx hb d_Moves_moveSingles_122 (by decide) ?_
              exact k_retv X hI hf d_Moves_moveSingles_151
            · have hf := sd_f hf hc120
              by_cases hc123 : a1 = (123 : Int32)
              · have hf := sd_t hf hc123
                refine k_tbl (off := 124) (tgt := 125) hx hb d_Moves_moveSingles_1 (by decide) (by rw [hc123]; decide) (by decide) ?_
                refine lv_aload_n hx hb d_Moves_moveSingles_125 rfl (lv_at hl 0 rfl) ?_
                refine lv_iconst (v := 2) hx hb d_Moves_moveSingles_126 (by decide) ?_
                obtain ⟨m11, hq, hf⟩ := sd_bv_e hf
                refine k_callVv (As := [.int (2 : Int32)]) (rest := []) (C := "ScriptDesk$Elements") (ci := 1) ZX_ok X hI (mt_Elements_lift_r2 l hq) (cwV 1 hts (gd_V tw_304 tw_305 tw_306 tw_2 tw_307) rfl rfl rfl (by decide +kernel) ⟨Nat.le_of_ble_eq_true rfl, Nat.le_of_ble_eq_true rfl⟩) 2 rfl rfl rfl hl.1 rfl (Nat.le_of_ble_eq_true rfl) d_Moves_moveSingles_127 ⟨Nat.zero_le _, Nat.zero_le _⟩ (fun H locs hI => ?_)
                refine lv_goto (tgt := 151) hx hb d_Moves_moveSingles_130 (by decide) ?_
                exact k_retv X hI hf d_Moves_moveSingles_151
              · have hf := sd_f hf hc123
                by_cases hc124 : a1 = (124 : Int32)
                · have hf := sd_t hf hc124
                  refine k_tbl (off := 132) (tgt := 133) hx hb d_Moves_moveSingles_1 (by decide) (by rw [hc124]; decide) (by decide) ?_
                  refine lv_aload_n hx hb d_Moves_moveSingles_133 rfl (lv_at hl 0 rfl) ?_
                  refine lv_iconst (v := 1) hx hb d_Moves_moveSingles_134 (by decide) ?_
                  obtain ⟨m12, hq, hf⟩ := sd_bv_e hf
                  refine k_callVv (As := [.int (1 : Int32)]) (rest := []) (C := "ScriptDesk$Elements") (ci := 1) ZX_ok X hI (mt_Elements_lift_r2 l hq) (cwV 1 hts (gd_V tw_304 tw_305 tw_306 tw_2 tw_307) rfl rfl rfl (by decide +kernel) ⟨Nat.le_of_ble_eq_true rfl, Nat.le_of_ble_eq_true rfl⟩) 2 rfl rfl rfl hl.1 rfl (Nat.le_of_ble_eq_true rfl) d_Moves_moveSingles_135 ⟨Nat.zero_le _, Nat.zero_le _⟩ (fun H locs hI => ?_)
                  refine lv_goto (tgt := 151) hx hb d_Moves_moveSingles_138 (by decide) ?_
                  exact k_retv X hI hf d_Moves_moveSingles_151
                · have hf := sd_f hf hc124
                  refine k_tbl (off := 140) (tgt := 141) hx hb d_Moves_moveSingles_1 (by decide) (k_tbld [(115 : Int32), (116 : Int32), (117 : Int32), (118 : Int32), (119 : Int32), (120 : Int32), (123 : Int32), (124 : Int32)] (by decide) (by
                      intro k hk
                      simp only [List.mem_cons, List.not_mem_nil, or_false] at hk
                      rcases hk with rfl | rfl | rfl | rfl | rfl | rfl | rfl | rfl
                      · exact hc115
                      · exact hc116
                      · exact hc117
                      · exact hc118
                      · exact hc119
                      · exact hc120
                      · exact hc123
                      · exact hc124
                      )) (by decide) ?_
                  refine lv_aload_n hx hb d_Moves_moveSingles_141 rfl (lv_at hl 0 rfl) ?_
                  refine lv_iconst (v := 1) hx hb d_Moves_moveSingles_142 (by decide) ?_
                  obtain ⟨m13, hq, hf⟩ := sd_bv_e hf
                  refine k_callVv (As := [.int (1 : Int32)]) (rest := []) (C := "ScriptDesk$Elements") (ci := 1) ZX_ok X hI (mt_Elements_lift_r2 l hq) (cwV 1 hts (gd_V tw_304 tw_305 tw_306 tw_2 tw_307) rfl rfl rfl (by decide +kernel) ⟨Nat.le_of_ble_eq_true rfl, Nat.le_of_ble_eq_true rfl⟩) 2 rfl rfl rfl hl.1 rfl (Nat.le_of_ble_eq_true rfl) d_Moves_moveSingles_143 ⟨Nat.zero_le _, Nat.zero_le _⟩ (fun H locs hI => ?_)
                  refine lv_aload_n hx hb d_Moves_moveSingles_146 rfl (lv_at hl 0 rfl) ?_
                  refine lv_iconst (v := 1) hx hb d_Moves_moveSingles_147 (by decide) ?_
                  obtain ⟨m14, hq, hf⟩ := sd_bv_e hf
                  refine k_callVv (As := [.int (1 : Int32)]) (rest := []) (C := "ScriptDesk$Elements") (ci := 1) ZX_ok X hI (mt_Elements_pushCopy_r2 l hq) (cwV 1 hts (gd_V tw_308 tw_309 tw_310 tw_2 tw_311) rfl rfl rfl (by decide +kernel) ⟨Nat.le_of_ble_eq_true rfl, Nat.le_of_ble_eq_true rfl⟩) 2 rfl rfl rfl hl.1 rfl (Nat.le_of_ble_eq_true rfl) d_Moves_moveSingles_148 ⟨Nat.zero_le _, Nat.zero_le _⟩ (fun H locs hI => ?_)
                  exact k_retv X hI hf d_Moves_moveSingles_151
set_option maxHeartbeats 4000000 in
set_option maxRecDepth 100000 in
theorem mt_Moves_moveGroups_r2 (l : Launch) {D : va_G} {q tq : Nat → Nat} {cA : ClassId} {a1 : Int32} {μ : sd_Me} {ru : sd_Me} (hf : fn_Moves_moveGroups_r2 a1 μ = some ru) : sd_CTv l y_Moves_moveGroups w_Moves_moveGroups ({ frames := 4, cells := 0, slots := 0, locals := 104 }) vwCl (wdX q cA) D [(cA, .int)] (ZX tq) [.ref (q 2), .int a1] μ ru := by
  refine k_entv (cc := prog_5_method_5_code) 2 (by decide) rfl (Nat.le_of_ble_eq_true rfl) ?_
  intro p e s m below meth c A ls X hI hl
  have hl : lv_has ls 2 [(0, .ref (q 2)), (1, .int a1)] := hl
  obtain ⟨hx, hb, hml, hown, hts, hK, hZ, hA, hr, hlocks⟩ := id X
  unfold fn_Moves_moveGroups_r2 at hf
  refine lv_iload_n hx hb d_Moves_moveGroups_0 rfl (lv_at hl 1 rfl) ?_
  by_cases hc109 : a1 = (109 : Int32)
  · have hf := sd_t hf hc109
    refine k_tbl (off := 35) (tgt := 36) hx hb d_Moves_moveGroups_1 (by decide) (by rw [hc109]; decide) (by decide) ?_
    refine lv_aload_n hx hb d_Moves_moveGroups_36 rfl (lv_at hl 0 rfl) ?_
    refine lv_iconst (v := 2) hx hb d_Moves_moveGroups_37 (by decide) ?_
    obtain ⟨m1, hq, hf⟩ := sd_bv_e hf
    refine k_callVv (As := [.int (2 : Int32)]) (rest := []) (C := "ScriptDesk$Elements") (ci := 1) ZX_ok X hI (mt_Elements_drop_r2 l hq) (cwV 1 hts (gd_V tw_303 tw_235 tw_236 tw_2 tw_237) rfl rfl rfl (by decide +kernel) ⟨Nat.le_of_ble_eq_true rfl, Nat.le_of_ble_eq_true rfl⟩) 2 rfl rfl rfl hl.1 rfl (Nat.le_of_ble_eq_true rfl) d_Moves_moveGroups_38 ⟨Nat.zero_le _, Nat.zero_le _⟩ (fun H locs hI => ?_)
    refine lv_goto (tgt := 94) hx hb d_Moves_moveGroups_41 (by decide) ?_
    exact k_retv X hI hf d_Moves_moveGroups_94
  · have hf := sd_f hf hc109
    by_cases hc110 : a1 = (110 : Int32)
    · have hf := sd_t hf hc110
      refine k_tbl (off := 43) (tgt := 44) hx hb d_Moves_moveGroups_1 (by decide) (by rw [hc110]; decide) (by decide) ?_
      refine lv_aload_n hx hb d_Moves_moveGroups_44 rfl (lv_at hl 0 rfl) ?_
      refine lv_iconst (v := 1) hx hb d_Moves_moveGroups_45 (by decide) ?_
      refine lv_iconst (v := 2) hx hb d_Moves_moveGroups_46 (by decide) ?_
      obtain ⟨m2, hq, hf⟩ := sd_bv_e hf
      refine k_callVv (As := [.int (1 : Int32), .int (2 : Int32)]) (rest := []) (C := "ScriptDesk$Elements") (ci := 1) ZX_ok X hI (mt_Elements_pushCopies_r2 l hq) (cwV 2 hts (gd_V tw_334 tw_335 tw_336 tw_2 tw_337) rfl rfl rfl (by decide +kernel) ⟨Nat.le_of_ble_eq_true rfl, Nat.le_of_ble_eq_true rfl⟩) 2 rfl rfl rfl hl.1 rfl (Nat.le_of_ble_eq_true rfl) d_Moves_moveGroups_47 ⟨Nat.zero_le _, Nat.zero_le _⟩ (fun H locs hI => ?_)
      refine lv_goto (tgt := 94) hx hb d_Moves_moveGroups_50 (by decide) ?_
      exact k_retv X hI hf d_Moves_moveGroups_94
    · have hf := sd_f hf hc110
      by_cases hc111 : a1 = (111 : Int32)
      · have hf := sd_t hf hc111
        refine k_tbl (off := 52) (tgt := 53) hx hb d_Moves_moveGroups_1 (by decide) (by rw [hc111]; decide) (by decide) ?_
        refine lv_aload_n hx hb d_Moves_moveGroups_53 rfl (lv_at hl 0 rfl) ?_
        refine lv_iconst (v := 2) hx hb d_Moves_moveGroups_54 (by decide) ?_
        refine lv_iconst (v := 3) hx hb d_Moves_moveGroups_55 (by decide) ?_
        obtain ⟨m3, hq, hf⟩ := sd_bv_e hf
        refine k_callVv (As := [.int (2 : Int32), .int (3 : Int32)]) (rest := []) (C := "ScriptDesk$Elements") (ci := 1) ZX_ok X hI (mt_Elements_pushCopies_r2 l hq) (cwV 2 hts (gd_V tw_334 tw_335 tw_336 tw_2 tw_337) rfl rfl rfl (by decide +kernel) ⟨Nat.le_of_ble_eq_true rfl, Nat.le_of_ble_eq_true rfl⟩) 2 rfl rfl rfl hl.1 rfl (Nat.le_of_ble_eq_true rfl) d_Moves_moveGroups_56 ⟨Nat.zero_le _, Nat.zero_le _⟩ (fun H locs hI => ?_)
        refine lv_goto (tgt := 94) hx hb d_Moves_moveGroups_59 (by decide) ?_
        exact k_retv X hI hf d_Moves_moveGroups_94
      · have hf := sd_f hf hc111
        by_cases hc112 : a1 = (112 : Int32)
        · have hf := sd_t hf hc112
          refine k_tbl (off := 61) (tgt := 62) hx hb d_Moves_moveGroups_1 (by decide) (by rw [hc112]; decide) (by decide) ?_
          refine lv_aload_n hx hb d_Moves_moveGroups_62 rfl (lv_at hl 0 rfl) ?_
          refine lv_iconst (v := 3) hx hb d_Moves_moveGroups_63 (by decide) ?_
          refine lv_iconst (v := 2) hx hb d_Moves_moveGroups_64 (by decide) ?_
          obtain ⟨m4, hq, hf⟩ := sd_bv_e hf
          refine k_callVv (As := [.int (3 : Int32), .int (2 : Int32)]) (rest := []) (C := "ScriptDesk$Elements") (ci := 1) ZX_ok X hI (mt_Elements_pushCopies_r2 l hq) (cwV 2 hts (gd_V tw_334 tw_335 tw_336 tw_2 tw_337) rfl rfl rfl (by decide +kernel) ⟨Nat.le_of_ble_eq_true rfl, Nat.le_of_ble_eq_true rfl⟩) 2 rfl rfl rfl hl.1 rfl (Nat.le_of_ble_eq_true rfl) d_Moves_moveGroups_65 ⟨Nat.zero_le _, Nat.zero_le _⟩ (fun H locs hI => ?_)
          refine lv_goto (tgt := 94) hx hb d_Moves_moveGroups_68 (by decide) ?_
          exact k_retv X hI hf d_Moves_moveGroups_94
        · have hf := sd_f hf hc112
          by_cases hc113 : a1 = (113 : Int32)
          · have hf := sd_t hf hc113
            refine k_tbl (off := 70) (tgt := 71) hx hb d_Moves_moveGroups_1 (by decide) (by rw [hc113]; decide) (by decide) ?_
            refine lv_aload_n hx hb d_Moves_moveGroups_71 rfl (lv_at hl 0 rfl) ?_
            refine lv_iconst (v := 5) hx hb d_Moves_moveGroups_72 (by decide) ?_
            obtain ⟨m5, hq, hf⟩ := sd_bv_e hf
            refine k_callVv (As := [.int (5 : Int32)]) (rest := []) (C := "ScriptDesk$Elements") (ci := 1) ZX_ok X hI (mt_Elements_lift_r2 l hq) (cwV 1 hts (gd_V tw_304 tw_305 tw_306 tw_2 tw_307) rfl rfl rfl (by decide +kernel) ⟨Nat.le_of_ble_eq_true rfl, Nat.le_of_ble_eq_true rfl⟩) 2 rfl rfl rfl hl.1 rfl (Nat.le_of_ble_eq_true rfl) d_Moves_moveGroups_73 ⟨Nat.zero_le _, Nat.zero_le _⟩ (fun H locs hI => ?_)
            refine lv_aload_n hx hb d_Moves_moveGroups_76 rfl (lv_at hl 0 rfl) ?_
            refine lv_iconst (v := 5) hx hb d_Moves_moveGroups_77 (by decide) ?_
            obtain ⟨m6, hq, hf⟩ := sd_bv_e hf
            refine k_callVv (As := [.int (5 : Int32)]) (rest := []) (C := "ScriptDesk$Elements") (ci := 1) ZX_ok X hI (mt_Elements_lift_r2 l hq) (cwV 1 hts (gd_V tw_304 tw_305 tw_306 tw_2 tw_307) rfl rfl rfl (by decide +kernel) ⟨Nat.le_of_ble_eq_true rfl, Nat.le_of_ble_eq_true rfl⟩) 2 rfl rfl rfl hl.1 rfl (Nat.le_of_ble_eq_true rfl) d_Moves_moveGroups_78 ⟨Nat.zero_le _, Nat.zero_le _⟩ (fun H locs hI => ?_)
            refine lv_goto (tgt := 94) hx hb d_Moves_moveGroups_81 (by decide) ?_
            exact k_retv X hI hf d_Moves_moveGroups_94
          · have hf := sd_f hf hc113
            refine k_tbl (off := 83) (tgt := 84) hx hb d_Moves_moveGroups_1 (by decide) (k_tbld [(109 : Int32), (110 : Int32), (111 : Int32), (112 : Int32), (113 : Int32)] (by decide) (by
                intro k hk
                simp only [List.mem_cons, List.not_mem_nil, or_false] at hk
                rcases hk with rfl | rfl | rfl | rfl | rfl
                · exact hc109
                · exact hc110
                · exact hc111
                · exact hc112
                · exact hc113
                )) (by decide) ?_
            refine lv_aload_n hx hb d_Moves_moveGroups_84 rfl (lv_at hl 0 rfl) ?_
            refine lv_iconst (v := 3) hx hb d_Moves_moveGroups_85 (by decide) ?_
            obtain ⟨m7, hq, hf⟩ := sd_bv_e hf
            refine k_callVv (As := [.int (3 : Int32)]) (rest := []) (C := "ScriptDesk$Elements") (ci := 1) ZX_ok X hI (mt_Elements_lift_r2 l hq) (cwV 1 hts (gd_V tw_304 tw_305 tw_306 tw_2 tw_307) rfl rfl rfl (by decide +kernel) ⟨Nat.le_of_ble_eq_true rfl, Nat.le_of_ble_eq_true rfl⟩) 2 rfl rfl rfl hl.1 rfl (Nat.le_of_ble_eq_true rfl) d_Moves_moveGroups_86 ⟨Nat.zero_le _, Nat.zero_le _⟩ (fun H locs hI => ?_)
            refine lv_aload_n hx hb d_Moves_moveGroups_89 rfl (lv_at hl 0 rfl) ?_
            refine lv_iconst (v := 3) hx hb d_Moves_moveGroups_90 (by decide) ?_
            obtain ⟨m8, hq, hf⟩ := sd_bv_e hf
            refine k_callVv (As := [.int (3 : Int32)]) (rest := []) (C := "ScriptDesk$Elements") (ci := 1) ZX_ok X hI (mt_Elements_lift_r2 l hq) (cwV 1 hts (gd_V tw_304 tw_305 tw_306 tw_2 tw_307) rfl rfl rfl (by decide +kernel) ⟨Nat.le_of_ble_eq_true rfl, Nat.le_of_ble_eq_true rfl⟩) 2 rfl rfl rfl hl.1 rfl (Nat.le_of_ble_eq_true rfl) d_Moves_moveGroups_91 ⟨Nat.zero_le _, Nat.zero_le _⟩ (fun H locs hI => ?_)
            exact k_retv X hI hf d_Moves_moveGroups_94
set_option maxHeartbeats 4000000 in
set_option maxRecDepth 100000 in
theorem lp_Elements_areSame_r2_L20 (l : Launch) {p : Program} {e : Env} {s : State} {m : MethodId} {args : Array Value} {below : List Frame} {meth : Method} {c : Code} {A : Nat → Prop} {D : va_G} {q tq : Nat → Nat} {cA : ClassId} {ru : Int32 × sd_Me} (X : sd_Cx p s m args meth c prog_3_method_6_code "ScriptDesk$Elements" sx_tbl 5 (some .boolean) vwCl D [(cA, .int)] (ZX tq) A) {k51 : sd_Me → Option (Int32 × sd_Me)} (hk51 : ∀ (μ : sd_Me) (H : Heap) (locs : List Loc) (ls : Array Slot), sd_CI vwCl (wdX q cA) D A s H locs μ → lv_has ls 5 [] → k51 μ = some ru → W p l e ({ frames := 1, cells := 0, slots := 0, locals := 23 }) s m args below meth c H locs 0 0 (sd_QI below vwCl (wdX q cA) D [(cA, .int)] .boolean A args s ru) (F0 m 51 ls [])) :
    ∀ (n : Nat) (v1 : Int32) (v2 : Int32) (v3 : Int32) (v4 : Int32) (μ : sd_Me) (H : Heap) (locs : List Loc) (ls : Array Slot), sd_CI vwCl (wdX q cA) D A s H locs μ → lv_has ls 5 [(0, .ref (q 2)), (1, .int v1), (2, .int v2), (3, .int v3), (4, .int v4)] → fn_Elements_areSame_r2_L20 k51 n v1 v2 v3 v4 μ = some ru → W p l e ({ frames := 1, cells := 0, slots := 0, locals := 23 }) s m args below meth c H locs 0 0 (sd_QI below vwCl (wdX q cA) D [(cA, .int)] .boolean A args s ru) (F0 m 20 ls []) := by
  obtain ⟨hx, hb, hml, hown, hts, hK, hZ, hA, hr, hlocks⟩ := id X
  intro n
  induction n with
  | zero =>
    intro v1 v2 v3 v4 μ H locs ls hI hl hf
    cases hf
  | succ n ih =>
    intro v1 v2 v3 v4 μ H locs ls hI hl hf
    rw [fn_Elements_areSame_r2_L20] at hf
    refine lv_iload hx hb d_Elements_areSame_20 (lv_at hl 4 rfl) ?_
    refine lv_iload_n hx hb d_Elements_areSame_22 rfl (lv_at hl 3 rfl) ?_
    refine lv_icmp_ge (tgt := 51) hx hb d_Elements_areSame_23 (by decide) (fun hc => ?_) (fun hc => ?_)
    · have hf := sd_t hf hc
      exact hk51  μ _ _ _ hI (lv_sub hl [] rfl) hf
    · have hf := sd_f hf hc
      refine lv_aload_n hx hb d_Elements_areSame_26 rfl (lv_at hl 0 rfl) ?_
      refine lv_iload_n hx hb d_Elements_areSame_27 rfl (lv_at hl 1 rfl) ?_
      refine lv_iload hx hb d_Elements_areSame_28 (lv_at hl 4 rfl) ?_
      obtain ⟨x6, m5, hq, hf⟩ := sd_bi_e hf
      refine k_callV (As := [.int v1, .int v4]) (rest := []) (C := "ScriptDesk$Elements") (ci := 1) ZX_ok X hI (mt_Elements_octetAt_r2 l hq) (cwV 2 hts (gd_V tw_230 tw_231 tw_232 tw_2 tw_233) rfl rfl rfl (by decide +kernel) ⟨Nat.le_of_ble_eq_true rfl, Nat.le_of_ble_eq_true rfl⟩) 2 rfl rfl rfl hl.1 rfl (Nat.le_of_ble_eq_true rfl) d_Elements_areSame_30 ⟨Nat.zero_le _, Nat.zero_le _⟩ (fun H locs hn_x6 hI => ?_)
      refine lv_aload_n hx hb d_Elements_areSame_33 rfl (lv_at hl 0 rfl) ?_
      refine lv_iload_n hx hb d_Elements_areSame_34 rfl (lv_at hl 2 rfl) ?_
      refine lv_iload hx hb d_Elements_areSame_35 (lv_at hl 4 rfl) ?_
      obtain ⟨x8, m7, hq, hf⟩ := sd_bi_e hf
      refine k_callV (As := [.int v2, .int v4]) (rest := [.int x6]) (C := "ScriptDesk$Elements") (ci := 1) ZX_ok X hI (mt_Elements_octetAt_r2 l hq) (cwV 2 hts (gd_V tw_230 tw_231 tw_232 tw_2 tw_233) rfl rfl rfl (by decide +kernel) ⟨Nat.le_of_ble_eq_true rfl, Nat.le_of_ble_eq_true rfl⟩) 2 rfl rfl rfl hl.1 rfl (Nat.le_of_ble_eq_true rfl) d_Elements_areSame_37 ⟨Nat.zero_le _, Nat.zero_le _⟩ (fun H locs hn_x8 hI => ?_)
      refine lv_icmp_eq (tgt := 45) hx hb d_Elements_areSame_40 (by decide) (fun hc => ?_) (fun hc => ?_)
      · have hf := sd_t hf hc
        refine lv_iinc (v := (v4 + (1 : Int32))) (lv' := [(4, .int (v4 + (1 : Int32))), (0, .ref (q 2)), (1, .int v1), (2, .int v2), (3, .int v3)]) hx hb d_Elements_areSame_45 hl (k := 4) rfl rfl (by decide) rfl (fun ls hl => ?_)
        refine lv_goto (tgt := 20) hx hb d_Elements_areSame_48 (by decide) ?_
        exact ih (v1) (v2) (v3) ((v4 + (1 : Int32))) m7 _ _ _ hI (lv_sub hl [1, 2, 3, 4, 0] rfl) hf
      · have hf := sd_f hf hc
        refine lv_iconst (v := 0) hx hb d_Elements_areSame_43 (by decide) ?_
        exact k_reti X hI rfl hf d_Elements_areSame_44
set_option maxHeartbeats 4000000 in
set_option maxRecDepth 100000 in
theorem mt_Elements_areSame_r2 (l : Launch) {D : va_G} {q tq : Nat → Nat} {cA : ClassId} {a1 : Int32} {a2 : Int32} {μ : sd_Me} {ru : Int32 × sd_Me} (hf : fn_Elements_areSame_r2 a1 a2 μ = some ru) : sd_CTi l y_Elements_areSame w_Elements_areSame ({ frames := 1, cells := 0, slots := 0, locals := 23 }) vwCl (wdX q cA) D [(cA, .int)] (ZX tq) .boolean [.ref (q 2), .int a1, .int a2] μ ru := by
  refine k_enti (cc := prog_3_method_6_code) 5 (by decide) rfl (Nat.le_of_ble_eq_true rfl) ?_
  intro p e s m below meth c A ls X hI hl
  have hl : lv_has ls 5 [(0, .ref (q 2)), (1, .int a1), (2, .int a2)] := hl
  obtain ⟨hx, hb, hml, hown, hts, hK, hZ, hA, hr, hlocks⟩ := id X
  unfold fn_Elements_areSame_r2 at hf
  refine lv_aload_n hx hb d_Elements_areSame_0 rfl (lv_at hl 0 rfl) ?_
  refine lv_iload_n hx hb d_Elements_areSame_1 rfl (lv_at hl 1 rfl) ?_
  obtain ⟨x2, m1, hq, hf⟩ := sd_bi_e hf
  refine k_callV (As := [.int a1]) (rest := []) (C := "ScriptDesk$Elements") (ci := 1) ZX_ok X hI (mt_Elements_lengthAt_r2 l hq) (cwV 1 hts (gd_V tw_226 tw_227 tw_228 tw_2 tw_229) rfl rfl rfl (by decide +kernel) ⟨Nat.le_of_ble_eq_true rfl, Nat.le_of_ble_eq_true rfl⟩) 2 rfl rfl rfl hl.1 rfl (Nat.le_of_ble_eq_true rfl) d_Elements_areSame_2 ⟨Nat.zero_le _, Nat.zero_le _⟩ (fun H locs hn_x2 hI => ?_)
  refine lv_istore_n (lv' := [(3, .int x2), (0, .ref (q 2)), (1, .int a1), (2, .int a2)]) hx hb d_Elements_areSame_5 rfl hl (by decide) rfl (fun ls hl => ?_)
  refine lv_iload_n hx hb d_Elements_areSame_6 rfl (lv_at hl 0 rfl) ?_
  refine lv_aload_n hx hb d_Elements_areSame_7 rfl (lv_at hl 1 rfl) ?_
  refine lv_iload_n hx hb d_Elements_areSame_8 rfl (lv_at hl 3 rfl) ?_
  obtain ⟨x4, m3, hq, hf⟩ := sd_bi_e hf
  refine k_callV (As := [.int a2]) (rest := [.int x2]) (C := "ScriptDesk$Elements") (ci := 1) ZX_ok X hI (mt_Elements_lengthAt_r2 l hq) (cwV 1 hts (gd_V tw_226 tw_227 tw_228 tw_2 tw_229) rfl rfl rfl (by decide +kernel) ⟨Nat.le_of_ble_eq_true rfl, Nat.le_of_ble_eq_true rfl⟩) 2 rfl rfl rfl hl.1 rfl (Nat.le_of_ble_eq_true rfl) d_Elements_areSame_9 ⟨Nat.zero_le _, Nat.zero_le _⟩ (fun H locs hn_x4 hI => ?_)
  refine lv_icmp_eq (tgt := 17) hx hb d_Elements_areSame_12 (by decide) (fun hc => ?_) (fun hc => ?_)
  · have hf := sd_t hf hc
    refine lv_iconst (v := 0) hx hb d_Elements_areSame_17 (by decide) ?_
    refine lv_istore (lv' := [(4, .int (0 : Int32)), (3, .int x2), (0, .ref (q 2)), (1, .int a1), (2, .int a2)]) hx hb d_Elements_areSame_18 hl (by decide) rfl (fun ls hl => ?_)
    refine lp_Elements_areSame_r2_L20 l X ?_ 10000 (a1) (a2) (x2) ((0 : Int32)) m3 _ _ _ hI (lv_sub hl [2, 3, 4, 1, 0] rfl) hf
    · intro m9 H locs ls hI hl hf
      refine lv_iconst (v := 1) hx hb d_Elements_areSame_51 (by decide) ?_
      exact k_reti X hI rfl hf d_Elements_areSame_52
  · have hf := sd_f hf hc
    refine lv_iconst (v := 0) hx hb d_Elements_areSame_15 (by decide) ?_
    exact k_reti X hI rfl hf d_Elements_areSame_16
set_option maxHeartbeats 4000000 in
set_option maxRecDepth 100000 in
theorem mt_Moves_look_r2 (l : Launch) {D : va_G} {q tq : Nat → Nat} {cA : ClassId} {a1 : Int32} {μ : sd_Me} {ru : Int32 × sd_Me} (hf : fn_Moves_look_r2 a1 μ = some ru) : sd_CTi l y_Moves_look w_Moves_look ({ frames := 3, cells := 0, slots := 0, locals := 66 }) vwCl (wdX q cA) D [(cA, .int)] (ZX tq) .int [.ref (q 2), .int a1] μ ru := by
  refine k_enti (cc := prog_5_method_7_code) 3 (by decide) rfl (Nat.le_of_ble_eq_true rfl) ?_
  intro p e s m below meth c A ls X hI hl
  have hl : lv_has ls 3 [(0, .ref (q 2)), (1, .int a1)] := hl
  obtain ⟨hx, hb, hml, hown, hts, hK, hZ, hA, hr, hlocks⟩ := id X
  unfold fn_Moves_look_r2 at hf
  refine lv_iload_n hx hb d_Moves_look_0 rfl (lv_at hl 1 rfl) ?_
  refine lv_sipush (v := 130) hx hb d_Moves_look_1 (by decide) ?_
  refine lv_icmp_ne (tgt := 19) hx hb d_Moves_look_4 (by decide) (fun hc => ?_) (fun hc => ?_)
  · have hf := sd_f hf hc
    refine lv_aload_n hx hb d_Moves_look_19 rfl (lv_at hl 0 rfl) ?_
    refine lv_iconst (v := 0) hx hb d_Moves_look_20 (by decide) ?_
    refine lv_iconst (v := 1) hx hb d_Moves_look_21 (by decide) ?_
    obtain ⟨x2, m1, hq, hf⟩ := sd_bi_e hf
    refine k_callV (As := [.int (0 : Int32), .int (1 : Int32)]) (rest := []) (C := "ScriptDesk$Elements") (ci := 1) ZX_ok X hI (mt_Elements_areSame_r2 l hq) (cwV 2 hts (gd_V tw_321 tw_322 tw_323 tw_2 tw_324) rfl rfl rfl (by decide +kernel) ⟨Nat.le_of_ble_eq_true rfl, Nat.le_of_ble_eq_true rfl⟩) 2 rfl rfl rfl hl.1 rfl (Nat.le_of_ble_eq_true rfl) d_Moves_look_22 ⟨Nat.zero_le _, Nat.zero_le _⟩ (fun H locs hn_x2 hI => ?_)
    refine lv_istore_n (lv' := [(2, .int x2), (0, .ref (q 2)), (1, .int a1)]) hx hb d_Moves_look_25 rfl hl (by decide) rfl (fun ls hl => ?_)
    refine lv_aload_n hx hb d_Moves_look_26 rfl (lv_at hl 1 rfl) ?_
    refine lv_iconst (v := 2) hx hb d_Moves_look_27 (by decide) ?_
    refine lv_iload_n hx hb d_Moves_look_28 rfl (lv_at hl 0 rfl) ?_
    obtain ⟨m3, hq, hf⟩ := sd_bv_e hf
    refine k_callVv (As := [.int (2 : Int32), .int x2]) (rest := []) (C := "ScriptDesk$Elements") (ci := 1) ZX_ok X hI (mt_Elements_replaceByTruth_r2 l hq) (cwV 2 hts (gd_V tw_325 tw_326 tw_327 tw_2 tw_328) rfl rfl rfl (by decide +kernel) ⟨Nat.le_of_ble_eq_true rfl, Nat.le_of_ble_eq_true rfl⟩) 2 rfl rfl rfl hl.1 rfl (Nat.le_of_ble_eq_true rfl) d_Moves_look_29 ⟨Nat.zero_le _, Nat.zero_le _⟩ (fun H locs hI => ?_)
    refine lv_iload_n hx hb d_Moves_look_32 rfl (lv_at hl 2 rfl) ?_
    refine lv_sipush (v := 136) hx hb d_Moves_look_33 (by decide) ?_
    refine lv_icmp_ne (tgt := 46) hx hb d_Moves_look_36 (by decide) (fun hc => ?_) (fun hc => ?_)
    · have hf := sd_f hf hc
      refine lv_iconst (v := 0) hx hb d_Moves_look_46 (by decide) ?_
      exact k_reti X hI (vp_nar_int _) hf d_Moves_look_47
    · have hf := sd_t hf hc
      refine lv_aload_n hx hb d_Moves_look_39 rfl (lv_at hl 1 rfl) ?_
      obtain ⟨x5, m4, hq, hf⟩ := sd_bi_e hf
      refine k_callV (As := []) (rest := []) (C := "ScriptDesk$Elements") (ci := 1) ZX_ok X hI (mt_Elements_takeTrue_r2 l hq) (cwV 0 hts (gd_V tw_330 tw_271 tw_272 tw_2 tw_273) rfl rfl rfl (by decide +kernel) ⟨Nat.le_of_ble_eq_true rfl, Nat.le_of_ble_eq_true rfl⟩) 2 rfl rfl rfl hl.1 rfl (Nat.le_of_ble_eq_true rfl) d_Moves_look_40 ⟨Nat.zero_le _, Nat.zero_le _⟩ (fun H locs hn_x5 hI => ?_)
      refine lv_goto (tgt := 47) hx hb d_Moves_look_43 (by decide) ?_
      exact k_reti X hI (vp_nar_int _) hf d_Moves_look_47
  · have hf := sd_t hf hc
    refine lv_aload_n hx hb d_Moves_look_7 rfl (lv_at hl 0 rfl) ?_
    refine lv_aload_n hx hb d_Moves_look_8 rfl (lv_at hl 0 rfl) ?_
    refine lv_iconst (v := 0) hx hb d_Moves_look_9 (by decide) ?_
    obtain ⟨x7, m6, hq, hf⟩ := sd_bi_e hf
    refine k_callV (As := [.int (0 : Int32)]) (rest := [.ref (q 2)]) (C := "ScriptDesk$Elements") (ci := 1) ZX_ok X hI (mt_Elements_lengthAt_r2 l hq) (cwV 1 hts (gd_V tw_319 tw_227 tw_228 tw_2 tw_229) rfl rfl rfl (by decide +kernel) ⟨Nat.le_of_ble_eq_true rfl, Nat.le_of_ble_eq_true rfl⟩) 2 rfl rfl rfl hl.1 rfl (Nat.le_of_ble_eq_true rfl) d_Moves_look_10 ⟨Nat.zero_le _, Nat.zero_le _⟩ (fun H locs hn_x7 hI => ?_)
    refine lv_i2l (v := (Int32.toInt64 x7)) hx hb d_Moves_look_13 rfl ?_
    obtain ⟨m8, hq, hf⟩ := sd_bv_e hf
    refine k_callVv (As := [.long (Int32.toInt64 x7)]) (rest := []) (C := "ScriptDesk$Elements") (ci := 1) ZX_ok X hI (mt_Elements_pushNumber_r2 l hq) (cwV 1 hts (gd_V tw_320 tw_262 tw_263 tw_2 tw_264) rfl rfl rfl (by decide +kernel) ⟨Nat.le_of_ble_eq_true rfl, Nat.le_of_ble_eq_true rfl⟩) 2 rfl rfl rfl hl.1 rfl (Nat.le_of_ble_eq_true rfl) d_Moves_look_14 ⟨Nat.zero_le _, Nat.zero_le _⟩ (fun H locs hI => ?_)
    refine lv_iconst (v := 0) hx hb d_Moves_look_17 (by decide) ?_
    exact k_reti X hI (vp_nar_int _) hf d_Moves_look_18
set_option maxHeartbeats 4000000 in
set_option maxRecDepth 100000 in
theorem jn_Moves_perform_r2_J12 (l : Launch) {p : Program} {e : Env} {s : State} {m : MethodId} {args : Array Value} {below : List Frame} {meth : Method} {c : Code} {A : Nat → Prop} {D : va_G} {q tq : Nat → Nat} {cA : ClassId} {ru : Int32 × sd_Me} (X : sd_Cx p s m args meth c prog_5_method_2_code "ScriptDesk$Moves" sx_tbl 3 (some .int) vwCl D [(cA, .int)] (ZX tq) A) (v1 : Int32) (μ : sd_Me) (H : Heap) (locs : List Loc) (ls : Array Slot) (hI : sd_CI vwCl (wdX q cA) D A s H locs μ) (hl : lv_has ls 3 [(0, .ref (q 2)), (1, .int v1)]) (hf : fn_Moves_perform_r2_J12 v1 μ = some ru) : W p l e ({ frames := 5, cells := 0, slots := 0, locals := 125 }) s m args below meth c H locs 0 0 (sd_QI below vwCl (wdX q cA) D [(cA, .int)] .int A args s ru) (F0 m 12 ls []) := by
  obtain ⟨hx, hb, hml, hown, hts, hK, hZ, hA, hr, hlocks⟩ := id X
  unfold fn_Moves_perform_r2_J12 at hf
  refine lv_aload_n hx hb d_Moves_perform_12 rfl (lv_at hl 0 rfl) ?_
  refine lv_iload_n hx hb d_Moves_perform_13 rfl (lv_at hl 1 rfl) ?_
  refine lv_bipush (v := 122) hx hb d_Moves_perform_14 (by decide) ?_
  refine lv_icmp_ne (tgt := 23) hx hb d_Moves_perform_16 (by decide) (fun hc => ?_) (fun hc => ?_)
  · have hf := sd_f hf hc
    refine lv_iconst (v := 0) hx hb d_Moves_perform_23 (by decide) ?_
    obtain ⟨x2, m1, hq, hf⟩ := sd_bi_e hf
    refine k_callS (As := [.ref (q 2), .int (0 : Int32)]) (rest := []) ZX_ok X hI (mt_Moves_pick_r2 l hq) (va_cwS 2 hts (gd_S tw_291 tw_292 tw_12 tw_293) rfl rfl rfl (by decide +kernel) ⟨Nat.le_of_ble_eq_true rfl, Nat.le_of_ble_eq_true rfl⟩) rfl hl.1 rfl (Nat.le_of_ble_eq_true rfl) d_Moves_perform_24 ⟨Nat.zero_le _, Nat.zero_le _⟩ (fun H locs hn_x2 hI => ?_)
    exact k_reti X hI (vp_nar_int _) hf d_Moves_perform_27
  · have hf := sd_t hf hc
    refine lv_iconst (v := 1) hx hb d_Moves_perform_19 (by decide) ?_
    refine lv_goto (tgt := 24) hx hb d_Moves_perform_20 (by decide) ?_
    obtain ⟨x4, m3, hq, hf⟩ := sd_bi_e hf
    refine k_callS (As := [.ref (q 2), .int (1 : Int32)]) (rest := []) ZX_ok X hI (mt_Moves_pick_r2 l hq) (va_cwS 2 hts (gd_S tw_291 tw_292 tw_12 tw_293) rfl rfl rfl (by decide +kernel) ⟨Nat.le_of_ble_eq_true rfl, Nat.le_of_ble_eq_true rfl⟩) rfl hl.1 rfl (Nat.le_of_ble_eq_true rfl) d_Moves_perform_24 ⟨Nat.zero_le _, Nat.zero_le _⟩ (fun H locs hn_x4 hI => ?_)
    exact k_reti X hI (vp_nar_int _) hf d_Moves_perform_27
set_option maxHeartbeats 4000000 in
set_option maxRecDepth 100000 in
theorem mt_Moves_perform_r2 (l : Launch) {D : va_G} {q tq : Nat → Nat} {cA : ClassId} {a1 : Int32} {μ : sd_Me} {ru : Int32 × sd_Me} (hf : fn_Moves_perform_r2 a1 μ = some ru) : sd_CTi l y_Moves_perform w_Moves_perform ({ frames := 5, cells := 0, slots := 0, locals := 125 }) vwCl (wdX q cA) D [(cA, .int)] (ZX tq) .int [.ref (q 2), .int a1] μ ru := by
  refine k_enti (cc := prog_5_method_2_code) 3 (by decide) rfl (Nat.le_of_ble_eq_true rfl) ?_
  intro p e s m below meth c A ls X hI hl
  have hl : lv_has ls 3 [(0, .ref (q 2)), (1, .int a1)] := hl
  obtain ⟨hx, hb, hml, hown, hts, hK, hZ, hA, hr, hlocks⟩ := id X
  unfold fn_Moves_perform_r2 at hf
  refine lv_iload_n hx hb d_Moves_perform_0 rfl (lv_at hl 1 rfl) ?_
  refine lv_bipush (v := 121) hx hb d_Moves_perform_1 (by decide) ?_
  refine lv_icmp_eq (tgt := 12) hx hb d_Moves_perform_3 (by decide) (fun hc => ?_) (fun hc => ?_)
  · have hf := sd_t hf hc
    exact jn_Moves_perform_r2_J12 l X (a1) μ _ _ _ hI (lv_sub hl [0, 1] rfl) hf
  · have hf := sd_f hf hc
    refine lv_iload_n hx hb d_Moves_perform_6 rfl (lv_at hl 1 rfl) ?_
    refine lv_bipush (v := 122) hx hb d_Moves_perform_7 (by decide) ?_
    refine lv_icmp_ne (tgt := 28) hx hb d_Moves_perform_9 (by decide) (fun hc => ?_) (fun hc => ?_)
    · have hf := sd_f hf hc
      refine lv_iload_n hx hb d_Moves_perform_28 rfl (lv_at hl 1 rfl) ?_
      obtain ⟨x6, m5, hq, hf⟩ := sd_bi_e hf
      refine k_callS (As := [.int a1]) (rest := []) ZX_ok X hI (mt_Moves_operandsOf l hq) (va_cwS 1 hts (gd_S tw_313 tw_314 tw_12 tw_315) rfl rfl rfl (by decide +kernel) ⟨Nat.le_of_ble_eq_true rfl, Nat.le_of_ble_eq_true rfl⟩) rfl hl.1 rfl (Nat.le_of_ble_eq_true rfl) d_Moves_perform_29 ⟨Nat.zero_le _, Nat.zero_le _⟩ (fun H locs hn_x6 hI => ?_)
      refine lv_istore_n (lv' := [(2, .int x6), (0, .ref (q 2)), (1, .int a1)]) hx hb d_Moves_perform_32 rfl hl (by decide) rfl (fun ls hl => ?_)
      refine lv_iload_n hx hb d_Moves_perform_33 rfl (lv_at hl 0 rfl) ?_
      refine lv_if_ge (tgt := 39) hx hb d_Moves_perform_34 (by decide) (fun hc => ?_) (fun hc => ?_)
      · have hf := sd_t hf hc
        refine lv_aload_n hx hb d_Moves_perform_39 rfl (lv_at hl 1 rfl) ?_
        refine va_get (D := D) (ci := 1) (v := .int (m5.1 2 4)) (C := "ScriptDesk$Elements") (T := T_Elements) (N := 5) hx hb hts iw_Elements hown hK hI.1 2 rfl rfl 4 (by decide) (hts _ tw_34) (fun _ h9 => h9) rfl d_Moves_perform_40 ?_
        refine lv_iload_n hx hb d_Moves_perform_43 rfl (lv_at hl 0 rfl) ?_
        refine lv_icmp_ge (tgt := 49) hx hb d_Moves_perform_44 (by decide) (fun hc => ?_) (fun hc => ?_)
        · have hf := sd_t hf hc
          refine lv_iload_n hx hb d_Moves_perform_49 rfl (lv_at hl 2 rfl) ?_
          refine lv_sipush (v := 130) hx hb d_Moves_perform_50 (by decide) ?_
          refine lv_icmp_lt (tgt := 62) hx hb d_Moves_perform_53 (by decide) (fun hc => ?_) (fun hc => ?_)
          · have hf := sd_t hf hc
            refine lv_iload_n hx hb d_Moves_perform_62 rfl (lv_at hl 2 rfl) ?_
            refine lv_bipush (v := 114) hx hb d_Moves_perform_63 (by decide) ?_
            refine lv_icmp_gt (tgt := 76) hx hb d_Moves_perform_65 (by decide) (fun hc => ?_) (fun hc => ?_)
            · have hf := sd_t hf hc
              refine lv_aload_n hx hb d_Moves_perform_76 rfl (lv_at hl 1 rfl) ?_
              refine lv_iload_n hx hb d_Moves_perform_77 rfl (lv_at hl 2 rfl) ?_
              obtain ⟨m7, hq, hf⟩ := sd_bv_e hf
              refine k_callSv (As := [.ref (q 2), .int a1]) (rest := []) ZX_ok X hI (mt_Moves_moveSingles_r2 l hq) (va_cwS 2 hts (gd_S tw_339 tw_340 tw_12 tw_341) rfl rfl rfl (by decide +kernel) ⟨Nat.le_of_ble_eq_true rfl, Nat.le_of_ble_eq_true rfl⟩) rfl hl.1 rfl (Nat.le_of_ble_eq_true rfl) d_Moves_perform_78 ⟨Nat.zero_le _, Nat.zero_le _⟩ (fun H locs hI => ?_)
              refine lv_iconst (v := 0) hx hb d_Moves_perform_81 (by decide) ?_
              exact k_reti X hI (vp_nar_int _) hf d_Moves_perform_82
            · have hf := sd_f hf hc
              refine lv_aload_n hx hb d_Moves_perform_68 rfl (lv_at hl 1 rfl) ?_
              refine lv_iload_n hx hb d_Moves_perform_69 rfl (lv_at hl 2 rfl) ?_
              obtain ⟨m8, hq, hf⟩ := sd_bv_e hf
              refine k_callSv (As := [.ref (q 2), .int a1]) (rest := []) ZX_ok X hI (mt_Moves_moveGroups_r2 l hq) (va_cwS 2 hts (gd_S tw_331 tw_332 tw_12 tw_333) rfl rfl rfl (by decide +kernel) ⟨Nat.le_of_ble_eq_true rfl, Nat.le_of_ble_eq_true rfl⟩) rfl hl.1 rfl (Nat.le_of_ble_eq_true rfl) d_Moves_perform_70 ⟨Nat.zero_le _, Nat.zero_le _⟩ (fun H locs hI => ?_)
              refine lv_goto (tgt := 81) hx hb d_Moves_perform_73 (by decide) ?_
              refine lv_iconst (v := 0) hx hb d_Moves_perform_81 (by decide) ?_
              exact k_reti X hI (vp_nar_int _) hf d_Moves_perform_82
          · have hf := sd_f hf hc
            refine lv_aload_n hx hb d_Moves_perform_56 rfl (lv_at hl 1 rfl) ?_
            refine lv_iload_n hx hb d_Moves_perform_57 rfl (lv_at hl 2 rfl) ?_
            obtain ⟨x10, m9, hq, hf⟩ := sd_bi_e hf
            refine k_callS (As := [.ref (q 2), .int a1]) (rest := []) ZX_ok X hI (mt_Moves_look_r2 l hq) (va_cwS 2 hts (gd_S tw_316 tw_317 tw_12 tw_318) rfl rfl rfl (by decide +kernel) ⟨Nat.le_of_ble_eq_true rfl, Nat.le_of_ble_eq_true rfl⟩) rfl hl.1 rfl (Nat.le_of_ble_eq_true rfl) d_Moves_perform_58 ⟨Nat.zero_le _, Nat.zero_le _⟩ (fun H locs hn_x10 hI => ?_)
            exact k_reti X hI (vp_nar_int _) hf d_Moves_perform_61
        · have hf := sd_f hf hc
          refine lv_iconst (v := 5) hx hb d_Moves_perform_47 (by decide) ?_
          exact k_reti X hI (vp_nar_int _) hf d_Moves_perform_48
      · have hf := sd_f hf hc
        refine lv_iconst (v := 4) hx hb d_Moves_perform_37 (by decide) ?_
        exact k_reti X hI (vp_nar_int _) hf d_Moves_perform_38
    · have hf := sd_t hf hc
      exact jn_Moves_perform_r2_J12 l X (a1) μ _ _ _ hI (lv_sub hl [0, 1] rfl) hf
set_option maxHeartbeats 4000000 in
set_option maxRecDepth 100000 in
theorem mt_Elements_swapSlots_r2 (l : Launch) {D : va_G} {q tq : Nat → Nat} {cA : ClassId} {a1 : Int32} {a2 : Int32} {μ : sd_Me} {ru : sd_Me} (hf : fn_Elements_swapSlots_r2 a1 a2 μ = some ru) : sd_CTv l y_Elements_swapSlots w_Elements_swapSlots ({ frames := 0, cells := 0, slots := 0, locals := 0 }) vwCl (wdX q cA) D [(cA, .int)] (ZX tq) [.ref (q 2), .int a1, .int a2] μ ru := by
  refine k_entv (cc := prog_3_method_20_code) 4 (by decide) rfl (Nat.le_of_ble_eq_true rfl) ?_
  intro p e s m below meth c A ls X hI hl
  have hl : lv_has ls 4 [(0, .ref (q 2)), (1, .int a1), (2, .int a2)] := hl
  obtain ⟨hx, hb, hml, hown, hts, hK, hZ, hA, hr, hlocks⟩ := id X
  unfold fn_Elements_swapSlots_r2 at hf
  refine lv_aload_n hx hb d_Elements_swapSlots_0 rfl (lv_at hl 0 rfl) ?_
  refine va_get (D := D) (ci := 1) (v := .ref (q 5)) (C := "ScriptDesk$Elements") (T := T_Elements) (N := 5) hx hb hts iw_Elements hown hK hI.1 2 rfl rfl 2 (by decide) (hts _ tw_31) (fun _ h9 => h9) rfl d_Elements_swapSlots_1 ?_
  refine lv_iload_n hx hb d_Elements_swapSlots_4 rfl (lv_at hl 1 rfl) ?_
  obtain ⟨hg, hf⟩ := sd_gd_e hf
  refine k_iald hx hb hK hI 5 0 rfl rfl hg d_Elements_swapSlots_5 ?_
  refine k_li hf (fun x1 hf => ?_)
  refine lv_istore_n (lv' := [(3, .int x1), (0, .ref (q 2)), (1, .int a1), (2, .int a2)]) hx hb d_Elements_swapSlots_6 rfl hl (by decide) rfl (fun ls hl => ?_)
  refine lv_aload_n hx hb d_Elements_swapSlots_7 rfl (lv_at hl 1 rfl) ?_
  refine va_get (D := D) (ci := 1) (v := .ref (q 5)) (C := "ScriptDesk$Elements") (T := T_Elements) (N := 5) hx hb hts iw_Elements hown hK hI.1 2 rfl rfl 2 (by decide) (hts _ tw_31) (fun _ h9 => h9) rfl d_Elements_swapSlots_8 ?_
  refine lv_iload_n hx hb d_Elements_swapSlots_11 rfl (lv_at hl 2 rfl) ?_
  refine lv_aload_n hx hb d_Elements_swapSlots_12 rfl (lv_at hl 1 rfl) ?_
  refine va_get (D := D) (ci := 1) (v := .ref (q 5)) (C := "ScriptDesk$Elements") (T := T_Elements) (N := 5) hx hb hts iw_Elements hown hK hI.1 2 rfl rfl 2 (by decide) (hts _ tw_31) (fun _ h9 => h9) rfl d_Elements_swapSlots_13 ?_
  refine lv_iload_n hx hb d_Elements_swapSlots_16 rfl (lv_at hl 3 rfl) ?_
  obtain ⟨hg, hf⟩ := sd_gd_e hf
  refine k_iald hx hb hK hI 5 0 rfl rfl hg d_Elements_swapSlots_17 ?_
  obtain ⟨hg, hf⟩ := sd_gd_e hf
  refine k_iast (μ' := sd_st μ 5 (Int32.toNatClampNeg a1) (μ.1 5 (Int32.toNatClampNeg a2))) hx hb hK hI 5 0 rfl rfl rfl hg d_Elements_swapSlots_18 (fun H locs hI => ?_)
  obtain ⟨m2, hI, hf⟩ := k_lm hf hI
  refine lv_aload_n hx hb d_Elements_swapSlots_19 rfl (lv_at hl 1 rfl) ?_
  refine va_get (D := D) (ci := 1) (v := .ref (q 5)) (C := "ScriptDesk$Elements") (T := T_Elements) (N := 5) hx hb hts iw_Elements hown hK hI.1 2 rfl rfl 2 (by decide) (hts _ tw_31) (fun _ h9 => h9) rfl d_Elements_swapSlots_20 ?_
  refine lv_iload_n hx hb d_Elements_swapSlots_23 rfl (lv_at hl 3 rfl) ?_
  refine lv_iload_n hx hb d_Elements_swapSlots_24 rfl (lv_at hl 0 rfl) ?_
  obtain ⟨hg, hf⟩ := sd_gd_e hf
  refine k_iast (μ' := sd_st m2 5 (Int32.toNatClampNeg a2) x1) hx hb hK hI 5 0 rfl rfl rfl hg d_Elements_swapSlots_25 (fun H locs hI => ?_)
  obtain ⟨m3, hI, hf⟩ := k_lm hf hI
  exact k_retv X hI hf d_Elements_swapSlots_26
set_option maxHeartbeats 4000000 in
set_option maxRecDepth 100000 in
theorem mt_Elements_toSide_r2 (l : Launch) {D : va_G} {q tq : Nat → Nat} {cA : ClassId} {μ : sd_Me} {ru : Int32 × sd_Me} (hf : fn_Elements_toSide_r2 μ = some ru) : sd_CTi l y_Elements_toSide w_Elements_toSide ({ frames := 1, cells := 0, slots := 0, locals := 23 }) vwCl (wdX q cA) D [(cA, .int)] (ZX tq) .int [.ref (q 2)] μ ru := by
  refine k_enti (cc := prog_3_method_17_code) 1 (by decide) rfl (Nat.le_of_ble_eq_true rfl) ?_
  intro p e s m below meth c A ls X hI hl
  have hl : lv_has ls 1 [(0, .ref (q 2))] := hl
  obtain ⟨hx, hb, hml, hown, hts, hK, hZ, hA, hr, hlocks⟩ := id X
  unfold fn_Elements_toSide_r2 at hf
  refine lv_aload_n hx hb d_Elements_toSide_0 rfl (lv_at hl 0 rfl) ?_
  refine va_get (D := D) (ci := 1) (v := .int (μ.1 2 4)) (C := "ScriptDesk$Elements") (T := T_Elements) (N := 5) hx hb hts iw_Elements hown hK hI.1 2 rfl rfl 4 (by decide) (hts _ tw_33) (fun _ h9 => h9) rfl d_Elements_toSide_1 ?_
  refine lv_iconst (v := 1) hx hb d_Elements_toSide_4 (by decide) ?_
  refine lv_icmp_lt (tgt := 17) hx hb d_Elements_toSide_5 (by decide) (fun hc => ?_) (fun hc => ?_)
  · have hf := sd_t hf hc
    refine lv_iconst (v := 5) hx hb d_Elements_toSide_17 (by decide) ?_
    exact k_reti X hI (vp_nar_int _) hf d_Elements_toSide_18
  · have hf := sd_f hf hc
    refine lv_aload_n hx hb d_Elements_toSide_8 rfl (lv_at hl 0 rfl) ?_
    refine va_get (D := D) (ci := 1) (v := .int (μ.1 2 3)) (C := "ScriptDesk$Elements") (T := T_Elements) (N := 5) hx hb hts iw_Elements hown hK hI.1 2 rfl rfl 3 (by decide) (hts _ tw_32) (fun _ h9 => h9) rfl d_Elements_toSide_9 ?_
    refine lv_bipush (v := 64) hx hb d_Elements_toSide_12 (by decide) ?_
    refine lv_icmp_lt (tgt := 19) hx hb d_Elements_toSide_14 (by decide) (fun hc => ?_) (fun hc => ?_)
    · have hf := sd_t hf hc
      refine lv_aload_n hx hb d_Elements_toSide_19 rfl (lv_at hl 0 rfl) ?_
      refine lv_aload_n hx hb d_Elements_toSide_20 rfl (lv_at hl 0 rfl) ?_
      refine va_get (D := D) (ci := 1) (v := .int (μ.1 2 4)) (C := "ScriptDesk$Elements") (T := T_Elements) (N := 5) hx hb hts iw_Elements hown hK hI.1 2 rfl rfl 4 (by decide) (hts _ tw_33) (fun _ h9 => h9) rfl d_Elements_toSide_21 ?_
      refine lv_iconst (v := 1) hx hb d_Elements_toSide_24 (by decide) ?_
      refine lv_isub hx hb d_Elements_toSide_25 ?_
      refine lv_bipush (v := 63) hx hb d_Elements_toSide_26 (by decide) ?_
      refine lv_aload_n hx hb d_Elements_toSide_28 rfl (lv_at hl 0 rfl) ?_
      refine va_get (D := D) (ci := 1) (v := .int (μ.1 2 3)) (C := "ScriptDesk$Elements") (T := T_Elements) (N := 5) hx hb hts iw_Elements hown hK hI.1 2 rfl rfl 3 (by decide) (hts _ tw_32) (fun _ h9 => h9) rfl d_Elements_toSide_29 ?_
      refine lv_isub hx hb d_Elements_toSide_32 ?_
      obtain ⟨m1, hq, hf⟩ := sd_bv_e hf
      refine k_callVv (As := [.int ((μ.1 2 4) - (1 : Int32)), .int ((63 : Int32) - (μ.1 2 3))]) (rest := []) (C := "ScriptDesk$Elements") (ci := 1) ZX_ok X hI (mt_Elements_swapSlots_r2 l hq) (cwV 2 hts (gd_V tw_280 tw_282 ts_7 tw_2 tw_283) rfl rfl rfl (by decide +kernel) ⟨Nat.le_of_ble_eq_true rfl, Nat.le_of_ble_eq_true rfl⟩) 2 rfl rfl rfl hl.1 rfl (Nat.le_of_ble_eq_true rfl) d_Elements_toSide_33 ⟨Nat.zero_le _, Nat.zero_le _⟩ (fun H locs hI => ?_)
      refine lv_aload_n hx hb d_Elements_toSide_36 rfl (lv_at hl 0 rfl) ?_
      refine lv_dup hx hb d_Elements_toSide_37 rfl ?_
      refine va_get (D := D) (ci := 1) (v := .int (m1.1 2 4)) (C := "ScriptDesk$Elements") (T := T_Elements) (N := 5) hx hb hts iw_Elements hown hK hI.1 2 rfl rfl 4 (by decide) (hts _ tw_33) (fun _ h9 => h9) rfl d_Elements_toSide_38 ?_
      refine lv_iconst (v := 1) hx hb d_Elements_toSide_41 (by decide) ?_
      refine lv_isub hx hb d_Elements_toSide_42 ?_
      refine k_put (ci := 1) (v := .int ((m1.1 2 4) - (1 : Int32))) (ty := .int) (C := "ScriptDesk$Elements") (T := T_Elements) (N := 5) (μ' := sd_st m1 2 4 ((m1.1 2 4) - (1 : Int32))) hx hb hts iw_Elements t_Elements t_Elements_ok n_Elements hown hK hI 2 rfl rfl 4 (by decide) (hts _ tw_33) (fun _ h9 => h9) rfl (by decide +kernel) rfl rfl (Nat.le_of_ble_eq_true rfl) rfl d_Elements_toSide_43 (fun H locs hI => ?_)
      obtain ⟨m2, hI, hf⟩ := k_lm hf hI
      refine lv_aload_n hx hb d_Elements_toSide_46 rfl (lv_at hl 0 rfl) ?_
      refine lv_dup hx hb d_Elements_toSide_47 rfl ?_
      refine va_get (D := D) (ci := 1) (v := .int (m2.1 2 3)) (C := "ScriptDesk$Elements") (T := T_Elements) (N := 5) hx hb hts iw_Elements hown hK hI.1 2 rfl rfl 3 (by decide) (hts _ tw_32) (fun _ h9 => h9) rfl d_Elements_toSide_48 ?_
      refine lv_iconst (v := 1) hx hb d_Elements_toSide_51 (by decide) ?_
      refine lv_iadd hx hb d_Elements_toSide_52 ?_
      refine k_put (ci := 1) (v := .int ((m2.1 2 3) + (1 : Int32))) (ty := .int) (C := "ScriptDesk$Elements") (T := T_Elements) (N := 5) (μ' := sd_st m2 2 3 ((m2.1 2 3) + (1 : Int32))) hx hb hts iw_Elements t_Elements t_Elements_ok n_Elements hown hK hI 2 rfl rfl 3 (by decide) (hts _ tw_32) (fun _ h9 => h9) rfl (by decide +kernel) rfl rfl (Nat.le_of_ble_eq_true rfl) rfl d_Elements_toSide_53 (fun H locs hI => ?_)
      obtain ⟨m3, hI, hf⟩ := k_lm hf hI
      refine lv_iconst (v := 0) hx hb d_Elements_toSide_56 (by decide) ?_
      exact k_reti X hI (vp_nar_int _) hf d_Elements_toSide_57
    · have hf := sd_f hf hc
      refine lv_iconst (v := 5) hx hb d_Elements_toSide_17 (by decide) ?_
      exact k_reti X hI (vp_nar_int _) hf d_Elements_toSide_18
set_option maxHeartbeats 4000000 in
set_option maxRecDepth 100000 in
theorem mt_Elements_fromSide_r2 (l : Launch) {D : va_G} {q tq : Nat → Nat} {cA : ClassId} {μ : sd_Me} {ru : Int32 × sd_Me} (hf : fn_Elements_fromSide_r2 μ = some ru) : sd_CTi l y_Elements_fromSide w_Elements_fromSide ({ frames := 1, cells := 0, slots := 0, locals := 23 }) vwCl (wdX q cA) D [(cA, .int)] (ZX tq) .int [.ref (q 2)] μ ru := by
  refine k_enti (cc := prog_3_method_18_code) 1 (by decide) rfl (Nat.le_of_ble_eq_true rfl) ?_
  intro p e s m below meth c A ls X hI hl
  have hl : lv_has ls 1 [(0, .ref (q 2))] := hl
  obtain ⟨hx, hb, hml, hown, hts, hK, hZ, hA, hr, hlocks⟩ := id X
  unfold fn_Elements_fromSide_r2 at hf
  refine lv_aload_n hx hb d_Elements_fromSide_0 rfl (lv_at hl 0 rfl) ?_
  refine va_get (D := D) (ci := 1) (v := .int (μ.1 2 3)) (C := "ScriptDesk$Elements") (T := T_Elements) (N := 5) hx hb hts iw_Elements hown hK hI.1 2 rfl rfl 3 (by decide) (hts _ tw_32) (fun _ h9 => h9) rfl d_Elements_fromSide_1 ?_
  refine lv_iconst (v := 1) hx hb d_Elements_fromSide_4 (by decide) ?_
  refine lv_icmp_lt (tgt := 17) hx hb d_Elements_fromSide_5 (by decide) (fun hc => ?_) (fun hc => ?_)
  · have hf := sd_t hf hc
    refine lv_iconst (v := 5) hx hb d_Elements_fromSide_17 (by decide) ?_
    exact k_reti X hI (vp_nar_int _) hf d_Elements_fromSide_18
  · have hf := sd_f hf hc
    refine lv_aload_n hx hb d_Elements_fromSide_8 rfl (lv_at hl 0 rfl) ?_
    refine va_get (D := D) (ci := 1) (v := .int (μ.1 2 4)) (C := "ScriptDesk$Elements") (T := T_Elements) (N := 5) hx hb hts iw_Elements hown hK hI.1 2 rfl rfl 4 (by decide) (hts _ tw_33) (fun _ h9 => h9) rfl d_Elements_fromSide_9 ?_
    refine lv_bipush (v := 64) hx hb d_Elements_fromSide_12 (by decide) ?_
    refine lv_icmp_lt (tgt := 19) hx hb d_Elements_fromSide_14 (by decide) (fun hc => ?_) (fun hc => ?_)
    · have hf := sd_t hf hc
      refine lv_aload_n hx hb d_Elements_fromSide_19 rfl (lv_at hl 0 rfl) ?_
      refine lv_aload_n hx hb d_Elements_fromSide_20 rfl (lv_at hl 0 rfl) ?_
      refine va_get (D := D) (ci := 1) (v := .int (μ.1 2 4)) (C := "ScriptDesk$Elements") (T := T_Elements) (N := 5) hx hb hts iw_Elements hown hK hI.1 2 rfl rfl 4 (by decide) (hts _ tw_33) (fun _ h9 => h9) rfl d_Elements_fromSide_21 ?_
      refine lv_bipush (v := 64) hx hb d_Elements_fromSide_24 (by decide) ?_
      refine lv_aload_n hx hb d_Elements_fromSide_26 rfl (lv_at hl 0 rfl) ?_
      refine va_get (D := D) (ci := 1) (v := .int (μ.1 2 3)) (C := "ScriptDesk$Elements") (T := T_Elements) (N := 5) hx hb hts iw_Elements hown hK hI.1 2 rfl rfl 3 (by decide) (hts _ tw_32) (fun _ h9 => h9) rfl d_Elements_fromSide_27 ?_
      refine lv_isub hx hb d_Elements_fromSide_30 ?_
      obtain ⟨m1, hq, hf⟩ := sd_bv_e hf
      refine k_callVv (As := [.int (μ.1 2 4), .int ((64 : Int32) - (μ.1 2 3))]) (rest := []) (C := "ScriptDesk$Elements") (ci := 1) ZX_ok X hI (mt_Elements_swapSlots_r2 l hq) (cwV 2 hts (gd_V tw_280 tw_282 ts_7 tw_2 tw_283) rfl rfl rfl (by decide +kernel) ⟨Nat.le_of_ble_eq_true rfl, Nat.le_of_ble_eq_true rfl⟩) 2 rfl rfl rfl hl.1 rfl (Nat.le_of_ble_eq_true rfl) d_Elements_fromSide_31 ⟨Nat.zero_le _, Nat.zero_le _⟩ (fun H locs hI => ?_)
      refine lv_aload_n hx hb d_Elements_fromSide_34 rfl (lv_at hl 0 rfl) ?_
      refine lv_dup hx hb d_Elements_fromSide_35 rfl ?_
      refine va_get (D := D) (ci := 1) (v := .int (m1.1 2 3)) (C := "ScriptDesk$Elements") (T := T_Elements) (N := 5) hx hb hts iw_Elements hown hK hI.1 2 rfl rfl 3 (by decide) (hts _ tw_32) (fun _ h9 => h9) rfl d_Elements_fromSide_36 ?_
      refine lv_iconst (v := 1) hx hb d_Elements_fromSide_39 (by decide) ?_
      refine lv_isub hx hb d_Elements_fromSide_40 ?_
      refine k_put (ci := 1) (v := .int ((m1.1 2 3) - (1 : Int32))) (ty := .int) (C := "ScriptDesk$Elements") (T := T_Elements) (N := 5) (μ' := sd_st m1 2 3 ((m1.1 2 3) - (1 : Int32))) hx hb hts iw_Elements t_Elements t_Elements_ok n_Elements hown hK hI 2 rfl rfl 3 (by decide) (hts _ tw_32) (fun _ h9 => h9) rfl (by decide +kernel) rfl rfl (Nat.le_of_ble_eq_true rfl) rfl d_Elements_fromSide_41 (fun H locs hI => ?_)
      obtain ⟨m2, hI, hf⟩ := k_lm hf hI
      refine lv_aload_n hx hb d_Elements_fromSide_44 rfl (lv_at hl 0 rfl) ?_
      refine lv_dup hx hb d_Elements_fromSide_45 rfl ?_
      refine va_get (D := D) (ci := 1) (v := .int (m2.1 2 4)) (C := "ScriptDesk$Elements") (T := T_Elements) (N := 5) hx hb hts iw_Elements hown hK hI.1 2 rfl rfl 4 (by decide) (hts _ tw_33) (fun _ h9 => h9) rfl d_Elements_fromSide_46 ?_
      refine lv_iconst (v := 1) hx hb d_Elements_fromSide_49 (by decide) ?_
      refine lv_iadd hx hb d_Elements_fromSide_50 ?_
      refine k_put (ci := 1) (v := .int ((m2.1 2 4) + (1 : Int32))) (ty := .int) (C := "ScriptDesk$Elements") (T := T_Elements) (N := 5) (μ' := sd_st m2 2 4 ((m2.1 2 4) + (1 : Int32))) hx hb hts iw_Elements t_Elements t_Elements_ok n_Elements hown hK hI 2 rfl rfl 4 (by decide) (hts _ tw_33) (fun _ h9 => h9) rfl (by decide +kernel) rfl rfl (Nat.le_of_ble_eq_true rfl) rfl d_Elements_fromSide_51 (fun H locs hI => ?_)
      obtain ⟨m3, hI, hf⟩ := k_lm hf hI
      refine lv_iconst (v := 0) hx hb d_Elements_fromSide_54 (by decide) ?_
      exact k_reti X hI (vp_nar_int _) hf d_Elements_fromSide_55
    · have hf := sd_f hf hc
      refine lv_iconst (v := 5) hx hb d_Elements_fromSide_17 (by decide) ?_
      exact k_reti X hI (vp_nar_int _) hf d_Elements_fromSide_18
set_option maxHeartbeats 4000000 in
set_option maxRecDepth 100000 in
theorem mt_Desk_performPlain_r0 (l : Launch) {D : va_G} {q tq : Nat → Nat} {cA : ClassId} {a1 : Int32} {μ : sd_Me} {ru : Int32 × sd_Me} (hf : fn_Desk_performPlain_r0 a1 μ = some ru) : sd_CTi l y_Desk_performPlain w_Desk_performPlain ({ frames := 3, cells := 0, slots := 0, locals := 65 }) vwCl (wdX q cA) D [(cA, .int)] (ZX tq) .int [.ref (q 0), .int a1] μ ru := by
  refine k_enti (cc := prog_1_method_18_code) 2 (by decide) rfl (Nat.le_of_ble_eq_true rfl) ?_
  intro p e s m below meth c A ls X hI hl
  have hl : lv_has ls 2 [(0, .ref (q 0)), (1, .int a1)] := hl
  obtain ⟨hx, hb, hml, hown, hts, hK, hZ, hA, hr, hlocks⟩ := id X
  unfold fn_Desk_performPlain_r0 at hf
  refine lv_iload_n hx hb d_Desk_performPlain_0 rfl (lv_at hl 1 rfl) ?_
  by_cases hc97 : a1 = (97 : Int32)
  · have hf := sd_t hf hc97
    refine k_tbl (off := 63) (tgt := 64) hx hb d_Desk_performPlain_1 (by decide) (by rw [hc97]; decide) (by decide) ?_
    refine lv_iconst (v := 0) hx hb d_Desk_performPlain_64 (by decide) ?_
    exact k_reti X hI (vp_nar_int _) hf d_Desk_performPlain_65
  · have hf := sd_f hf hc97
    by_cases hc105 : a1 = (105 : Int32)
    · have hf := sd_t hf hc105
      refine k_tbl (off := 65) (tgt := 66) hx hb d_Desk_performPlain_1 (by decide) (by rw [hc105]; decide) (by decide) ?_
      refine lv_aload_n hx hb d_Desk_performPlain_66 rfl (lv_at hl 0 rfl) ?_
      refine va_get (D := D) (ci := 0) (v := .ref (q 2)) (C := "ScriptDesk") (T := T_Desk) (N := 10) hx hb hts iw_Desk hown hK hI.1 0 rfl rfl 4 (by decide) (hts _ tw_143) (fun _ h9 => h9) rfl d_Desk_performPlain_67 ?_
      obtain ⟨x2, m1, hq, hf⟩ := sd_bi_e hf
      refine k_callV (As := []) (rest := []) (C := "ScriptDesk$Elements") (ci := 1) ZX_ok X hI (mt_Elements_takeTrue_r2 l hq) (cwV 0 hts (gd_V tw_270 tw_271 tw_272 tw_2 tw_273) rfl rfl rfl (by decide +kernel) ⟨Nat.le_of_ble_eq_true rfl, Nat.le_of_ble_eq_true rfl⟩) 2 rfl rfl rfl hl.1 rfl (Nat.le_of_ble_eq_true rfl) d_Desk_performPlain_70 ⟨Nat.zero_le _, Nat.zero_le _⟩ (fun H locs hn_x2 hI => ?_)
      exact k_reti X hI (vp_nar_int _) hf d_Desk_performPlain_73
    · have hf := sd_f hf hc105
      by_cases hc106 : a1 = (106 : Int32)
      · have hf := sd_t hf hc106
        refine k_tbl (off := 73) (tgt := 74) hx hb d_Desk_performPlain_1 (by decide) (by rw [hc106]; decide) (by decide) ?_
        refine lv_bipush (v := 9) hx hb d_Desk_performPlain_74 (by decide) ?_
        exact k_reti X hI (vp_nar_int _) hf d_Desk_performPlain_76
      · have hf := sd_f hf hc106
        by_cases hc107 : a1 = (107 : Int32)
        · have hf := sd_t hf hc107
          refine k_tbl (off := 76) (tgt := 77) hx hb d_Desk_performPlain_1 (by decide) (by rw [hc107]; decide) (by decide) ?_
          refine lv_aload_n hx hb d_Desk_performPlain_77 rfl (lv_at hl 0 rfl) ?_
          refine va_get (D := D) (ci := 0) (v := .ref (q 2)) (C := "ScriptDesk") (T := T_Desk) (N := 10) hx hb hts iw_Desk hown hK hI.1 0 rfl rfl 4 (by decide) (hts _ tw_143) (fun _ h9 => h9) rfl d_Desk_performPlain_78 ?_
          obtain ⟨x4, m3, hq, hf⟩ := sd_bi_e hf
          refine k_callV (As := []) (rest := []) (C := "ScriptDesk$Elements") (ci := 1) ZX_ok X hI (mt_Elements_toSide_r2 l hq) (cwV 0 hts (gd_V tw_276 tw_277 tw_278 tw_2 tw_279) rfl rfl rfl (by decide +kernel) ⟨Nat.le_of_ble_eq_true rfl, Nat.le_of_ble_eq_true rfl⟩) 2 rfl rfl rfl hl.1 rfl (Nat.le_of_ble_eq_true rfl) d_Desk_performPlain_81 ⟨Nat.zero_le _, Nat.zero_le _⟩ (fun H locs hn_x4 hI => ?_)
          exact k_reti X hI (vp_nar_int _) hf d_Desk_performPlain_84
        · have hf := sd_f hf hc107
          by_cases hc108 : a1 = (108 : Int32)
          · have hf := sd_t hf hc108
            refine k_tbl (off := 84) (tgt := 85) hx hb d_Desk_performPlain_1 (by decide) (by rw [hc108]; decide) (by decide) ?_
            refine lv_aload_n hx hb d_Desk_performPlain_85 rfl (lv_at hl 0 rfl) ?_
            refine va_get (D := D) (ci := 0) (v := .ref (q 2)) (C := "ScriptDesk") (T := T_Desk) (N := 10) hx hb hts iw_Desk hown hK hI.1 0 rfl rfl 4 (by decide) (hts _ tw_143) (fun _ h9 => h9) rfl d_Desk_performPlain_86 ?_
            obtain ⟨x6, m5, hq, hf⟩ := sd_bi_e hf
            refine k_callV (As := []) (rest := []) (C := "ScriptDesk$Elements") (ci := 1) ZX_ok X hI (mt_Elements_fromSide_r2 l hq) (cwV 0 hts (gd_V tw_284 tw_285 tw_286 tw_2 tw_287) rfl rfl rfl (by decide +kernel) ⟨Nat.le_of_ble_eq_true rfl, Nat.le_of_ble_eq_true rfl⟩) 2 rfl rfl rfl hl.1 rfl (Nat.le_of_ble_eq_true rfl) d_Desk_performPlain_89 ⟨Nat.zero_le _, Nat.zero_le _⟩ (fun H locs hn_x6 hI => ?_)
            exact k_reti X hI (vp_nar_int _) hf d_Desk_performPlain_92
          · have hf := sd_f hf hc108
            refine k_tbl (off := 92) (tgt := 93) hx hb d_Desk_performPlain_1 (by decide) (k_tbld [(97 : Int32), (105 : Int32), (106 : Int32), (107 : Int32), (108 : Int32)] (by decide) (by
                intro k hk
                simp only [List.mem_cons, List.not_mem_nil, or_false] at hk
                rcases hk with rfl | rfl | rfl | rfl | rfl
                · exact hc97
                · exact hc105
                · exact hc106
                · exact hc107
                · exact hc108
                )) (by decide) ?_
            refine lv_iconst (v := 4) hx hb d_Desk_performPlain_93 (by decide) ?_
            exact k_reti X hI (vp_nar_int _) hf d_Desk_performPlain_94
set_option maxHeartbeats 4000000 in
set_option maxRecDepth 100000 in
theorem jn_Desk_pushSmallNumber_r0_J14 (l : Launch) {p : Program} {e : Env} {s : State} {m : MethodId} {args : Array Value} {below : List Frame} {meth : Method} {c : Code} {A : Nat → Prop} {D : va_G} {q tq : Nat → Nat} {cA : ClassId} {ru : Int32 × sd_Me} (X : sd_Cx p s m args meth c prog_1_method_17_code "ScriptDesk" sx_tbl 2 (some .int) vwCl D [(cA, .int)] (ZX tq) A) (v1 : Int32) (μ : sd_Me) (H : Heap) (locs : List Loc) (ls : Array Slot) (hI : sd_CI vwCl (wdX q cA) D A s H locs μ) (hl : lv_has ls 2 [(0, .ref (q 0)), (1, .int v1)]) (hf : fn_Desk_pushSmallNumber_r0_J14 v1 μ = some ru) : W p l e ({ frames := 1, cells := 0, slots := 0, locals := 27 }) s m args below meth c H locs 0 0 (sd_QI below vwCl (wdX q cA) D [(cA, .int)] .int A args s ru) (F0 m 14 ls []) := by
  obtain ⟨hx, hb, hml, hown, hts, hK, hZ, hA, hr, hlocks⟩ := id X
  unfold fn_Desk_pushSmallNumber_r0_J14 at hf
  refine lv_aload_n hx hb d_Desk_pushSmallNumber_14 rfl (lv_at hl 0 rfl) ?_
  refine va_get (D := D) (ci := 0) (v := .ref (q 2)) (C := "ScriptDesk") (T := T_Desk) (N := 10) hx hb hts iw_Desk hown hK hI.1 0 rfl rfl 4 (by decide) (hts _ tw_143) (fun _ h9 => h9) rfl d_Desk_pushSmallNumber_15 ?_
  refine lv_iload_n hx hb d_Desk_pushSmallNumber_18 rfl (lv_at hl 1 rfl) ?_
  refine lv_bipush (v := 80) hx hb d_Desk_pushSmallNumber_19 (by decide) ?_
  refine lv_isub hx hb d_Desk_pushSmallNumber_21 ?_
  refine lv_i2l (v := (Int32.toInt64 (v1 - (80 : Int32)))) hx hb d_Desk_pushSmallNumber_22 rfl ?_
  obtain ⟨m1, hq, hf⟩ := sd_bv_e hf
  refine k_callVv (As := [.long (Int32.toInt64 (v1 - (80 : Int32)))]) (rest := []) (C := "ScriptDesk$Elements") (ci := 1) ZX_ok X hI (mt_Elements_pushNumber_r2 l hq) (cwV 1 hts (gd_V tw_261 tw_262 tw_263 tw_2 tw_264) rfl rfl rfl (by decide +kernel) ⟨Nat.le_of_ble_eq_true rfl, Nat.le_of_ble_eq_true rfl⟩) 2 rfl rfl rfl hl.1 rfl (Nat.le_of_ble_eq_true rfl) d_Desk_pushSmallNumber_23 ⟨Nat.zero_le _, Nat.zero_le _⟩ (fun H locs hI => ?_)
  refine lv_iconst (v := 0) hx hb d_Desk_pushSmallNumber_26 (by decide) ?_
  exact k_reti X hI (vp_nar_int _) hf d_Desk_pushSmallNumber_27
set_option maxHeartbeats 4000000 in
set_option maxRecDepth 100000 in
theorem mt_Desk_pushSmallNumber_r0 (l : Launch) {D : va_G} {q tq : Nat → Nat} {cA : ClassId} {a1 : Int32} {μ : sd_Me} {ru : Int32 × sd_Me} (hf : fn_Desk_pushSmallNumber_r0 a1 μ = some ru) : sd_CTi l y_Desk_pushSmallNumber w_Desk_pushSmallNumber ({ frames := 1, cells := 0, slots := 0, locals := 27 }) vwCl (wdX q cA) D [(cA, .int)] (ZX tq) .int [.ref (q 0), .int a1] μ ru := by
  refine k_enti (cc := prog_1_method_17_code) 2 (by decide) rfl (Nat.le_of_ble_eq_true rfl) ?_
  intro p e s m below meth c A ls X hI hl
  have hl : lv_has ls 2 [(0, .ref (q 0)), (1, .int a1)] := hl
  obtain ⟨hx, hb, hml, hown, hts, hK, hZ, hA, hr, hlocks⟩ := id X
  unfold fn_Desk_pushSmallNumber_r0 at hf
  refine lv_iload_n hx hb d_Desk_pushSmallNumber_0 rfl (lv_at hl 1 rfl) ?_
  refine lv_bipush (v := 79) hx hb d_Desk_pushSmallNumber_1 (by decide) ?_
  refine lv_icmp_eq (tgt := 14) hx hb d_Desk_pushSmallNumber_3 (by decide) (fun hc => ?_) (fun hc => ?_)
  · have hf := sd_t hf hc
    exact jn_Desk_pushSmallNumber_r0_J14 l X (a1) μ _ _ _ hI (lv_sub hl [0, 1] rfl) hf
  · have hf := sd_f hf hc
    refine lv_iload_n hx hb d_Desk_pushSmallNumber_6 rfl (lv_at hl 1 rfl) ?_
    refine lv_bipush (v := 81) hx hb d_Desk_pushSmallNumber_7 (by decide) ?_
    refine lv_icmp_ge (tgt := 14) hx hb d_Desk_pushSmallNumber_9 (by decide) (fun hc => ?_) (fun hc => ?_)
    · have hf := sd_t hf hc
      exact jn_Desk_pushSmallNumber_r0_J14 l X (a1) μ _ _ _ hI (lv_sub hl [0, 1] rfl) hf
    · have hf := sd_f hf hc
      refine lv_iconst (v := 4) hx hb d_Desk_pushSmallNumber_12 (by decide) ?_
      exact k_reti X hI (vp_nar_int _) hf d_Desk_pushSmallNumber_13
