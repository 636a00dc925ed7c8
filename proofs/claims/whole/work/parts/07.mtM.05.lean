set_option maxHeartbeats 4000000 in
set_option maxRecDepth 100000 in
theorem mt_Model_moves_r0 (l : Launch) {D : va_G} {q tq : Nat → Nat} {cA : ClassId} {a1 : Int32} {μ : sd_Me} {ru : sd_Me} (hf : fn_Model_moves_r0 a1 μ = some ru) : sd_CTv l y_Model_moves w_Model_moves ({ frames := 4, cells := 0, slots := 0, locals := 88 }) vwCl (wdM q cA) D [(cA, .int)] (ZM tq) [.ref (q 0), .int a1] μ ru := by
  refine k_entv (cc := prog_12_method_30_code) 2 (by decide) rfl (Nat.le_of_ble_eq_true rfl) ?_
  intro p e s m below meth c A ls X hI hl
  have hl : lv_has ls 2 [(0, .ref (q 0)), (1, .int a1)] := hl
  obtain ⟨hx, hb, hml, hown, hts, hK, hZ, hA, hr, hlocks⟩ := id X
  unfold fn_Model_moves_r0 at hf
  refine lv_iload_n hx hb d_Model_moves_0 rfl (lv_at hl 1 rfl) ?_
  by_cases hc107 : a1 = (107 : Int32)
  · have hf := sd_t hf hc107
    refine k_tbl (off := 91) (tgt := 92) hx hb d_Model_moves_1 (by decide) (by rw [hc107]; decide) (by decide) ?_
    refine lv_aload_n hx hb d_Model_moves_92 rfl (lv_at hl 0 rfl) ?_
    refine lv_iconst (v := 1) hx hb d_Model_moves_93 (by decide) ?_
    obtain ⟨x2, m1, hq, hf⟩ := sd_bi_e hf
    refine k_callV (As := [.int (1 : Int32)]) (rest := []) (C := "ScriptDeskModel") (ci := 7) ZM_ok X hI (mt_Model_has_r0 l hq) (cwV 1 hts (gd_V tw_619 tw_621 ts_19 tw_9 tw_622) rfl rfl rfl (by decide +kernel) ⟨Nat.le_of_ble_eq_true rfl, Nat.le_of_ble_eq_true rfl⟩) 0 rfl rfl rfl hl.1 rfl (Nat.le_of_ble_eq_true rfl) d_Model_moves_94 ⟨Nat.zero_le _, Nat.zero_le _⟩ (fun H locs hn_x2 hI => ?_)
    refine lv_if_eq (tgt := 442) hx hb d_Model_moves_97 (by decide) (fun hc => ?_) (fun hc => ?_)
    · have hf := sd_t hf hc
      exact k_retv X hI hf d_Model_moves_442
    · have hf := sd_f hf hc
      refine lv_aload_n hx hb d_Model_moves_100 rfl (lv_at hl 0 rfl) ?_
      refine lv_dup hx hb d_Model_moves_101 rfl ?_
      refine va_get (D := D) (ci := 7) (v := .int (m1.1 0 2)) (C := "ScriptDeskModel") (T := T_Model) (N := 18) hx hb hts iw_Model hown hK hI.1 0 rfl rfl 2 (by decide) (hts _ tw_533) (fun _ h9 => h9) rfl d_Model_moves_102 ?_
      refine lv_iconst (v := 1) hx hb d_Model_moves_105 (by decide) ?_
      refine lv_isub hx hb d_Model_moves_106 ?_
      refine k_put (ci := 7) (v := .int ((m1.1 0 2) - (1 : Int32))) (ty := .int) (C := "ScriptDeskModel") (T := T_Model) (N := 18) (μ' := sd_st m1 0 2 ((m1.1 0 2) - (1 : Int32))) hx hb hts iw_Model t_Model t_Model_ok n_Model hown hK hI 0 rfl rfl 2 (by decide) (hts _ tw_533) (fun _ h9 => h9) rfl (by decide +kernel) rfl rfl (Nat.le_of_ble_eq_true rfl) rfl d_Model_moves_107 (fun H locs hI => ?_)
      obtain ⟨m3, hI, hf⟩ := k_lm hf hI
      refine lv_aload_n hx hb d_Model_moves_110 rfl (lv_at hl 0 rfl) ?_
      refine lv_bipush (v := 70) hx hb d_Model_moves_111 (by decide) ?_
      refine lv_aload_n hx hb d_Model_moves_113 rfl (lv_at hl 0 rfl) ?_
      refine va_get (D := D) (ci := 7) (v := .int (m3.1 0 3)) (C := "ScriptDeskModel") (T := T_Model) (N := 18) hx hb hts iw_Model hown hK hI.1 0 rfl rfl 3 (by decide) (hts _ tw_534) (fun _ h9 => h9) rfl d_Model_moves_114 ?_
      refine lv_iadd hx hb d_Model_moves_117 ?_
      refine lv_aload_n hx hb d_Model_moves_118 rfl (lv_at hl 0 rfl) ?_
      refine va_get (D := D) (ci := 7) (v := .int (m3.1 0 2)) (C := "ScriptDeskModel") (T := T_Model) (N := 18) hx hb hts iw_Model hown hK hI.1 0 rfl rfl 2 (by decide) (hts _ tw_533) (fun _ h9 => h9) rfl d_Model_moves_119 ?_
      obtain ⟨m4, hq, hf⟩ := sd_bv_e hf
      refine k_callVv (As := [.int ((70 : Int32) + (m3.1 0 3)), .int (m3.1 0 2)]) (rest := []) (C := "ScriptDeskModel") (ci := 7) ZM_ok X hI (mt_Model_copy_r0 l hq) (cwV 2 hts (gd_V tw_641 tw_643 ts_24 tw_9 tw_644) rfl rfl rfl (by decide +kernel) ⟨Nat.le_of_ble_eq_true rfl, Nat.le_of_ble_eq_true rfl⟩) 0 rfl rfl rfl hl.1 rfl (Nat.le_of_ble_eq_true rfl) d_Model_moves_122 ⟨Nat.zero_le _, Nat.zero_le _⟩ (fun H locs hI => ?_)
      refine lv_aload_n hx hb d_Model_moves_125 rfl (lv_at hl 0 rfl) ?_
      refine lv_dup hx hb d_Model_moves_126 rfl ?_
      refine va_get (D := D) (ci := 7) (v := .int (m4.1 0 3)) (C := "ScriptDeskModel") (T := T_Model) (N := 18) hx hb hts iw_Model hown hK hI.1 0 rfl rfl 3 (by decide) (hts _ tw_534) (fun _ h9 => h9) rfl d_Model_moves_127 ?_
      refine lv_iconst (v := 1) hx hb d_Model_moves_130 (by decide) ?_
      refine lv_iadd hx hb d_Model_moves_131 ?_
      refine k_put (ci := 7) (v := .int ((m4.1 0 3) + (1 : Int32))) (ty := .int) (C := "ScriptDeskModel") (T := T_Model) (N := 18) (μ' := sd_st m4 0 3 ((m4.1 0 3) + (1 : Int32))) hx hb hts iw_Model t_Model t_Model_ok n_Model hown hK hI 0 rfl rfl 3 (by decide) (hts _ tw_534) (fun _ h9 => h9) rfl (by decide +kernel) rfl rfl (Nat.le_of_ble_eq_true rfl) rfl d_Model_moves_132 (fun H locs hI => ?_)
      obtain ⟨m5, hI, hf⟩ := k_lm hf hI
      refine lv_goto (tgt := 442) hx hb d_Model_moves_135 (by decide) ?_
      exact k_retv X hI hf d_Model_moves_442
  · have hf := sd_f hf hc107
    by_cases hc108 : a1 = (108 : Int32)
    · have hf := sd_t hf hc108
      refine k_tbl (off := 137) (tgt := 138) hx hb d_Model_moves_1 (by decide) (by rw [hc108]; decide) (by decide) ?_
      refine lv_aload_n hx hb d_Model_moves_138 rfl (lv_at hl 0 rfl) ?_
      refine va_get (D := D) (ci := 7) (v := .int (μ.1 0 3)) (C := "ScriptDeskModel") (T := T_Model) (N := 18) hx hb hts iw_Model hown hK hI.1 0 rfl rfl 3 (by decide) (hts _ tw_534) (fun _ h9 => h9) rfl d_Model_moves_139 ?_
      refine lv_if_ne (tgt := 153) hx hb d_Model_moves_142 (by decide) (fun hc => ?_) (fun hc => ?_)
      · have hf := sd_f hf hc
        refine lv_aload_n hx hb d_Model_moves_153 rfl (lv_at hl 0 rfl) ?_
        refine lv_dup hx hb d_Model_moves_154 rfl ?_
        refine va_get (D := D) (ci := 7) (v := .int (μ.1 0 3)) (C := "ScriptDeskModel") (T := T_Model) (N := 18) hx hb hts iw_Model hown hK hI.1 0 rfl rfl 3 (by decide) (hts _ tw_534) (fun _ h9 => h9) rfl d_Model_moves_155 ?_
        refine lv_iconst (v := 1) hx hb d_Model_moves_158 (by decide) ?_
        refine lv_isub hx hb d_Model_moves_159 ?_
        refine k_put (ci := 7) (v := .int ((μ.1 0 3) - (1 : Int32))) (ty := .int) (C := "ScriptDeskModel") (T := T_Model) (N := 18) (μ' := sd_st μ 0 3 ((μ.1 0 3) - (1 : Int32))) hx hb hts iw_Model t_Model t_Model_ok n_Model hown hK hI 0 rfl rfl 3 (by decide) (hts _ tw_534) (fun _ h9 => h9) rfl (by decide +kernel) rfl rfl (Nat.le_of_ble_eq_true rfl) rfl d_Model_moves_160 (fun H locs hI => ?_)
        obtain ⟨m6, hI, hf⟩ := k_lm hf hI
        refine lv_aload_n hx hb d_Model_moves_163 rfl (lv_at hl 0 rfl) ?_
        refine lv_bipush (v := 70) hx hb d_Model_moves_164 (by decide) ?_
        refine lv_aload_n hx hb d_Model_moves_166 rfl (lv_at hl 0 rfl) ?_
        refine va_get (D := D) (ci := 7) (v := .int (m6.1 0 3)) (C := "ScriptDeskModel") (T := T_Model) (N := 18) hx hb hts iw_Model hown hK hI.1 0 rfl rfl 3 (by decide) (hts _ tw_534) (fun _ h9 => h9) rfl d_Model_moves_167 ?_
        refine lv_iadd hx hb d_Model_moves_170 ?_
        obtain ⟨m7, hq, hf⟩ := sd_bv_e hf
        refine k_callVv (As := [.int ((70 : Int32) + (m6.1 0 3))]) (rest := []) (C := "ScriptDeskModel") (ci := 7) ZM_ok X hI (mt_Model_push_r0 l hq) (cwV 1 hts (gd_V tw_645 tw_647 ts_25 tw_9 tw_648) rfl rfl rfl (by decide +kernel) ⟨Nat.le_of_ble_eq_true rfl, Nat.le_of_ble_eq_true rfl⟩) 0 rfl rfl rfl hl.1 rfl (Nat.le_of_ble_eq_true rfl) d_Model_moves_171 ⟨Nat.zero_le _, Nat.zero_le _⟩ (fun H locs hI => ?_)
        refine lv_goto (tgt := 442) hx hb d_Model_moves_174 (by decide) ?_
        exact k_retv X hI hf d_Model_moves_442
      · have hf := sd_t hf hc
        refine lv_aload_n hx hb d_Model_moves_145 rfl (lv_at hl 0 rfl) ?_
        refine lv_iconst (v := 5) hx hb d_Model_moves_146 (by decide) ?_
        obtain ⟨m8, hq, hf⟩ := sd_bv_e hf
        refine k_callVv (As := [.int (5 : Int32)]) (rest := []) (C := "ScriptDeskModel") (ci := 7) ZM_ok X hI (mt_Model_fails_r0 l hq) (cwV 1 hts (gd_V tw_607 tw_609 ts_16 tw_9 tw_610) rfl rfl rfl (by decide +kernel) ⟨Nat.le_of_ble_eq_true rfl, Nat.le_of_ble_eq_true rfl⟩) 0 rfl rfl rfl hl.1 rfl (Nat.le_of_ble_eq_true rfl) d_Model_moves_147 ⟨Nat.zero_le _, Nat.zero_le _⟩ (fun H locs hI => ?_)
        refine lv_goto (tgt := 442) hx hb d_Model_moves_150 (by decide) ?_
        exact k_retv X hI hf d_Model_moves_442
    · have hf := sd_f hf hc108
      by_cases hc109 : a1 = (109 : Int32)
      · have hf := sd_t hf hc109
        refine k_tbl (off := 176) (tgt := 177) hx hb d_Model_moves_1 (by decide) (by rw [hc109]; decide) (by decide) ?_
        refine lv_aload_n hx hb d_Model_moves_177 rfl (lv_at hl 0 rfl) ?_
        refine lv_aload_n hx hb d_Model_moves_178 rfl (lv_at hl 0 rfl) ?_
        refine lv_iconst (v := 2) hx hb d_Model_moves_179 (by decide) ?_
        obtain ⟨x10, m9, hq, hf⟩ := sd_bi_e hf
        refine k_callV (As := [.int (2 : Int32)]) (rest := [.ref (q 0)]) (C := "ScriptDeskModel") (ci := 7) ZM_ok X hI (mt_Model_has_r0 l hq) (cwV 1 hts (gd_V tw_619 tw_621 ts_19 tw_9 tw_622) rfl rfl rfl (by decide +kernel) ⟨Nat.le_of_ble_eq_true rfl, Nat.le_of_ble_eq_true rfl⟩) 0 rfl rfl rfl hl.1 rfl (Nat.le_of_ble_eq_true rfl) d_Model_moves_180 ⟨Nat.zero_le _, Nat.zero_le _⟩ (fun H locs hn_x10 hI => ?_)
        refine lv_if_eq (tgt := 195) hx hb d_Model_moves_183 (by decide) (fun hc => ?_) (fun hc => ?_)
        · have hf := sd_t hf hc
          refine lv_aload_n hx hb d_Model_moves_195 rfl (lv_at hl 0 rfl) ?_
          refine va_get (D := D) (ci := 7) (v := .int (m9.1 0 2)) (C := "ScriptDeskModel") (T := T_Model) (N := 18) hx hb hts iw_Model hown hK hI.1 0 rfl rfl 2 (by decide) (hts _ tw_533) (fun _ h9 => h9) rfl d_Model_moves_196 ?_
          refine k_put (ci := 7) (v := .int (m9.1 0 2)) (ty := .int) (C := "ScriptDeskModel") (T := T_Model) (N := 18) (μ' := sd_st m9 0 2 (m9.1 0 2)) hx hb hts iw_Model t_Model t_Model_ok n_Model hown hK hI 0 rfl rfl 2 (by decide) (hts _ tw_533) (fun _ h9 => h9) rfl (by decide +kernel) rfl rfl (Nat.le_of_ble_eq_true rfl) rfl d_Model_moves_199 (fun H locs hI => ?_)
          obtain ⟨m11, hI, hf⟩ := k_lm hf hI
          refine lv_goto (tgt := 442) hx hb d_Model_moves_202 (by decide) ?_
          exact k_retv X hI hf d_Model_moves_442
        · have hf := sd_f hf hc
          refine lv_aload_n hx hb d_Model_moves_186 rfl (lv_at hl 0 rfl) ?_
          refine va_get (D := D) (ci := 7) (v := .int (m9.1 0 2)) (C := "ScriptDeskModel") (T := T_Model) (N := 18) hx hb hts iw_Model hown hK hI.1 0 rfl rfl 2 (by decide) (hts _ tw_533) (fun _ h9 => h9) rfl d_Model_moves_187 ?_
          refine lv_iconst (v := 2) hx hb d_Model_moves_190 (by decide) ?_
          refine lv_isub hx hb d_Model_moves_191 ?_
          refine lv_goto (tgt := 199) hx hb d_Model_moves_192 (by decide) ?_
          refine k_put (ci := 7) (v := .int ((m9.1 0 2) - (2 : Int32))) (ty := .int) (C := "ScriptDeskModel") (T := T_Model) (N := 18) (μ' := sd_st m9 0 2 ((m9.1 0 2) - (2 : Int32))) hx hb hts iw_Model t_Model t_Model_ok n_Model hown hK hI 0 rfl rfl 2 (by decide) (hts _ tw_533) (fun _ h9 => h9) rfl (by decide +kernel) rfl rfl (Nat.le_of_ble_eq_true rfl) rfl d_Model_moves_199 (fun H locs hI => ?_)
          obtain ⟨m12, hI, hf⟩ := k_lm hf hI
          refine lv_goto (tgt := 442) hx hb d_Model_moves_202 (by decide) ?_
          exact k_retv X hI hf d_Model_moves_442
      · have hf := sd_f hf hc109
        by_cases hc110 : a1 = (110 : Int32)
        · have hf := sd_t hf hc110
          refine k_tbl (off := 204) (tgt := 205) hx hb d_Model_moves_1 (by decide) (by rw [hc110]; decide) (by decide) ?_
          refine lv_aload_n hx hb d_Model_moves_205 rfl (lv_at hl 0 rfl) ?_
          refine lv_iconst (v := 2) hx hb d_Model_moves_206 (by decide) ?_
          refine lv_iconst (v := 1) hx hb d_Model_moves_207 (by decide) ?_
          refine lv_iconst (v := 2) hx hb d_Model_moves_208 (by decide) ?_
          obtain ⟨m13, hq, hf⟩ := sd_bv_e hf
          refine k_callVv (As := [.int (2 : Int32), .int (1 : Int32), .int (2 : Int32)]) (rest := []) (C := "ScriptDeskModel") (ci := 7) ZM_ok X hI (mt_Model_again_r0 l hq) (cwV 3 hts (gd_V tw_649 tw_651 ts_26 tw_9 tw_652) rfl rfl rfl (by decide +kernel) ⟨Nat.le_of_ble_eq_true rfl, Nat.le_of_ble_eq_true rfl⟩) 0 rfl rfl rfl hl.1 rfl (Nat.le_of_ble_eq_true rfl) d_Model_moves_209 ⟨Nat.zero_le _, Nat.zero_le _⟩ (fun H locs hI => ?_)
          refine lv_goto (tgt := 442) hx hb d_Model_moves_212 (by decide) ?_
          exact k_retv X hI hf d_Model_moves_442
        · have hf := sd_f hf hc110
          by_cases hc111 : a1 = (111 : Int32)
          · have hf := sd_t hf hc111
            refine k_tbl (off := 214) (tgt := 215) hx hb d_Model_moves_1 (by decide) (by rw [hc111]; decide) (by decide) ?_
            refine lv_aload_n hx hb d_Model_moves_215 rfl (lv_at hl 0 rfl) ?_
            refine lv_iconst (v := 3) hx hb d_Model_moves_216 (by decide) ?_
            refine lv_iconst (v := 2) hx hb d_Model_moves_217 (by decide) ?_
            refine lv_iconst (v := 3) hx hb d_Model_moves_218 (by decide) ?_
            obtain ⟨m14, hq, hf⟩ := sd_bv_e hf
            refine k_callVv (As := [.int (3 : Int32), .int (2 : Int32), .int (3 : Int32)]) (rest := []) (C := "ScriptDeskModel") (ci := 7) ZM_ok X hI (mt_Model_again_r0 l hq) (cwV 3 hts (gd_V tw_649 tw_651 ts_26 tw_9 tw_652) rfl rfl rfl (by decide +kernel) ⟨Nat.le_of_ble_eq_true rfl, Nat.le_of_ble_eq_true rfl⟩) 0 rfl rfl rfl hl.1 rfl (Nat.le_of_ble_eq_true rfl) d_Model_moves_219 ⟨Nat.zero_le _, Nat.zero_le _⟩ (fun H locs hI => ?_)
            refine lv_goto (tgt := 442) hx hb d_Model_moves_222 (by decide) ?_
            exact k_retv X hI hf d_Model_moves_442
          · have hf := sd_f hf hc111
            by_cases hc112 : a1 = (112 : Int32)
            · have hf := sd_t hf hc112
              refine k_tbl (off := 224) (tgt := 225) hx hb d_Model_moves_1 (by decide) (by rw [hc112]; decide) (by decide) ?_
              refine lv_aload_n hx hb d_Model_moves_225 rfl (lv_at hl 0 rfl) ?_
              refine lv_iconst (v := 4) hx hb d_Model_moves_226 (by decide) ?_
              refine lv_iconst (v := 3) hx hb d_Model_moves_227 (by decide) ?_
              refine lv_iconst (v := 2) hx hb d_Model_moves_228 (by decide) ?_
              obtain ⟨m15, hq, hf⟩ := sd_bv_e hf
              refine k_callVv (As := [.int (4 : Int32), .int (3 : Int32), .int (2 : Int32)]) (rest := []) (C := "ScriptDeskModel") (ci := 7) ZM_ok X hI (mt_Model_again_r0 l hq) (cwV 3 hts (gd_V tw_649 tw_651 ts_26 tw_9 tw_652) rfl rfl rfl (by decide +kernel) ⟨Nat.le_of_ble_eq_true rfl, Nat.le_of_ble_eq_true rfl⟩) 0 rfl rfl rfl hl.1 rfl (Nat.le_of_ble_eq_true rfl) d_Model_moves_229 ⟨Nat.zero_le _, Nat.zero_le _⟩ (fun H locs hI => ?_)
              refine lv_goto (tgt := 442) hx hb d_Model_moves_232 (by decide) ?_
              exact k_retv X hI hf d_Model_moves_442
            · have hf := sd_f hf hc112
              by_cases hc113 : a1 = (113 : Int32)
              · have hf := sd_t hf hc113
                refine k_tbl (off := 234) (tgt := 235) hx hb d_Model_moves_1 (by decide) (by rw [hc113]; decide) (by decide) ?_
                refine lv_aload_n hx hb d_Model_moves_235 rfl (lv_at hl 0 rfl) ?_
                refine lv_bipush (v := 6) hx hb d_Model_moves_236 (by decide) ?_
                refine lv_iconst (v := 2) hx hb d_Model_moves_238 (by decide) ?_
                obtain ⟨m16, hq, hf⟩ := sd_bv_e hf
                refine k_callVv (As := [.int (6 : Int32), .int (2 : Int32)]) (rest := []) (C := "ScriptDeskModel") (ci := 7) ZM_ok X hI (mt_Model_turn_r0 l hq) (cwV 2 hts (gd_V tw_653 tw_655 ts_27 tw_9 tw_656) rfl rfl rfl (by decide +kernel) ⟨Nat.le_of_ble_eq_true rfl, Nat.le_of_ble_eq_true rfl⟩) 0 rfl rfl rfl hl.1 rfl (Nat.le_of_ble_eq_true rfl) d_Model_moves_239 ⟨Nat.zero_le _, Nat.zero_le _⟩ (fun H locs hI => ?_)
                refine lv_goto (tgt := 442) hx hb d_Model_moves_242 (by decide) ?_
                exact k_retv X hI hf d_Model_moves_442
              · have hf := sd_f hf hc113
                by_cases hc114 : a1 = (114 : Int32)
                · have hf := sd_t hf hc114
                  refine k_tbl (off := 244) (tgt := 245) hx hb d_Model_moves_1 (by decide) (by rw [hc114]; decide) (by decide) ?_
                  refine lv_aload_n hx hb d_Model_moves_245 rfl (lv_at hl 0 rfl) ?_
                  refine lv_iconst (v := 4) hx hb d_Model_moves_246 (by decide) ?_
                  refine lv_iconst (v := 2) hx hb d_Model_moves_247 (by decide) ?_
                  obtain ⟨m17, hq, hf⟩ := sd_bv_e hf
                  refine k_callVv (As := [.int (4 : Int32), .int (2 : Int32)]) (rest := []) (C := "ScriptDeskModel") (ci := 7) ZM_ok X hI (mt_Model_turn_r0 l hq) (cwV 2 hts (gd_V tw_653 tw_655 ts_27 tw_9 tw_656) rfl rfl rfl (by decide +kernel) ⟨Nat.le_of_ble_eq_true rfl, Nat.le_of_ble_eq_true rfl⟩) 0 rfl rfl rfl hl.1 rfl (Nat.le_of_ble_eq_true rfl) d_Model_moves_248 ⟨Nat.zero_le _, Nat.zero_le _⟩ (fun H locs hI => ?_)
                  refine lv_goto (tgt := 442) hx hb d_Model_moves_251 (by decide) ?_
                  exact k_retv X hI hf d_Model_moves_442
                · have hf := sd_f hf hc114
                  by_cases hc115 : a1 = (115 : Int32)
                  · have hf := sd_t hf hc115
                    refine k_tbl (off := 253) (tgt := 254) hx hb d_Model_moves_1 (by decide) (by rw [hc115]; decide) (by decide) ?_
                    refine lv_aload_n hx hb d_Model_moves_254 rfl (lv_at hl 0 rfl) ?_
                    refine lv_iconst (v := 1) hx hb d_Model_moves_255 (by decide) ?_
                    obtain ⟨x19, m18, hq, hf⟩ := sd_bi_e hf
                    refine k_callV (As := [.int (1 : Int32)]) (rest := []) (C := "ScriptDeskModel") (ci := 7) ZM_ok X hI (mt_Model_has_r0 l hq) (cwV 1 hts (gd_V tw_619 tw_621 ts_19 tw_9 tw_622) rfl rfl rfl (by decide +kernel) ⟨Nat.le_of_ble_eq_true rfl, Nat.le_of_ble_eq_true rfl⟩) 0 rfl rfl rfl hl.1 rfl (Nat.le_of_ble_eq_true rfl) d_Model_moves_256 ⟨Nat.zero_le _, Nat.zero_le _⟩ (fun H locs hn_x19 hI => ?_)
                    refine lv_if_eq (tgt := 442) hx hb d_Model_moves_259 (by decide) (fun hc => ?_) (fun hc => ?_)
                    · have hf := sd_t hf hc
                      exact k_retv X hI hf d_Model_moves_442
                    · have hf := sd_f hf hc
                      refine lv_aload_n hx hb d_Model_moves_262 rfl (lv_at hl 0 rfl) ?_
                      refine lv_aload_n hx hb d_Model_moves_263 rfl (lv_at hl 0 rfl) ?_
                      refine lv_iconst (v := 0) hx hb d_Model_moves_264 (by decide) ?_
                      obtain ⟨x21, m20, hq, hf⟩ := sd_bi_e hf
                      refine k_callV (As := [.int (0 : Int32)]) (rest := [.ref (q 0)]) (C := "ScriptDeskModel") (ci := 7) ZM_ok X hI (mt_Model_top_r0 l hq) (cwV 1 hts (gd_V tw_657 tw_659 ts_28 tw_9 tw_660) rfl rfl rfl (by decide +kernel) ⟨Nat.le_of_ble_eq_true rfl, Nat.le_of_ble_eq_true rfl⟩) 0 rfl rfl rfl hl.1 rfl (Nat.le_of_ble_eq_true rfl) d_Model_moves_265 ⟨Nat.zero_le _, Nat.zero_le _⟩ (fun H locs hn_x21 hI => ?_)
                      obtain ⟨x23, m22, hq, hf⟩ := sd_bi_e hf
                      refine k_callV (As := [.int x21]) (rest := []) (C := "ScriptDeskModel") (ci := 7) ZM_ok X hI (mt_Model_isTrueRow_r0 l hq) (cwV 1 hts (gd_V tw_623 tw_625 ts_20 tw_9 tw_626) rfl rfl rfl (by decide +kernel) ⟨Nat.le_of_ble_eq_true rfl, Nat.le_of_ble_eq_true rfl⟩) 0 rfl rfl rfl hl.1 rfl (Nat.le_of_ble_eq_true rfl) d_Model_moves_268 ⟨Nat.zero_le _, Nat.zero_le _⟩ (fun H locs hn_x23 hI => ?_)
                      refine lv_if_eq (tgt := 442) hx hb d_Model_moves_271 (by decide) (fun hc => ?_) (fun hc => ?_)
                      · have hf := sd_t hf hc
                        exact k_retv X hI hf d_Model_moves_442
                      · have hf := sd_f hf hc
                        refine lv_aload_n hx hb d_Model_moves_274 rfl (lv_at hl 0 rfl) ?_
                        refine lv_aload_n hx hb d_Model_moves_275 rfl (lv_at hl 0 rfl) ?_
                        refine lv_iconst (v := 0) hx hb d_Model_moves_276 (by decide) ?_
                        obtain ⟨x25, m24, hq, hf⟩ := sd_bi_e hf
                        refine k_callV (As := [.int (0 : Int32)]) (rest := [.ref (q 0)]) (C := "ScriptDeskModel") (ci := 7) ZM_ok X hI (mt_Model_top_r0 l hq) (cwV 1 hts (gd_V tw_657 tw_659 ts_28 tw_9 tw_660) rfl rfl rfl (by decide +kernel) ⟨Nat.le_of_ble_eq_true rfl, Nat.le_of_ble_eq_true rfl⟩) 0 rfl rfl rfl hl.1 rfl (Nat.le_of_ble_eq_true rfl) d_Model_moves_277 ⟨Nat.zero_le _, Nat.zero_le _⟩ (fun H locs hn_x25 hI => ?_)
                        obtain ⟨m26, hq, hf⟩ := sd_bv_e hf
                        refine k_callVv (As := [.int x25]) (rest := []) (C := "ScriptDeskModel") (ci := 7) ZM_ok X hI (mt_Model_push_r0 l hq) (cwV 1 hts (gd_V tw_645 tw_647 ts_25 tw_9 tw_648) rfl rfl rfl (by decide +kernel) ⟨Nat.le_of_ble_eq_true rfl, Nat.le_of_ble_eq_true rfl⟩) 0 rfl rfl rfl hl.1 rfl (Nat.le_of_ble_eq_true rfl) d_Model_moves_280 ⟨Nat.zero_le _, Nat.zero_le _⟩ (fun H locs hI => ?_)
                        refine lv_goto (tgt := 442) hx hb d_Model_moves_283 (by decide) ?_
                        exact k_retv X hI hf d_Model_moves_442
                  · have hf := sd_f hf hc115
                    by_cases hc116 : a1 = (116 : Int32)
                    · have hf := sd_t hf hc116
                      refine k_tbl (off := 285) (tgt := 286) hx hb d_Model_moves_1 (by decide) (by rw [hc116]; decide) (by decide) ?_
                      refine lv_aload_n hx hb d_Model_moves_286 rfl (lv_at hl 0 rfl) ?_
                      refine lv_aload_n hx hb d_Model_moves_287 rfl (lv_at hl 0 rfl) ?_
                      refine va_get (D := D) (ci := 7) (v := .int (μ.1 0 2)) (C := "ScriptDeskModel") (T := T_Model) (N := 18) hx hb hts iw_Model hown hK hI.1 0 rfl rfl 2 (by decide) (hts _ tw_533) (fun _ h9 => h9) rfl d_Model_moves_288 ?_
                      refine lv_i2l (v := (Int32.toInt64 (μ.1 0 2))) hx hb d_Model_moves_291 rfl ?_
                      obtain ⟨m27, hq, hf⟩ := sd_bv_e hf
                      refine k_callVv (As := [.long (Int32.toInt64 (μ.1 0 2))]) (rest := []) (C := "ScriptDeskModel") (ci := 7) ZM_ok X hI (mt_Model_pushNumber_r0 l hq) (cwV 1 hts (gd_V tw_628 tw_630 ts_21 tw_9 tw_631) rfl rfl rfl (by decide +kernel) ⟨Nat.le_of_ble_eq_true rfl, Nat.le_of_ble_eq_true rfl⟩) 0 rfl rfl rfl hl.1 rfl (Nat.le_of_ble_eq_true rfl) d_Model_moves_292 ⟨Nat.zero_le _, Nat.zero_le _⟩ (fun H locs hI => ?_)
                      refine lv_goto (tgt := 442) hx hb d_Model_moves_295 (by decide) ?_
                      exact k_retv X hI hf d_Model_moves_442
                    · have hf := sd_f hf hc116
                      by_cases hc117 : a1 = (117 : Int32)
                      · have hf := sd_t hf hc117
                        refine k_tbl (off := 297) (tgt := 298) hx hb d_Model_moves_1 (by decide) (by rw [hc117]; decide) (by decide) ?_
                        refine lv_aload_n hx hb d_Model_moves_298 rfl (lv_at hl 0 rfl) ?_
                        refine lv_aload_n hx hb d_Model_moves_299 rfl (lv_at hl 0 rfl) ?_
                        refine lv_iconst (v := 1) hx hb d_Model_moves_300 (by decide) ?_
                        obtain ⟨x29, m28, hq, hf⟩ := sd_bi_e hf
                        refine k_callV (As := [.int (1 : Int32)]) (rest := [.ref (q 0)]) (C := "ScriptDeskModel") (ci := 7) ZM_ok X hI (mt_Model_has_r0 l hq) (cwV 1 hts (gd_V tw_619 tw_621 ts_19 tw_9 tw_622) rfl rfl rfl (by decide +kernel) ⟨Nat.le_of_ble_eq_true rfl, Nat.le_of_ble_eq_true rfl⟩) 0 rfl rfl rfl hl.1 rfl (Nat.le_of_ble_eq_true rfl) d_Model_moves_301 ⟨Nat.zero_le _, Nat.zero_le _⟩ (fun H locs hn_x29 hI => ?_)
                        refine lv_if_eq (tgt := 316) hx hb d_Model_moves_304 (by decide) (fun hc => ?_) (fun hc => ?_)
                        · have hf := sd_t hf hc
                          refine lv_aload_n hx hb d_Model_moves_316 rfl (lv_at hl 0 rfl) ?_
                          refine va_get (D := D) (ci := 7) (v := .int (m28.1 0 2)) (C := "ScriptDeskModel") (T := T_Model) (N := 18) hx hb hts iw_Model hown hK hI.1 0 rfl rfl 2 (by decide) (hts _ tw_533) (fun _ h9 => h9) rfl d_Model_moves_317 ?_
                          refine k_put (ci := 7) (v := .int (m28.1 0 2)) (ty := .int) (C := "ScriptDeskModel") (T := T_Model) (N := 18) (μ' := sd_st m28 0 2 (m28.1 0 2)) hx hb hts iw_Model t_Model t_Model_ok n_Model hown hK hI 0 rfl rfl 2 (by decide) (hts _ tw_533) (fun _ h9 => h9) rfl (by decide +kernel) rfl rfl (Nat.le_of_ble_eq_true rfl) rfl d_Model_moves_320 (fun H locs hI => ?_)
                          obtain ⟨m30, hI, hf⟩ := k_lm hf hI
                          refine lv_goto (tgt := 442) hx hb d_Model_moves_323 (by decide) ?_
                          exact k_retv X hI hf d_Model_moves_442
                        · have hf := sd_f hf hc
                          refine lv_aload_n hx hb d_Model_moves_307 rfl (lv_at hl 0 rfl) ?_
                          refine va_get (D := D) (ci := 7) (v := .int (m28.1 0 2)) (C := "ScriptDeskModel") (T := T_Model) (N := 18) hx hb hts iw_Model hown hK hI.1 0 rfl rfl 2 (by decide) (hts _ tw_533) (fun _ h9 => h9) rfl d_Model_moves_308 ?_
                          refine lv_iconst (v := 1) hx hb d_Model_moves_311 (by decide) ?_
                          refine lv_isub hx hb d_Model_moves_312 ?_
                          refine lv_goto (tgt := 320) hx hb d_Model_moves_313 (by decide) ?_
                          refine k_put (ci := 7) (v := .int ((m28.1 0 2) - (1 : Int32))) (ty := .int) (C := "ScriptDeskModel") (T := T_Model) (N := 18) (μ' := sd_st m28 0 2 ((m28.1 0 2) - (1 : Int32))) hx hb hts iw_Model t_Model t_Model_ok n_Model hown hK hI 0 rfl rfl 2 (by decide) (hts _ tw_533) (fun _ h9 => h9) rfl (by decide +kernel) rfl rfl (Nat.le_of_ble_eq_true rfl) rfl d_Model_moves_320 (fun H locs hI => ?_)
                          obtain ⟨m31, hI, hf⟩ := k_lm hf hI
                          refine lv_goto (tgt := 442) hx hb d_Model_moves_323 (by decide) ?_
                          exact k_retv X hI hf d_Model_moves_442
                      · have hf := sd_f hf hc117
                        by_cases hc118 : a1 = (118 : Int32)
                        · have hf := sd_t hf hc118
                          refine k_tbl (off := 325) (tgt := 326) hx hb d_Model_moves_1 (by decide) (by rw [hc118]; decide) (by decide) ?_
                          refine lv_aload_n hx hb d_Model_moves_326 rfl (lv_at hl 0 rfl) ?_
                          refine lv_iconst (v := 1) hx hb d_Model_moves_327 (by decide) ?_
                          refine lv_iconst (v := 0) hx hb d_Model_moves_328 (by decide) ?_
                          refine lv_iconst (v := 1) hx hb d_Model_moves_329 (by decide) ?_
                          obtain ⟨m32, hq, hf⟩ := sd_bv_e hf
                          refine k_callVv (As := [.int (1 : Int32), .int (0 : Int32), .int (1 : Int32)]) (rest := []) (C := "ScriptDeskModel") (ci := 7) ZM_ok X hI (mt_Model_again_r0 l hq) (cwV 3 hts (gd_V tw_649 tw_651 ts_26 tw_9 tw_652) rfl rfl rfl (by decide +kernel) ⟨Nat.le_of_ble_eq_true rfl, Nat.le_of_ble_eq_true rfl⟩) 0 rfl rfl rfl hl.1 rfl (Nat.le_of_ble_eq_true rfl) d_Model_moves_330 ⟨Nat.zero_le _, Nat.zero_le _⟩ (fun H locs hI => ?_)
                          refine lv_goto (tgt := 442) hx hb d_Model_moves_333 (by decide) ?_
                          exact k_retv X hI hf d_Model_moves_442
                        · have hf := sd_f hf hc118
                          by_cases hc119 : a1 = (119 : Int32)
                          · have hf := sd_t hf hc119
                            refine k_tbl (off := 335) (tgt := 336) hx hb d_Model_moves_1 (by decide) (by rw [hc119]; decide) (by decide) ?_
                            refine lv_aload_n hx hb d_Model_moves_336 rfl (lv_at hl 0 rfl) ?_
                            refine lv_iconst (v := 2) hx hb d_Model_moves_337 (by decide) ?_
                            obtain ⟨x34, m33, hq, hf⟩ := sd_bi_e hf
                            refine k_callV (As := [.int (2 : Int32)]) (rest := []) (C := "ScriptDeskModel") (ci := 7) ZM_ok X hI (mt_Model_has_r0 l hq) (cwV 1 hts (gd_V tw_619 tw_621 ts_19 tw_9 tw_622) rfl rfl rfl (by decide +kernel) ⟨Nat.le_of_ble_eq_true rfl, Nat.le_of_ble_eq_true rfl⟩) 0 rfl rfl rfl hl.1 rfl (Nat.le_of_ble_eq_true rfl) d_Model_moves_338 ⟨Nat.zero_le _, Nat.zero_le _⟩ (fun H locs hn_x34 hI => ?_)
                            refine lv_if_eq (tgt := 442) hx hb d_Model_moves_341 (by decide) (fun hc => ?_) (fun hc => ?_)
                            · have hf := sd_t hf hc
                              exact k_retv X hI hf d_Model_moves_442
                            · have hf := sd_f hf hc
                              refine lv_aload_n hx hb d_Model_moves_344 rfl (lv_at hl 0 rfl) ?_
                              refine lv_iconst (v := 1) hx hb d_Model_moves_345 (by decide) ?_
                              obtain ⟨m35, hq, hf⟩ := sd_bv_e hf
                              refine k_callVv (As := [.int (1 : Int32)]) (rest := []) (C := "ScriptDeskModel") (ci := 7) ZM_ok X hI (mt_Model_takeOut_r0 l hq) (cwV 1 hts (gd_V tw_661 tw_663 ts_29 tw_9 tw_664) rfl rfl rfl (by decide +kernel) ⟨Nat.le_of_ble_eq_true rfl, Nat.le_of_ble_eq_true rfl⟩) 0 rfl rfl rfl hl.1 rfl (Nat.le_of_ble_eq_true rfl) d_Model_moves_346 ⟨Nat.zero_le _, Nat.zero_le _⟩ (fun H locs hI => ?_)
                              refine lv_goto (tgt := 442) hx hb d_Model_moves_349 (by decide) ?_
                              exact k_retv X hI hf d_Model_moves_442
                          · have hf := sd_f hf hc119
                            by_cases hc120 : a1 = (120 : Int32)
                            · have hf := sd_t hf hc120
                              refine k_tbl (off := 351) (tgt := 352) hx hb d_Model_moves_1 (by decide) (by rw [hc120]; decide) (by decide) ?_
                              refine lv_aload_n hx hb d_Model_moves_352 rfl (lv_at hl 0 rfl) ?_
                              refine lv_iconst (v := 2) hx hb d_Model_moves_353 (by decide) ?_
                              refine lv_iconst (v := 1) hx hb d_Model_moves_354 (by decide) ?_
                              refine lv_iconst (v := 1) hx hb d_Model_moves_355 (by decide) ?_
                              obtain ⟨m36, hq, hf⟩ := sd_bv_e hf
                              refine k_callVv (As := [.int (2 : Int32), .int (1 : Int32), .int (1 : Int32)]) (rest := []) (C := "ScriptDeskModel") (ci := 7) ZM_ok X hI (mt_Model_again_r0 l hq) (cwV 3 hts (gd_V tw_649 tw_651 ts_26 tw_9 tw_652) rfl rfl rfl (by decide +kernel) ⟨Nat.le_of_ble_eq_true rfl, Nat.le_of_ble_eq_true rfl⟩) 0 rfl rfl rfl hl.1 rfl (Nat.le_of_ble_eq_true rfl) d_Model_moves_356 ⟨Nat.zero_le _, Nat.zero_le _⟩ (fun H locs hI => ?_)
                              refine lv_goto (tgt := 442) hx hb d_Model_moves_359 (by decide) ?_
                              exact k_retv X hI hf d_Model_moves_442
                            · have hf := sd_f hf hc120
                              by_cases hc121 : a1 = (121 : Int32)
                              · have hf := sd_t hf hc121
                                refine k_tbl (off := 361) (tgt := 362) hx hb d_Model_moves_1 (by decide) (by rw [hc121]; decide) (by decide) ?_
                                refine lv_aload_n hx hb d_Model_moves_362 rfl (lv_at hl 0 rfl) ?_
                                refine lv_iconst (v := 0) hx hb d_Model_moves_363 (by decide) ?_
                                obtain ⟨m37, hq, hf⟩ := sd_bv_e hf
                                refine k_callVv (As := [.int (0 : Int32)]) (rest := []) (C := "ScriptDeskModel") (ci := 7) ZM_ok X hI (mt_Model_pick_r0 l hq) (cwV 1 hts (gd_V tw_665 tw_667 ts_30 tw_9 tw_668) rfl rfl rfl (by decide +kernel) ⟨Nat.le_of_ble_eq_true rfl, Nat.le_of_ble_eq_true rfl⟩) 0 rfl rfl rfl hl.1 rfl (Nat.le_of_ble_eq_true rfl) d_Model_moves_364 ⟨Nat.zero_le _, Nat.zero_le _⟩ (fun H locs hI => ?_)
                                refine lv_goto (tgt := 442) hx hb d_Model_moves_367 (by decide) ?_
                                exact k_retv X hI hf d_Model_moves_442
                              · have hf := sd_f hf hc121
                                by_cases hc122 : a1 = (122 : Int32)
                                · have hf := sd_t hf hc122
                                  refine k_tbl (off := 369) (tgt := 370) hx hb d_Model_moves_1 (by decide) (by rw [hc122]; decide) (by decide) ?_
                                  refine lv_aload_n hx hb d_Model_moves_370 rfl (lv_at hl 0 rfl) ?_
                                  refine lv_iconst (v := 1) hx hb d_Model_moves_371 (by decide) ?_
                                  obtain ⟨m38, hq, hf⟩ := sd_bv_e hf
                                  refine k_callVv (As := [.int (1 : Int32)]) (rest := []) (C := "ScriptDeskModel") (ci := 7) ZM_ok X hI (mt_Model_pick_r0 l hq) (cwV 1 hts (gd_V tw_665 tw_667 ts_30 tw_9 tw_668) rfl rfl rfl (by decide +kernel) ⟨Nat.le_of_ble_eq_true rfl, Nat.le_of_ble_eq_true rfl⟩) 0 rfl rfl rfl hl.1 rfl (Nat.le_of_ble_eq_true rfl) d_Model_moves_372 ⟨Nat.zero_le _, Nat.zero_le _⟩ (fun H locs hI => ?_)
                                  refine lv_goto (tgt := 442) hx hb d_Model_moves_375 (by decide) ?_
                                  exact k_retv X hI hf d_Model_moves_442
                                · have hf := sd_f hf hc122
                                  by_cases hc123 : a1 = (123 : Int32)
                                  · have hf := sd_t hf hc123
                                    refine k_tbl (off := 377) (tgt := 378) hx hb d_Model_moves_1 (by decide) (by rw [hc123]; decide) (by decide) ?_
                                    refine lv_aload_n hx hb d_Model_moves_378 rfl (lv_at hl 0 rfl) ?_
                                    refine lv_iconst (v := 3) hx hb d_Model_moves_379 (by decide) ?_
                                    refine lv_iconst (v := 1) hx hb d_Model_moves_380 (by decide) ?_
                                    obtain ⟨m39, hq, hf⟩ := sd_bv_e hf
                                    refine k_callVv (As := [.int (3 : Int32), .int (1 : Int32)]) (rest := []) (C := "ScriptDeskModel") (ci := 7) ZM_ok X hI (mt_Model_turn_r0 l hq) (cwV 2 hts (gd_V tw_653 tw_655 ts_27 tw_9 tw_656) rfl rfl rfl (by decide +kernel) ⟨Nat.le_of_ble_eq_true rfl, Nat.le_of_ble_eq_true rfl⟩) 0 rfl rfl rfl hl.1 rfl (Nat.le_of_ble_eq_true rfl) d_Model_moves_381 ⟨Nat.zero_le _, Nat.zero_le _⟩ (fun H locs hI => ?_)
                                    refine lv_goto (tgt := 442) hx hb d_Model_moves_384 (by decide) ?_
                                    exact k_retv X hI hf d_Model_moves_442
                                  · have hf := sd_f hf hc123
                                    by_cases hc124 : a1 = (124 : Int32)
                                    · have hf := sd_t hf hc124
                                      refine k_tbl (off := 386) (tgt := 387) hx hb d_Model_moves_1 (by decide) (by rw [hc124]; decide) (by decide) ?_
                                      refine lv_aload_n hx hb d_Model_moves_387 rfl (lv_at hl 0 rfl) ?_
                                      refine lv_iconst (v := 2) hx hb d_Model_moves_388 (by decide) ?_
                                      refine lv_iconst (v := 1) hx hb d_Model_moves_389 (by decide) ?_
                                      obtain ⟨m40, hq, hf⟩ := sd_bv_e hf
                                      refine k_callVv (As := [.int (2 : Int32), .int (1 : Int32)]) (rest := []) (C := "ScriptDeskModel") (ci := 7) ZM_ok X hI (mt_Model_turn_r0 l hq) (cwV 2 hts (gd_V tw_653 tw_655 ts_27 tw_9 tw_656) rfl rfl rfl (by decide +kernel) ⟨Nat.le_of_ble_eq_true rfl, Nat.le_of_ble_eq_true rfl⟩) 0 rfl rfl rfl hl.1 rfl (Nat.le_of_ble_eq_true rfl) d_Model_moves_390 ⟨Nat.zero_le _, Nat.zero_le _⟩ (fun H locs hI => ?_)
                                      refine lv_goto (tgt := 442) hx hb d_Model_moves_393 (by decide) ?_
                                      exact k_retv X hI hf d_Model_moves_442
                                    · have hf := sd_f hf hc124
                                      by_cases hc125 : a1 = (125 : Int32)
                                      · have hf := sd_t hf hc125
                                        refine k_tbl (off := 395) (tgt := 396) hx hb d_Model_moves_1 (by decide) (by rw [hc125]; decide) (by decide) ?_
                                        refine lv_aload_n hx hb d_Model_moves_396 rfl (lv_at hl 0 rfl) ?_
                                        refine lv_iconst (v := 2) hx hb d_Model_moves_397 (by decide) ?_
                                        refine lv_iconst (v := 1) hx hb d_Model_moves_398 (by decide) ?_
                                        obtain ⟨m41, hq, hf⟩ := sd_bv_e hf
                                        refine k_callVv (As := [.int (2 : Int32), .int (1 : Int32)]) (rest := []) (C := "ScriptDeskModel") (ci := 7) ZM_ok X hI (mt_Model_turn_r0 l hq) (cwV 2 hts (gd_V tw_653 tw_655 ts_27 tw_9 tw_656) rfl rfl rfl (by decide +kernel) ⟨Nat.le_of_ble_eq_true rfl, Nat.le_of_ble_eq_true rfl⟩) 0 rfl rfl rfl hl.1 rfl (Nat.le_of_ble_eq_true rfl) d_Model_moves_399 ⟨Nat.zero_le _, Nat.zero_le _⟩ (fun H locs hI => ?_)
                                        refine lv_aload_n hx hb d_Model_moves_402 rfl (lv_at hl 0 rfl) ?_
                                        refine va_get (D := D) (ci := 7) (v := .int (m41.1 0 7)) (C := "ScriptDeskModel") (T := T_Model) (N := 18) hx hb hts iw_Model hown hK hI.1 0 rfl rfl 7 (by decide) (hts _ tw_538) (fun _ h9 => h9) rfl d_Model_moves_403 ?_
                                        refine lv_if_ne (tgt := 442) hx hb d_Model_moves_406 (by decide) (fun hc => ?_) (fun hc => ?_)
                                        · have hf := sd_f hf hc
                                          exact k_retv X hI hf d_Model_moves_442
                                        · have hf := sd_t hf hc
                                          refine lv_aload_n hx hb d_Model_moves_409 rfl (lv_at hl 0 rfl) ?_
                                          refine lv_iconst (v := 2) hx hb d_Model_moves_410 (by decide) ?_
                                          refine lv_iconst (v := 1) hx hb d_Model_moves_411 (by decide) ?_
                                          refine lv_iconst (v := 1) hx hb d_Model_moves_412 (by decide) ?_
                                          obtain ⟨m42, hq, hf⟩ := sd_bv_e hf
                                          refine k_callVv (As := [.int (2 : Int32), .int (1 : Int32), .int (1 : Int32)]) (rest := []) (C := "ScriptDeskModel") (ci := 7) ZM_ok X hI (mt_Model_again_r0 l hq) (cwV 3 hts (gd_V tw_649 tw_651 ts_26 tw_9 tw_652) rfl rfl rfl (by decide +kernel) ⟨Nat.le_of_ble_eq_true rfl, Nat.le_of_ble_eq_true rfl⟩) 0 rfl rfl rfl hl.1 rfl (Nat.le_of_ble_eq_true rfl) d_Model_moves_413 ⟨Nat.zero_le _, Nat.zero_le _⟩ (fun H locs hI => ?_)
                                          refine lv_goto (tgt := 442) hx hb d_Model_moves_416 (by decide) ?_
                                          exact k_retv X hI hf d_Model_moves_442
                                      · have hf := sd_f hf hc125
                                        refine k_tbl (off := 418) (tgt := 419) hx hb d_Model_moves_1 (by decide) (k_tbld [(107 : Int32), (108 : Int32), (109 : Int32), (110 : Int32), (111 : Int32), (112 : Int32), (113 : Int32), (114 : Int32), (115 : Int32), (116 : Int32), (117 : Int32), (118 : Int32), (119 : Int32), (120 : Int32), (121 : Int32), (122 : Int32), (123 : Int32), (124 : Int32), (125 : Int32)] (by decide) (by
                                            intro k hk
                                            simp only [List.mem_cons, List.not_mem_nil, or_false] at hk
                                            rcases hk with rfl | rfl | rfl | rfl | rfl | rfl | rfl | rfl | rfl | rfl | rfl | rfl | rfl | rfl | rfl | rfl | rfl | rfl | rfl
                                            · exact hc107
                                            · exact hc108
                                            · exact hc109
                                            · exact hc110
                                            · exact hc111
                                            · exact hc112
                                            · exact hc113
                                            · exact hc114
                                            · exact hc115
                                            · exact hc116
                                            · exact hc117
                                            · exact hc118
                                            · exact hc119
                                            · exact hc120
                                            · exact hc121
                                            · exact hc122
                                            · exact hc123
                                            · exact hc124
                                            · exact hc125
                                            )) (by decide) ?_
                                        refine lv_aload_n hx hb d_Model_moves_419 rfl (lv_at hl 0 rfl) ?_
                                        refine lv_iconst (v := 1) hx hb d_Model_moves_420 (by decide) ?_
                                        obtain ⟨x44, m43, hq, hf⟩ := sd_bi_e hf
                                        refine k_callV (As := [.int (1 : Int32)]) (rest := []) (C := "ScriptDeskModel") (ci := 7) ZM_ok X hI (mt_Model_has_r0 l hq) (cwV 1 hts (gd_V tw_619 tw_621 ts_19 tw_9 tw_622) rfl rfl rfl (by decide +kernel) ⟨Nat.le_of_ble_eq_true rfl, Nat.le_of_ble_eq_true rfl⟩) 0 rfl rfl rfl hl.1 rfl (Nat.le_of_ble_eq_true rfl) d_Model_moves_421 ⟨Nat.zero_le _, Nat.zero_le _⟩ (fun H locs hn_x44 hI => ?_)
                                        refine lv_if_eq (tgt := 442) hx hb d_Model_moves_424 (by decide) (fun hc => ?_) (fun hc => ?_)
                                        · have hf := sd_t hf hc
                                          exact k_retv X hI hf d_Model_moves_442
                                        · have hf := sd_f hf hc
                                          refine lv_aload_n hx hb d_Model_moves_427 rfl (lv_at hl 0 rfl) ?_
                                          refine lv_aload_n hx hb d_Model_moves_428 rfl (lv_at hl 0 rfl) ?_
                                          refine va_get (D := D) (ci := 7) (v := .ref (q 2)) (C := "ScriptDeskModel") (T := T_Model) (N := 18) hx hb hts iw_Model hown hK hI.1 0 rfl rfl 1 (by decide) (hts _ tw_532) (fun _ h9 => h9) rfl d_Model_moves_429 ?_
                                          refine lv_aload_n hx hb d_Model_moves_432 rfl (lv_at hl 0 rfl) ?_
                                          refine lv_iconst (v := 0) hx hb d_Model_moves_433 (by decide) ?_
                                          obtain ⟨x46, m45, hq, hf⟩ := sd_bi_e hf
                                          refine k_callV (As := [.int (0 : Int32)]) (rest := [.ref (q 2), .ref (q 0)]) (C := "ScriptDeskModel") (ci := 7) ZM_ok X hI (mt_Model_top_r0 l hq) (cwV 1 hts (gd_V tw_657 tw_659 ts_28 tw_9 tw_660) rfl rfl rfl (by decide +kernel) ⟨Nat.le_of_ble_eq_true rfl, Nat.le_of_ble_eq_true rfl⟩) 0 rfl rfl rfl hl.1 rfl (Nat.le_of_ble_eq_true rfl) d_Model_moves_434 ⟨Nat.zero_le _, Nat.zero_le _⟩ (fun H locs hn_x46 hI => ?_)
                                          obtain ⟨hg, hf⟩ := sd_gd_e hf
                                          refine k_iald hx hb hK hI 2 0 rfl rfl hg d_Model_moves_437 ?_
                                          refine lv_i2l (v := (Int32.toInt64 (m45.1 2 (Int32.toNatClampNeg x46)))) hx hb d_Model_moves_438 rfl ?_
                                          obtain ⟨m47, hq, hf⟩ := sd_bv_e hf
                                          refine k_callVv (As := [.long (Int32.toInt64 (m45.1 2 (Int32.toNatClampNeg x46)))]) (rest := []) (C := "ScriptDeskModel") (ci := 7) ZM_ok X hI (mt_Model_pushNumber_r0 l hq) (cwV 1 hts (gd_V tw_628 tw_630 ts_21 tw_9 tw_631) rfl rfl rfl (by decide +kernel) ⟨Nat.le_of_ble_eq_true rfl, Nat.le_of_ble_eq_true rfl⟩) 0 rfl rfl rfl hl.1 rfl (Nat.le_of_ble_eq_true rfl) d_Model_moves_439 ⟨Nat.zero_le _, Nat.zero_le _⟩ (fun H locs hI => ?_)
                                          exact k_retv X hI hf d_Model_moves_442
set_option maxHeartbeats 4000000 in
set_option maxRecDepth 100000 in
theorem jn_Model_operation_r0_J41 (l : Launch) {p : Program} {e : Env} {s : State} {m : MethodId} {args : Array Value} {below : List Frame} {meth : Method} {c : Code} {A : Nat → Prop} {D : va_G} {q tq : Nat → Nat} {cA : ClassId} {ru : sd_Me} (X : sd_Cx p s m args meth c prog_12_method_35_code "ScriptDeskModel" sx_tbl 2 none vwCl D [(cA, .int)] (ZM tq) A) (v1 : Int32) (μ : sd_Me) (H : Heap) (locs : List Loc) (ls : Array Slot) (hI : sd_CI vwCl (wdM q cA) D A s H locs μ) (hl : lv_has ls 2 [(0, .ref (q 0)), (1, .int v1)]) (hf : fn_Model_operation_r0_J41 v1 μ = some ru) : W p l e ({ frames := 5, cells := 0, slots := 0, locals := 109 }) s m args below meth c H locs 0 0 (sd_QV below vwCl (wdM q cA) D [(cA, .int)] A args s ru) (F0 m 41 ls []) := by
  obtain ⟨hx, hb, hml, hown, hts, hK, hZ, hA, hr, hlocks⟩ := id X
  unfold fn_Model_operation_r0_J41 at hf
  refine lv_aload_n hx hb d_Model_operation_41 rfl (lv_at hl 0 rfl) ?_
  refine lv_iload_n hx hb d_Model_operation_42 rfl (lv_at hl 1 rfl) ?_
  refine lv_sipush (v := 136) hx hb d_Model_operation_43 (by decide) ?_
  refine lv_icmp_ne (tgt := 53) hx hb d_Model_operation_46 (by decide) (fun hc => ?_) (fun hc => ?_)
  · have hf := sd_f hf hc
    refine lv_iconst (v := 0) hx hb d_Model_operation_53 (by decide) ?_
    obtain ⟨m1, hq, hf⟩ := sd_bv_e hf
    refine k_callVv (As := [.int (0 : Int32)]) (rest := []) (C := "ScriptDeskModel") (ci := 7) ZM_ok X hI (mt_Model_equal_r0 l hq) (cwV 1 hts (gd_V tw_673 tw_675 ts_32 tw_9 tw_676) rfl rfl rfl (by decide +kernel) ⟨Nat.le_of_ble_eq_true rfl, Nat.le_of_ble_eq_true rfl⟩) 0 rfl rfl rfl hl.1 rfl (Nat.le_of_ble_eq_true rfl) d_Model_operation_54 ⟨Nat.zero_le _, Nat.zero_le _⟩ (fun H locs hI => ?_)
    refine lv_goto (tgt := 266) hx hb d_Model_operation_57 (by decide) ?_
    exact k_retv X hI hf d_Model_operation_266
  · have hf := sd_t hf hc
    refine lv_iconst (v := 1) hx hb d_Model_operation_49 (by decide) ?_
    refine lv_goto (tgt := 54) hx hb d_Model_operation_50 (by decide) ?_
    obtain ⟨m2, hq, hf⟩ := sd_bv_e hf
    refine k_callVv (As := [.int (1 : Int32)]) (rest := []) (C := "ScriptDeskModel") (ci := 7) ZM_ok X hI (mt_Model_equal_r0 l hq) (cwV 1 hts (gd_V tw_673 tw_675 ts_32 tw_9 tw_676) rfl rfl rfl (by decide +kernel) ⟨Nat.le_of_ble_eq_true rfl, Nat.le_of_ble_eq_true rfl⟩) 0 rfl rfl rfl hl.1 rfl (Nat.le_of_ble_eq_true rfl) d_Model_operation_54 ⟨Nat.zero_le _, Nat.zero_le _⟩ (fun H locs hI => ?_)
    refine lv_goto (tgt := 266) hx hb d_Model_operation_57 (by decide) ?_
    exact k_retv X hI hf d_Model_operation_266
set_option maxHeartbeats 4000000 in
set_option maxRecDepth 100000 in
theorem jn_Model_operation_r0_J175 (l : Launch) {p : Program} {e : Env} {s : State} {m : MethodId} {args : Array Value} {below : List Frame} {meth : Method} {c : Code} {A : Nat → Prop} {D : va_G} {q tq : Nat → Nat} {cA : ClassId} {ru : sd_Me} (X : sd_Cx p s m args meth c prog_12_method_35_code "ScriptDeskModel" sx_tbl 2 none vwCl D [(cA, .int)] (ZM tq) A) (v1 : Int32) (μ : sd_Me) (H : Heap) (locs : List Loc) (ls : Array Slot) (hI : sd_CI vwCl (wdM q cA) D A s H locs μ) (hl : lv_has ls 2 [(0, .ref (q 0)), (1, .int v1)]) (hf : fn_Model_operation_r0_J175 v1 μ = some ru) : W p l e ({ frames := 5, cells := 0, slots := 0, locals := 109 }) s m args below meth c H locs 0 0 (sd_QV below vwCl (wdM q cA) D [(cA, .int)] A args s ru) (F0 m 175 ls []) := by
  obtain ⟨hx, hb, hml, hown, hts, hK, hZ, hA, hr, hlocks⟩ := id X
  unfold fn_Model_operation_r0_J175 at hf
  refine lv_aload_n hx hb d_Model_operation_175 rfl (lv_at hl 0 rfl) ?_
  refine lv_iload_n hx hb d_Model_operation_176 rfl (lv_at hl 1 rfl) ?_
  refine lv_sipush (v := 173) hx hb d_Model_operation_177 (by decide) ?_
  refine lv_icmp_ne (tgt := 187) hx hb d_Model_operation_180 (by decide) (fun hc => ?_) (fun hc => ?_)
  · have hf := sd_f hf hc
    refine lv_iconst (v := 0) hx hb d_Model_operation_187 (by decide) ?_
    obtain ⟨m8, hq, hf⟩ := sd_bv_e hf
    refine k_callVv (As := [.int (0 : Int32)]) (rest := []) (C := "ScriptDeskModel") (ci := 7) ZM_ok X hI (mt_Model_one_r0 l hq) (cwV 1 hts (gd_V tw_754 tw_756 ts_43 tw_9 tw_757) rfl rfl rfl (by decide +kernel) ⟨Nat.le_of_ble_eq_true rfl, Nat.le_of_ble_eq_true rfl⟩) 0 rfl rfl rfl hl.1 rfl (Nat.le_of_ble_eq_true rfl) d_Model_operation_188 ⟨Nat.zero_le _, Nat.zero_le _⟩ (fun H locs hI => ?_)
    refine lv_goto (tgt := 266) hx hb d_Model_operation_191 (by decide) ?_
    exact k_retv X hI hf d_Model_operation_266
  · have hf := sd_t hf hc
    refine lv_iconst (v := 1) hx hb d_Model_operation_183 (by decide) ?_
    refine lv_goto (tgt := 188) hx hb d_Model_operation_184 (by decide) ?_
    obtain ⟨m9, hq, hf⟩ := sd_bv_e hf
    refine k_callVv (As := [.int (1 : Int32)]) (rest := []) (C := "ScriptDeskModel") (ci := 7) ZM_ok X hI (mt_Model_one_r0 l hq) (cwV 1 hts (gd_V tw_754 tw_756 ts_43 tw_9 tw_757) rfl rfl rfl (by decide +kernel) ⟨Nat.le_of_ble_eq_true rfl, Nat.le_of_ble_eq_true rfl⟩) 0 rfl rfl rfl hl.1 rfl (Nat.le_of_ble_eq_true rfl) d_Model_operation_188 ⟨Nat.zero_le _, Nat.zero_le _⟩ (fun H locs hI => ?_)
    refine lv_goto (tgt := 266) hx hb d_Model_operation_191 (by decide) ?_
    exact k_retv X hI hf d_Model_operation_266
set_option maxHeartbeats 4000000 in
set_option maxRecDepth 100000 in
theorem jn_Model_operation_r0_J208 (l : Launch) {p : Program} {e : Env} {s : State} {m : MethodId} {args : Array Value} {below : List Frame} {meth : Method} {c : Code} {A : Nat → Prop} {D : va_G} {q tq : Nat → Nat} {cA : ClassId} {ru : sd_Me} (X : sd_Cx p s m args meth c prog_12_method_35_code "ScriptDeskModel" sx_tbl 2 none vwCl D [(cA, .int)] (ZM tq) A) (v1 : Int32) (μ : sd_Me) (H : Heap) (locs : List Loc) (ls : Array Slot) (hI : sd_CI vwCl (wdM q cA) D A s H locs μ) (hl : lv_has ls 2 [(0, .ref (q 0)), (1, .int v1)]) (hf : fn_Model_operation_r0_J208 v1 μ = some ru) : W p l e ({ frames := 5, cells := 0, slots := 0, locals := 109 }) s m args below meth c H locs 0 0 (sd_QV below vwCl (wdM q cA) D [(cA, .int)] A args s ru) (F0 m 208 ls []) := by
  obtain ⟨hx, hb, hml, hown, hts, hK, hZ, hA, hr, hlocks⟩ := id X
  unfold fn_Model_operation_r0_J208 at hf
  refine lv_aload_n hx hb d_Model_operation_208 rfl (lv_at hl 0 rfl) ?_
  refine lv_iload_n hx hb d_Model_operation_209 rfl (lv_at hl 1 rfl) ?_
  refine lv_sipush (v := 175) hx hb d_Model_operation_210 (by decide) ?_
  refine lv_icmp_ne (tgt := 220) hx hb d_Model_operation_213 (by decide) (fun hc => ?_) (fun hc => ?_)
  · have hf := sd_f hf hc
    refine lv_iconst (v := 0) hx hb d_Model_operation_220 (by decide) ?_
    obtain ⟨m10, hq, hf⟩ := sd_bv_e hf
    refine k_callVv (As := [.int (0 : Int32)]) (rest := []) (C := "ScriptDeskModel") (ci := 7) ZM_ok X hI (mt_Model_several_r0 l hq) (cwV 1 hts (gd_V tw_763 tw_765 ts_45 tw_9 tw_766) rfl rfl rfl (by decide +kernel) ⟨Nat.le_of_ble_eq_true rfl, Nat.le_of_ble_eq_true rfl⟩) 0 rfl rfl rfl hl.1 rfl (Nat.le_of_ble_eq_true rfl) d_Model_operation_221 ⟨Nat.zero_le _, Nat.zero_le _⟩ (fun H locs hI => ?_)
    refine lv_goto (tgt := 266) hx hb d_Model_operation_224 (by decide) ?_
    exact k_retv X hI hf d_Model_operation_266
  · have hf := sd_t hf hc
    refine lv_iconst (v := 1) hx hb d_Model_operation_216 (by decide) ?_
    refine lv_goto (tgt := 221) hx hb d_Model_operation_217 (by decide) ?_
    obtain ⟨m11, hq, hf⟩ := sd_bv_e hf
    refine k_callVv (As := [.int (1 : Int32)]) (rest := []) (C := "ScriptDeskModel") (ci := 7) ZM_ok X hI (mt_Model_several_r0 l hq) (cwV 1 hts (gd_V tw_763 tw_765 ts_45 tw_9 tw_766) rfl rfl rfl (by decide +kernel) ⟨Nat.le_of_ble_eq_true rfl, Nat.le_of_ble_eq_true rfl⟩) 0 rfl rfl rfl hl.1 rfl (Nat.le_of_ble_eq_true rfl) d_Model_operation_221 ⟨Nat.zero_le _, Nat.zero_le _⟩ (fun H locs hI => ?_)
    refine lv_goto (tgt := 266) hx hb d_Model_operation_224 (by decide) ?_
    exact k_retv X hI hf d_Model_operation_266
set_option maxHeartbeats 4000000 in
set_option maxRecDepth 100000 in
theorem jn_Model_operation_r0_J161 (l : Launch) {p : Program} {e : Env} {s : State} {m : MethodId} {args : Array Value} {below : List Frame} {meth : Method} {c : Code} {A : Nat → Prop} {D : va_G} {q tq : Nat → Nat} {cA : ClassId} {ru : sd_Me} (X : sd_Cx p s m args meth c prog_12_method_35_code "ScriptDeskModel" sx_tbl 2 none vwCl D [(cA, .int)] (ZM tq) A) (v1 : Int32) (μ : sd_Me) (H : Heap) (locs : List Loc) (ls : Array Slot) (hI : sd_CI vwCl (wdM q cA) D A s H locs μ) (hl : lv_has ls 2 [(0, .ref (q 0)), (1, .int v1)]) (hf : fn_Model_operation_r0_J161 v1 μ = some ru) : W p l e ({ frames := 5, cells := 0, slots := 0, locals := 109 }) s m args below meth c H locs 0 0 (sd_QV below vwCl (wdM q cA) D [(cA, .int)] A args s ru) (F0 m 161 ls []) := by
  obtain ⟨hx, hb, hml, hown, hts, hK, hZ, hA, hr, hlocks⟩ := id X
  unfold fn_Model_operation_r0_J161 at hf
  refine lv_iload_n hx hb d_Model_operation_161 rfl (lv_at hl 1 rfl) ?_
  refine lv_sipush (v := 172) hx hb d_Model_operation_162 (by decide) ?_
  refine lv_icmp_eq (tgt := 175) hx hb d_Model_operation_165 (by decide) (fun hc => ?_) (fun hc => ?_)
  · have hf := sd_t hf hc
    exact jn_Model_operation_r0_J175 l X (v1) μ _ _ _ hI (lv_sub hl [0, 1] rfl) hf
  · have hf := sd_f hf hc
    refine lv_iload_n hx hb d_Model_operation_168 rfl (lv_at hl 1 rfl) ?_
    refine lv_sipush (v := 173) hx hb d_Model_operation_169 (by decide) ?_
    refine lv_icmp_ne (tgt := 194) hx hb d_Model_operation_172 (by decide) (fun hc => ?_) (fun hc => ?_)
    · have hf := sd_f hf hc
      refine lv_iload_n hx hb d_Model_operation_194 rfl (lv_at hl 1 rfl) ?_
      refine lv_sipush (v := 174) hx hb d_Model_operation_195 (by decide) ?_
      refine lv_icmp_eq (tgt := 208) hx hb d_Model_operation_198 (by decide) (fun hc => ?_) (fun hc => ?_)
      · have hf := sd_t hf hc
        exact jn_Model_operation_r0_J208 l X (v1) μ _ _ _ hI (lv_sub hl [0, 1] rfl) hf
      · have hf := sd_f hf hc
        refine lv_iload_n hx hb d_Model_operation_201 rfl (lv_at hl 1 rfl) ?_
        refine lv_sipush (v := 175) hx hb d_Model_operation_202 (by decide) ?_
        refine lv_icmp_ne (tgt := 227) hx hb d_Model_operation_205 (by decide) (fun hc => ?_) (fun hc => ?_)
        · have hf := sd_f hf hc
          refine lv_iload_n hx hb d_Model_operation_227 rfl (lv_at hl 1 rfl) ?_
          refine lv_bipush (v := 105) hx hb d_Model_operation_228 (by decide) ?_
          refine lv_icmp_ne (tgt := 240) hx hb d_Model_operation_230 (by decide) (fun hc => ?_) (fun hc => ?_)
          · have hf := sd_f hf hc
            refine lv_iload_n hx hb d_Model_operation_240 rfl (lv_at hl 1 rfl) ?_
            refine lv_bipush (v := 106) hx hb d_Model_operation_241 (by decide) ?_
            refine lv_icmp_ne (tgt := 255) hx hb d_Model_operation_243 (by decide) (fun hc => ?_) (fun hc => ?_)
            · have hf := sd_f hf hc
              refine lv_iload_n hx hb d_Model_operation_255 rfl (lv_at hl 1 rfl) ?_
              refine lv_bipush (v := 97) hx hb d_Model_operation_256 (by decide) ?_
              refine lv_icmp_eq (tgt := 266) hx hb d_Model_operation_258 (by decide) (fun hc => ?_) (fun hc => ?_)
              · have hf := sd_t hf hc
                exact k_retv X hI hf d_Model_operation_266
              · have hf := sd_f hf hc
                refine lv_aload_n hx hb d_Model_operation_261 rfl (lv_at hl 0 rfl) ?_
                refine lv_iconst (v := 4) hx hb d_Model_operation_262 (by decide) ?_
                obtain ⟨m12, hq, hf⟩ := sd_bv_e hf
                refine k_callVv (As := [.int (4 : Int32)]) (rest := []) (C := "ScriptDeskModel") (ci := 7) ZM_ok X hI (mt_Model_fails_r0 l hq) (cwV 1 hts (gd_V tw_607 tw_609 ts_16 tw_9 tw_610) rfl rfl rfl (by decide +kernel) ⟨Nat.le_of_ble_eq_true rfl, Nat.le_of_ble_eq_true rfl⟩) 0 rfl rfl rfl hl.1 rfl (Nat.le_of_ble_eq_true rfl) d_Model_operation_263 ⟨Nat.zero_le _, Nat.zero_le _⟩ (fun H locs hI => ?_)
                exact k_retv X hI hf d_Model_operation_266
            · have hf := sd_t hf hc
              refine lv_aload_n hx hb d_Model_operation_246 rfl (lv_at hl 0 rfl) ?_
              refine lv_bipush (v := 9) hx hb d_Model_operation_247 (by decide) ?_
              obtain ⟨m13, hq, hf⟩ := sd_bv_e hf
              refine k_callVv (As := [.int (9 : Int32)]) (rest := []) (C := "ScriptDeskModel") (ci := 7) ZM_ok X hI (mt_Model_fails_r0 l hq) (cwV 1 hts (gd_V tw_607 tw_609 ts_16 tw_9 tw_610) rfl rfl rfl (by decide +kernel) ⟨Nat.le_of_ble_eq_true rfl, Nat.le_of_ble_eq_true rfl⟩) 0 rfl rfl rfl hl.1 rfl (Nat.le_of_ble_eq_true rfl) d_Model_operation_249 ⟨Nat.zero_le _, Nat.zero_le _⟩ (fun H locs hI => ?_)
              refine lv_goto (tgt := 266) hx hb d_Model_operation_252 (by decide) ?_
              exact k_retv X hI hf d_Model_operation_266
          · have hf := sd_t hf hc
            refine lv_aload_n hx hb d_Model_operation_233 rfl (lv_at hl 0 rfl) ?_
            obtain ⟨m14, hq, hf⟩ := sd_bv_e hf
            refine k_callVv (As := []) (rest := []) (C := "ScriptDeskModel") (ci := 7) ZM_ok X hI (mt_Model_mustBeTrue_r0 l hq) (cwV 0 hts (gd_V tw_685 tw_687 ts_35 tw_9 tw_688) rfl rfl rfl (by decide +kernel) ⟨Nat.le_of_ble_eq_true rfl, Nat.le_of_ble_eq_true rfl⟩) 0 rfl rfl rfl hl.1 rfl (Nat.le_of_ble_eq_true rfl) d_Model_operation_234 ⟨Nat.zero_le _, Nat.zero_le _⟩ (fun H locs hI => ?_)
            refine lv_goto (tgt := 266) hx hb d_Model_operation_237 (by decide) ?_
            exact k_retv X hI hf d_Model_operation_266
        · have hf := sd_t hf hc
          exact jn_Model_operation_r0_J208 l X (v1) μ _ _ _ hI (lv_sub hl [0, 1] rfl) hf
    · have hf := sd_t hf hc
      exact jn_Model_operation_r0_J175 l X (v1) μ _ _ _ hI (lv_sub hl [0, 1] rfl) hf
set_option maxHeartbeats 4000000 in
set_option maxRecDepth 100000 in
theorem jn_Model_operation_r0_J132 (l : Launch) {p : Program} {e : Env} {s : State} {m : MethodId} {args : Array Value} {below : List Frame} {meth : Method} {c : Code} {A : Nat → Prop} {D : va_G} {q tq : Nat → Nat} {cA : ClassId} {ru : sd_Me} (X : sd_Cx p s m args meth c prog_12_method_35_code "ScriptDeskModel" sx_tbl 2 none vwCl D [(cA, .int)] (ZM tq) A) (v1 : Int32) (μ : sd_Me) (H : Heap) (locs : List Loc) (ls : Array Slot) (hI : sd_CI vwCl (wdM q cA) D A s H locs μ) (hl : lv_has ls 2 [(0, .ref (q 0)), (1, .int v1)]) (hf : fn_Model_operation_r0_J132 v1 μ = some ru) : W p l e ({ frames := 5, cells := 0, slots := 0, locals := 109 }) s m args below meth c H locs 0 0 (sd_QV below vwCl (wdM q cA) D [(cA, .int)] A args s ru) (F0 m 132 ls []) := by
  obtain ⟨hx, hb, hml, hown, hts, hK, hZ, hA, hr, hlocks⟩ := id X
  unfold fn_Model_operation_r0_J132 at hf
  refine lv_iload_n hx hb d_Model_operation_132 rfl (lv_at hl 1 rfl) ?_
  refine lv_sipush (v := 166) hx hb d_Model_operation_133 (by decide) ?_
  refine lv_icmp_eq (tgt := 153) hx hb d_Model_operation_136 (by decide) (fun hc => ?_) (fun hc => ?_)
  · have hf := sd_t hf hc
    refine lv_aload_n hx hb d_Model_operation_153 rfl (lv_at hl 0 rfl) ?_
    refine lv_iload_n hx hb d_Model_operation_154 rfl (lv_at hl 1 rfl) ?_
    obtain ⟨m7, hq, hf⟩ := sd_bv_e hf
    refine k_callVv (As := [.int v1]) (rest := []) (C := "ScriptDeskModel") (ci := 7) ZM_ok X hI (mt_Model_digest_r0 l hq) (cwV 1 hts (gd_V tw_697 tw_699 ts_38 tw_9 tw_700) rfl rfl rfl (by decide +kernel) ⟨Nat.le_of_ble_eq_true rfl, Nat.le_of_ble_eq_true rfl⟩) 0 rfl rfl rfl hl.1 rfl (Nat.le_of_ble_eq_true rfl) d_Model_operation_155 ⟨Nat.zero_le _, Nat.zero_le _⟩ (fun H locs hI => ?_)
    refine lv_goto (tgt := 266) hx hb d_Model_operation_158 (by decide) ?_
    exact k_retv X hI hf d_Model_operation_266
  · have hf := sd_f hf hc
    refine lv_iload_n hx hb d_Model_operation_139 rfl (lv_at hl 1 rfl) ?_
    refine lv_sipush (v := 168) hx hb d_Model_operation_140 (by decide) ?_
    refine lv_icmp_lt (tgt := 161) hx hb d_Model_operation_143 (by decide) (fun hc => ?_) (fun hc => ?_)
    · have hf := sd_t hf hc
      exact jn_Model_operation_r0_J161 l X (v1) μ _ _ _ hI (lv_sub hl [0, 1] rfl) hf
    · have hf := sd_f hf hc
      refine lv_iload_n hx hb d_Model_operation_146 rfl (lv_at hl 1 rfl) ?_
      refine lv_sipush (v := 170) hx hb d_Model_operation_147 (by decide) ?_
      refine lv_icmp_gt (tgt := 161) hx hb d_Model_operation_150 (by decide) (fun hc => ?_) (fun hc => ?_)
      · have hf := sd_t hf hc
        exact jn_Model_operation_r0_J161 l X (v1) μ _ _ _ hI (lv_sub hl [0, 1] rfl) hf
      · have hf := sd_f hf hc
        refine lv_aload_n hx hb d_Model_operation_153 rfl (lv_at hl 0 rfl) ?_
        refine lv_iload_n hx hb d_Model_operation_154 rfl (lv_at hl 1 rfl) ?_
        obtain ⟨m15, hq, hf⟩ := sd_bv_e hf
        refine k_callVv (As := [.int v1]) (rest := []) (C := "ScriptDeskModel") (ci := 7) ZM_ok X hI (mt_Model_digest_r0 l hq) (cwV 1 hts (gd_V tw_697 tw_699 ts_38 tw_9 tw_700) rfl rfl rfl (by decide +kernel) ⟨Nat.le_of_ble_eq_true rfl, Nat.le_of_ble_eq_true rfl⟩) 0 rfl rfl rfl hl.1 rfl (Nat.le_of_ble_eq_true rfl) d_Model_operation_155 ⟨Nat.zero_le _, Nat.zero_le _⟩ (fun H locs hI => ?_)
        refine lv_goto (tgt := 266) hx hb d_Model_operation_158 (by decide) ?_
        exact k_retv X hI hf d_Model_operation_266
set_option maxHeartbeats 4000000 in
set_option maxRecDepth 100000 in
theorem jn_Model_operation_r0_J96 (l : Launch) {p : Program} {e : Env} {s : State} {m : MethodId} {args : Array Value} {below : List Frame} {meth : Method} {c : Code} {A : Nat → Prop} {D : va_G} {q tq : Nat → Nat} {cA : ClassId} {ru : sd_Me} (X : sd_Cx p s m args meth c prog_12_method_35_code "ScriptDeskModel" sx_tbl 2 none vwCl D [(cA, .int)] (ZM tq) A) (v1 : Int32) (μ : sd_Me) (H : Heap) (locs : List Loc) (ls : Array Slot) (hI : sd_CI vwCl (wdM q cA) D A s H locs μ) (hl : lv_has ls 2 [(0, .ref (q 0)), (1, .int v1)]) (hf : fn_Model_operation_r0_J96 v1 μ = some ru) : W p l e ({ frames := 5, cells := 0, slots := 0, locals := 109 }) s m args below meth c H locs 0 0 (sd_QV below vwCl (wdM q cA) D [(cA, .int)] A args s ru) (F0 m 96 ls []) := by
  obtain ⟨hx, hb, hml, hown, hts, hK, hZ, hA, hr, hlocks⟩ := id X
  unfold fn_Model_operation_r0_J96 at hf
  refine lv_iload_n hx hb d_Model_operation_96 rfl (lv_at hl 1 rfl) ?_
  refine lv_sipush (v := 147) hx hb d_Model_operation_97 (by decide) ?_
  refine lv_icmp_eq (tgt := 124) hx hb d_Model_operation_100 (by decide) (fun hc => ?_) (fun hc => ?_)
  · have hf := sd_t hf hc
    refine lv_aload_n hx hb d_Model_operation_124 rfl (lv_at hl 0 rfl) ?_
    refine lv_iload_n hx hb d_Model_operation_125 rfl (lv_at hl 1 rfl) ?_
    obtain ⟨m5, hq, hf⟩ := sd_bv_e hf
    refine k_callVv (As := [.int v1]) (rest := []) (C := "ScriptDeskModel") (ci := 7) ZM_ok X hI (mt_Model_numberOfTwo_r0 l hq) (cwV 1 hts (gd_V tw_693 tw_695 ts_37 tw_9 tw_696) rfl rfl rfl (by decide +kernel) ⟨Nat.le_of_ble_eq_true rfl, Nat.le_of_ble_eq_true rfl⟩) 0 rfl rfl rfl hl.1 rfl (Nat.le_of_ble_eq_true rfl) d_Model_operation_126 ⟨Nat.zero_le _, Nat.zero_le _⟩ (fun H locs hI => ?_)
    refine lv_goto (tgt := 266) hx hb d_Model_operation_129 (by decide) ?_
    exact k_retv X hI hf d_Model_operation_266
  · have hf := sd_f hf hc
    refine lv_iload_n hx hb d_Model_operation_103 rfl (lv_at hl 1 rfl) ?_
    refine lv_sipush (v := 148) hx hb d_Model_operation_104 (by decide) ?_
    refine lv_icmp_eq (tgt := 124) hx hb d_Model_operation_107 (by decide) (fun hc => ?_) (fun hc => ?_)
    · have hf := sd_t hf hc
      refine lv_aload_n hx hb d_Model_operation_124 rfl (lv_at hl 0 rfl) ?_
      refine lv_iload_n hx hb d_Model_operation_125 rfl (lv_at hl 1 rfl) ?_
      obtain ⟨m6, hq, hf⟩ := sd_bv_e hf
      refine k_callVv (As := [.int v1]) (rest := []) (C := "ScriptDeskModel") (ci := 7) ZM_ok X hI (mt_Model_numberOfTwo_r0 l hq) (cwV 1 hts (gd_V tw_693 tw_695 ts_37 tw_9 tw_696) rfl rfl rfl (by decide +kernel) ⟨Nat.le_of_ble_eq_true rfl, Nat.le_of_ble_eq_true rfl⟩) 0 rfl rfl rfl hl.1 rfl (Nat.le_of_ble_eq_true rfl) d_Model_operation_126 ⟨Nat.zero_le _, Nat.zero_le _⟩ (fun H locs hI => ?_)
      refine lv_goto (tgt := 266) hx hb d_Model_operation_129 (by decide) ?_
      exact k_retv X hI hf d_Model_operation_266
    · have hf := sd_f hf hc
      refine lv_iload_n hx hb d_Model_operation_110 rfl (lv_at hl 1 rfl) ?_
      refine lv_sipush (v := 154) hx hb d_Model_operation_111 (by decide) ?_
      refine lv_icmp_lt (tgt := 132) hx hb d_Model_operation_114 (by decide) (fun hc => ?_) (fun hc => ?_)
      · have hf := sd_t hf hc
        exact jn_Model_operation_r0_J132 l X (v1) μ _ _ _ hI (lv_sub hl [0, 1] rfl) hf
      · have hf := sd_f hf hc
        refine lv_iload_n hx hb d_Model_operation_117 rfl (lv_at hl 1 rfl) ?_
        refine lv_sipush (v := 165) hx hb d_Model_operation_118 (by decide) ?_
        refine lv_icmp_gt (tgt := 132) hx hb d_Model_operation_121 (by decide) (fun hc => ?_) (fun hc => ?_)
        · have hf := sd_t hf hc
          exact jn_Model_operation_r0_J132 l X (v1) μ _ _ _ hI (lv_sub hl [0, 1] rfl) hf
        · have hf := sd_f hf hc
          refine lv_aload_n hx hb d_Model_operation_124 rfl (lv_at hl 0 rfl) ?_
          refine lv_iload_n hx hb d_Model_operation_125 rfl (lv_at hl 1 rfl) ?_
          obtain ⟨m16, hq, hf⟩ := sd_bv_e hf
          refine k_callVv (As := [.int v1]) (rest := []) (C := "ScriptDeskModel") (ci := 7) ZM_ok X hI (mt_Model_numberOfTwo_r0 l hq) (cwV 1 hts (gd_V tw_693 tw_695 ts_37 tw_9 tw_696) rfl rfl rfl (by decide +kernel) ⟨Nat.le_of_ble_eq_true rfl, Nat.le_of_ble_eq_true rfl⟩) 0 rfl rfl rfl hl.1 rfl (Nat.le_of_ble_eq_true rfl) d_Model_operation_126 ⟨Nat.zero_le _, Nat.zero_le _⟩ (fun H locs hI => ?_)
          refine lv_goto (tgt := 266) hx hb d_Model_operation_129 (by decide) ?_
          exact k_retv X hI hf d_Model_operation_266
set_option maxHeartbeats 4000000 in
set_option maxRecDepth 100000 in
theorem jn_Model_operation_r0_J12 (l : Launch) {p : Program} {e : Env} {s : State} {m : MethodId} {args : Array Value} {below : List Frame} {meth : Method} {c : Code} {A : Nat → Prop} {D : va_G} {q tq : Nat → Nat} {cA : ClassId} {ru : sd_Me} (X : sd_Cx p s m args meth c prog_12_method_35_code "ScriptDeskModel" sx_tbl 2 none vwCl D [(cA, .int)] (ZM tq) A) (v1 : Int32) (μ : sd_Me) (H : Heap) (locs : List Loc) (ls : Array Slot) (hI : sd_CI vwCl (wdM q cA) D A s H locs μ) (hl : lv_has ls 2 [(0, .ref (q 0)), (1, .int v1)]) (hf : fn_Model_operation_r0_J12 v1 μ = some ru) : W p l e ({ frames := 5, cells := 0, slots := 0, locals := 109 }) s m args below meth c H locs 0 0 (sd_QV below vwCl (wdM q cA) D [(cA, .int)] A args s ru) (F0 m 12 ls []) := by
  obtain ⟨hx, hb, hml, hown, hts, hK, hZ, hA, hr, hlocks⟩ := id X
  unfold fn_Model_operation_r0_J12 at hf
  refine lv_iload_n hx hb d_Model_operation_12 rfl (lv_at hl 1 rfl) ?_
  refine lv_sipush (v := 130) hx hb d_Model_operation_13 (by decide) ?_
  refine lv_icmp_ne (tgt := 27) hx hb d_Model_operation_16 (by decide) (fun hc => ?_) (fun hc => ?_)
  · have hf := sd_f hf hc
    refine lv_iload_n hx hb d_Model_operation_27 rfl (lv_at hl 1 rfl) ?_
    refine lv_sipush (v := 135) hx hb d_Model_operation_28 (by decide) ?_
    refine lv_icmp_eq (tgt := 41) hx hb d_Model_operation_31 (by decide) (fun hc => ?_) (fun hc => ?_)
    · have hf := sd_t hf hc
      exact jn_Model_operation_r0_J41 l X (v1) μ _ _ _ hI (lv_sub hl [0, 1] rfl) hf
    · have hf := sd_f hf hc
      refine lv_iload_n hx hb d_Model_operation_34 rfl (lv_at hl 1 rfl) ?_
      refine lv_sipush (v := 136) hx hb d_Model_operation_35 (by decide) ?_
      refine lv_icmp_ne (tgt := 60) hx hb d_Model_operation_38 (by decide) (fun hc => ?_) (fun hc => ?_)
      · have hf := sd_f hf hc
        refine lv_iload_n hx hb d_Model_operation_60 rfl (lv_at hl 1 rfl) ?_
        refine lv_sipush (v := 139) hx hb d_Model_operation_61 (by decide) ?_
        refine lv_icmp_eq (tgt := 88) hx hb d_Model_operation_64 (by decide) (fun hc => ?_) (fun hc => ?_)
        · have hf := sd_t hf hc
          refine lv_aload_n hx hb d_Model_operation_88 rfl (lv_at hl 0 rfl) ?_
          refine lv_iload_n hx hb d_Model_operation_89 rfl (lv_at hl 1 rfl) ?_
          obtain ⟨m3, hq, hf⟩ := sd_bv_e hf
          refine k_callVv (As := [.int v1]) (rest := []) (C := "ScriptDeskModel") (ci := 7) ZM_ok X hI (mt_Model_numberOfOne_r0 l hq) (cwV 1 hts (gd_V tw_689 tw_691 ts_36 tw_9 tw_692) rfl rfl rfl (by decide +kernel) ⟨Nat.le_of_ble_eq_true rfl, Nat.le_of_ble_eq_true rfl⟩) 0 rfl rfl rfl hl.1 rfl (Nat.le_of_ble_eq_true rfl) d_Model_operation_90 ⟨Nat.zero_le _, Nat.zero_le _⟩ (fun H locs hI => ?_)
          refine lv_goto (tgt := 266) hx hb d_Model_operation_93 (by decide) ?_
          exact k_retv X hI hf d_Model_operation_266
        · have hf := sd_f hf hc
          refine lv_iload_n hx hb d_Model_operation_67 rfl (lv_at hl 1 rfl) ?_
          refine lv_sipush (v := 140) hx hb d_Model_operation_68 (by decide) ?_
          refine lv_icmp_eq (tgt := 88) hx hb d_Model_operation_71 (by decide) (fun hc => ?_) (fun hc => ?_)
          · have hf := sd_t hf hc
            refine lv_aload_n hx hb d_Model_operation_88 rfl (lv_at hl 0 rfl) ?_
            refine lv_iload_n hx hb d_Model_operation_89 rfl (lv_at hl 1 rfl) ?_
            obtain ⟨m4, hq, hf⟩ := sd_bv_e hf
            refine k_callVv (As := [.int v1]) (rest := []) (C := "ScriptDeskModel") (ci := 7) ZM_ok X hI (mt_Model_numberOfOne_r0 l hq) (cwV 1 hts (gd_V tw_689 tw_691 ts_36 tw_9 tw_692) rfl rfl rfl (by decide +kernel) ⟨Nat.le_of_ble_eq_true rfl, Nat.le_of_ble_eq_true rfl⟩) 0 rfl rfl rfl hl.1 rfl (Nat.le_of_ble_eq_true rfl) d_Model_operation_90 ⟨Nat.zero_le _, Nat.zero_le _⟩ (fun H locs hI => ?_)
            refine lv_goto (tgt := 266) hx hb d_Model_operation_93 (by decide) ?_
            exact k_retv X hI hf d_Model_operation_266
          · have hf := sd_f hf hc
            refine lv_iload_n hx hb d_Model_operation_74 rfl (lv_at hl 1 rfl) ?_
            refine lv_sipush (v := 143) hx hb d_Model_operation_75 (by decide) ?_
            refine lv_icmp_lt (tgt := 96) hx hb d_Model_operation_78 (by decide) (fun hc => ?_) (fun hc => ?_)
            · have hf := sd_t hf hc
              exact jn_Model_operation_r0_J96 l X (v1) μ _ _ _ hI (lv_sub hl [0, 1] rfl) hf
            · have hf := sd_f hf hc
              refine lv_iload_n hx hb d_Model_operation_81 rfl (lv_at hl 1 rfl) ?_
              refine lv_sipush (v := 146) hx hb d_Model_operation_82 (by decide) ?_
              refine lv_icmp_gt (tgt := 96) hx hb d_Model_operation_85 (by decide) (fun hc => ?_) (fun hc => ?_)
              · have hf := sd_t hf hc
                exact jn_Model_operation_r0_J96 l X (v1) μ _ _ _ hI (lv_sub hl [0, 1] rfl) hf
              · have hf := sd_f hf hc
                refine lv_aload_n hx hb d_Model_operation_88 rfl (lv_at hl 0 rfl) ?_
                refine lv_iload_n hx hb d_Model_operation_89 rfl (lv_at hl 1 rfl) ?_
                obtain ⟨m17, hq, hf⟩ := sd_bv_e hf
                refine k_callVv (As := [.int v1]) (rest := []) (C := "ScriptDeskModel") (ci := 7) ZM_ok X hI (mt_Model_numberOfOne_r0 l hq) (cwV 1 hts (gd_V tw_689 tw_691 ts_36 tw_9 tw_692) rfl rfl rfl (by decide +kernel) ⟨Nat.le_of_ble_eq_true rfl, Nat.le_of_ble_eq_true rfl⟩) 0 rfl rfl rfl hl.1 rfl (Nat.le_of_ble_eq_true rfl) d_Model_operation_90 ⟨Nat.zero_le _, Nat.zero_le _⟩ (fun H locs hI => ?_)
                refine lv_goto (tgt := 266) hx hb d_Model_operation_93 (by decide) ?_
                exact k_retv X hI hf d_Model_operation_266
      · have hf := sd_t hf hc
        exact jn_Model_operation_r0_J41 l X (v1) μ _ _ _ hI (lv_sub hl [0, 1] rfl) hf
  · have hf := sd_t hf hc
    refine lv_aload_n hx hb d_Model_operation_19 rfl (lv_at hl 0 rfl) ?_
    refine lv_iload_n hx hb d_Model_operation_20 rfl (lv_at hl 1 rfl) ?_
    obtain ⟨m18, hq, hf⟩ := sd_bv_e hf
    refine k_callVv (As := [.int v1]) (rest := []) (C := "ScriptDeskModel") (ci := 7) ZM_ok X hI (mt_Model_moves_r0 l hq) (cwV 1 hts (gd_V tw_637 tw_639 ts_23 tw_9 tw_640) rfl rfl rfl (by decide +kernel) ⟨Nat.le_of_ble_eq_true rfl, Nat.le_of_ble_eq_true rfl⟩) 0 rfl rfl rfl hl.1 rfl (Nat.le_of_ble_eq_true rfl) d_Model_operation_21 ⟨Nat.zero_le _, Nat.zero_le _⟩ (fun H locs hI => ?_)
    refine lv_goto (tgt := 266) hx hb d_Model_operation_24 (by decide) ?_
    exact k_retv X hI hf d_Model_operation_266
set_option maxHeartbeats 4000000 in
set_option maxRecDepth 100000 in
theorem mt_Model_operation_r0 (l : Launch) {D : va_G} {q tq : Nat → Nat} {cA : ClassId} {a1 : Int32} {μ : sd_Me} {ru : sd_Me} (hf : fn_Model_operation_r0 a1 μ = some ru) : sd_CTv l y_Model_operation w_Model_operation ({ frames := 5, cells := 0, slots := 0, locals := 109 }) vwCl (wdM q cA) D [(cA, .int)] (ZM tq) [.ref (q 0), .int a1] μ ru := by
  refine k_entv (cc := prog_12_method_35_code) 2 (by decide) rfl (Nat.le_of_ble_eq_true rfl) ?_
  intro p e s m below meth c A ls X hI hl
  have hl : lv_has ls 2 [(0, .ref (q 0)), (1, .int a1)] := hl
  obtain ⟨hx, hb, hml, hown, hts, hK, hZ, hA, hr, hlocks⟩ := id X
  unfold fn_Model_operation_r0 at hf
  refine lv_iload_n hx hb d_Model_operation_0 rfl (lv_at hl 1 rfl) ?_
  refine lv_bipush (v := 107) hx hb d_Model_operation_1 (by decide) ?_
  refine lv_icmp_lt (tgt := 12) hx hb d_Model_operation_3 (by decide) (fun hc => ?_) (fun hc => ?_)
  · have hf := sd_t hf hc
    exact jn_Model_operation_r0_J12 l X (a1) μ _ _ _ hI (lv_sub hl [0, 1] rfl) hf
  · have hf := sd_f hf hc
    refine lv_iload_n hx hb d_Model_operation_6 rfl (lv_at hl 1 rfl) ?_
    refine lv_bipush (v := 125) hx hb d_Model_operation_7 (by decide) ?_
    refine lv_icmp_le (tgt := 19) hx hb d_Model_operation_9 (by decide) (fun hc => ?_) (fun hc => ?_)
    · have hf := sd_t hf hc
      refine lv_aload_n hx hb d_Model_operation_19 rfl (lv_at hl 0 rfl) ?_
      refine lv_iload_n hx hb d_Model_operation_20 rfl (lv_at hl 1 rfl) ?_
      obtain ⟨m19, hq, hf⟩ := sd_bv_e hf
      refine k_callVv (As := [.int a1]) (rest := []) (C := "ScriptDeskModel") (ci := 7) ZM_ok X hI (mt_Model_moves_r0 l hq) (cwV 1 hts (gd_V tw_637 tw_639 ts_23 tw_9 tw_640) rfl rfl rfl (by decide +kernel) ⟨Nat.le_of_ble_eq_true rfl, Nat.le_of_ble_eq_true rfl⟩) 0 rfl rfl rfl hl.1 rfl (Nat.le_of_ble_eq_true rfl) d_Model_operation_21 ⟨Nat.zero_le _, Nat.zero_le _⟩ (fun H locs hI => ?_)
      refine lv_goto (tgt := 266) hx hb d_Model_operation_24 (by decide) ?_
      exact k_retv X hI hf d_Model_operation_266
    · have hf := sd_f hf hc
      exact jn_Model_operation_r0_J12 l X (a1) μ _ _ _ hI (lv_sub hl [0, 1] rfl) hf
set_option maxHeartbeats 4000000 in
set_option maxRecDepth 100000 in
theorem lp_Model_pushes_r0_L51 (l : Launch) {p : Program} {e : Env} {s : State} {m : MethodId} {args : Array Value} {below : List Frame} {meth : Method} {c : Code} {A : Nat → Prop} {D : va_G} {q tq : Nat → Nat} {cA : ClassId} {ru : Int32 × sd_Me} (X : sd_Cx p s m args meth c prog_12_method_36_code "ScriptDeskModel" sx_tbl 5 (some .int) vwCl D [(cA, .int)] (ZM tq) A) {k87 : Int32 → Int32 → sd_Me → Option (Int32 × sd_Me)} (hk87 : ∀ (v1 : Int32) (v2 : Int32) (μ : sd_Me) (H : Heap) (locs : List Loc) (ls : Array Slot), sd_CI vwCl (wdM q cA) D A s H locs μ → lv_has ls 5 [(0, .ref (q 0)), (1, .int v1), (2, .int v2)] → k87 v1 v2 μ = some ru → W p l e ({ frames := 1, cells := 0, slots := 0, locals := 21 }) s m args below meth c H locs 0 0 (sd_QI below vwCl (wdM q cA) D [(cA, .int)] .int A args s ru) (F0 m 87 ls [])) :
    ∀ (n : Nat) (v1 : Int32) (v2 : Int32) (v4 : Int32) (μ : sd_Me) (H : Heap) (locs : List Loc) (ls : Array Slot), sd_CI vwCl (wdM q cA) D A s H locs μ → lv_has ls 5 [(0, .ref (q 0)), (1, .int v1), (2, .int v2), (4, .int v4)] → fn_Model_pushes_r0_L51 k87 n v1 v2 v4 μ = some ru → W p l e ({ frames := 1, cells := 0, slots := 0, locals := 21 }) s m args below meth c H locs 0 0 (sd_QI below vwCl (wdM q cA) D [(cA, .int)] .int A args s ru) (F0 m 51 ls []) := by
  obtain ⟨hx, hb, hml, hown, hts, hK, hZ, hA, hr, hlocks⟩ := id X
  intro n
  induction n with
  | zero =>
    intro v1 v2 v4 μ H locs ls hI hl hf
    cases hf
  | succ n ih =>
    intro v1 v2 v4 μ H locs ls hI hl hf
    rw [fn_Model_pushes_r0_L51] at hf
    refine lv_iload hx hb d_Model_pushes_51 (lv_at hl 3 rfl) ?_
    refine lv_iload_n hx hb d_Model_pushes_53 rfl (lv_at hl 2 rfl) ?_
    refine lv_icmp_ge (tgt := 87) hx hb d_Model_pushes_54 (by decide) (fun hc => ?_) (fun hc => ?_)
    · have hf := sd_t hf hc
      exact hk87 (v1) (v2) μ _ _ _ hI (lv_sub hl [0, 1, 2] rfl) hf
    · have hf := sd_f hf hc
      refine lv_aload_n hx hb d_Model_pushes_57 rfl (lv_at hl 0 rfl) ?_
      refine va_get (D := D) (ci := 7) (v := .ref (q 1)) (C := "ScriptDeskModel") (T := T_Model) (N := 18) hx hb hts iw_Model hown hK hI.1 0 rfl rfl 0 (by decide) (hts _ tw_531) (fun _ h9 => h9) rfl d_Model_pushes_58 ?_
      refine lv_bipush (v := 120) hx hb d_Model_pushes_61 (by decide) ?_
      refine lv_aload_n hx hb d_Model_pushes_63 rfl (lv_at hl 0 rfl) ?_
      refine va_get (D := D) (ci := 7) (v := .int (μ.1 0 2)) (C := "ScriptDeskModel") (T := T_Model) (N := 18) hx hb hts iw_Model hown hK hI.1 0 rfl rfl 2 (by decide) (hts _ tw_533) (fun _ h9 => h9) rfl d_Model_pushes_64 ?_
      refine lv_imul hx hb d_Model_pushes_67 ?_
      refine lv_iload hx hb d_Model_pushes_68 (lv_at hl 3 rfl) ?_
      refine lv_iadd hx hb d_Model_pushes_70 ?_
      refine lv_aload_n hx hb d_Model_pushes_71 rfl (lv_at hl 0 rfl) ?_
      refine va_get (D := D) (ci := 7) (v := .ref (q 3)) (C := "ScriptDeskModel") (T := T_Model) (N := 18) hx hb hts iw_Model hown hK hI.1 0 rfl rfl 4 (by decide) (hts _ tw_535) (fun _ h9 => h9) rfl d_Model_pushes_72 ?_
      refine lv_iload_n hx hb d_Model_pushes_75 rfl (lv_at hl 1 rfl) ?_
      refine lv_iload hx hb d_Model_pushes_76 (lv_at hl 3 rfl) ?_
      refine lv_iadd hx hb d_Model_pushes_78 ?_
      obtain ⟨hg, hf⟩ := sd_gd_e hf
      refine k_iald hx hb hK hI 3 0 rfl rfl hg d_Model_pushes_79 ?_
      obtain ⟨hg, hf⟩ := sd_gd_e hf
      refine k_iast (μ' := sd_st μ 1 (Int32.toNatClampNeg (((120 : Int32) * (μ.1 0 2)) + v4)) (μ.1 3 (Int32.toNatClampNeg (v1 + v4)))) hx hb hK hI 1 0 rfl rfl rfl hg d_Model_pushes_80 (fun H locs hI => ?_)
      obtain ⟨m2, hI, hf⟩ := k_lm hf hI
      refine lv_iinc (v := (v4 + (1 : Int32))) (lv' := [(4, .int (v4 + (1 : Int32))), (0, .ref (q 0)), (1, .int v1), (2, .int v2)]) hx hb d_Model_pushes_81 hl (k := 3) rfl rfl (by decide) rfl (fun ls hl => ?_)
      refine lv_goto (tgt := 51) hx hb d_Model_pushes_84 (by decide) ?_
      exact ih (v1) (v2) ((v4 + (1 : Int32))) m2 _ _ _ hI (lv_sub hl [1, 2, 3, 0] rfl) hf
set_option maxHeartbeats 4000000 in
set_option maxRecDepth 100000 in
theorem mt_Model_pushes_r0 (l : Launch) {D : va_G} {q tq : Nat → Nat} {cA : ClassId} {a1 : Int32} {a2 : Int32} {a3 : Int32} {μ : sd_Me} {ru : Int32 × sd_Me} (hf : fn_Model_pushes_r0 a1 a2 a3 μ = some ru) : sd_CTi l y_Model_pushes w_Model_pushes ({ frames := 1, cells := 0, slots := 0, locals := 21 }) vwCl (wdM q cA) D [(cA, .int)] (ZM tq) .int [.ref (q 0), .int a1, .int a2, .int a3] μ ru := by
  refine k_enti (cc := prog_12_method_36_code) 5 (by decide) rfl (Nat.le_of_ble_eq_true rfl) ?_
  intro p e s m below meth c A ls X hI hl
  have hl : lv_has ls 5 [(0, .ref (q 0)), (1, .int a1), (2, .int a2), (3, .int a3)] := hl
  obtain ⟨hx, hb, hml, hown, hts, hK, hZ, hA, hr, hlocks⟩ := id X
  unfold fn_Model_pushes_r0 at hf
  refine lv_iload_n hx hb d_Model_pushes_0 rfl (lv_at hl 1 rfl) ?_
  refine lv_iload_n hx hb d_Model_pushes_1 rfl (lv_at hl 2 rfl) ?_
  refine lv_iadd hx hb d_Model_pushes_2 ?_
  refine lv_aload_n hx hb d_Model_pushes_3 rfl (lv_at hl 0 rfl) ?_
  refine va_get (D := D) (ci := 7) (v := .int (μ.1 0 5)) (C := "ScriptDeskModel") (T := T_Model) (N := 18) hx hb hts iw_Model hown hK hI.1 0 rfl rfl 5 (by decide) (hts _ tw_536) (fun _ h9 => h9) rfl d_Model_pushes_4 ?_
  refine lv_icmp_le (tgt := 20) hx hb d_Model_pushes_7 (by decide) (fun hc => ?_) (fun hc => ?_)
  · have hf := sd_t hf hc
    refine lv_iload_n hx hb d_Model_pushes_20 rfl (lv_at hl 2 rfl) ?_
    refine lv_bipush (v := 120) hx hb d_Model_pushes_21 (by decide) ?_
    refine lv_icmp_le (tgt := 34) hx hb d_Model_pushes_23 (by decide) (fun hc => ?_) (fun hc => ?_)
    · have hf := sd_t hf hc
      refine lv_iload_n hx hb d_Model_pushes_34 rfl (lv_at hl 3 rfl) ?_
      refine lv_if_eq (tgt := 97) hx hb d_Model_pushes_35 (by decide) (fun hc => ?_) (fun hc => ?_)
      · have hf := sd_t hf hc
        refine lv_iload_n hx hb d_Model_pushes_97 rfl (lv_at hl 1 rfl) ?_
        refine lv_iload_n hx hb d_Model_pushes_98 rfl (lv_at hl 2 rfl) ?_
        refine lv_iadd hx hb d_Model_pushes_99 ?_
        exact k_reti X hI (vp_nar_int _) hf d_Model_pushes_100
      · have hf := sd_f hf hc
        refine lv_aload_n hx hb d_Model_pushes_38 rfl (lv_at hl 0 rfl) ?_
        refine va_get (D := D) (ci := 7) (v := .ref (q 2)) (C := "ScriptDeskModel") (T := T_Model) (N := 18) hx hb hts iw_Model hown hK hI.1 0 rfl rfl 1 (by decide) (hts _ tw_532) (fun _ h9 => h9) rfl d_Model_pushes_39 ?_
        refine lv_aload_n hx hb d_Model_pushes_42 rfl (lv_at hl 0 rfl) ?_
        refine va_get (D := D) (ci := 7) (v := .int (μ.1 0 2)) (C := "ScriptDeskModel") (T := T_Model) (N := 18) hx hb hts iw_Model hown hK hI.1 0 rfl rfl 2 (by decide) (hts _ tw_533) (fun _ h9 => h9) rfl d_Model_pushes_43 ?_
        refine lv_iload_n hx hb d_Model_pushes_46 rfl (lv_at hl 2 rfl) ?_
        obtain ⟨hg, hf⟩ := sd_gd_e hf
        refine k_iast (μ' := sd_st μ 2 (Int32.toNatClampNeg (μ.1 0 2)) a2) hx hb hK hI 2 0 rfl rfl rfl hg d_Model_pushes_47 (fun H locs hI => ?_)
        obtain ⟨m1, hI, hf⟩ := k_lm hf hI
        refine lv_iconst (v := 0) hx hb d_Model_pushes_48 (by decide) ?_
        refine lv_istore (lv' := [(4, .int (0 : Int32)), (0, .ref (q 0)), (1, .int a1), (2, .int a2), (3, .int a3)]) hx hb d_Model_pushes_49 hl (by decide) rfl (fun ls hl => ?_)
        refine lp_Model_pushes_r0_L51 l X ?_ 10000 (a1) (a2) ((0 : Int32)) m1 _ _ _ hI (lv_sub hl [1, 2, 3, 0] rfl) hf
        · intro x3 x4 m5 H locs ls hI hl hf
          refine lv_aload_n hx hb d_Model_pushes_87 rfl (lv_at hl 0 rfl) ?_
          refine lv_dup hx hb d_Model_pushes_88 rfl ?_
          refine va_get (D := D) (ci := 7) (v := .int (m5.1 0 2)) (C := "ScriptDeskModel") (T := T_Model) (N := 18) hx hb hts iw_Model hown hK hI.1 0 rfl rfl 2 (by decide) (hts _ tw_533) (fun _ h9 => h9) rfl d_Model_pushes_89 ?_
          refine lv_iconst (v := 1) hx hb d_Model_pushes_92 (by decide) ?_
          refine lv_iadd hx hb d_Model_pushes_93 ?_
          refine k_put (ci := 7) (v := .int ((m5.1 0 2) + (1 : Int32))) (ty := .int) (C := "ScriptDeskModel") (T := T_Model) (N := 18) (μ' := sd_st m5 0 2 ((m5.1 0 2) + (1 : Int32))) hx hb hts iw_Model t_Model t_Model_ok n_Model hown hK hI 0 rfl rfl 2 (by decide) (hts _ tw_533) (fun _ h9 => h9) rfl (by decide +kernel) rfl rfl (Nat.le_of_ble_eq_true rfl) rfl d_Model_pushes_94 (fun H locs hI => ?_)
          obtain ⟨m6, hI, hf⟩ := k_lm hf hI
          refine lv_iload_n hx hb d_Model_pushes_97 rfl (lv_at hl 1 rfl) ?_
          refine lv_iload_n hx hb d_Model_pushes_98 rfl (lv_at hl 2 rfl) ?_
          refine lv_iadd hx hb d_Model_pushes_99 ?_
          exact k_reti X hI (vp_nar_int _) hf d_Model_pushes_100
    · have hf := sd_f hf hc
      refine lv_aload_n hx hb d_Model_pushes_26 rfl (lv_at hl 0 rfl) ?_
      refine lv_iconst (v := 2) hx hb d_Model_pushes_27 (by decide) ?_
      obtain ⟨m7, hq, hf⟩ := sd_bv_e hf
      refine k_callVv (As := [.int (2 : Int32)]) (rest := []) (C := "ScriptDeskModel") (ci := 7) ZM_ok X hI (mt_Model_fails_r0 l hq) (cwV 1 hts (gd_V tw_607 tw_609 ts_16 tw_9 tw_610) rfl rfl rfl (by decide +kernel) ⟨Nat.le_of_ble_eq_true rfl, Nat.le_of_ble_eq_true rfl⟩) 0 rfl rfl rfl hl.1 rfl (Nat.le_of_ble_eq_true rfl) d_Model_pushes_28 ⟨Nat.zero_le _, Nat.zero_le _⟩ (fun H locs hI => ?_)
      refine lv_goto (tgt := 97) hx hb d_Model_pushes_31 (by decide) ?_
      refine lv_iload_n hx hb d_Model_pushes_97 rfl (lv_at hl 1 rfl) ?_
      refine lv_iload_n hx hb d_Model_pushes_98 rfl (lv_at hl 2 rfl) ?_
      refine lv_iadd hx hb d_Model_pushes_99 ?_
      exact k_reti X hI (vp_nar_int _) hf d_Model_pushes_100
  · have hf := sd_f hf hc
    refine lv_aload_n hx hb d_Model_pushes_10 rfl (lv_at hl 0 rfl) ?_
    refine lv_iconst (v := 1) hx hb d_Model_pushes_11 (by decide) ?_
    obtain ⟨m8, hq, hf⟩ := sd_bv_e hf
    refine k_callVv (As := [.int (1 : Int32)]) (rest := []) (C := "ScriptDeskModel") (ci := 7) ZM_ok X hI (mt_Model_fails_r0 l hq) (cwV 1 hts (gd_V tw_607 tw_609 ts_16 tw_9 tw_610) rfl rfl rfl (by decide +kernel) ⟨Nat.le_of_ble_eq_true rfl, Nat.le_of_ble_eq_true rfl⟩) 0 rfl rfl rfl hl.1 rfl (Nat.le_of_ble_eq_true rfl) d_Model_pushes_12 ⟨Nat.zero_le _, Nat.zero_le _⟩ (fun H locs hI => ?_)
    refine lv_aload_n hx hb d_Model_pushes_15 rfl (lv_at hl 0 rfl) ?_
    refine va_get (D := D) (ci := 7) (v := .int (m8.1 0 5)) (C := "ScriptDeskModel") (T := T_Model) (N := 18) hx hb hts iw_Model hown hK hI.1 0 rfl rfl 5 (by decide) (hts _ tw_536) (fun _ h9 => h9) rfl d_Model_pushes_16 ?_
    exact k_reti X hI (vp_nar_int _) hf d_Model_pushes_19
