set_option maxHeartbeats 4000000 in
set_option maxRecDepth 100000 in
theorem mt_Model_mixed (l : Launch) {D : va_G} {q tq : Nat → Nat} {cA : ClassId} {a0 : Int32} {a1 : Int32} {a2 : Int32} {a3 : Int32} {μ : sd_Me} {ru : Int32 × sd_Me} (hf : fn_Model_mixed a0 a1 a2 a3 μ = some ru) : sd_CTi l y_Model_mixed w_Model_mixed ({ frames := 0, cells := 0, slots := 0, locals := 0 }) vwCl (wdM q cA) D [(cA, .int)] (ZM tq) .int [.int a0, .int a1, .int a2, .int a3] μ ru := by
  refine k_enti (cc := prog_12_method_18_code) 4 (by decide) rfl (Nat.le_of_ble_eq_true rfl) ?_
  intro p e s m below meth c A ls X hI hl
  have hl : lv_has ls 4 [(0, .int a0), (1, .int a1), (2, .int a2), (3, .int a3)] := hl
  obtain ⟨hx, hb, hml, hown, hts, hK, hZ, hA, hr, hlocks⟩ := id X
  unfold fn_Model_mixed at hf
  refine lv_iload_n hx hb d_Model_mixed_0 rfl (lv_at hl 0 rfl) ?_
  refine lv_if_ne (tgt := 10) hx hb d_Model_mixed_1 (by decide) (fun hc => ?_) (fun hc => ?_)
  · have hf := sd_f hf hc
    refine lv_iload_n hx hb d_Model_mixed_10 rfl (lv_at hl 0 rfl) ?_
    refine lv_iconst (v := 1) hx hb d_Model_mixed_11 (by decide) ?_
    refine lv_icmp_ne (tgt := 25) hx hb d_Model_mixed_12 (by decide) (fun hc => ?_) (fun hc => ?_)
    · have hf := sd_f hf hc
      refine lv_iload_n hx hb d_Model_mixed_25 rfl (lv_at hl 0 rfl) ?_
      refine lv_iconst (v := 2) hx hb d_Model_mixed_26 (by decide) ?_
      refine lv_icmp_ne (tgt := 38) hx hb d_Model_mixed_27 (by decide) (fun hc => ?_) (fun hc => ?_)
      · have hf := sd_f hf hc
        refine lv_iload_n hx hb d_Model_mixed_38 rfl (lv_at hl 0 rfl) ?_
        refine lv_iconst (v := 3) hx hb d_Model_mixed_39 (by decide) ?_
        refine lv_icmp_ne (tgt := 55) hx hb d_Model_mixed_40 (by decide) (fun hc => ?_) (fun hc => ?_)
        · have hf := sd_f hf hc
          refine lv_iload_n hx hb d_Model_mixed_55 rfl (lv_at hl 1 rfl) ?_
          refine lv_iload_n hx hb d_Model_mixed_56 rfl (lv_at hl 2 rfl) ?_
          refine lv_iload_n hx hb d_Model_mixed_57 rfl (lv_at hl 3 rfl) ?_
          refine lv_iconst (v := -1) hx hb d_Model_mixed_58 (by decide) ?_
          refine lv_ixor hx hb d_Model_mixed_59 ?_
          refine lv_ior hx hb d_Model_mixed_60 ?_
          refine lv_ixor hx hb d_Model_mixed_61 ?_
          exact k_reti X hI (vp_nar_int _) hf d_Model_mixed_62
        · have hf := sd_t hf hc
          refine lv_iload_n hx hb d_Model_mixed_43 rfl (lv_at hl 1 rfl) ?_
          refine lv_iload_n hx hb d_Model_mixed_44 rfl (lv_at hl 3 rfl) ?_
          refine lv_iand hx hb d_Model_mixed_45 ?_
          refine lv_iload_n hx hb d_Model_mixed_46 rfl (lv_at hl 2 rfl) ?_
          refine lv_iload_n hx hb d_Model_mixed_47 rfl (lv_at hl 3 rfl) ?_
          refine lv_iconst (v := -1) hx hb d_Model_mixed_48 (by decide) ?_
          refine lv_ixor hx hb d_Model_mixed_49 ?_
          refine lv_iand hx hb d_Model_mixed_50 ?_
          refine lv_ior hx hb d_Model_mixed_51 ?_
          refine lv_goto (tgt := 62) hx hb d_Model_mixed_52 (by decide) ?_
          exact k_reti X hI (vp_nar_int _) hf d_Model_mixed_62
      · have hf := sd_t hf hc
        refine lv_iload_n hx hb d_Model_mixed_30 rfl (lv_at hl 1 rfl) ?_
        refine lv_iload_n hx hb d_Model_mixed_31 rfl (lv_at hl 2 rfl) ?_
        refine lv_iconst (v := -1) hx hb d_Model_mixed_32 (by decide) ?_
        refine lv_ixor hx hb d_Model_mixed_33 ?_
        refine lv_ior hx hb d_Model_mixed_34 ?_
        refine lv_iload_n hx hb d_Model_mixed_35 rfl (lv_at hl 3 rfl) ?_
        refine lv_ixor hx hb d_Model_mixed_36 ?_
        exact k_reti X hI (vp_nar_int _) hf d_Model_mixed_37
    · have hf := sd_t hf hc
      refine lv_iload_n hx hb d_Model_mixed_15 rfl (lv_at hl 1 rfl) ?_
      refine lv_iload_n hx hb d_Model_mixed_16 rfl (lv_at hl 2 rfl) ?_
      refine lv_iand hx hb d_Model_mixed_17 ?_
      refine lv_iload_n hx hb d_Model_mixed_18 rfl (lv_at hl 1 rfl) ?_
      refine lv_iconst (v := -1) hx hb d_Model_mixed_19 (by decide) ?_
      refine lv_ixor hx hb d_Model_mixed_20 ?_
      refine lv_iload_n hx hb d_Model_mixed_21 rfl (lv_at hl 3 rfl) ?_
      refine lv_iand hx hb d_Model_mixed_22 ?_
      refine lv_ior hx hb d_Model_mixed_23 ?_
      exact k_reti X hI (vp_nar_int _) hf d_Model_mixed_24
  · have hf := sd_t hf hc
    refine lv_iload_n hx hb d_Model_mixed_4 rfl (lv_at hl 1 rfl) ?_
    refine lv_iload_n hx hb d_Model_mixed_5 rfl (lv_at hl 2 rfl) ?_
    refine lv_ixor hx hb d_Model_mixed_6 ?_
    refine lv_iload_n hx hb d_Model_mixed_7 rfl (lv_at hl 3 rfl) ?_
    refine lv_ixor hx hb d_Model_mixed_8 ?_
    exact k_reti X hI (vp_nar_int _) hf d_Model_mixed_9
set_option maxHeartbeats 4000000 in
set_option maxRecDepth 100000 in
theorem mt_Model_right (l : Launch) {D : va_G} {q tq : Nat → Nat} {cA : ClassId} {a0 : Int32} {a1 : Int32} {μ : sd_Me} {ru : Int32 × sd_Me} (hf : fn_Model_right a0 a1 μ = some ru) : sd_CTi l y_Model_right w_Model_right ({ frames := 0, cells := 0, slots := 0, locals := 0 }) vwCl (wdM q cA) D [(cA, .int)] (ZM tq) .int [.int a0, .int a1] μ ru := by
  refine k_enti (cc := prog_12_method_16_code) 2 (by decide) rfl (Nat.le_of_ble_eq_true rfl) ?_
  intro p e s m below meth c A ls X hI hl
  have hl : lv_has ls 2 [(0, .int a0), (1, .int a1)] := hl
  obtain ⟨hx, hb, hml, hown, hts, hK, hZ, hA, hr, hlocks⟩ := id X
  unfold fn_Model_right at hf
  refine lv_iload_n hx hb d_Model_right_0 rfl (lv_at hl 0 rfl) ?_
  refine lv_iload_n hx hb d_Model_right_1 rfl (lv_at hl 1 rfl) ?_
  refine lv_iushr (v := (sd_usr a0 a1)) hx hb d_Model_right_2 rfl ?_
  refine lv_iload_n hx hb d_Model_right_3 rfl (lv_at hl 0 rfl) ?_
  refine lv_bipush (v := 32) hx hb d_Model_right_4 (by decide) ?_
  refine lv_iload_n hx hb d_Model_right_6 rfl (lv_at hl 1 rfl) ?_
  refine lv_isub hx hb d_Model_right_7 ?_
  refine lv_ishl hx hb d_Model_right_8 ?_
  refine lv_ior hx hb d_Model_right_9 ?_
  exact k_reti X hI (vp_nar_int _) hf d_Model_right_10
set_option maxHeartbeats 4000000 in
set_option maxRecDepth 100000 in
theorem mt_Model_step_r0 (l : Launch) {D : va_G} {q tq : Nat → Nat} {cA : ClassId} {a1 : Int32} {a2 : Int32} {a3 : Int32} {μ : sd_Me} {ru : sd_Me} (hf : fn_Model_step_r0 a1 a2 a3 μ = some ru) : sd_CTv l y_Model_step w_Model_step ({ frames := 1, cells := 0, slots := 0, locals := 21 }) vwCl (wdM q cA) D [(cA, .int)] (ZM tq) [.ref (q 0), .int a1, .int a2, .int a3] μ ru := by
  refine k_entv (cc := prog_12_method_20_code) 5 (by decide) rfl (Nat.le_of_ble_eq_true rfl) ?_
  intro p e s m below meth c A ls X hI hl
  have hl : lv_has ls 5 [(0, .ref (q 0)), (1, .int a1), (2, .int a2), (3, .int a3)] := hl
  obtain ⟨hx, hb, hml, hown, hts, hK, hZ, hA, hr, hlocks⟩ := id X
  unfold fn_Model_step_r0 at hf
  refine lv_aload_n hx hb d_Model_step_0 rfl (lv_at hl 0 rfl) ?_
  refine va_get (D := D) (ci := 7) (v := .ref (q 8)) (C := "ScriptDeskModel") (T := T_Model) (N := 18) hx hb hts iw_Model hown hK hI.1 0 rfl rfl 17 (by decide) (hts _ tw_548) (fun _ h9 => h9) rfl d_Model_step_1 ?_
  refine lv_iload_n hx hb d_Model_step_4 rfl (lv_at hl 1 rfl) ?_
  obtain ⟨hg, hf⟩ := sd_gd_e hf
  refine k_iald hx hb hK hI 8 0 rfl rfl hg d_Model_step_5 ?_
  refine lv_iload_n hx hb d_Model_step_6 rfl (lv_at hl 2 rfl) ?_
  refine lv_iadd hx hb d_Model_step_7 ?_
  refine lv_bipush (v := 32) hx hb d_Model_step_8 (by decide) ?_
  refine lv_iload_n hx hb d_Model_step_10 rfl (lv_at hl 3 rfl) ?_
  refine lv_isub hx hb d_Model_step_11 ?_
  obtain ⟨x2, m1, hq, hf⟩ := sd_bi_e hf
  refine k_callS (As := [.int ((μ.1 8 (Int32.toNatClampNeg a1)) + a2), .int ((32 : Int32) - a3)]) (rest := []) ZM_ok X hI (mt_Model_right l hq) (va_cwS 2 hts (gd_S tw_717 tw_718 tw_9 tw_719) rfl rfl rfl (by decide +kernel) ⟨Nat.le_of_ble_eq_true rfl, Nat.le_of_ble_eq_true rfl⟩) rfl hl.1 rfl (Nat.le_of_ble_eq_true rfl) d_Model_step_12 ⟨Nat.zero_le _, Nat.zero_le _⟩ (fun H locs hn_x2 hI => ?_)
  refine lv_aload_n hx hb d_Model_step_15 rfl (lv_at hl 0 rfl) ?_
  refine va_get (D := D) (ci := 7) (v := .ref (q 8)) (C := "ScriptDeskModel") (T := T_Model) (N := 18) hx hb hts iw_Model hown hK hI.1 0 rfl rfl 17 (by decide) (hts _ tw_548) (fun _ h9 => h9) rfl d_Model_step_16 ?_
  refine lv_iload_n hx hb d_Model_step_19 rfl (lv_at hl 1 rfl) ?_
  refine lv_iconst (v := 4) hx hb d_Model_step_20 (by decide) ?_
  refine lv_iadd hx hb d_Model_step_21 ?_
  obtain ⟨hg, hf⟩ := sd_gd_e hf
  refine k_iald hx hb hK hI 8 0 rfl rfl hg d_Model_step_22 ?_
  refine lv_iadd hx hb d_Model_step_23 ?_
  refine k_li hf (fun x3 hf => ?_)
  refine lv_istore (lv' := [(4, .int x3), (0, .ref (q 0)), (1, .int a1), (2, .int a2), (3, .int a3)]) hx hb d_Model_step_24 hl (by decide) rfl (fun ls hl => ?_)
  refine lv_aload_n hx hb d_Model_step_26 rfl (lv_at hl 1 rfl) ?_
  refine va_get (D := D) (ci := 7) (v := .ref (q 8)) (C := "ScriptDeskModel") (T := T_Model) (N := 18) hx hb hts iw_Model hown hK hI.1 0 rfl rfl 17 (by decide) (hts _ tw_548) (fun _ h9 => h9) rfl d_Model_step_27 ?_
  refine lv_iload_n hx hb d_Model_step_30 rfl (lv_at hl 2 rfl) ?_
  refine lv_aload_n hx hb d_Model_step_31 rfl (lv_at hl 1 rfl) ?_
  refine va_get (D := D) (ci := 7) (v := .ref (q 8)) (C := "ScriptDeskModel") (T := T_Model) (N := 18) hx hb hts iw_Model hown hK hI.1 0 rfl rfl 17 (by decide) (hts _ tw_548) (fun _ h9 => h9) rfl d_Model_step_32 ?_
  refine lv_iload_n hx hb d_Model_step_35 rfl (lv_at hl 2 rfl) ?_
  refine lv_iconst (v := 4) hx hb d_Model_step_36 (by decide) ?_
  refine lv_iadd hx hb d_Model_step_37 ?_
  obtain ⟨hg, hf⟩ := sd_gd_e hf
  refine k_iald hx hb hK hI 8 0 rfl rfl hg d_Model_step_38 ?_
  obtain ⟨hg, hf⟩ := sd_gd_e hf
  refine k_iast (μ' := sd_st m1 8 (Int32.toNatClampNeg a1) (m1.1 8 (Int32.toNatClampNeg (a1 + (4 : Int32))))) hx hb hK hI 8 0 rfl rfl rfl hg d_Model_step_39 (fun H locs hI => ?_)
  obtain ⟨m4, hI, hf⟩ := k_lm hf hI
  refine lv_aload_n hx hb d_Model_step_40 rfl (lv_at hl 1 rfl) ?_
  refine va_get (D := D) (ci := 7) (v := .ref (q 8)) (C := "ScriptDeskModel") (T := T_Model) (N := 18) hx hb hts iw_Model hown hK hI.1 0 rfl rfl 17 (by decide) (hts _ tw_548) (fun _ h9 => h9) rfl d_Model_step_41 ?_
  refine lv_iload_n hx hb d_Model_step_44 rfl (lv_at hl 2 rfl) ?_
  refine lv_iconst (v := 4) hx hb d_Model_step_45 (by decide) ?_
  refine lv_iadd hx hb d_Model_step_46 ?_
  refine lv_aload_n hx hb d_Model_step_47 rfl (lv_at hl 1 rfl) ?_
  refine va_get (D := D) (ci := 7) (v := .ref (q 8)) (C := "ScriptDeskModel") (T := T_Model) (N := 18) hx hb hts iw_Model hown hK hI.1 0 rfl rfl 17 (by decide) (hts _ tw_548) (fun _ h9 => h9) rfl d_Model_step_48 ?_
  refine lv_iload_n hx hb d_Model_step_51 rfl (lv_at hl 2 rfl) ?_
  refine lv_iconst (v := 3) hx hb d_Model_step_52 (by decide) ?_
  refine lv_iadd hx hb d_Model_step_53 ?_
  obtain ⟨hg, hf⟩ := sd_gd_e hf
  refine k_iald hx hb hK hI 8 0 rfl rfl hg d_Model_step_54 ?_
  obtain ⟨hg, hf⟩ := sd_gd_e hf
  refine k_iast (μ' := sd_st m4 8 (Int32.toNatClampNeg (a1 + (4 : Int32))) (m4.1 8 (Int32.toNatClampNeg (a1 + (3 : Int32))))) hx hb hK hI 8 0 rfl rfl rfl hg d_Model_step_55 (fun H locs hI => ?_)
  obtain ⟨m5, hI, hf⟩ := k_lm hf hI
  refine lv_aload_n hx hb d_Model_step_56 rfl (lv_at hl 1 rfl) ?_
  refine va_get (D := D) (ci := 7) (v := .ref (q 8)) (C := "ScriptDeskModel") (T := T_Model) (N := 18) hx hb hts iw_Model hown hK hI.1 0 rfl rfl 17 (by decide) (hts _ tw_548) (fun _ h9 => h9) rfl d_Model_step_57 ?_
  refine lv_iload_n hx hb d_Model_step_60 rfl (lv_at hl 2 rfl) ?_
  refine lv_iconst (v := 3) hx hb d_Model_step_61 (by decide) ?_
  refine lv_iadd hx hb d_Model_step_62 ?_
  refine lv_aload_n hx hb d_Model_step_63 rfl (lv_at hl 1 rfl) ?_
  refine va_get (D := D) (ci := 7) (v := .ref (q 8)) (C := "ScriptDeskModel") (T := T_Model) (N := 18) hx hb hts iw_Model hown hK hI.1 0 rfl rfl 17 (by decide) (hts _ tw_548) (fun _ h9 => h9) rfl d_Model_step_64 ?_
  refine lv_iload_n hx hb d_Model_step_67 rfl (lv_at hl 2 rfl) ?_
  refine lv_iconst (v := 2) hx hb d_Model_step_68 (by decide) ?_
  refine lv_iadd hx hb d_Model_step_69 ?_
  obtain ⟨hg, hf⟩ := sd_gd_e hf
  refine k_iald hx hb hK hI 8 0 rfl rfl hg d_Model_step_70 ?_
  refine lv_bipush (v := 22) hx hb d_Model_step_71 (by decide) ?_
  obtain ⟨x7, m6, hq, hf⟩ := sd_bi_e hf
  refine k_callS (As := [.int (m5.1 8 (Int32.toNatClampNeg (a1 + (2 : Int32)))), .int (22 : Int32)]) (rest := [.int (a1 + (3 : Int32)), .ref (q 8)]) ZM_ok X hI (mt_Model_right l hq) (va_cwS 2 hts (gd_S tw_717 tw_718 tw_9 tw_719) rfl rfl rfl (by decide +kernel) ⟨Nat.le_of_ble_eq_true rfl, Nat.le_of_ble_eq_true rfl⟩) rfl hl.1 rfl (Nat.le_of_ble_eq_true rfl) d_Model_step_73 ⟨Nat.zero_le _, Nat.zero_le _⟩ (fun H locs hn_x7 hI => ?_)
  obtain ⟨hg, hf⟩ := sd_gd_e hf
  refine k_iast (μ' := sd_st m6 8 (Int32.toNatClampNeg (a1 + (3 : Int32))) x7) hx hb hK hI 8 0 rfl rfl rfl hg d_Model_step_76 (fun H locs hI => ?_)
  obtain ⟨m8, hI, hf⟩ := k_lm hf hI
  refine lv_aload_n hx hb d_Model_step_77 rfl (lv_at hl 1 rfl) ?_
  refine va_get (D := D) (ci := 7) (v := .ref (q 8)) (C := "ScriptDeskModel") (T := T_Model) (N := 18) hx hb hts iw_Model hown hK hI.1 0 rfl rfl 17 (by decide) (hts _ tw_548) (fun _ h9 => h9) rfl d_Model_step_78 ?_
  refine lv_iload_n hx hb d_Model_step_81 rfl (lv_at hl 2 rfl) ?_
  refine lv_iconst (v := 2) hx hb d_Model_step_82 (by decide) ?_
  refine lv_iadd hx hb d_Model_step_83 ?_
  refine lv_aload_n hx hb d_Model_step_84 rfl (lv_at hl 1 rfl) ?_
  refine va_get (D := D) (ci := 7) (v := .ref (q 8)) (C := "ScriptDeskModel") (T := T_Model) (N := 18) hx hb hts iw_Model hown hK hI.1 0 rfl rfl 17 (by decide) (hts _ tw_548) (fun _ h9 => h9) rfl d_Model_step_85 ?_
  refine lv_iload_n hx hb d_Model_step_88 rfl (lv_at hl 2 rfl) ?_
  refine lv_iconst (v := 1) hx hb d_Model_step_89 (by decide) ?_
  refine lv_iadd hx hb d_Model_step_90 ?_
  obtain ⟨hg, hf⟩ := sd_gd_e hf
  refine k_iald hx hb hK hI 8 0 rfl rfl hg d_Model_step_91 ?_
  obtain ⟨hg, hf⟩ := sd_gd_e hf
  refine k_iast (μ' := sd_st m8 8 (Int32.toNatClampNeg (a1 + (2 : Int32))) (m8.1 8 (Int32.toNatClampNeg (a1 + (1 : Int32))))) hx hb hK hI 8 0 rfl rfl rfl hg d_Model_step_92 (fun H locs hI => ?_)
  obtain ⟨m9, hI, hf⟩ := k_lm hf hI
  refine lv_aload_n hx hb d_Model_step_93 rfl (lv_at hl 1 rfl) ?_
  refine va_get (D := D) (ci := 7) (v := .ref (q 8)) (C := "ScriptDeskModel") (T := T_Model) (N := 18) hx hb hts iw_Model hown hK hI.1 0 rfl rfl 17 (by decide) (hts _ tw_548) (fun _ h9 => h9) rfl d_Model_step_94 ?_
  refine lv_iload_n hx hb d_Model_step_97 rfl (lv_at hl 2 rfl) ?_
  refine lv_iconst (v := 1) hx hb d_Model_step_98 (by decide) ?_
  refine lv_iadd hx hb d_Model_step_99 ?_
  refine lv_iload hx hb d_Model_step_100 (lv_at hl 0 rfl) ?_
  obtain ⟨hg, hf⟩ := sd_gd_e hf
  refine k_iast (μ' := sd_st m9 8 (Int32.toNatClampNeg (a1 + (1 : Int32))) x3) hx hb hK hI 8 0 rfl rfl rfl hg d_Model_step_102 (fun H locs hI => ?_)
  obtain ⟨m10, hI, hf⟩ := k_lm hf hI
  exact k_retv X hI hf d_Model_step_103
set_option maxHeartbeats 4000000 in
set_option maxRecDepth 100000 in
theorem lp_Model_small_r0_L57 (l : Launch) {p : Program} {e : Env} {s : State} {m : MethodId} {args : Array Value} {below : List Frame} {meth : Method} {c : Code} {A : Nat → Prop} {D : va_G} {q tq : Nat → Nat} {cA : ClassId} {ru : sd_Me} (X : sd_Cx p s m args meth c prog_12_method_19_code "ScriptDeskModel" sx_tbl 8 none vwCl D [(cA, .int)] (ZM tq) A) {k134 : Int32 → Int32 → Int32 → sd_Me → Option (sd_Me)} (hk134 : ∀ (v1 : Int32) (v2 : Int32) (v3 : Int32) (μ : sd_Me) (H : Heap) (locs : List Loc) (ls : Array Slot), sd_CI vwCl (wdM q cA) D A s H locs μ → lv_has ls 8 [(0, .ref (q 0)), (1, .int v1), (2, .int v2), (3, .int v3)] → k134 v1 v2 v3 μ = some ru → W p l e ({ frames := 2, cells := 0, slots := 0, locals := 45 }) s m args below meth c H locs 0 0 (sd_QV below vwCl (wdM q cA) D [(cA, .int)] A args s ru) (F0 m 134 ls [])) :
    ∀ (n : Nat) (v1 : Int32) (v2 : Int32) (v3 : Int32) (v4 : Int32) (μ : sd_Me) (H : Heap) (locs : List Loc) (ls : Array Slot), sd_CI vwCl (wdM q cA) D A s H locs μ → lv_has ls 8 [(0, .ref (q 0)), (1, .int v1), (2, .int v2), (3, .int v3), (4, .int v4)] → fn_Model_small_r0_L57 k134 n v1 v2 v3 v4 μ = some ru → W p l e ({ frames := 2, cells := 0, slots := 0, locals := 45 }) s m args below meth c H locs 0 0 (sd_QV below vwCl (wdM q cA) D [(cA, .int)] A args s ru) (F0 m 57 ls []) := by
  obtain ⟨hx, hb, hml, hown, hts, hK, hZ, hA, hr, hlocks⟩ := id X
  intro n
  induction n with
  | zero =>
    intro v1 v2 v3 v4 μ H locs ls hI hl hf
    cases hf
  | succ n ih =>
    intro v1 v2 v3 v4 μ H locs ls hI hl hf
    rw [fn_Model_small_r0_L57] at hf
    refine lv_iload hx hb d_Model_small_57 (lv_at hl 4 rfl) ?_
    refine lv_bipush (v := 16) hx hb d_Model_small_59 (by decide) ?_
    refine lv_icmp_ge (tgt := 134) hx hb d_Model_small_61 (by decide) (fun hc => ?_) (fun hc => ?_)
    · have hf := sd_t hf hc
      exact hk134 (v1) (v2) (v3) μ _ _ _ hI (lv_sub hl [0, 1, 2, 3] rfl) hf
    · have hf := sd_f hf hc
      refine lv_bipush (v := 64) hx hb d_Model_small_64 (by decide) ?_
      refine lv_iload_n hx hb d_Model_small_66 rfl (lv_at hl 3 rfl) ?_
      refine lv_imul hx hb d_Model_small_67 ?_
      refine lv_iconst (v := 4) hx hb d_Model_small_68 (by decide) ?_
      refine lv_iload hx hb d_Model_small_69 (lv_at hl 4 rfl) ?_
      refine lv_imul hx hb d_Model_small_71 ?_
      refine lv_iadd hx hb d_Model_small_72 ?_
      refine k_li hf (fun x8 hf => ?_)
      refine lv_istore (lv' := [(5, .int x8), (0, .ref (q 0)), (1, .int v1), (2, .int v2), (3, .int v3), (4, .int v4)]) hx hb d_Model_small_73 hl (by decide) rfl (fun ls hl => ?_)
      refine lv_aload_n hx hb d_Model_small_75 rfl (lv_at hl 1 rfl) ?_
      refine va_get (D := D) (ci := 7) (v := .ref (q 6)) (C := "ScriptDeskModel") (T := T_Model) (N := 18) hx hb hts iw_Model hown hK hI.1 0 rfl rfl 15 (by decide) (hts _ tw_546) (fun _ h9 => h9) rfl d_Model_small_76 ?_
      refine lv_iload hx hb d_Model_small_79 (lv_at hl 5 rfl) ?_
      refine lv_aload_n hx hb d_Model_small_81 rfl (lv_at hl 1 rfl) ?_
      refine va_get (D := D) (ci := 7) (v := .ref (q 5)) (C := "ScriptDeskModel") (T := T_Model) (N := 18) hx hb hts iw_Model hown hK hI.1 0 rfl rfl 14 (by decide) (hts _ tw_545) (fun _ h9 => h9) rfl d_Model_small_82 ?_
      refine lv_iload hx hb d_Model_small_85 (lv_at hl 0 rfl) ?_
      refine lv_iconst (v := 3) hx hb d_Model_small_87 (by decide) ?_
      refine lv_iadd hx hb d_Model_small_88 ?_
      obtain ⟨hg, hf⟩ := sd_gd_e hf
      refine k_iald hx hb hK hI 5 0 rfl rfl hg d_Model_small_89 ?_
      refine lv_bipush (v := 24) hx hb d_Model_small_90 (by decide) ?_
      refine lv_ishl hx hb d_Model_small_92 ?_
      refine lv_aload_n hx hb d_Model_small_93 rfl (lv_at hl 1 rfl) ?_
      refine va_get (D := D) (ci := 7) (v := .ref (q 5)) (C := "ScriptDeskModel") (T := T_Model) (N := 18) hx hb hts iw_Model hown hK hI.1 0 rfl rfl 14 (by decide) (hts _ tw_545) (fun _ h9 => h9) rfl d_Model_small_94 ?_
      refine lv_iload hx hb d_Model_small_97 (lv_at hl 0 rfl) ?_
      refine lv_iconst (v := 2) hx hb d_Model_small_99 (by decide) ?_
      refine lv_iadd hx hb d_Model_small_100 ?_
      obtain ⟨hg, hf⟩ := sd_gd_e hf
      refine k_iald hx hb hK hI 5 0 rfl rfl hg d_Model_small_101 ?_
      refine lv_bipush (v := 16) hx hb d_Model_small_102 (by decide) ?_
      refine lv_ishl hx hb d_Model_small_104 ?_
      refine lv_ior hx hb d_Model_small_105 ?_
      refine lv_aload_n hx hb d_Model_small_106 rfl (lv_at hl 1 rfl) ?_
      refine va_get (D := D) (ci := 7) (v := .ref (q 5)) (C := "ScriptDeskModel") (T := T_Model) (N := 18) hx hb hts iw_Model hown hK hI.1 0 rfl rfl 14 (by decide) (hts _ tw_545) (fun _ h9 => h9) rfl d_Model_small_107 ?_
      refine lv_iload hx hb d_Model_small_110 (lv_at hl 0 rfl) ?_
      refine lv_iconst (v := 1) hx hb d_Model_small_112 (by decide) ?_
      refine lv_iadd hx hb d_Model_small_113 ?_
      obtain ⟨hg, hf⟩ := sd_gd_e hf
      refine k_iald hx hb hK hI 5 0 rfl rfl hg d_Model_small_114 ?_
      refine lv_bipush (v := 8) hx hb d_Model_small_115 (by decide) ?_
      refine lv_ishl hx hb d_Model_small_117 ?_
      refine lv_ior hx hb d_Model_small_118 ?_
      refine lv_aload_n hx hb d_Model_small_119 rfl (lv_at hl 1 rfl) ?_
      refine va_get (D := D) (ci := 7) (v := .ref (q 5)) (C := "ScriptDeskModel") (T := T_Model) (N := 18) hx hb hts iw_Model hown hK hI.1 0 rfl rfl 14 (by decide) (hts _ tw_545) (fun _ h9 => h9) rfl d_Model_small_120 ?_
      refine lv_iload hx hb d_Model_small_123 (lv_at hl 0 rfl) ?_
      obtain ⟨hg, hf⟩ := sd_gd_e hf
      refine k_iald hx hb hK hI 5 0 rfl rfl hg d_Model_small_125 ?_
      refine lv_ior hx hb d_Model_small_126 ?_
      obtain ⟨hg, hf⟩ := sd_gd_e hf
      refine k_iast (μ' := sd_st μ 6 (Int32.toNatClampNeg v4) (((((μ.1 5 (Int32.toNatClampNeg (x8 + (3 : Int32)))) <<< ((24 : Int32) &&& 31)) ||| ((μ.1 5 (Int32.toNatClampNeg (x8 + (2 : Int32)))) <<< ((16 : Int32) &&& 31))) ||| ((μ.1 5 (Int32.toNatClampNeg (x8 + (1 : Int32)))) <<< ((8 : Int32) &&& 31))) ||| (μ.1 5 (Int32.toNatClampNeg x8)))) hx hb hK hI 6 0 rfl rfl rfl hg d_Model_small_127 (fun H locs hI => ?_)
      obtain ⟨m9, hI, hf⟩ := k_lm hf hI
      refine lv_iinc (v := (v4 + (1 : Int32))) (lv' := [(4, .int (v4 + (1 : Int32))), (5, .int x8), (0, .ref (q 0)), (1, .int v1), (2, .int v2), (3, .int v3)]) hx hb d_Model_small_128 hl (k := 5) rfl rfl (by decide) rfl (fun ls hl => ?_)
      refine lv_goto (tgt := 57) hx hb d_Model_small_131 (by decide) ?_
      exact ih (v1) (v2) (v3) ((v4 + (1 : Int32))) m9 _ _ _ hI (lv_sub hl [2, 3, 4, 5, 0] rfl) hf
set_option maxHeartbeats 4000000 in
set_option maxRecDepth 100000 in
theorem lp_Model_small_r0_L137 (l : Launch) {p : Program} {e : Env} {s : State} {m : MethodId} {args : Array Value} {below : List Frame} {meth : Method} {c : Code} {A : Nat → Prop} {D : va_G} {q tq : Nat → Nat} {cA : ClassId} {ru : sd_Me} (X : sd_Cx p s m args meth c prog_12_method_19_code "ScriptDeskModel" sx_tbl 8 none vwCl D [(cA, .int)] (ZM tq) A) {k166 : Int32 → Int32 → Int32 → sd_Me → Option (sd_Me)} (hk166 : ∀ (v1 : Int32) (v2 : Int32) (v3 : Int32) (μ : sd_Me) (H : Heap) (locs : List Loc) (ls : Array Slot), sd_CI vwCl (wdM q cA) D A s H locs μ → lv_has ls 8 [(0, .ref (q 0)), (1, .int v1), (2, .int v2), (3, .int v3)] → k166 v1 v2 v3 μ = some ru → W p l e ({ frames := 2, cells := 0, slots := 0, locals := 45 }) s m args below meth c H locs 0 0 (sd_QV below vwCl (wdM q cA) D [(cA, .int)] A args s ru) (F0 m 166 ls [])) :
    ∀ (n : Nat) (v1 : Int32) (v2 : Int32) (v3 : Int32) (v4 : Int32) (μ : sd_Me) (H : Heap) (locs : List Loc) (ls : Array Slot), sd_CI vwCl (wdM q cA) D A s H locs μ → lv_has ls 8 [(0, .ref (q 0)), (1, .int v1), (2, .int v2), (3, .int v3), (4, .int v4)] → fn_Model_small_r0_L137 k166 n v1 v2 v3 v4 μ = some ru → W p l e ({ frames := 2, cells := 0, slots := 0, locals := 45 }) s m args below meth c H locs 0 0 (sd_QV below vwCl (wdM q cA) D [(cA, .int)] A args s ru) (F0 m 137 ls []) := by
  obtain ⟨hx, hb, hml, hown, hts, hK, hZ, hA, hr, hlocks⟩ := id X
  intro n
  induction n with
  | zero =>
    intro v1 v2 v3 v4 μ H locs ls hI hl hf
    cases hf
  | succ n ih =>
    intro v1 v2 v3 v4 μ H locs ls hI hl hf
    rw [fn_Model_small_r0_L137] at hf
    refine lv_iload hx hb d_Model_small_137 (lv_at hl 4 rfl) ?_
    refine lv_bipush (v := 10) hx hb d_Model_small_139 (by decide) ?_
    refine lv_icmp_ge (tgt := 166) hx hb d_Model_small_141 (by decide) (fun hc => ?_) (fun hc => ?_)
    · have hf := sd_t hf hc
      exact hk166 (v1) (v2) (v3) μ _ _ _ hI (lv_sub hl [0, 1, 2, 3] rfl) hf
    · have hf := sd_f hf hc
      refine lv_aload_n hx hb d_Model_small_144 rfl (lv_at hl 0 rfl) ?_
      refine va_get (D := D) (ci := 7) (v := .ref (q 8)) (C := "ScriptDeskModel") (T := T_Model) (N := 18) hx hb hts iw_Model hown hK hI.1 0 rfl rfl 17 (by decide) (hts _ tw_548) (fun _ h9 => h9) rfl d_Model_small_145 ?_
      refine lv_iload hx hb d_Model_small_148 (lv_at hl 4 rfl) ?_
      refine lv_aload_n hx hb d_Model_small_150 rfl (lv_at hl 0 rfl) ?_
      refine va_get (D := D) (ci := 7) (v := .ref (q 7)) (C := "ScriptDeskModel") (T := T_Model) (N := 18) hx hb hts iw_Model hown hK hI.1 0 rfl rfl 16 (by decide) (hts _ tw_547) (fun _ h9 => h9) rfl d_Model_small_151 ?_
      refine lv_iload hx hb d_Model_small_154 (lv_at hl 4 rfl) ?_
      refine lv_iconst (v := 5) hx hb d_Model_small_156 (by decide) ?_
      refine lv_irem hx hb d_Model_small_157 (by decide) ?_
      obtain ⟨hg, hf⟩ := sd_gd_e hf
      refine k_iald hx hb hK hI 7 0 rfl rfl hg d_Model_small_158 ?_
      obtain ⟨hg, hf⟩ := sd_gd_e hf
      refine k_iast (μ' := sd_st μ 8 (Int32.toNatClampNeg v4) (μ.1 7 (Int32.toNatClampNeg (v4 - v4 / (5 : Int32) * (5 : Int32))))) hx hb hK hI 8 0 rfl rfl rfl hg d_Model_small_159 (fun H locs hI => ?_)
      obtain ⟨m14, hI, hf⟩ := k_lm hf hI
      refine lv_iinc (v := (v4 + (1 : Int32))) (lv' := [(4, .int (v4 + (1 : Int32))), (0, .ref (q 0)), (1, .int v1), (2, .int v2), (3, .int v3)]) hx hb d_Model_small_160 hl (k := 4) rfl rfl (by decide) rfl (fun ls hl => ?_)
      refine lv_goto (tgt := 137) hx hb d_Model_small_163 (by decide) ?_
      exact ih (v1) (v2) (v3) ((v4 + (1 : Int32))) m14 _ _ _ hI (lv_sub hl [1, 2, 3, 4, 0] rfl) hf
set_option maxHeartbeats 4000000 in
set_option maxRecDepth 100000 in
theorem jn_Model_small_r0_J273 (l : Launch) {p : Program} {e : Env} {s : State} {m : MethodId} {args : Array Value} {below : List Frame} {meth : Method} {c : Code} {A : Nat → Prop} {D : va_G} {q tq : Nat → Nat} {cA : ClassId} {ru : sd_Me} (X : sd_Cx p s m args meth c prog_12_method_19_code "ScriptDeskModel" sx_tbl 8 none vwCl D [(cA, .int)] (ZM tq) A) {rc : Int32 → Int32 → Int32 → Int32 → sd_Me → Option (sd_Me)} (hrc : ∀ (v1 : Int32) (v2 : Int32) (v3 : Int32) (v4 : Int32) (μ : sd_Me) (H : Heap) (locs : List Loc) (ls : Array Slot), sd_CI vwCl (wdM q cA) D A s H locs μ → lv_has ls 8 [(0, .ref (q 0)), (1, .int v1), (2, .int v2), (3, .int v3), (4, .int v4)] → rc v1 v2 v3 v4 μ = some ru → W p l e ({ frames := 2, cells := 0, slots := 0, locals := 45 }) s m args below meth c H locs 0 0 (sd_QV below vwCl (wdM q cA) D [(cA, .int)] A args s ru) (F0 m 169 ls [])) (v1 : Int32) (v2 : Int32) (v3 : Int32) (v4 : Int32) (v5 : Int32) (v6 : Int32) (s0 : Int32) (μ : sd_Me) (H : Heap) (locs : List Loc) (ls : Array Slot) (hI : sd_CI vwCl (wdM q cA) D A s H locs μ) (hl : lv_has ls 8 [(0, .ref (q 0)), (1, .int v1), (2, .int v2), (3, .int v3), (4, .int v4), (5, .int v5), (6, .int v6)]) (hf : fn_Model_small_r0_J273 rc v1 v2 v3 v4 v5 v6 s0 μ = some ru) : W p l e ({ frames := 2, cells := 0, slots := 0, locals := 45 }) s m args below meth c H locs 0 0 (sd_QV below vwCl (wdM q cA) D [(cA, .int)] A args s ru) (F0 m 273 ls [.int s0]) := by
  obtain ⟨hx, hb, hml, hown, hts, hK, hZ, hA, hr, hlocks⟩ := id X
  unfold fn_Model_small_r0_J273 at hf
  refine lv_istore (lv' := [(7, .int s0), (0, .ref (q 0)), (1, .int v1), (2, .int v2), (3, .int v3), (4, .int v4), (5, .int v5), (6, .int v6)]) hx hb d_Model_small_273 hl (by decide) rfl (fun ls hl => ?_)
  refine lv_aload_n hx hb d_Model_small_275 rfl (lv_at hl 1 rfl) ?_
  refine lv_iconst (v := 0) hx hb d_Model_small_276 (by decide) ?_
  refine lv_iload hx hb d_Model_small_277 (lv_at hl 6 rfl) ?_
  refine lv_aload_n hx hb d_Model_small_279 rfl (lv_at hl 1 rfl) ?_
  refine va_get (D := D) (ci := 7) (v := .ref (q 8)) (C := "ScriptDeskModel") (T := T_Model) (N := 18) hx hb hts iw_Model hown hK hI.1 0 rfl rfl 17 (by decide) (hts _ tw_548) (fun _ h9 => h9) rfl d_Model_small_280 ?_
  refine lv_iconst (v := 1) hx hb d_Model_small_283 (by decide) ?_
  obtain ⟨hg, hf⟩ := sd_gd_e hf
  refine k_iald hx hb hK hI 8 0 rfl rfl hg d_Model_small_284 ?_
  refine lv_aload_n hx hb d_Model_small_285 rfl (lv_at hl 1 rfl) ?_
  refine va_get (D := D) (ci := 7) (v := .ref (q 8)) (C := "ScriptDeskModel") (T := T_Model) (N := 18) hx hb hts iw_Model hown hK hI.1 0 rfl rfl 17 (by decide) (hts _ tw_548) (fun _ h9 => h9) rfl d_Model_small_286 ?_
  refine lv_iconst (v := 2) hx hb d_Model_small_289 (by decide) ?_
  obtain ⟨hg, hf⟩ := sd_gd_e hf
  refine k_iald hx hb hK hI 8 0 rfl rfl hg d_Model_small_290 ?_
  refine lv_aload_n hx hb d_Model_small_291 rfl (lv_at hl 1 rfl) ?_
  refine va_get (D := D) (ci := 7) (v := .ref (q 8)) (C := "ScriptDeskModel") (T := T_Model) (N := 18) hx hb hts iw_Model hown hK hI.1 0 rfl rfl 17 (by decide) (hts _ tw_548) (fun _ h9 => h9) rfl d_Model_small_292 ?_
  refine lv_iconst (v := 3) hx hb d_Model_small_295 (by decide) ?_
  obtain ⟨hg, hf⟩ := sd_gd_e hf
  refine k_iald hx hb hK hI 8 0 rfl rfl hg d_Model_small_296 ?_
  obtain ⟨x21, m20, hq, hf⟩ := sd_bi_e hf
  refine k_callS (As := [.int v5, .int (μ.1 8 (Int32.toNatClampNeg (1 : Int32))), .int (μ.1 8 (Int32.toNatClampNeg (2 : Int32))), .int (μ.1 8 (Int32.toNatClampNeg (3 : Int32)))]) (rest := [.int (0 : Int32), .ref (q 0)]) ZM_ok X hI (mt_Model_mixed l hq) (va_cwS 4 hts (gd_S tw_739 tw_740 tw_9 tw_741) rfl rfl rfl (by decide +kernel) ⟨Nat.le_of_ble_eq_true rfl, Nat.le_of_ble_eq_true rfl⟩) rfl hl.1 rfl (Nat.le_of_ble_eq_true rfl) d_Model_small_297 ⟨Nat.zero_le _, Nat.zero_le _⟩ (fun H locs hn_x21 hI => ?_)
  refine lv_aload_n hx hb d_Model_small_300 rfl (lv_at hl 1 rfl) ?_
  refine va_get (D := D) (ci := 7) (v := .ref (q 6)) (C := "ScriptDeskModel") (T := T_Model) (N := 18) hx hb hts iw_Model hown hK hI.1 0 rfl rfl 15 (by decide) (hts _ tw_546) (fun _ h9 => h9) rfl d_Model_small_301 ?_
  refine va_gets hx hb (hZM_Z1 hZ) hI.2.2 hown (hts _ tw_742) (fun _ h9 => h9) d_Model_small_304 ?_
  refine lv_iload hx hb d_Model_small_307 (lv_at hl 5 rfl) ?_
  obtain ⟨hg, hf⟩ := sd_gd_e hf
  refine va_ti (v := .int (tabM1 (Int32.toNatClampNeg v4))) hx hb (hZM_T1 hZ) hI.2.2 (sd_ix_in hg) rfl d_Model_small_309 ?_
  obtain ⟨hg, hf⟩ := sd_gd_e hf
  refine k_iald hx hb hK hI 6 0 rfl rfl hg d_Model_small_310 ?_
  refine lv_iadd hx hb d_Model_small_311 ?_
  refine lv_iload hx hb d_Model_small_312 (lv_at hl 7 rfl) ?_
  refine lv_iadd hx hb d_Model_small_314 ?_
  refine va_gets hx hb (hZM_Z2 hZ) hI.2.2 hown (hts _ tw_744) (fun _ h9 => h9) d_Model_small_315 ?_
  refine lv_iload hx hb d_Model_small_318 (lv_at hl 5 rfl) ?_
  obtain ⟨hg, hf⟩ := sd_gd_e hf
  refine va_ti (v := .int (tabM2 (Int32.toNatClampNeg v4))) hx hb (hZM_T2 hZ) hI.2.2 (sd_ix_in hg) rfl d_Model_small_320 ?_
  obtain ⟨m22, hq, hf⟩ := sd_bv_e hf
  refine k_callVv (As := [.int (0 : Int32), .int ((x21 + (m20.1 6 (Int32.toNatClampNeg (tabM1 (Int32.toNatClampNeg v4))))) + v6), .int (tabM2 (Int32.toNatClampNeg v4))]) (rest := []) (C := "ScriptDeskModel") (ci := 7) ZM_ok X hI (mt_Model_step_r0 l hq) (cwV 3 hts (gd_V tw_746 tw_748 ts_42 tw_9 tw_749) rfl rfl rfl (by decide +kernel) ⟨Nat.le_of_ble_eq_true rfl, Nat.le_of_ble_eq_true rfl⟩) 0 rfl rfl rfl hl.1 rfl (Nat.le_of_ble_eq_true rfl) d_Model_small_321 ⟨Nat.zero_le _, Nat.zero_le _⟩ (fun H locs hI => ?_)
  refine lv_aload_n hx hb d_Model_small_324 rfl (lv_at hl 1 rfl) ?_
  refine lv_iconst (v := 5) hx hb d_Model_small_325 (by decide) ?_
  refine lv_iconst (v := 4) hx hb d_Model_small_326 (by decide) ?_
  refine lv_iload hx hb d_Model_small_327 (lv_at hl 6 rfl) ?_
  refine lv_isub hx hb d_Model_small_329 ?_
  refine lv_aload_n hx hb d_Model_small_330 rfl (lv_at hl 1 rfl) ?_
  refine va_get (D := D) (ci := 7) (v := .ref (q 8)) (C := "ScriptDeskModel") (T := T_Model) (N := 18) hx hb hts iw_Model hown hK hI.1 0 rfl rfl 17 (by decide) (hts _ tw_548) (fun _ h9 => h9) rfl d_Model_small_331 ?_
  refine lv_bipush (v := 6) hx hb d_Model_small_334 (by decide) ?_
  obtain ⟨hg, hf⟩ := sd_gd_e hf
  refine k_iald hx hb hK hI 8 0 rfl rfl hg d_Model_small_336 ?_
  refine lv_aload_n hx hb d_Model_small_337 rfl (lv_at hl 1 rfl) ?_
  refine va_get (D := D) (ci := 7) (v := .ref (q 8)) (C := "ScriptDeskModel") (T := T_Model) (N := 18) hx hb hts iw_Model hown hK hI.1 0 rfl rfl 17 (by decide) (hts _ tw_548) (fun _ h9 => h9) rfl d_Model_small_338 ?_
  refine lv_bipush (v := 7) hx hb d_Model_small_341 (by decide) ?_
  obtain ⟨hg, hf⟩ := sd_gd_e hf
  refine k_iald hx hb hK hI 8 0 rfl rfl hg d_Model_small_343 ?_
  refine lv_aload_n hx hb d_Model_small_344 rfl (lv_at hl 1 rfl) ?_
  refine va_get (D := D) (ci := 7) (v := .ref (q 8)) (C := "ScriptDeskModel") (T := T_Model) (N := 18) hx hb hts iw_Model hown hK hI.1 0 rfl rfl 17 (by decide) (hts _ tw_548) (fun _ h9 => h9) rfl d_Model_small_345 ?_
  refine lv_bipush (v := 8) hx hb d_Model_small_348 (by decide) ?_
  obtain ⟨hg, hf⟩ := sd_gd_e hf
  refine k_iald hx hb hK hI 8 0 rfl rfl hg d_Model_small_350 ?_
  obtain ⟨x24, m23, hq, hf⟩ := sd_bi_e hf
  refine k_callS (As := [.int ((4 : Int32) - v5), .int (m22.1 8 (Int32.toNatClampNeg (6 : Int32))), .int (m22.1 8 (Int32.toNatClampNeg (7 : Int32))), .int (m22.1 8 (Int32.toNatClampNeg (8 : Int32)))]) (rest := [.int (5 : Int32), .ref (q 0)]) ZM_ok X hI (mt_Model_mixed l hq) (va_cwS 4 hts (gd_S tw_739 tw_740 tw_9 tw_741) rfl rfl rfl (by decide +kernel) ⟨Nat.le_of_ble_eq_true rfl, Nat.le_of_ble_eq_true rfl⟩) rfl hl.1 rfl (Nat.le_of_ble_eq_true rfl) d_Model_small_351 ⟨Nat.zero_le _, Nat.zero_le _⟩ (fun H locs hn_x24 hI => ?_)
  refine lv_aload_n hx hb d_Model_small_354 rfl (lv_at hl 1 rfl) ?_
  refine va_get (D := D) (ci := 7) (v := .ref (q 6)) (C := "ScriptDeskModel") (T := T_Model) (N := 18) hx hb hts iw_Model hown hK hI.1 0 rfl rfl 15 (by decide) (hts _ tw_546) (fun _ h9 => h9) rfl d_Model_small_355 ?_
  refine va_gets hx hb (hZM_Z3 hZ) hI.2.2 hown (hts _ tw_750) (fun _ h9 => h9) d_Model_small_358 ?_
  refine lv_iload hx hb d_Model_small_361 (lv_at hl 5 rfl) ?_
  obtain ⟨hg, hf⟩ := sd_gd_e hf
  refine va_ti (v := .int (tabM3 (Int32.toNatClampNeg v4))) hx hb (hZM_T3 hZ) hI.2.2 (sd_ix_in hg) rfl d_Model_small_363 ?_
  obtain ⟨hg, hf⟩ := sd_gd_e hf
  refine k_iald hx hb hK hI 6 0 rfl rfl hg d_Model_small_364 ?_
  refine lv_iadd hx hb d_Model_small_365 ?_
  refine lv_iload hx hb d_Model_small_366 (lv_at hl 0 rfl) ?_
  refine lv_iadd hx hb d_Model_small_368 ?_
  refine va_gets hx hb (hZM_Z4 hZ) hI.2.2 hown (hts _ tw_752) (fun _ h9 => h9) d_Model_small_369 ?_
  refine lv_iload hx hb d_Model_small_372 (lv_at hl 5 rfl) ?_
  obtain ⟨hg, hf⟩ := sd_gd_e hf
  refine va_ti (v := .int (tabM4 (Int32.toNatClampNeg v4))) hx hb (hZM_T4 hZ) hI.2.2 (sd_ix_in hg) rfl d_Model_small_374 ?_
  obtain ⟨m25, hq, hf⟩ := sd_bv_e hf
  refine k_callVv (As := [.int (5 : Int32), .int ((x24 + (m23.1 6 (Int32.toNatClampNeg (tabM3 (Int32.toNatClampNeg v4))))) + s0), .int (tabM4 (Int32.toNatClampNeg v4))]) (rest := []) (C := "ScriptDeskModel") (ci := 7) ZM_ok X hI (mt_Model_step_r0 l hq) (cwV 3 hts (gd_V tw_746 tw_748 ts_42 tw_9 tw_749) rfl rfl rfl (by decide +kernel) ⟨Nat.le_of_ble_eq_true rfl, Nat.le_of_ble_eq_true rfl⟩) 0 rfl rfl rfl hl.1 rfl (Nat.le_of_ble_eq_true rfl) d_Model_small_375 ⟨Nat.zero_le _, Nat.zero_le _⟩ (fun H locs hI => ?_)
  refine lv_iinc (v := (v4 + (1 : Int32))) (lv' := [(4, .int (v4 + (1 : Int32))), (7, .int s0), (0, .ref (q 0)), (1, .int v1), (2, .int v2), (3, .int v3), (5, .int v5), (6, .int v6)]) hx hb d_Model_small_378 hl (k := 5) rfl rfl (by decide) rfl (fun ls hl => ?_)
  refine lv_goto (tgt := 169) hx hb d_Model_small_381 (by decide) ?_
  exact hrc (v1) (v2) (v3) ((v4 + (1 : Int32))) m25 _ _ _ hI (lv_sub hl [2, 3, 4, 5, 0] rfl) hf
set_option maxHeartbeats 4000000 in
set_option maxRecDepth 100000 in
theorem jn_Model_small_r0_J227 (l : Launch) {p : Program} {e : Env} {s : State} {m : MethodId} {args : Array Value} {below : List Frame} {meth : Method} {c : Code} {A : Nat → Prop} {D : va_G} {q tq : Nat → Nat} {cA : ClassId} {ru : sd_Me} (X : sd_Cx p s m args meth c prog_12_method_19_code "ScriptDeskModel" sx_tbl 8 none vwCl D [(cA, .int)] (ZM tq) A) {rc : Int32 → Int32 → Int32 → Int32 → sd_Me → Option (sd_Me)} (hrc : ∀ (v1 : Int32) (v2 : Int32) (v3 : Int32) (v4 : Int32) (μ : sd_Me) (H : Heap) (locs : List Loc) (ls : Array Slot), sd_CI vwCl (wdM q cA) D A s H locs μ → lv_has ls 8 [(0, .ref (q 0)), (1, .int v1), (2, .int v2), (3, .int v3), (4, .int v4)] → rc v1 v2 v3 v4 μ = some ru → W p l e ({ frames := 2, cells := 0, slots := 0, locals := 45 }) s m args below meth c H locs 0 0 (sd_QV below vwCl (wdM q cA) D [(cA, .int)] A args s ru) (F0 m 169 ls [])) (v1 : Int32) (v2 : Int32) (v3 : Int32) (v4 : Int32) (v5 : Int32) (s0 : Int32) (μ : sd_Me) (H : Heap) (locs : List Loc) (ls : Array Slot) (hI : sd_CI vwCl (wdM q cA) D A s H locs μ) (hl : lv_has ls 8 [(0, .ref (q 0)), (1, .int v1), (2, .int v2), (3, .int v3), (4, .int v4), (5, .int v5)]) (hf : fn_Model_small_r0_J227 rc v1 v2 v3 v4 v5 s0 μ = some ru) : W p l e ({ frames := 2, cells := 0, slots := 0, locals := 45 }) s m args below meth c H locs 0 0 (sd_QV below vwCl (wdM q cA) D [(cA, .int)] A args s ru) (F0 m 227 ls [.int s0]) := by
  obtain ⟨hx, hb, hml, hown, hts, hK, hZ, hA, hr, hlocks⟩ := id X
  unfold fn_Model_small_r0_J227 at hf
  refine lv_istore (lv' := [(6, .int s0), (0, .ref (q 0)), (1, .int v1), (2, .int v2), (3, .int v3), (4, .int v4), (5, .int v5)]) hx hb d_Model_small_227 hl (by decide) rfl (fun ls hl => ?_)
  refine lv_iload hx hb d_Model_small_229 (lv_at hl 6 rfl) ?_
  refine lv_if_ne (tgt := 239) hx hb d_Model_small_231 (by decide) (fun hc => ?_) (fun hc => ?_)
  · have hf := sd_f hf hc
    refine lv_iload hx hb d_Model_small_239 (lv_at hl 6 rfl) ?_
    refine lv_iconst (v := 1) hx hb d_Model_small_241 (by decide) ?_
    refine lv_icmp_ne (tgt := 250) hx hb d_Model_small_242 (by decide) (fun hc => ?_) (fun hc => ?_)
    · have hf := sd_f hf hc
      refine lv_iload hx hb d_Model_small_250 (lv_at hl 6 rfl) ?_
      refine lv_iconst (v := 2) hx hb d_Model_small_252 (by decide) ?_
      refine lv_icmp_ne (tgt := 261) hx hb d_Model_small_253 (by decide) (fun hc => ?_) (fun hc => ?_)
      · have hf := sd_f hf hc
        refine lv_iload hx hb d_Model_small_261 (lv_at hl 6 rfl) ?_
        refine lv_iconst (v := 3) hx hb d_Model_small_263 (by decide) ?_
        refine lv_icmp_ne (tgt := 272) hx hb d_Model_small_264 (by decide) (fun hc => ?_) (fun hc => ?_)
        · have hf := sd_f hf hc
          refine lv_iconst (v := 0) hx hb d_Model_small_272 (by decide) ?_
          exact jn_Model_small_r0_J273 l X hrc (v1) (v2) (v3) (v4) (v5) (s0) ((0 : Int32)) μ _ _ _ hI (lv_sub hl [1, 2, 3, 4, 5, 6, 0] rfl) hf
        · have hf := sd_t hf hc
          refine lv_ldc (v := 2053994217) hx hb hown (hts _ tw_738) d_Model_small_267 ?_
          refine lv_goto (tgt := 273) hx hb d_Model_small_269 (by decide) ?_
          exact jn_Model_small_r0_J273 l X hrc (v1) (v2) (v3) (v4) (v5) (s0) ((2053994217 : Int32)) μ _ _ _ hI (lv_sub hl [1, 2, 3, 4, 5, 6, 0] rfl) hf
      · have hf := sd_t hf hc
        refine lv_ldc (v := 1836072691) hx hb hown (hts _ tw_737) d_Model_small_256 ?_
        refine lv_goto (tgt := 273) hx hb d_Model_small_258 (by decide) ?_
        exact jn_Model_small_r0_J273 l X hrc (v1) (v2) (v3) (v4) (v5) (s0) ((1836072691 : Int32)) μ _ _ _ hI (lv_sub hl [1, 2, 3, 4, 5, 6, 0] rfl) hf
    · have hf := sd_t hf hc
      refine lv_ldc (v := 1548603684) hx hb hown (hts _ tw_736) d_Model_small_245 ?_
      refine lv_goto (tgt := 273) hx hb d_Model_small_247 (by decide) ?_
      exact jn_Model_small_r0_J273 l X hrc (v1) (v2) (v3) (v4) (v5) (s0) ((1548603684 : Int32)) μ _ _ _ hI (lv_sub hl [1, 2, 3, 4, 5, 6, 0] rfl) hf
  · have hf := sd_t hf hc
    refine lv_ldc (v := 1352829926) hx hb hown (hts _ tw_735) d_Model_small_234 ?_
    refine lv_goto (tgt := 273) hx hb d_Model_small_236 (by decide) ?_
    exact jn_Model_small_r0_J273 l X hrc (v1) (v2) (v3) (v4) (v5) (s0) ((1352829926 : Int32)) μ _ _ _ hI (lv_sub hl [1, 2, 3, 4, 5, 6, 0] rfl) hf
set_option maxHeartbeats 4000000 in
set_option maxRecDepth 100000 in
theorem lp_Model_small_r0_L169 (l : Launch) {p : Program} {e : Env} {s : State} {m : MethodId} {args : Array Value} {below : List Frame} {meth : Method} {c : Code} {A : Nat → Prop} {D : va_G} {q tq : Nat → Nat} {cA : ClassId} {ru : sd_Me} (X : sd_Cx p s m args meth c prog_12_method_19_code "ScriptDeskModel" sx_tbl 8 none vwCl D [(cA, .int)] (ZM tq) A) {k384 : Int32 → Int32 → Int32 → sd_Me → Option (sd_Me)} (hk384 : ∀ (v1 : Int32) (v2 : Int32) (v3 : Int32) (μ : sd_Me) (H : Heap) (locs : List Loc) (ls : Array Slot), sd_CI vwCl (wdM q cA) D A s H locs μ → lv_has ls 8 [(0, .ref (q 0)), (1, .int v1), (2, .int v2), (3, .int v3)] → k384 v1 v2 v3 μ = some ru → W p l e ({ frames := 2, cells := 0, slots := 0, locals := 45 }) s m args below meth c H locs 0 0 (sd_QV below vwCl (wdM q cA) D [(cA, .int)] A args s ru) (F0 m 384 ls [])) :
    ∀ (n : Nat) (v1 : Int32) (v2 : Int32) (v3 : Int32) (v4 : Int32) (μ : sd_Me) (H : Heap) (locs : List Loc) (ls : Array Slot), sd_CI vwCl (wdM q cA) D A s H locs μ → lv_has ls 8 [(0, .ref (q 0)), (1, .int v1), (2, .int v2), (3, .int v3), (4, .int v4)] → fn_Model_small_r0_L169 k384 n v1 v2 v3 v4 μ = some ru → W p l e ({ frames := 2, cells := 0, slots := 0, locals := 45 }) s m args below meth c H locs 0 0 (sd_QV below vwCl (wdM q cA) D [(cA, .int)] A args s ru) (F0 m 169 ls []) := by
  obtain ⟨hx, hb, hml, hown, hts, hK, hZ, hA, hr, hlocks⟩ := id X
  intro n
  induction n with
  | zero =>
    intro v1 v2 v3 v4 μ H locs ls hI hl hf
    cases hf
  | succ n ih =>
    intro v1 v2 v3 v4 μ H locs ls hI hl hf
    rw [fn_Model_small_r0_L169] at hf
    refine lv_iload hx hb d_Model_small_169 (lv_at hl 4 rfl) ?_
    refine lv_bipush (v := 80) hx hb d_Model_small_171 (by decide) ?_
    refine lv_icmp_ge (tgt := 384) hx hb d_Model_small_173 (by decide) (fun hc => ?_) (fun hc => ?_)
    · have hf := sd_t hf hc
      exact hk384 (v1) (v2) (v3) μ _ _ _ hI (lv_sub hl [0, 1, 2, 3] rfl) hf
    · have hf := sd_f hf hc
      refine lv_iload hx hb d_Model_small_176 (lv_at hl 4 rfl) ?_
      refine lv_bipush (v := 16) hx hb d_Model_small_178 (by decide) ?_
      refine lv_idiv hx hb d_Model_small_180 (by decide) ?_
      refine k_li hf (fun x19 hf => ?_)
      refine lv_istore (lv' := [(5, .int x19), (0, .ref (q 0)), (1, .int v1), (2, .int v2), (3, .int v3), (4, .int v4)]) hx hb d_Model_small_181 hl (by decide) rfl (fun ls hl => ?_)
      refine lv_iload hx hb d_Model_small_183 (lv_at hl 0 rfl) ?_
      refine lv_if_ne (tgt := 192) hx hb d_Model_small_185 (by decide) (fun hc => ?_) (fun hc => ?_)
      · have hf := sd_f hf hc
        refine lv_iload hx hb d_Model_small_192 (lv_at hl 0 rfl) ?_
        refine lv_iconst (v := 1) hx hb d_Model_small_194 (by decide) ?_
        refine lv_icmp_ne (tgt := 203) hx hb d_Model_small_195 (by decide) (fun hc => ?_) (fun hc => ?_)
        · have hf := sd_f hf hc
          refine lv_iload hx hb d_Model_small_203 (lv_at hl 0 rfl) ?_
          refine lv_iconst (v := 2) hx hb d_Model_small_205 (by decide) ?_
          refine lv_icmp_ne (tgt := 214) hx hb d_Model_small_206 (by decide) (fun hc => ?_) (fun hc => ?_)
          · have hf := sd_f hf hc
            refine lv_iload hx hb d_Model_small_214 (lv_at hl 0 rfl) ?_
            refine lv_iconst (v := 3) hx hb d_Model_small_216 (by decide) ?_
            refine lv_icmp_ne (tgt := 225) hx hb d_Model_small_217 (by decide) (fun hc => ?_) (fun hc => ?_)
            · have hf := sd_f hf hc
              refine lv_ldc (v := -1454113458) hx hb hown (hts _ tw_734) d_Model_small_225 ?_
              exact jn_Model_small_r0_J227 l X ih (v1) (v2) (v3) (v4) (x19) ((-1454113458 : Int32)) μ _ _ _ hI (lv_sub hl [1, 2, 3, 4, 5, 0] rfl) hf
            · have hf := sd_t hf hc
              refine lv_ldc (v := -1894007588) hx hb hown (hts _ tw_733) d_Model_small_220 ?_
              refine lv_goto (tgt := 227) hx hb d_Model_small_222 (by decide) ?_
              exact jn_Model_small_r0_J227 l X ih (v1) (v2) (v3) (v4) (x19) ((-1894007588 : Int32)) μ _ _ _ hI (lv_sub hl [1, 2, 3, 4, 5, 0] rfl) hf
          · have hf := sd_t hf hc
            refine lv_ldc (v := 1859775393) hx hb hown (hts _ tw_732) d_Model_small_209 ?_
            refine lv_goto (tgt := 227) hx hb d_Model_small_211 (by decide) ?_
            exact jn_Model_small_r0_J227 l X ih (v1) (v2) (v3) (v4) (x19) ((1859775393 : Int32)) μ _ _ _ hI (lv_sub hl [1, 2, 3, 4, 5, 0] rfl) hf
        · have hf := sd_t hf hc
          refine lv_ldc (v := 1518500249) hx hb hown (hts _ tw_731) d_Model_small_198 ?_
          refine lv_goto (tgt := 227) hx hb d_Model_small_200 (by decide) ?_
          exact jn_Model_small_r0_J227 l X ih (v1) (v2) (v3) (v4) (x19) ((1518500249 : Int32)) μ _ _ _ hI (lv_sub hl [1, 2, 3, 4, 5, 0] rfl) hf
      · have hf := sd_t hf hc
        refine lv_iconst (v := 0) hx hb d_Model_small_188 (by decide) ?_
        refine lv_goto (tgt := 227) hx hb d_Model_small_189 (by decide) ?_
        exact jn_Model_small_r0_J227 l X ih (v1) (v2) (v3) (v4) (x19) ((0 : Int32)) μ _ _ _ hI (lv_sub hl [1, 2, 3, 4, 5, 0] rfl) hf
set_option maxHeartbeats 4000000 in
set_option maxRecDepth 100000 in
theorem lp_Model_small_r0_L49 (l : Launch) {p : Program} {e : Env} {s : State} {m : MethodId} {args : Array Value} {below : List Frame} {meth : Method} {c : Code} {A : Nat → Prop} {D : va_G} {q tq : Nat → Nat} {cA : ClassId} {ru : sd_Me} (X : sd_Cx p s m args meth c prog_12_method_19_code "ScriptDeskModel" sx_tbl 8 none vwCl D [(cA, .int)] (ZM tq) A) {k528 : Int32 → sd_Me → Option (sd_Me)} (hk528 : ∀ (v1 : Int32) (μ : sd_Me) (H : Heap) (locs : List Loc) (ls : Array Slot), sd_CI vwCl (wdM q cA) D A s H locs μ → lv_has ls 8 [(0, .ref (q 0)), (1, .int v1)] → k528 v1 μ = some ru → W p l e ({ frames := 2, cells := 0, slots := 0, locals := 45 }) s m args below meth c H locs 0 0 (sd_QV below vwCl (wdM q cA) D [(cA, .int)] A args s ru) (F0 m 528 ls [])) :
    ∀ (n : Nat) (v1 : Int32) (v2 : Int32) (v3 : Int32) (μ : sd_Me) (H : Heap) (locs : List Loc) (ls : Array Slot), sd_CI vwCl (wdM q cA) D A s H locs μ → lv_has ls 8 [(0, .ref (q 0)), (1, .int v1), (2, .int v2), (3, .int v3)] → fn_Model_small_r0_L49 k528 n v1 v2 v3 μ = some ru → W p l e ({ frames := 2, cells := 0, slots := 0, locals := 45 }) s m args below meth c H locs 0 0 (sd_QV below vwCl (wdM q cA) D [(cA, .int)] A args s ru) (F0 m 49 ls []) := by
  obtain ⟨hx, hb, hml, hown, hts, hK, hZ, hA, hr, hlocks⟩ := id X
  intro n
  induction n with
  | zero =>
    intro v1 v2 v3 μ H locs ls hI hl hf
    cases hf
  | succ n ih =>
    intro v1 v2 v3 μ H locs ls hI hl hf
    rw [fn_Model_small_r0_L49] at hf
    refine lv_iload_n hx hb d_Model_small_49 rfl (lv_at hl 3 rfl) ?_
    refine lv_iload_n hx hb d_Model_small_50 rfl (lv_at hl 2 rfl) ?_
    refine lv_icmp_ge (tgt := 528) hx hb d_Model_small_51 (by decide) (fun hc => ?_) (fun hc => ?_)
    · have hf := sd_t hf hc
      exact hk528 (v1) μ _ _ _ hI (lv_sub hl [0, 1] rfl) hf
    · have hf := sd_f hf hc
      refine lv_iconst (v := 0) hx hb d_Model_small_54 (by decide) ?_
      refine lv_istore (lv' := [(4, .int (0 : Int32)), (0, .ref (q 0)), (1, .int v1), (2, .int v2), (3, .int v3)]) hx hb d_Model_small_55 hl (by decide) rfl (fun ls hl => ?_)
      refine lp_Model_small_r0_L57 l X ?_ 10000 (v1) (v2) (v3) ((0 : Int32)) μ _ _ _ hI (lv_sub hl [1, 2, 3, 4, 0] rfl) hf
      · intro x10 x11 x12 m13 H locs ls hI hl hf
        refine lv_iconst (v := 0) hx hb d_Model_small_134 (by decide) ?_
        refine lv_istore (lv' := [(4, .int (0 : Int32)), (0, .ref (q 0)), (1, .int x10), (2, .int x11), (3, .int x12)]) hx hb d_Model_small_135 hl (by decide) rfl (fun ls hl => ?_)
        refine lp_Model_small_r0_L137 l X ?_ 10000 (x10) (x11) (x12) ((0 : Int32)) m13 _ _ _ hI (lv_sub hl [1, 2, 3, 4, 0] rfl) hf
        · intro x15 x16 x17 m18 H locs ls hI hl hf
          refine lv_iconst (v := 0) hx hb d_Model_small_166 (by decide) ?_
          refine lv_istore (lv' := [(4, .int (0 : Int32)), (0, .ref (q 0)), (1, .int x15), (2, .int x16), (3, .int x17)]) hx hb d_Model_small_167 hl (by decide) rfl (fun ls hl => ?_)
          refine lp_Model_small_r0_L169 l X ?_ 10000 (x15) (x16) (x17) ((0 : Int32)) m18 _ _ _ hI (lv_sub hl [1, 2, 3, 4, 0] rfl) hf
          · intro x26 x27 x28 m29 H locs ls hI hl hf
            refine lv_aload_n hx hb d_Model_small_384 rfl (lv_at hl 0 rfl) ?_
            refine va_get (D := D) (ci := 7) (v := .ref (q 7)) (C := "ScriptDeskModel") (T := T_Model) (N := 18) hx hb hts iw_Model hown hK hI.1 0 rfl rfl 16 (by decide) (hts _ tw_547) (fun _ h9 => h9) rfl d_Model_small_385 ?_
            refine lv_iconst (v := 1) hx hb d_Model_small_388 (by decide) ?_
            obtain ⟨hg, hf⟩ := sd_gd_e hf
            refine k_iald hx hb hK hI 7 0 rfl rfl hg d_Model_small_389 ?_
            refine lv_aload_n hx hb d_Model_small_390 rfl (lv_at hl 0 rfl) ?_
            refine va_get (D := D) (ci := 7) (v := .ref (q 8)) (C := "ScriptDeskModel") (T := T_Model) (N := 18) hx hb hts iw_Model hown hK hI.1 0 rfl rfl 17 (by decide) (hts _ tw_548) (fun _ h9 => h9) rfl d_Model_small_391 ?_
            refine lv_iconst (v := 2) hx hb d_Model_small_394 (by decide) ?_
            obtain ⟨hg, hf⟩ := sd_gd_e hf
            refine k_iald hx hb hK hI 8 0 rfl rfl hg d_Model_small_395 ?_
            refine lv_iadd hx hb d_Model_small_396 ?_
            refine lv_aload_n hx hb d_Model_small_397 rfl (lv_at hl 0 rfl) ?_
            refine va_get (D := D) (ci := 7) (v := .ref (q 8)) (C := "ScriptDeskModel") (T := T_Model) (N := 18) hx hb hts iw_Model hown hK hI.1 0 rfl rfl 17 (by decide) (hts _ tw_548) (fun _ h9 => h9) rfl d_Model_small_398 ?_
            refine lv_bipush (v := 8) hx hb d_Model_small_401 (by decide) ?_
            obtain ⟨hg, hf⟩ := sd_gd_e hf
            refine k_iald hx hb hK hI 8 0 rfl rfl hg d_Model_small_403 ?_
            refine lv_iadd hx hb d_Model_small_404 ?_
            refine k_li hf (fun x30 hf => ?_)
            refine lv_istore (lv' := [(4, .int x30), (0, .ref (q 0)), (1, .int x26), (2, .int x27), (3, .int x28)]) hx hb d_Model_small_405 hl (by decide) rfl (fun ls hl => ?_)
            refine lv_aload_n hx hb d_Model_small_407 rfl (lv_at hl 1 rfl) ?_
            refine va_get (D := D) (ci := 7) (v := .ref (q 7)) (C := "ScriptDeskModel") (T := T_Model) (N := 18) hx hb hts iw_Model hown hK hI.1 0 rfl rfl 16 (by decide) (hts _ tw_547) (fun _ h9 => h9) rfl d_Model_small_408 ?_
            refine lv_iconst (v := 1) hx hb d_Model_small_411 (by decide) ?_
            refine lv_aload_n hx hb d_Model_small_412 rfl (lv_at hl 1 rfl) ?_
            refine va_get (D := D) (ci := 7) (v := .ref (q 7)) (C := "ScriptDeskModel") (T := T_Model) (N := 18) hx hb hts iw_Model hown hK hI.1 0 rfl rfl 16 (by decide) (hts _ tw_547) (fun _ h9 => h9) rfl d_Model_small_413 ?_
            refine lv_iconst (v := 2) hx hb d_Model_small_416 (by decide) ?_
            obtain ⟨hg, hf⟩ := sd_gd_e hf
            refine k_iald hx hb hK hI 7 0 rfl rfl hg d_Model_small_417 ?_
            refine lv_aload_n hx hb d_Model_small_418 rfl (lv_at hl 1 rfl) ?_
            refine va_get (D := D) (ci := 7) (v := .ref (q 8)) (C := "ScriptDeskModel") (T := T_Model) (N := 18) hx hb hts iw_Model hown hK hI.1 0 rfl rfl 17 (by decide) (hts _ tw_548) (fun _ h9 => h9) rfl d_Model_small_419 ?_
            refine lv_iconst (v := 3) hx hb d_Model_small_422 (by decide) ?_
            obtain ⟨hg, hf⟩ := sd_gd_e hf
            refine k_iald hx hb hK hI 8 0 rfl rfl hg d_Model_small_423 ?_
            refine lv_iadd hx hb d_Model_small_424 ?_
            refine lv_aload_n hx hb d_Model_small_425 rfl (lv_at hl 1 rfl) ?_
            refine va_get (D := D) (ci := 7) (v := .ref (q 8)) (C := "ScriptDeskModel") (T := T_Model) (N := 18) hx hb hts iw_Model hown hK hI.1 0 rfl rfl 17 (by decide) (hts _ tw_548) (fun _ h9 => h9) rfl d_Model_small_426 ?_
            refine lv_bipush (v := 9) hx hb d_Model_small_429 (by decide) ?_
            obtain ⟨hg, hf⟩ := sd_gd_e hf
            refine k_iald hx hb hK hI 8 0 rfl rfl hg d_Model_small_431 ?_
            refine lv_iadd hx hb d_Model_small_432 ?_
            obtain ⟨hg, hf⟩ := sd_gd_e hf
            refine k_iast (μ' := sd_st m29 7 (Int32.toNatClampNeg (1 : Int32)) (((m29.1 7 (Int32.toNatClampNeg (2 : Int32))) + (m29.1 8 (Int32.toNatClampNeg (3 : Int32)))) + (m29.1 8 (Int32.toNatClampNeg (9 : Int32))))) hx hb hK hI 7 0 rfl rfl rfl hg d_Model_small_433 (fun H locs hI => ?_)
            obtain ⟨m31, hI, hf⟩ := k_lm hf hI
            refine lv_aload_n hx hb d_Model_small_434 rfl (lv_at hl 1 rfl) ?_
            refine va_get (D := D) (ci := 7) (v := .ref (q 7)) (C := "ScriptDeskModel") (T := T_Model) (N := 18) hx hb hts iw_Model hown hK hI.1 0 rfl rfl 16 (by decide) (hts _ tw_547) (fun _ h9 => h9) rfl d_Model_small_435 ?_
            refine lv_iconst (v := 2) hx hb d_Model_small_438 (by decide) ?_
            refine lv_aload_n hx hb d_Model_small_439 rfl (lv_at hl 1 rfl) ?_
            refine va_get (D := D) (ci := 7) (v := .ref (q 7)) (C := "ScriptDeskModel") (T := T_Model) (N := 18) hx hb hts iw_Model hown hK hI.1 0 rfl rfl 16 (by decide) (hts _ tw_547) (fun _ h9 => h9) rfl d_Model_small_440 ?_
            refine lv_iconst (v := 3) hx hb d_Model_small_443 (by decide) ?_
            obtain ⟨hg, hf⟩ := sd_gd_e hf
            refine k_iald hx hb hK hI 7 0 rfl rfl hg d_Model_small_444 ?_
            refine lv_aload_n hx hb d_Model_small_445 rfl (lv_at hl 1 rfl) ?_
            refine va_get (D := D) (ci := 7) (v := .ref (q 8)) (C := "ScriptDeskModel") (T := T_Model) (N := 18) hx hb hts iw_Model hown hK hI.1 0 rfl rfl 17 (by decide) (hts _ tw_548) (fun _ h9 => h9) rfl d_Model_small_446 ?_
            refine lv_iconst (v := 4) hx hb d_Model_small_449 (by decide) ?_
            obtain ⟨hg, hf⟩ := sd_gd_e hf
            refine k_iald hx hb hK hI 8 0 rfl rfl hg d_Model_small_450 ?_
            refine lv_iadd hx hb d_Model_small_451 ?_
            refine lv_aload_n hx hb d_Model_small_452 rfl (lv_at hl 1 rfl) ?_
            refine va_get (D := D) (ci := 7) (v := .ref (q 8)) (C := "ScriptDeskModel") (T := T_Model) (N := 18) hx hb hts iw_Model hown hK hI.1 0 rfl rfl 17 (by decide) (hts _ tw_548) (fun _ h9 => h9) rfl d_Model_small_453 ?_
            refine lv_iconst (v := 5) hx hb d_Model_small_456 (by decide) ?_
            obtain ⟨hg, hf⟩ := sd_gd_e hf
            refine k_iald hx hb hK hI 8 0 rfl rfl hg d_Model_small_457 ?_
            refine lv_iadd hx hb d_Model_small_458 ?_
            obtain ⟨hg, hf⟩ := sd_gd_e hf
            refine k_iast (μ' := sd_st m31 7 (Int32.toNatClampNeg (2 : Int32)) (((m31.1 7 (Int32.toNatClampNeg (3 : Int32))) + (m31.1 8 (Int32.toNatClampNeg (4 : Int32)))) + (m31.1 8 (Int32.toNatClampNeg (5 : Int32))))) hx hb hK hI 7 0 rfl rfl rfl hg d_Model_small_459 (fun H locs hI => ?_)
            obtain ⟨m32, hI, hf⟩ := k_lm hf hI
            refine lv_aload_n hx hb d_Model_small_460 rfl (lv_at hl 1 rfl) ?_
            refine va_get (D := D) (ci := 7) (v := .ref (q 7)) (C := "ScriptDeskModel") (T := T_Model) (N := 18) hx hb hts iw_Model hown hK hI.1 0 rfl rfl 16 (by decide) (hts _ tw_547) (fun _ h9 => h9) rfl d_Model_small_461 ?_
            refine lv_iconst (v := 3) hx hb d_Model_small_464 (by decide) ?_
            refine lv_aload_n hx hb d_Model_small_465 rfl (lv_at hl 1 rfl) ?_
            refine va_get (D := D) (ci := 7) (v := .ref (q 7)) (C := "ScriptDeskModel") (T := T_Model) (N := 18) hx hb hts iw_Model hown hK hI.1 0 rfl rfl 16 (by decide) (hts _ tw_547) (fun _ h9 => h9) rfl d_Model_small_466 ?_
            refine lv_iconst (v := 4) hx hb d_Model_small_469 (by decide) ?_
            obtain ⟨hg, hf⟩ := sd_gd_e hf
            refine k_iald hx hb hK hI 7 0 rfl rfl hg d_Model_small_470 ?_
            refine lv_aload_n hx hb d_Model_small_471 rfl (lv_at hl 1 rfl) ?_
            refine va_get (D := D) (ci := 7) (v := .ref (q 8)) (C := "ScriptDeskModel") (T := T_Model) (N := 18) hx hb hts iw_Model hown hK hI.1 0 rfl rfl 17 (by decide) (hts _ tw_548) (fun _ h9 => h9) rfl d_Model_small_472 ?_
            refine lv_iconst (v := 0) hx hb d_Model_small_475 (by decide) ?_
            obtain ⟨hg, hf⟩ := sd_gd_e hf
            refine k_iald hx hb hK hI 8 0 rfl rfl hg d_Model_small_476 ?_
            refine lv_iadd hx hb d_Model_small_477 ?_
            refine lv_aload_n hx hb d_Model_small_478 rfl (lv_at hl 1 rfl) ?_
            refine va_get (D := D) (ci := 7) (v := .ref (q 8)) (C := "ScriptDeskModel") (T := T_Model) (N := 18) hx hb hts iw_Model hown hK hI.1 0 rfl rfl 17 (by decide) (hts _ tw_548) (fun _ h9 => h9) rfl d_Model_small_479 ?_
            refine lv_bipush (v := 6) hx hb d_Model_small_482 (by decide) ?_
            obtain ⟨hg, hf⟩ := sd_gd_e hf
            refine k_iald hx hb hK hI 8 0 rfl rfl hg d_Model_small_484 ?_
            refine lv_iadd hx hb d_Model_small_485 ?_
            obtain ⟨hg, hf⟩ := sd_gd_e hf
            refine k_iast (μ' := sd_st m32 7 (Int32.toNatClampNeg (3 : Int32)) (((m32.1 7 (Int32.toNatClampNeg (4 : Int32))) + (m32.1 8 (Int32.toNatClampNeg (0 : Int32)))) + (m32.1 8 (Int32.toNatClampNeg (6 : Int32))))) hx hb hK hI 7 0 rfl rfl rfl hg d_Model_small_486 (fun H locs hI => ?_)
            obtain ⟨m33, hI, hf⟩ := k_lm hf hI
            refine lv_aload_n hx hb d_Model_small_487 rfl (lv_at hl 1 rfl) ?_
            refine va_get (D := D) (ci := 7) (v := .ref (q 7)) (C := "ScriptDeskModel") (T := T_Model) (N := 18) hx hb hts iw_Model hown hK hI.1 0 rfl rfl 16 (by decide) (hts _ tw_547) (fun _ h9 => h9) rfl d_Model_small_488 ?_
            refine lv_iconst (v := 4) hx hb d_Model_small_491 (by decide) ?_
            refine lv_aload_n hx hb d_Model_small_492 rfl (lv_at hl 1 rfl) ?_
            refine va_get (D := D) (ci := 7) (v := .ref (q 7)) (C := "ScriptDeskModel") (T := T_Model) (N := 18) hx hb hts iw_Model hown hK hI.1 0 rfl rfl 16 (by decide) (hts _ tw_547) (fun _ h9 => h9) rfl d_Model_small_493 ?_
            refine lv_iconst (v := 0) hx hb d_Model_small_496 (by decide) ?_
            obtain ⟨hg, hf⟩ := sd_gd_e hf
            refine k_iald hx hb hK hI 7 0 rfl rfl hg d_Model_small_497 ?_
            refine lv_aload_n hx hb d_Model_small_498 rfl (lv_at hl 1 rfl) ?_
            refine va_get (D := D) (ci := 7) (v := .ref (q 8)) (C := "ScriptDeskModel") (T := T_Model) (N := 18) hx hb hts iw_Model hown hK hI.1 0 rfl rfl 17 (by decide) (hts _ tw_548) (fun _ h9 => h9) rfl d_Model_small_499 ?_
            refine lv_iconst (v := 1) hx hb d_Model_small_502 (by decide) ?_
            obtain ⟨hg, hf⟩ := sd_gd_e hf
            refine k_iald hx hb hK hI 8 0 rfl rfl hg d_Model_small_503 ?_
            refine lv_iadd hx hb d_Model_small_504 ?_
            refine lv_aload_n hx hb d_Model_small_505 rfl (lv_at hl 1 rfl) ?_
            refine va_get (D := D) (ci := 7) (v := .ref (q 8)) (C := "ScriptDeskModel") (T := T_Model) (N := 18) hx hb hts iw_Model hown hK hI.1 0 rfl rfl 17 (by decide) (hts _ tw_548) (fun _ h9 => h9) rfl d_Model_small_506 ?_
            refine lv_bipush (v := 7) hx hb d_Model_small_509 (by decide) ?_
            obtain ⟨hg, hf⟩ := sd_gd_e hf
            refine k_iald hx hb hK hI 8 0 rfl rfl hg d_Model_small_511 ?_
            refine lv_iadd hx hb d_Model_small_512 ?_
            obtain ⟨hg, hf⟩ := sd_gd_e hf
            refine k_iast (μ' := sd_st m33 7 (Int32.toNatClampNeg (4 : Int32)) (((m33.1 7 (Int32.toNatClampNeg (0 : Int32))) + (m33.1 8 (Int32.toNatClampNeg (1 : Int32)))) + (m33.1 8 (Int32.toNatClampNeg (7 : Int32))))) hx hb hK hI 7 0 rfl rfl rfl hg d_Model_small_513 (fun H locs hI => ?_)
            obtain ⟨m34, hI, hf⟩ := k_lm hf hI
            refine lv_aload_n hx hb d_Model_small_514 rfl (lv_at hl 1 rfl) ?_
            refine va_get (D := D) (ci := 7) (v := .ref (q 7)) (C := "ScriptDeskModel") (T := T_Model) (N := 18) hx hb hts iw_Model hown hK hI.1 0 rfl rfl 16 (by decide) (hts _ tw_547) (fun _ h9 => h9) rfl d_Model_small_515 ?_
            refine lv_iconst (v := 0) hx hb d_Model_small_518 (by decide) ?_
            refine lv_iload hx hb d_Model_small_519 (lv_at hl 0 rfl) ?_
            obtain ⟨hg, hf⟩ := sd_gd_e hf
            refine k_iast (μ' := sd_st m34 7 (Int32.toNatClampNeg (0 : Int32)) x30) hx hb hK hI 7 0 rfl rfl rfl hg d_Model_small_521 (fun H locs hI => ?_)
            obtain ⟨m35, hI, hf⟩ := k_lm hf hI
            refine lv_iinc (v := (x28 + (1 : Int32))) (lv' := [(3, .int (x28 + (1 : Int32))), (4, .int x30), (0, .ref (q 0)), (1, .int x26), (2, .int x27)]) hx hb d_Model_small_522 hl (k := 4) rfl rfl (by decide) rfl (fun ls hl => ?_)
            refine lv_goto (tgt := 49) hx hb d_Model_small_525 (by decide) ?_
            exact ih (x26) (x27) ((x28 + (1 : Int32))) m35 _ _ _ hI (lv_sub hl [2, 3, 4, 0] rfl) hf
set_option maxHeartbeats 4000000 in
set_option maxRecDepth 100000 in
theorem lp_Model_small_r0_L538 (l : Launch) {p : Program} {e : Env} {s : State} {m : MethodId} {args : Array Value} {below : List Frame} {meth : Method} {c : Code} {A : Nat → Prop} {D : va_G} {q tq : Nat → Nat} {cA : ClassId} {ru : sd_Me} (X : sd_Cx p s m args meth c prog_12_method_19_code "ScriptDeskModel" sx_tbl 8 none vwCl D [(cA, .int)] (ZM tq) A) {k580 : sd_Me → Option (sd_Me)} (hk580 : ∀ (μ : sd_Me) (H : Heap) (locs : List Loc) (ls : Array Slot), sd_CI vwCl (wdM q cA) D A s H locs μ → lv_has ls 8 [] → k580 μ = some ru → W p l e ({ frames := 2, cells := 0, slots := 0, locals := 45 }) s m args below meth c H locs 0 0 (sd_QV below vwCl (wdM q cA) D [(cA, .int)] A args s ru) (F0 m 580 ls [])) :
    ∀ (n : Nat) (v1 : Int32) (v3 : Int32) (μ : sd_Me) (H : Heap) (locs : List Loc) (ls : Array Slot), sd_CI vwCl (wdM q cA) D A s H locs μ → lv_has ls 8 [(0, .ref (q 0)), (1, .int v1), (3, .int v3)] → fn_Model_small_r0_L538 k580 n v1 v3 μ = some ru → W p l e ({ frames := 2, cells := 0, slots := 0, locals := 45 }) s m args below meth c H locs 0 0 (sd_QV below vwCl (wdM q cA) D [(cA, .int)] A args s ru) (F0 m 538 ls []) := by
  obtain ⟨hx, hb, hml, hown, hts, hK, hZ, hA, hr, hlocks⟩ := id X
  intro n
  induction n with
  | zero =>
    intro v1 v3 μ H locs ls hI hl hf
    cases hf
  | succ n ih =>
    intro v1 v3 μ H locs ls hI hl hf
    rw [fn_Model_small_r0_L538] at hf
    refine lv_iload_n hx hb d_Model_small_538 rfl (lv_at hl 2 rfl) ?_
    refine lv_bipush (v := 20) hx hb d_Model_small_539 (by decide) ?_
    refine lv_icmp_ge (tgt := 580) hx hb d_Model_small_541 (by decide) (fun hc => ?_) (fun hc => ?_)
    · have hf := sd_t hf hc
      exact hk580  μ _ _ _ hI (lv_sub hl [] rfl) hf
    · have hf := sd_f hf hc
      refine lv_aload_n hx hb d_Model_small_544 rfl (lv_at hl 0 rfl) ?_
      refine va_get (D := D) (ci := 7) (v := .ref (q 1)) (C := "ScriptDeskModel") (T := T_Model) (N := 18) hx hb hts iw_Model hown hK hI.1 0 rfl rfl 0 (by decide) (hts _ tw_531) (fun _ h9 => h9) rfl d_Model_small_545 ?_
      refine lv_bipush (v := 120) hx hb d_Model_small_548 (by decide) ?_
      refine lv_iload_n hx hb d_Model_small_550 rfl (lv_at hl 1 rfl) ?_
      refine lv_imul hx hb d_Model_small_551 ?_
      refine lv_iload_n hx hb d_Model_small_552 rfl (lv_at hl 2 rfl) ?_
      refine lv_iadd hx hb d_Model_small_553 ?_
      refine lv_aload_n hx hb d_Model_small_554 rfl (lv_at hl 0 rfl) ?_
      refine va_get (D := D) (ci := 7) (v := .ref (q 7)) (C := "ScriptDeskModel") (T := T_Model) (N := 18) hx hb hts iw_Model hown hK hI.1 0 rfl rfl 16 (by decide) (hts _ tw_547) (fun _ h9 => h9) rfl d_Model_small_555 ?_
      refine lv_iload_n hx hb d_Model_small_558 rfl (lv_at hl 2 rfl) ?_
      refine lv_iconst (v := 4) hx hb d_Model_small_559 (by decide) ?_
      refine lv_idiv hx hb d_Model_small_560 (by decide) ?_
      obtain ⟨hg, hf⟩ := sd_gd_e hf
      refine k_iald hx hb hK hI 7 0 rfl rfl hg d_Model_small_561 ?_
      refine lv_bipush (v := 8) hx hb d_Model_small_562 (by decide) ?_
      refine lv_iload_n hx hb d_Model_small_564 rfl (lv_at hl 2 rfl) ?_
      refine lv_iconst (v := 4) hx hb d_Model_small_565 (by decide) ?_
      refine lv_irem hx hb d_Model_small_566 (by decide) ?_
      refine lv_imul hx hb d_Model_small_567 ?_
      refine lv_iushr (v := (sd_usr (μ.1 7 (Int32.toNatClampNeg (v3 / (4 : Int32)))) ((8 : Int32) * (v3 - v3 / (4 : Int32) * (4 : Int32))))) hx hb d_Model_small_568 rfl ?_
      refine lv_sipush (v := 255) hx hb d_Model_small_569 (by decide) ?_
      refine lv_iand hx hb d_Model_small_572 ?_
      obtain ⟨hg, hf⟩ := sd_gd_e hf
      refine k_iast (μ' := sd_st μ 1 (Int32.toNatClampNeg (((120 : Int32) * v1) + v3)) ((sd_usr (μ.1 7 (Int32.toNatClampNeg (v3 / (4 : Int32)))) ((8 : Int32) * (v3 - v3 / (4 : Int32) * (4 : Int32)))) &&& (255 : Int32))) hx hb hK hI 1 0 rfl rfl rfl hg d_Model_small_573 (fun H locs hI => ?_)
      obtain ⟨m39, hI, hf⟩ := k_lm hf hI
      refine lv_iinc (v := (v3 + (1 : Int32))) (lv' := [(3, .int (v3 + (1 : Int32))), (0, .ref (q 0)), (1, .int v1)]) hx hb d_Model_small_574 hl (k := 2) rfl rfl (by decide) rfl (fun ls hl => ?_)
      refine lv_goto (tgt := 538) hx hb d_Model_small_577 (by decide) ?_
      exact ih (v1) ((v3 + (1 : Int32))) m39 _ _ _ hI (lv_sub hl [1, 2, 0] rfl) hf
set_option maxHeartbeats 4000000 in
set_option maxRecDepth 100000 in
theorem mt_Model_small_r0 (l : Launch) {D : va_G} {q tq : Nat → Nat} {cA : ClassId} {a1 : Int32} {μ : sd_Me} {ru : sd_Me} (hf : fn_Model_small_r0 a1 μ = some ru) : sd_CTv l y_Model_small w_Model_small ({ frames := 2, cells := 0, slots := 0, locals := 45 }) vwCl (wdM q cA) D [(cA, .int)] (ZM tq) [.ref (q 0), .int a1] μ ru := by
  refine k_entv (cc := prog_12_method_19_code) 8 (by decide) rfl (Nat.le_of_ble_eq_true rfl) ?_
  intro p e s m below meth c A ls X hI hl
  have hl : lv_has ls 8 [(0, .ref (q 0)), (1, .int a1)] := hl
  obtain ⟨hx, hb, hml, hown, hts, hK, hZ, hA, hr, hlocks⟩ := id X
  unfold fn_Model_small_r0 at hf
  refine lv_aload_n hx hb d_Model_small_0 rfl (lv_at hl 0 rfl) ?_
  refine lv_iload_n hx hb d_Model_small_1 rfl (lv_at hl 1 rfl) ?_
  refine lv_iconst (v := 0) hx hb d_Model_small_2 (by decide) ?_
  obtain ⟨x2, m1, hq, hf⟩ := sd_bi_e hf
  refine k_callV (As := [.int a1, .int (0 : Int32)]) (rest := []) (C := "ScriptDeskModel") (ci := 7) ZM_ok X hI (mt_Model_pad_r0 l hq) (cwV 2 hts (gd_V tw_705 tw_707 ts_40 tw_9 tw_708) rfl rfl rfl (by decide +kernel) ⟨Nat.le_of_ble_eq_true rfl, Nat.le_of_ble_eq_true rfl⟩) 0 rfl rfl rfl hl.1 rfl (Nat.le_of_ble_eq_true rfl) d_Model_small_3 ⟨Nat.zero_le _, Nat.zero_le _⟩ (fun H locs hn_x2 hI => ?_)
  refine lv_istore_n (lv' := [(2, .int x2), (0, .ref (q 0)), (1, .int a1)]) hx hb d_Model_small_6 rfl hl (by decide) rfl (fun ls hl => ?_)
  refine lv_aload_n hx hb d_Model_small_7 rfl (lv_at hl 1 rfl) ?_
  refine va_get (D := D) (ci := 7) (v := .ref (q 7)) (C := "ScriptDeskModel") (T := T_Model) (N := 18) hx hb hts iw_Model hown hK hI.1 0 rfl rfl 16 (by decide) (hts _ tw_547) (fun _ h9 => h9) rfl d_Model_small_8 ?_
  refine lv_iconst (v := 0) hx hb d_Model_small_11 (by decide) ?_
  refine lv_ldc (v := 1732584193) hx hb hown (hts _ tw_726) d_Model_small_12 ?_
  obtain ⟨hg, hf⟩ := sd_gd_e hf
  refine k_iast (μ' := sd_st m1 7 (Int32.toNatClampNeg (0 : Int32)) (1732584193 : Int32)) hx hb hK hI 7 0 rfl rfl rfl hg d_Model_small_14 (fun H locs hI => ?_)
  obtain ⟨m3, hI, hf⟩ := k_lm hf hI
  refine lv_aload_n hx hb d_Model_small_15 rfl (lv_at hl 1 rfl) ?_
  refine va_get (D := D) (ci := 7) (v := .ref (q 7)) (C := "ScriptDeskModel") (T := T_Model) (N := 18) hx hb hts iw_Model hown hK hI.1 0 rfl rfl 16 (by decide) (hts _ tw_547) (fun _ h9 => h9) rfl d_Model_small_16 ?_
  refine lv_iconst (v := 1) hx hb d_Model_small_19 (by decide) ?_
  refine lv_ldc (v := -271733879) hx hb hown (hts _ tw_727) d_Model_small_20 ?_
  obtain ⟨hg, hf⟩ := sd_gd_e hf
  refine k_iast (μ' := sd_st m3 7 (Int32.toNatClampNeg (1 : Int32)) (-271733879 : Int32)) hx hb hK hI 7 0 rfl rfl rfl hg d_Model_small_22 (fun H locs hI => ?_)
  obtain ⟨m4, hI, hf⟩ := k_lm hf hI
  refine lv_aload_n hx hb d_Model_small_23 rfl (lv_at hl 1 rfl) ?_
  refine va_get (D := D) (ci := 7) (v := .ref (q 7)) (C := "ScriptDeskModel") (T := T_Model) (N := 18) hx hb hts iw_Model hown hK hI.1 0 rfl rfl 16 (by decide) (hts _ tw_547) (fun _ h9 => h9) rfl d_Model_small_24 ?_
  refine lv_iconst (v := 2) hx hb d_Model_small_27 (by decide) ?_
  refine lv_ldc (v := -1732584194) hx hb hown (hts _ tw_728) d_Model_small_28 ?_
  obtain ⟨hg, hf⟩ := sd_gd_e hf
  refine k_iast (μ' := sd_st m4 7 (Int32.toNatClampNeg (2 : Int32)) (-1732584194 : Int32)) hx hb hK hI 7 0 rfl rfl rfl hg d_Model_small_30 (fun H locs hI => ?_)
  obtain ⟨m5, hI, hf⟩ := k_lm hf hI
  refine lv_aload_n hx hb d_Model_small_31 rfl (lv_at hl 1 rfl) ?_
  refine va_get (D := D) (ci := 7) (v := .ref (q 7)) (C := "ScriptDeskModel") (T := T_Model) (N := 18) hx hb hts iw_Model hown hK hI.1 0 rfl rfl 16 (by decide) (hts _ tw_547) (fun _ h9 => h9) rfl d_Model_small_32 ?_
  refine lv_iconst (v := 3) hx hb d_Model_small_35 (by decide) ?_
  refine lv_ldc (v := 271733878) hx hb hown (hts _ tw_729) d_Model_small_36 ?_
  obtain ⟨hg, hf⟩ := sd_gd_e hf
  refine k_iast (μ' := sd_st m5 7 (Int32.toNatClampNeg (3 : Int32)) (271733878 : Int32)) hx hb hK hI 7 0 rfl rfl rfl hg d_Model_small_38 (fun H locs hI => ?_)
  obtain ⟨m6, hI, hf⟩ := k_lm hf hI
  refine lv_aload_n hx hb d_Model_small_39 rfl (lv_at hl 1 rfl) ?_
  refine va_get (D := D) (ci := 7) (v := .ref (q 7)) (C := "ScriptDeskModel") (T := T_Model) (N := 18) hx hb hts iw_Model hown hK hI.1 0 rfl rfl 16 (by decide) (hts _ tw_547) (fun _ h9 => h9) rfl d_Model_small_40 ?_
  refine lv_iconst (v := 4) hx hb d_Model_small_43 (by decide) ?_
  refine lv_ldc (v := -1009589776) hx hb hown (hts _ tw_730) d_Model_small_44 ?_
  obtain ⟨hg, hf⟩ := sd_gd_e hf
  refine k_iast (μ' := sd_st m6 7 (Int32.toNatClampNeg (4 : Int32)) (-1009589776 : Int32)) hx hb hK hI 7 0 rfl rfl rfl hg d_Model_small_46 (fun H locs hI => ?_)
  obtain ⟨m7, hI, hf⟩ := k_lm hf hI
  refine lv_iconst (v := 0) hx hb d_Model_small_47 (by decide) ?_
  refine lv_istore_n (lv' := [(3, .int (0 : Int32)), (2, .int x2), (0, .ref (q 0)), (1, .int a1)]) hx hb d_Model_small_48 rfl hl (by decide) rfl (fun ls hl => ?_)
  refine lp_Model_small_r0_L49 l X ?_ 10000 (a1) (x2) ((0 : Int32)) m7 _ _ _ hI (lv_sub hl [2, 3, 1, 0] rfl) hf
  · intro x36 m37 H locs ls hI hl hf
    refine lv_aload_n hx hb d_Model_small_528 rfl (lv_at hl 0 rfl) ?_
    refine va_get (D := D) (ci := 7) (v := .ref (q 2)) (C := "ScriptDeskModel") (T := T_Model) (N := 18) hx hb hts iw_Model hown hK hI.1 0 rfl rfl 1 (by decide) (hts _ tw_532) (fun _ h9 => h9) rfl d_Model_small_529 ?_
    refine lv_iload_n hx hb d_Model_small_532 rfl (lv_at hl 1 rfl) ?_
    refine lv_bipush (v := 20) hx hb d_Model_small_533 (by decide) ?_
    obtain ⟨hg, hf⟩ := sd_gd_e hf
    refine k_iast (μ' := sd_st m37 2 (Int32.toNatClampNeg x36) (20 : Int32)) hx hb hK hI 2 0 rfl rfl rfl hg d_Model_small_535 (fun H locs hI => ?_)
    obtain ⟨m38, hI, hf⟩ := k_lm hf hI
    refine lv_iconst (v := 0) hx hb d_Model_small_536 (by decide) ?_
    refine lv_istore_n (lv' := [(3, .int (0 : Int32)), (0, .ref (q 0)), (1, .int x36)]) hx hb d_Model_small_537 rfl hl (by decide) rfl (fun ls hl => ?_)
    refine lp_Model_small_r0_L538 l X ?_ 10000 (x36) ((0 : Int32)) m38 _ _ _ hI (lv_sub hl [1, 2, 0] rfl) hf
    · intro m40 H locs ls hI hl hf
      exact k_retv X hI hf d_Model_small_580
