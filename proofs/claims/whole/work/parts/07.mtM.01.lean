set_option maxHeartbeats 4000000 in
set_option maxRecDepth 100000 in
theorem lp_Model_reads_r0_L50 (l : Launch) {p : Program} {e : Env} {s : State} {m : MethodId} {args : Array Value} {below : List Frame} {meth : Method} {c : Code} {A : Nat → Prop} {D : va_G} {q tq : Nat → Nat} {cA : ClassId} {ru : Int32 × sd_Me} (X : sd_Cx p s m args meth c prog_12_method_13_code "ScriptDeskModel" sx_tbl 5 (some .boolean) vwCl D [(cA, .int)] (ZM tq) A) {k110 : Int32 → sd_Me → Option (Int32 × sd_Me)} (hk110 : ∀ (v2 : Int32) (μ : sd_Me) (H : Heap) (locs : List Loc) (ls : Array Slot), sd_CI vwCl (wdM q cA) D A s H locs μ → lv_has ls 5 [(0, .ref (q 0)), (2, .int v2)] → k110 v2 μ = some ru → W p l e ({ frames := 2, cells := 0, slots := 0, locals := 42 }) s m args below meth c H locs 0 0 (sd_QI below vwCl (wdM q cA) D [(cA, .int)] .boolean A args s ru) (F0 m 110 ls [])) :
    ∀ (n : Nat) (v2 : Int32) (v3 : Int32) (μ : sd_Me) (H : Heap) (locs : List Loc) (ls : Array Slot), sd_CI vwCl (wdM q cA) D A s H locs μ → lv_has ls 5 [(0, .ref (q 0)), (2, .int v2), (3, .int v3)] → fn_Model_reads_r0_L50 k110 n v2 v3 μ = some ru → W p l e ({ frames := 2, cells := 0, slots := 0, locals := 42 }) s m args below meth c H locs 0 0 (sd_QI below vwCl (wdM q cA) D [(cA, .int)] .boolean A args s ru) (F0 m 50 ls []) := by
  obtain ⟨hx, hb, hml, hown, hts, hK, hZ, hA, hr, hlocks⟩ := id X
  intro n
  induction n with
  | zero =>
    intro v2 v3 μ H locs ls hI hl hf
    cases hf
  | succ n ih =>
    intro v2 v3 μ H locs ls hI hl hf
    rw [fn_Model_reads_r0_L50] at hf
    refine lv_iload_n hx hb d_Model_reads_50 rfl (lv_at hl 2 rfl) ?_
    refine lv_if_lt (tgt := 110) hx hb d_Model_reads_51 (by decide) (fun hc => ?_) (fun hc => ?_)
    · have hf := sd_t hf hc
      exact hk110 (v2) μ _ _ _ hI (lv_sub hl [0, 1] rfl) hf
    · have hf := sd_f hf hc
      refine lv_aload_n hx hb d_Model_reads_54 rfl (lv_at hl 0 rfl) ?_
      refine va_get (D := D) (ci := 7) (v := .ref (q 1)) (C := "ScriptDeskModel") (T := T_Model) (N := 18) hx hb hts iw_Model hown hK hI.1 0 rfl rfl 0 (by decide) (hts _ tw_531) (fun _ h9 => h9) rfl d_Model_reads_55 ?_
      refine lv_bipush (v := 120) hx hb d_Model_reads_58 (by decide) ?_
      refine lv_iload_n hx hb d_Model_reads_60 rfl (lv_at hl 1 rfl) ?_
      refine lv_imul hx hb d_Model_reads_61 ?_
      refine lv_iload_n hx hb d_Model_reads_62 rfl (lv_at hl 2 rfl) ?_
      refine lv_iadd hx hb d_Model_reads_63 ?_
      obtain ⟨hg, hf⟩ := sd_gd_e hf
      refine k_iald hx hb hK hI 1 0 rfl rfl hg d_Model_reads_64 ?_
      refine k_li hf (fun x7 hf => ?_)
      refine lv_istore (lv' := [(4, .int x7), (0, .ref (q 0)), (2, .int v2), (3, .int v3)]) hx hb d_Model_reads_65 hl (by decide) rfl (fun ls hl => ?_)
      refine lv_aload_n hx hb d_Model_reads_67 rfl (lv_at hl 1 rfl) ?_
      refine lv_aload_n hx hb d_Model_reads_68 rfl (lv_at hl 1 rfl) ?_
      refine va_get (D := D) (ci := 7) (v := .long (μ.2 1)) (C := "ScriptDeskModel") (T := T_Model) (N := 18) hx hb hts iw_Model hown hK hI.1 0 rfl rfl 13 (by decide) (hts _ tw_544) (fun _ h9 => h9) rfl d_Model_reads_69 ?_
      refine lv_ldc2 (v := 256) hx hb hown (hts _ tw_632) d_Model_reads_72 ?_
      refine lv_lmul hx hb d_Model_reads_75 ?_
      refine lv_iload_n hx hb d_Model_reads_76 rfl (lv_at hl 3 rfl) ?_
      refine lv_aload_n hx hb d_Model_reads_77 rfl (lv_at hl 1 rfl) ?_
      refine va_get (D := D) (ci := 7) (v := .ref (q 2)) (C := "ScriptDeskModel") (T := T_Model) (N := 18) hx hb hts iw_Model hown hK hI.1 0 rfl rfl 1 (by decide) (hts _ tw_532) (fun _ h9 => h9) rfl d_Model_reads_78 ?_
      refine lv_iload_n hx hb d_Model_reads_81 rfl (lv_at hl 2 rfl) ?_
      obtain ⟨hg, hf⟩ := sd_gd_e hf
      refine k_iald hx hb hK hI 2 0 rfl rfl hg d_Model_reads_82 ?_
      refine lv_iconst (v := 1) hx hb d_Model_reads_83 (by decide) ?_
      refine lv_isub hx hb d_Model_reads_84 ?_
      refine lv_icmp_ne (tgt := 97) hx hb d_Model_reads_85 (by decide) (fun hc => ?_) (fun hc => ?_)
      · have hf := sd_f hf hc
        refine lv_iload hx hb d_Model_reads_97 (lv_at hl 0 rfl) ?_
        refine lv_i2l (v := (Int32.toInt64 x7)) hx hb d_Model_reads_99 rfl ?_
        refine lv_ladd hx hb d_Model_reads_100 ?_
        refine k_put (ci := 7) (v := .long (((μ.2 1) * (256 : Int64)) + (Int32.toInt64 x7))) (ty := .long) (C := "ScriptDeskModel") (T := T_Model) (N := 18) (μ' := sd_lst μ 1 (((μ.2 1) * (256 : Int64)) + (Int32.toInt64 x7))) hx hb hts iw_Model t_Model t_Model_ok n_Model hown hK hI 0 rfl rfl 13 (by decide) (hts _ tw_544) (fun _ h9 => h9) rfl (by decide +kernel) rfl rfl (Nat.le_of_ble_eq_true rfl) rfl d_Model_reads_101 (fun H locs hI => ?_)
        obtain ⟨m8, hI, hf⟩ := k_lm hf hI
        refine lv_iinc (v := (v3 + (-1 : Int32))) (lv' := [(3, .int (v3 + (-1 : Int32))), (4, .int x7), (0, .ref (q 0)), (2, .int v2)]) hx hb d_Model_reads_104 hl (k := 3) rfl rfl (by decide) rfl (fun ls hl => ?_)
        refine lv_goto (tgt := 50) hx hb d_Model_reads_107 (by decide) ?_
        exact ih (v2) ((v3 + (-1 : Int32))) m8 _ _ _ hI (lv_sub hl [2, 3, 0] rfl) hf
      · have hf := sd_t hf hc
        refine lv_iload hx hb d_Model_reads_88 (lv_at hl 0 rfl) ?_
        refine lv_sipush (v := 128) hx hb d_Model_reads_90 (by decide) ?_
        refine lv_irem hx hb d_Model_reads_93 (by decide) ?_
        refine lv_goto (tgt := 99) hx hb d_Model_reads_94 (by decide) ?_
        refine lv_i2l (v := (Int32.toInt64 (x7 - x7 / (128 : Int32) * (128 : Int32)))) hx hb d_Model_reads_99 rfl ?_
        refine lv_ladd hx hb d_Model_reads_100 ?_
        refine k_put (ci := 7) (v := .long (((μ.2 1) * (256 : Int64)) + (Int32.toInt64 (x7 - x7 / (128 : Int32) * (128 : Int32))))) (ty := .long) (C := "ScriptDeskModel") (T := T_Model) (N := 18) (μ' := sd_lst μ 1 (((μ.2 1) * (256 : Int64)) + (Int32.toInt64 (x7 - x7 / (128 : Int32) * (128 : Int32))))) hx hb hts iw_Model t_Model t_Model_ok n_Model hown hK hI 0 rfl rfl 13 (by decide) (hts _ tw_544) (fun _ h9 => h9) rfl (by decide +kernel) rfl rfl (Nat.le_of_ble_eq_true rfl) rfl d_Model_reads_101 (fun H locs hI => ?_)
        obtain ⟨m9, hI, hf⟩ := k_lm hf hI
        refine lv_iinc (v := (v3 + (-1 : Int32))) (lv' := [(3, .int (v3 + (-1 : Int32))), (4, .int x7), (0, .ref (q 0)), (2, .int v2)]) hx hb d_Model_reads_104 hl (k := 3) rfl rfl (by decide) rfl (fun ls hl => ?_)
        refine lv_goto (tgt := 50) hx hb d_Model_reads_107 (by decide) ?_
        exact ih (v2) ((v3 + (-1 : Int32))) m9 _ _ _ hI (lv_sub hl [2, 3, 0] rfl) hf
set_option maxHeartbeats 4000000 in
set_option maxRecDepth 100000 in
theorem mt_Model_reads_r0 (l : Launch) {D : va_G} {q tq : Nat → Nat} {cA : ClassId} {a1 : Int32} {μ : sd_Me} {ru : Int32 × sd_Me} (hf : fn_Model_reads_r0 a1 μ = some ru) : sd_CTi l y_Model_reads w_Model_reads ({ frames := 2, cells := 0, slots := 0, locals := 42 }) vwCl (wdM q cA) D [(cA, .int)] (ZM tq) .boolean [.ref (q 0), .int a1] μ ru := by
  refine k_enti (cc := prog_12_method_13_code) 5 (by decide) rfl (Nat.le_of_ble_eq_true rfl) ?_
  intro p e s m below meth c A ls X hI hl
  have hl : lv_has ls 5 [(0, .ref (q 0)), (1, .int a1)] := hl
  obtain ⟨hx, hb, hml, hown, hts, hK, hZ, hA, hr, hlocks⟩ := id X
  unfold fn_Model_reads_r0 at hf
  refine lv_aload_n hx hb d_Model_reads_0 rfl (lv_at hl 0 rfl) ?_
  refine lv_iload_n hx hb d_Model_reads_1 rfl (lv_at hl 1 rfl) ?_
  refine lv_iconst (v := 1) hx hb d_Model_reads_2 (by decide) ?_
  refine lv_iadd hx hb d_Model_reads_3 ?_
  obtain ⟨x2, m1, hq, hf⟩ := sd_bi_e hf
  refine k_callV (As := [.int (a1 + (1 : Int32))]) (rest := []) (C := "ScriptDeskModel") (ci := 7) ZM_ok X hI (mt_Model_has_r0 l hq) (cwV 1 hts (gd_V tw_619 tw_621 ts_19 tw_9 tw_622) rfl rfl rfl (by decide +kernel) ⟨Nat.le_of_ble_eq_true rfl, Nat.le_of_ble_eq_true rfl⟩) 0 rfl rfl rfl hl.1 rfl (Nat.le_of_ble_eq_true rfl) d_Model_reads_4 ⟨Nat.zero_le _, Nat.zero_le _⟩ (fun H locs hn_x2 hI => ?_)
  refine lv_if_ne (tgt := 12) hx hb d_Model_reads_7 (by decide) (fun hc => ?_) (fun hc => ?_)
  · have hf := sd_f hf hc
    refine lv_aload_n hx hb d_Model_reads_12 rfl (lv_at hl 0 rfl) ?_
    refine lv_iload_n hx hb d_Model_reads_13 rfl (lv_at hl 1 rfl) ?_
    obtain ⟨x4, m3, hq, hf⟩ := sd_bi_e hf
    refine k_callV (As := [.int a1]) (rest := []) (C := "ScriptDeskModel") (ci := 7) ZM_ok X hI (mt_Model_top_r0 l hq) (cwV 1 hts (gd_V tw_657 tw_659 ts_28 tw_9 tw_660) rfl rfl rfl (by decide +kernel) ⟨Nat.le_of_ble_eq_true rfl, Nat.le_of_ble_eq_true rfl⟩) 0 rfl rfl rfl hl.1 rfl (Nat.le_of_ble_eq_true rfl) d_Model_reads_14 ⟨Nat.zero_le _, Nat.zero_le _⟩ (fun H locs hn_x4 hI => ?_)
    refine lv_istore_n (lv' := [(2, .int x4), (0, .ref (q 0)), (1, .int a1)]) hx hb d_Model_reads_17 rfl hl (by decide) rfl (fun ls hl => ?_)
    refine lv_aload_n hx hb d_Model_reads_18 rfl (lv_at hl 1 rfl) ?_
    refine va_get (D := D) (ci := 7) (v := .ref (q 2)) (C := "ScriptDeskModel") (T := T_Model) (N := 18) hx hb hts iw_Model hown hK hI.1 0 rfl rfl 1 (by decide) (hts _ tw_532) (fun _ h9 => h9) rfl d_Model_reads_19 ?_
    refine lv_iload_n hx hb d_Model_reads_22 rfl (lv_at hl 0 rfl) ?_
    obtain ⟨hg, hf⟩ := sd_gd_e hf
    refine k_iald hx hb hK hI 2 0 rfl rfl hg d_Model_reads_23 ?_
    refine lv_iconst (v := 4) hx hb d_Model_reads_24 (by decide) ?_
    refine lv_icmp_le (tgt := 36) hx hb d_Model_reads_25 (by decide) (fun hc => ?_) (fun hc => ?_)
    · have hf := sd_t hf hc
      refine lv_aload_n hx hb d_Model_reads_36 rfl (lv_at hl 1 rfl) ?_
      refine lv_lconst (v := 0) hx hb d_Model_reads_37 (by decide) ?_
      refine k_put (ci := 7) (v := .long (0 : Int64)) (ty := .long) (C := "ScriptDeskModel") (T := T_Model) (N := 18) (μ' := sd_lst m3 1 (0 : Int64)) hx hb hts iw_Model t_Model t_Model_ok n_Model hown hK hI 0 rfl rfl 13 (by decide) (hts _ tw_544) (fun _ h9 => h9) rfl (by decide +kernel) rfl rfl (Nat.le_of_ble_eq_true rfl) rfl d_Model_reads_38 (fun H locs hI => ?_)
      obtain ⟨m5, hI, hf⟩ := k_lm hf hI
      refine lv_aload_n hx hb d_Model_reads_41 rfl (lv_at hl 1 rfl) ?_
      refine va_get (D := D) (ci := 7) (v := .ref (q 2)) (C := "ScriptDeskModel") (T := T_Model) (N := 18) hx hb hts iw_Model hown hK hI.1 0 rfl rfl 1 (by decide) (hts _ tw_532) (fun _ h9 => h9) rfl d_Model_reads_42 ?_
      refine lv_iload_n hx hb d_Model_reads_45 rfl (lv_at hl 0 rfl) ?_
      obtain ⟨hg, hf⟩ := sd_gd_e hf
      refine k_iald hx hb hK hI 2 0 rfl rfl hg d_Model_reads_46 ?_
      refine lv_iconst (v := 1) hx hb d_Model_reads_47 (by decide) ?_
      refine lv_isub hx hb d_Model_reads_48 ?_
      refine k_li hf (fun x6 hf => ?_)
      refine lv_istore_n (lv' := [(3, .int x6), (2, .int x4), (0, .ref (q 0)), (1, .int a1)]) hx hb d_Model_reads_49 rfl hl (by decide) rfl (fun ls hl => ?_)
      refine lp_Model_reads_r0_L50 l X ?_ 10000 (x4) (x6) m5 _ _ _ hI (lv_sub hl [2, 1, 0] rfl) hf
      · intro x10 m11 H locs ls hI hl hf
        refine lv_aload_n hx hb d_Model_reads_110 rfl (lv_at hl 0 rfl) ?_
        refine lv_aload_n hx hb d_Model_reads_111 rfl (lv_at hl 0 rfl) ?_
        refine va_get (D := D) (ci := 7) (v := .ref (q 2)) (C := "ScriptDeskModel") (T := T_Model) (N := 18) hx hb hts iw_Model hown hK hI.1 0 rfl rfl 1 (by decide) (hts _ tw_532) (fun _ h9 => h9) rfl d_Model_reads_112 ?_
        refine lv_iload_n hx hb d_Model_reads_115 rfl (lv_at hl 1 rfl) ?_
        obtain ⟨hg, hf⟩ := sd_gd_e hf
        refine k_iald hx hb hK hI 2 0 rfl rfl hg d_Model_reads_116 ?_
        refine lv_if_le (tgt := 151) hx hb d_Model_reads_117 (by decide) (fun hc => ?_) (fun hc => ?_)
        · have hf := sd_t hf hc
          refine lv_aload_n hx hb d_Model_reads_151 rfl (lv_at hl 0 rfl) ?_
          refine va_get (D := D) (ci := 7) (v := .long (m11.2 1)) (C := "ScriptDeskModel") (T := T_Model) (N := 18) hx hb hts iw_Model hown hK hI.1 0 rfl rfl 13 (by decide) (hts _ tw_544) (fun _ h9 => h9) rfl d_Model_reads_152 ?_
          refine k_put (ci := 7) (v := .long (m11.2 1)) (ty := .long) (C := "ScriptDeskModel") (T := T_Model) (N := 18) (μ' := sd_lst m11 1 (m11.2 1)) hx hb hts iw_Model t_Model t_Model_ok n_Model hown hK hI 0 rfl rfl 13 (by decide) (hts _ tw_544) (fun _ h9 => h9) rfl (by decide +kernel) rfl rfl (Nat.le_of_ble_eq_true rfl) rfl d_Model_reads_155 (fun H locs hI => ?_)
          obtain ⟨m12, hI, hf⟩ := k_lm hf hI
          refine lv_iconst (v := 1) hx hb d_Model_reads_158 (by decide) ?_
          exact k_reti X hI rfl hf d_Model_reads_159
        · have hf := sd_f hf hc
          refine lv_aload_n hx hb d_Model_reads_120 rfl (lv_at hl 0 rfl) ?_
          refine va_get (D := D) (ci := 7) (v := .ref (q 1)) (C := "ScriptDeskModel") (T := T_Model) (N := 18) hx hb hts iw_Model hown hK hI.1 0 rfl rfl 0 (by decide) (hts _ tw_531) (fun _ h9 => h9) rfl d_Model_reads_121 ?_
          refine lv_bipush (v := 120) hx hb d_Model_reads_124 (by decide) ?_
          refine lv_iload_n hx hb d_Model_reads_126 rfl (lv_at hl 1 rfl) ?_
          refine lv_imul hx hb d_Model_reads_127 ?_
          refine lv_aload_n hx hb d_Model_reads_128 rfl (lv_at hl 0 rfl) ?_
          refine va_get (D := D) (ci := 7) (v := .ref (q 2)) (C := "ScriptDeskModel") (T := T_Model) (N := 18) hx hb hts iw_Model hown hK hI.1 0 rfl rfl 1 (by decide) (hts _ tw_532) (fun _ h9 => h9) rfl d_Model_reads_129 ?_
          refine lv_iload_n hx hb d_Model_reads_132 rfl (lv_at hl 1 rfl) ?_
          obtain ⟨hg, hf⟩ := sd_gd_e hf
          refine k_iald hx hb hK hI 2 0 rfl rfl hg d_Model_reads_133 ?_
          refine lv_iadd hx hb d_Model_reads_134 ?_
          refine lv_iconst (v := 1) hx hb d_Model_reads_135 (by decide) ?_
          refine lv_isub hx hb d_Model_reads_136 ?_
          obtain ⟨hg, hf⟩ := sd_gd_e hf
          refine k_iald hx hb hK hI 1 0 rfl rfl hg d_Model_reads_137 ?_
          refine lv_bipush (v := 127) hx hb d_Model_reads_138 (by decide) ?_
          refine lv_icmp_le (tgt := 151) hx hb d_Model_reads_140 (by decide) (fun hc => ?_) (fun hc => ?_)
          · have hf := sd_t hf hc
            refine lv_aload_n hx hb d_Model_reads_151 rfl (lv_at hl 0 rfl) ?_
            refine va_get (D := D) (ci := 7) (v := .long (m11.2 1)) (C := "ScriptDeskModel") (T := T_Model) (N := 18) hx hb hts iw_Model hown hK hI.1 0 rfl rfl 13 (by decide) (hts _ tw_544) (fun _ h9 => h9) rfl d_Model_reads_152 ?_
            refine k_put (ci := 7) (v := .long (m11.2 1)) (ty := .long) (C := "ScriptDeskModel") (T := T_Model) (N := 18) (μ' := sd_lst m11 1 (m11.2 1)) hx hb hts iw_Model t_Model t_Model_ok n_Model hown hK hI 0 rfl rfl 13 (by decide) (hts _ tw_544) (fun _ h9 => h9) rfl (by decide +kernel) rfl rfl (Nat.le_of_ble_eq_true rfl) rfl d_Model_reads_155 (fun H locs hI => ?_)
            obtain ⟨m13, hI, hf⟩ := k_lm hf hI
            refine lv_iconst (v := 1) hx hb d_Model_reads_158 (by decide) ?_
            exact k_reti X hI rfl hf d_Model_reads_159
          · have hf := sd_f hf hc
            refine lv_aload_n hx hb d_Model_reads_143 rfl (lv_at hl 0 rfl) ?_
            refine va_get (D := D) (ci := 7) (v := .long (m11.2 1)) (C := "ScriptDeskModel") (T := T_Model) (N := 18) hx hb hts iw_Model hown hK hI.1 0 rfl rfl 13 (by decide) (hts _ tw_544) (fun _ h9 => h9) rfl d_Model_reads_144 ?_
            refine lv_lneg hx hb d_Model_reads_147 ?_
            refine lv_goto (tgt := 155) hx hb d_Model_reads_148 (by decide) ?_
            refine k_put (ci := 7) (v := .long (-(m11.2 1))) (ty := .long) (C := "ScriptDeskModel") (T := T_Model) (N := 18) (μ' := sd_lst m11 1 (-(m11.2 1))) hx hb hts iw_Model t_Model t_Model_ok n_Model hown hK hI 0 rfl rfl 13 (by decide) (hts _ tw_544) (fun _ h9 => h9) rfl (by decide +kernel) rfl rfl (Nat.le_of_ble_eq_true rfl) rfl d_Model_reads_155 (fun H locs hI => ?_)
            obtain ⟨m14, hI, hf⟩ := k_lm hf hI
            refine lv_iconst (v := 1) hx hb d_Model_reads_158 (by decide) ?_
            exact k_reti X hI rfl hf d_Model_reads_159
    · have hf := sd_f hf hc
      refine lv_aload_n hx hb d_Model_reads_28 rfl (lv_at hl 1 rfl) ?_
      refine lv_bipush (v := 6) hx hb d_Model_reads_29 (by decide) ?_
      obtain ⟨m15, hq, hf⟩ := sd_bv_e hf
      refine k_callVv (As := [.int (6 : Int32)]) (rest := []) (C := "ScriptDeskModel") (ci := 7) ZM_ok X hI (mt_Model_fails_r0 l hq) (cwV 1 hts (gd_V tw_607 tw_609 ts_16 tw_9 tw_610) rfl rfl rfl (by decide +kernel) ⟨Nat.le_of_ble_eq_true rfl, Nat.le_of_ble_eq_true rfl⟩) 0 rfl rfl rfl hl.1 rfl (Nat.le_of_ble_eq_true rfl) d_Model_reads_31 ⟨Nat.zero_le _, Nat.zero_le _⟩ (fun H locs hI => ?_)
      refine lv_iconst (v := 0) hx hb d_Model_reads_34 (by decide) ?_
      exact k_reti X hI rfl hf d_Model_reads_35
  · have hf := sd_t hf hc
    refine lv_iconst (v := 0) hx hb d_Model_reads_10 (by decide) ?_
    exact k_reti X hI rfl hf d_Model_reads_11
set_option maxHeartbeats 4000000 in
set_option maxRecDepth 100000 in
theorem jn_Model_numberOfOne_r0_J96 (l : Launch) {p : Program} {e : Env} {s : State} {m : MethodId} {args : Array Value} {below : List Frame} {meth : Method} {c : Code} {A : Nat → Prop} {D : va_G} {q tq : Nat → Nat} {cA : ClassId} {ru : sd_Me} (X : sd_Cx p s m args meth c prog_12_method_32_code "ScriptDeskModel" sx_tbl 4 none vwCl D [(cA, .int)] (ZM tq) A) (v1 : Int32) (s1 : Int32) (μ : sd_Me) (H : Heap) (locs : List Loc) (ls : Array Slot) (hI : sd_CI vwCl (wdM q cA) D A s H locs μ) (hl : lv_has ls 4 [(1, .int v1)]) (hf : fn_Model_numberOfOne_r0_J96 v1 s1 μ = some ru) : W p l e ({ frames := 3, cells := 0, slots := 0, locals := 66 }) s m args below meth c H locs 0 0 (sd_QV below vwCl (wdM q cA) D [(cA, .int)] A args s ru) (F0 m 96 ls [.int s1, .ref (q 0)]) := by
  obtain ⟨hx, hb, hml, hown, hts, hK, hZ, hA, hr, hlocks⟩ := id X
  unfold fn_Model_numberOfOne_r0_J96 at hf
  refine lv_iload_n hx hb d_Model_numberOfOne_96 rfl (lv_at hl 0 rfl) ?_
  refine lv_sipush (v := 145) hx hb d_Model_numberOfOne_97 (by decide) ?_
  refine lv_icmp_ne (tgt := 107) hx hb d_Model_numberOfOne_100 (by decide) (fun hc => ?_) (fun hc => ?_)
  · have hf := sd_f hf hc
    refine lv_iconst (v := 0) hx hb d_Model_numberOfOne_107 (by decide) ?_
    refine lv_icmp_ne (tgt := 115) hx hb d_Model_numberOfOne_108 (by decide) (fun hc => ?_) (fun hc => ?_)
    · have hf := sd_f hf hc
      refine lv_lconst (v := 0) hx hb d_Model_numberOfOne_115 (by decide) ?_
      obtain ⟨m5, hq, hf⟩ := sd_bv_e hf
      refine k_callVv (As := [.long (0 : Int64)]) (rest := []) (C := "ScriptDeskModel") (ci := 7) ZM_ok X hI (mt_Model_pushNumber_r0 l hq) (cwV 1 hts (gd_V tw_628 tw_630 ts_21 tw_9 tw_631) rfl rfl rfl (by decide +kernel) ⟨Nat.le_of_ble_eq_true rfl, Nat.le_of_ble_eq_true rfl⟩) 0 rfl rfl rfl hl.1 rfl (Nat.le_of_ble_eq_true rfl) d_Model_numberOfOne_116 ⟨Nat.zero_le _, Nat.zero_le _⟩ (fun H locs hI => ?_)
      exact k_retv X hI hf d_Model_numberOfOne_119
    · have hf := sd_t hf hc
      refine lv_lconst (v := 1) hx hb d_Model_numberOfOne_111 (by decide) ?_
      refine lv_goto (tgt := 116) hx hb d_Model_numberOfOne_112 (by decide) ?_
      obtain ⟨m6, hq, hf⟩ := sd_bv_e hf
      refine k_callVv (As := [.long (1 : Int64)]) (rest := []) (C := "ScriptDeskModel") (ci := 7) ZM_ok X hI (mt_Model_pushNumber_r0 l hq) (cwV 1 hts (gd_V tw_628 tw_630 ts_21 tw_9 tw_631) rfl rfl rfl (by decide +kernel) ⟨Nat.le_of_ble_eq_true rfl, Nat.le_of_ble_eq_true rfl⟩) 0 rfl rfl rfl hl.1 rfl (Nat.le_of_ble_eq_true rfl) d_Model_numberOfOne_116 ⟨Nat.zero_le _, Nat.zero_le _⟩ (fun H locs hI => ?_)
      exact k_retv X hI hf d_Model_numberOfOne_119
  · have hf := sd_t hf hc
    refine lv_iconst (v := 1) hx hb d_Model_numberOfOne_103 (by decide) ?_
    refine lv_goto (tgt := 108) hx hb d_Model_numberOfOne_104 (by decide) ?_
    refine lv_icmp_ne (tgt := 115) hx hb d_Model_numberOfOne_108 (by decide) (fun hc => ?_) (fun hc => ?_)
    · have hf := sd_f hf hc
      refine lv_lconst (v := 0) hx hb d_Model_numberOfOne_115 (by decide) ?_
      obtain ⟨m7, hq, hf⟩ := sd_bv_e hf
      refine k_callVv (As := [.long (0 : Int64)]) (rest := []) (C := "ScriptDeskModel") (ci := 7) ZM_ok X hI (mt_Model_pushNumber_r0 l hq) (cwV 1 hts (gd_V tw_628 tw_630 ts_21 tw_9 tw_631) rfl rfl rfl (by decide +kernel) ⟨Nat.le_of_ble_eq_true rfl, Nat.le_of_ble_eq_true rfl⟩) 0 rfl rfl rfl hl.1 rfl (Nat.le_of_ble_eq_true rfl) d_Model_numberOfOne_116 ⟨Nat.zero_le _, Nat.zero_le _⟩ (fun H locs hI => ?_)
      exact k_retv X hI hf d_Model_numberOfOne_119
    · have hf := sd_t hf hc
      refine lv_lconst (v := 1) hx hb d_Model_numberOfOne_111 (by decide) ?_
      refine lv_goto (tgt := 116) hx hb d_Model_numberOfOne_112 (by decide) ?_
      obtain ⟨m8, hq, hf⟩ := sd_bv_e hf
      refine k_callVv (As := [.long (1 : Int64)]) (rest := []) (C := "ScriptDeskModel") (ci := 7) ZM_ok X hI (mt_Model_pushNumber_r0 l hq) (cwV 1 hts (gd_V tw_628 tw_630 ts_21 tw_9 tw_631) rfl rfl rfl (by decide +kernel) ⟨Nat.le_of_ble_eq_true rfl, Nat.le_of_ble_eq_true rfl⟩) 0 rfl rfl rfl hl.1 rfl (Nat.le_of_ble_eq_true rfl) d_Model_numberOfOne_116 ⟨Nat.zero_le _, Nat.zero_le _⟩ (fun H locs hI => ?_)
      exact k_retv X hI hf d_Model_numberOfOne_119
set_option maxHeartbeats 4000000 in
set_option maxRecDepth 100000 in
theorem mt_Model_numberOfOne_r0 (l : Launch) {D : va_G} {q tq : Nat → Nat} {cA : ClassId} {a1 : Int32} {μ : sd_Me} {ru : sd_Me} (hf : fn_Model_numberOfOne_r0 a1 μ = some ru) : sd_CTv l y_Model_numberOfOne w_Model_numberOfOne ({ frames := 3, cells := 0, slots := 0, locals := 66 }) vwCl (wdM q cA) D [(cA, .int)] (ZM tq) [.ref (q 0), .int a1] μ ru := by
  refine k_entv (cc := prog_12_method_32_code) 4 (by decide) rfl (Nat.le_of_ble_eq_true rfl) ?_
  intro p e s m below meth c A ls X hI hl
  have hl : lv_has ls 4 [(0, .ref (q 0)), (1, .int a1)] := hl
  obtain ⟨hx, hb, hml, hown, hts, hK, hZ, hA, hr, hlocks⟩ := id X
  unfold fn_Model_numberOfOne_r0 at hf
  refine lv_aload_n hx hb d_Model_numberOfOne_0 rfl (lv_at hl 0 rfl) ?_
  refine lv_iconst (v := 0) hx hb d_Model_numberOfOne_1 (by decide) ?_
  obtain ⟨x2, m1, hq, hf⟩ := sd_bi_e hf
  refine k_callV (As := [.int (0 : Int32)]) (rest := []) (C := "ScriptDeskModel") (ci := 7) ZM_ok X hI (mt_Model_reads_r0 l hq) (cwV 1 hts (gd_V tw_669 tw_671 ts_31 tw_9 tw_672) rfl rfl rfl (by decide +kernel) ⟨Nat.le_of_ble_eq_true rfl, Nat.le_of_ble_eq_true rfl⟩) 0 rfl rfl rfl hl.1 rfl (Nat.le_of_ble_eq_true rfl) d_Model_numberOfOne_2 ⟨Nat.zero_le _, Nat.zero_le _⟩ (fun H locs hn_x2 hI => ?_)
  refine lv_if_ne (tgt := 9) hx hb d_Model_numberOfOne_5 (by decide) (fun hc => ?_) (fun hc => ?_)
  · have hf := sd_f hf hc
    refine lv_aload_n hx hb d_Model_numberOfOne_9 rfl (lv_at hl 0 rfl) ?_
    refine lv_dup hx hb d_Model_numberOfOne_10 rfl ?_
    refine va_get (D := D) (ci := 7) (v := .int (m1.1 0 2)) (C := "ScriptDeskModel") (T := T_Model) (N := 18) hx hb hts iw_Model hown hK hI.1 0 rfl rfl 2 (by decide) (hts _ tw_533) (fun _ h9 => h9) rfl d_Model_numberOfOne_11 ?_
    refine lv_iconst (v := 1) hx hb d_Model_numberOfOne_14 (by decide) ?_
    refine lv_isub hx hb d_Model_numberOfOne_15 ?_
    refine k_put (ci := 7) (v := .int ((m1.1 0 2) - (1 : Int32))) (ty := .int) (C := "ScriptDeskModel") (T := T_Model) (N := 18) (μ' := sd_st m1 0 2 ((m1.1 0 2) - (1 : Int32))) hx hb hts iw_Model t_Model t_Model_ok n_Model hown hK hI 0 rfl rfl 2 (by decide) (hts _ tw_533) (fun _ h9 => h9) rfl (by decide +kernel) rfl rfl (Nat.le_of_ble_eq_true rfl) rfl d_Model_numberOfOne_16 (fun H locs hI => ?_)
    obtain ⟨m3, hI, hf⟩ := k_lm hf hI
    refine lv_aload_n hx hb d_Model_numberOfOne_19 rfl (lv_at hl 0 rfl) ?_
    refine va_get (D := D) (ci := 7) (v := .long (m3.2 1)) (C := "ScriptDeskModel") (T := T_Model) (N := 18) hx hb hts iw_Model hown hK hI.1 0 rfl rfl 13 (by decide) (hts _ tw_544) (fun _ h9 => h9) rfl d_Model_numberOfOne_20 ?_
    refine k_ll hf (fun x4 hf => ?_)
    refine lv_lstore_n (lv' := [(2, .long x4), (0, .ref (q 0)), (1, .int a1)]) hx hb d_Model_numberOfOne_23 rfl hl (by decide) rfl (fun ls hl => ?_)
    refine lv_aload_n hx hb d_Model_numberOfOne_24 rfl (lv_at hl 1 rfl) ?_
    refine lv_iload_n hx hb d_Model_numberOfOne_25 rfl (lv_at hl 2 rfl) ?_
    refine lv_sipush (v := 139) hx hb d_Model_numberOfOne_26 (by decide) ?_
    refine lv_icmp_ne (tgt := 38) hx hb d_Model_numberOfOne_29 (by decide) (fun hc => ?_) (fun hc => ?_)
    · have hf := sd_f hf hc
      refine lv_iload_n hx hb d_Model_numberOfOne_38 rfl (lv_at hl 2 rfl) ?_
      refine lv_sipush (v := 140) hx hb d_Model_numberOfOne_39 (by decide) ?_
      refine lv_icmp_ne (tgt := 51) hx hb d_Model_numberOfOne_42 (by decide) (fun hc => ?_) (fun hc => ?_)
      · have hf := sd_f hf hc
        refine lv_iload_n hx hb d_Model_numberOfOne_51 rfl (lv_at hl 2 rfl) ?_
        refine lv_sipush (v := 143) hx hb d_Model_numberOfOne_52 (by decide) ?_
        refine lv_icmp_ne (tgt := 63) hx hb d_Model_numberOfOne_55 (by decide) (fun hc => ?_) (fun hc => ?_)
        · have hf := sd_f hf hc
          refine lv_iload_n hx hb d_Model_numberOfOne_63 rfl (lv_at hl 2 rfl) ?_
          refine lv_sipush (v := 144) hx hb d_Model_numberOfOne_64 (by decide) ?_
          refine lv_icmp_ne (tgt := 85) hx hb d_Model_numberOfOne_67 (by decide) (fun hc => ?_) (fun hc => ?_)
          · have hf := sd_f hf hc
            refine lv_lload_n hx hb d_Model_numberOfOne_85 rfl (lv_at hl 0 rfl) ?_
            refine lv_lconst (v := 0) hx hb d_Model_numberOfOne_86 (by decide) ?_
            refine W.lcmp hx hb d_Model_numberOfOne_87 ?_
            refine lv_if_ne (tgt := 95) hx hb d_Model_numberOfOne_88 (by decide) (fun hc => ?_) (fun hc => ?_)
            · have hf := sd_f hf hc
              refine lv_iconst (v := 0) hx hb d_Model_numberOfOne_95 (by decide) ?_
              exact jn_Model_numberOfOne_r0_J96 l X (a1) ((0 : Int32)) m3 _ _ _ hI (lv_sub hl [2] rfl) hf
            · have hf := sd_t hf hc
              refine lv_iconst (v := 1) hx hb d_Model_numberOfOne_91 (by decide) ?_
              refine lv_goto (tgt := 96) hx hb d_Model_numberOfOne_92 (by decide) ?_
              exact jn_Model_numberOfOne_r0_J96 l X (a1) ((1 : Int32)) m3 _ _ _ hI (lv_sub hl [2] rfl) hf
          · have hf := sd_t hf hc
            refine lv_lload_n hx hb d_Model_numberOfOne_70 rfl (lv_at hl 0 rfl) ?_
            refine lv_lconst (v := 0) hx hb d_Model_numberOfOne_71 (by decide) ?_
            refine W.lcmp hx hb d_Model_numberOfOne_72 ?_
            refine lv_if_ge (tgt := 81) hx hb d_Model_numberOfOne_73 (by decide) (fun hc => ?_) (fun hc => ?_)
            · have hf := sd_t hf hc
              refine lv_lload_n hx hb d_Model_numberOfOne_81 rfl (lv_at hl 0 rfl) ?_
              refine lv_goto (tgt := 116) hx hb d_Model_numberOfOne_82 (by decide) ?_
              obtain ⟨m9, hq, hf⟩ := sd_bv_e hf
              refine k_callVv (As := [.long x4]) (rest := []) (C := "ScriptDeskModel") (ci := 7) ZM_ok X hI (mt_Model_pushNumber_r0 l hq) (cwV 1 hts (gd_V tw_628 tw_630 ts_21 tw_9 tw_631) rfl rfl rfl (by decide +kernel) ⟨Nat.le_of_ble_eq_true rfl, Nat.le_of_ble_eq_true rfl⟩) 0 rfl rfl rfl hl.1 rfl (Nat.le_of_ble_eq_true rfl) d_Model_numberOfOne_116 ⟨Nat.zero_le _, Nat.zero_le _⟩ (fun H locs hI => ?_)
              exact k_retv X hI hf d_Model_numberOfOne_119
            · have hf := sd_f hf hc
              refine lv_lload_n hx hb d_Model_numberOfOne_76 rfl (lv_at hl 0 rfl) ?_
              refine lv_lneg hx hb d_Model_numberOfOne_77 ?_
              refine lv_goto (tgt := 116) hx hb d_Model_numberOfOne_78 (by decide) ?_
              obtain ⟨m10, hq, hf⟩ := sd_bv_e hf
              refine k_callVv (As := [.long (-x4)]) (rest := []) (C := "ScriptDeskModel") (ci := 7) ZM_ok X hI (mt_Model_pushNumber_r0 l hq) (cwV 1 hts (gd_V tw_628 tw_630 ts_21 tw_9 tw_631) rfl rfl rfl (by decide +kernel) ⟨Nat.le_of_ble_eq_true rfl, Nat.le_of_ble_eq_true rfl⟩) 0 rfl rfl rfl hl.1 rfl (Nat.le_of_ble_eq_true rfl) d_Model_numberOfOne_116 ⟨Nat.zero_le _, Nat.zero_le _⟩ (fun H locs hI => ?_)
              exact k_retv X hI hf d_Model_numberOfOne_119
        · have hf := sd_t hf hc
          refine lv_lload_n hx hb d_Model_numberOfOne_58 rfl (lv_at hl 0 rfl) ?_
          refine lv_lneg hx hb d_Model_numberOfOne_59 ?_
          refine lv_goto (tgt := 116) hx hb d_Model_numberOfOne_60 (by decide) ?_
          obtain ⟨m11, hq, hf⟩ := sd_bv_e hf
          refine k_callVv (As := [.long (-x4)]) (rest := []) (C := "ScriptDeskModel") (ci := 7) ZM_ok X hI (mt_Model_pushNumber_r0 l hq) (cwV 1 hts (gd_V tw_628 tw_630 ts_21 tw_9 tw_631) rfl rfl rfl (by decide +kernel) ⟨Nat.le_of_ble_eq_true rfl, Nat.le_of_ble_eq_true rfl⟩) 0 rfl rfl rfl hl.1 rfl (Nat.le_of_ble_eq_true rfl) d_Model_numberOfOne_116 ⟨Nat.zero_le _, Nat.zero_le _⟩ (fun H locs hI => ?_)
          exact k_retv X hI hf d_Model_numberOfOne_119
      · have hf := sd_t hf hc
        refine lv_lload_n hx hb d_Model_numberOfOne_45 rfl (lv_at hl 0 rfl) ?_
        refine lv_lconst (v := 1) hx hb d_Model_numberOfOne_46 (by decide) ?_
        refine lv_lsub hx hb d_Model_numberOfOne_47 ?_
        refine lv_goto (tgt := 116) hx hb d_Model_numberOfOne_48 (by decide) ?_
        obtain ⟨m12, hq, hf⟩ := sd_bv_e hf
        refine k_callVv (As := [.long (x4 - (1 : Int64))]) (rest := []) (C := "ScriptDeskModel") (ci := 7) ZM_ok X hI (mt_Model_pushNumber_r0 l hq) (cwV 1 hts (gd_V tw_628 tw_630 ts_21 tw_9 tw_631) rfl rfl rfl (by decide +kernel) ⟨Nat.le_of_ble_eq_true rfl, Nat.le_of_ble_eq_true rfl⟩) 0 rfl rfl rfl hl.1 rfl (Nat.le_of_ble_eq_true rfl) d_Model_numberOfOne_116 ⟨Nat.zero_le _, Nat.zero_le _⟩ (fun H locs hI => ?_)
        exact k_retv X hI hf d_Model_numberOfOne_119
    · have hf := sd_t hf hc
      refine lv_lload_n hx hb d_Model_numberOfOne_32 rfl (lv_at hl 0 rfl) ?_
      refine lv_lconst (v := 1) hx hb d_Model_numberOfOne_33 (by decide) ?_
      refine lv_ladd hx hb d_Model_numberOfOne_34 ?_
      refine lv_goto (tgt := 116) hx hb d_Model_numberOfOne_35 (by decide) ?_
      obtain ⟨m13, hq, hf⟩ := sd_bv_e hf
      refine k_callVv (As := [.long (x4 + (1 : Int64))]) (rest := []) (C := "ScriptDeskModel") (ci := 7) ZM_ok X hI (mt_Model_pushNumber_r0 l hq) (cwV 1 hts (gd_V tw_628 tw_630 ts_21 tw_9 tw_631) rfl rfl rfl (by decide +kernel) ⟨Nat.le_of_ble_eq_true rfl, Nat.le_of_ble_eq_true rfl⟩) 0 rfl rfl rfl hl.1 rfl (Nat.le_of_ble_eq_true rfl) d_Model_numberOfOne_116 ⟨Nat.zero_le _, Nat.zero_le _⟩ (fun H locs hI => ?_)
      exact k_retv X hI hf d_Model_numberOfOne_119
  · have hf := sd_t hf hc
    exact k_retv X hI hf d_Model_numberOfOne_8
set_option maxHeartbeats 4000000 in
set_option maxRecDepth 100000 in
theorem mt_Model_numberOfTwo_r0 (l : Launch) {D : va_G} {q tq : Nat → Nat} {cA : ClassId} {a1 : Int32} {μ : sd_Me} {ru : sd_Me} (hf : fn_Model_numberOfTwo_r0 a1 μ = some ru) : sd_CTv l y_Model_numberOfTwo w_Model_numberOfTwo ({ frames := 3, cells := 0, slots := 0, locals := 66 }) vwCl (wdM q cA) D [(cA, .int)] (ZM tq) [.ref (q 0), .int a1] μ ru := by
  refine k_entv (cc := prog_12_method_33_code) 6 (by decide) rfl (Nat.le_of_ble_eq_true rfl) ?_
  intro p e s m below meth c A ls X hI hl
  have hl : lv_has ls 6 [(0, .ref (q 0)), (1, .int a1)] := hl
  obtain ⟨hx, hb, hml, hown, hts, hK, hZ, hA, hr, hlocks⟩ := id X
  unfold fn_Model_numberOfTwo_r0 at hf
  refine lv_aload_n hx hb d_Model_numberOfTwo_0 rfl (lv_at hl 0 rfl) ?_
  refine lv_iconst (v := 0) hx hb d_Model_numberOfTwo_1 (by decide) ?_
  obtain ⟨x2, m1, hq, hf⟩ := sd_bi_e hf
  refine k_callV (As := [.int (0 : Int32)]) (rest := []) (C := "ScriptDeskModel") (ci := 7) ZM_ok X hI (mt_Model_reads_r0 l hq) (cwV 1 hts (gd_V tw_669 tw_671 ts_31 tw_9 tw_672) rfl rfl rfl (by decide +kernel) ⟨Nat.le_of_ble_eq_true rfl, Nat.le_of_ble_eq_true rfl⟩) 0 rfl rfl rfl hl.1 rfl (Nat.le_of_ble_eq_true rfl) d_Model_numberOfTwo_2 ⟨Nat.zero_le _, Nat.zero_le _⟩ (fun H locs hn_x2 hI => ?_)
  refine lv_if_ne (tgt := 9) hx hb d_Model_numberOfTwo_5 (by decide) (fun hc => ?_) (fun hc => ?_)
  · have hf := sd_f hf hc
    refine lv_aload_n hx hb d_Model_numberOfTwo_9 rfl (lv_at hl 0 rfl) ?_
    refine va_get (D := D) (ci := 7) (v := .long (m1.2 1)) (C := "ScriptDeskModel") (T := T_Model) (N := 18) hx hb hts iw_Model hown hK hI.1 0 rfl rfl 13 (by decide) (hts _ tw_544) (fun _ h9 => h9) rfl d_Model_numberOfTwo_10 ?_
    refine k_ll hf (fun x3 hf => ?_)
    refine lv_lstore_n (lv' := [(2, .long x3), (0, .ref (q 0)), (1, .int a1)]) hx hb d_Model_numberOfTwo_13 rfl hl (by decide) rfl (fun ls hl => ?_)
    refine lv_aload_n hx hb d_Model_numberOfTwo_14 rfl (lv_at hl 1 rfl) ?_
    refine lv_iconst (v := 1) hx hb d_Model_numberOfTwo_15 (by decide) ?_
    obtain ⟨x5, m4, hq, hf⟩ := sd_bi_e hf
    refine k_callV (As := [.int (1 : Int32)]) (rest := []) (C := "ScriptDeskModel") (ci := 7) ZM_ok X hI (mt_Model_reads_r0 l hq) (cwV 1 hts (gd_V tw_669 tw_671 ts_31 tw_9 tw_672) rfl rfl rfl (by decide +kernel) ⟨Nat.le_of_ble_eq_true rfl, Nat.le_of_ble_eq_true rfl⟩) 0 rfl rfl rfl hl.1 rfl (Nat.le_of_ble_eq_true rfl) d_Model_numberOfTwo_16 ⟨Nat.zero_le _, Nat.zero_le _⟩ (fun H locs hn_x5 hI => ?_)
    refine lv_if_ne (tgt := 23) hx hb d_Model_numberOfTwo_19 (by decide) (fun hc => ?_) (fun hc => ?_)
    · have hf := sd_f hf hc
      refine lv_aload_n hx hb d_Model_numberOfTwo_23 rfl (lv_at hl 1 rfl) ?_
      refine va_get (D := D) (ci := 7) (v := .long (m4.2 1)) (C := "ScriptDeskModel") (T := T_Model) (N := 18) hx hb hts iw_Model hown hK hI.1 0 rfl rfl 13 (by decide) (hts _ tw_544) (fun _ h9 => h9) rfl d_Model_numberOfTwo_24 ?_
      refine k_ll hf (fun x6 hf => ?_)
      refine lv_lstore (lv' := [(4, .long x6), (2, .long x3), (0, .ref (q 0)), (1, .int a1)]) hx hb d_Model_numberOfTwo_27 hl (by decide) rfl (fun ls hl => ?_)
      refine lv_iload_n hx hb d_Model_numberOfTwo_29 rfl (lv_at hl 3 rfl) ?_
      refine lv_sipush (v := 165) hx hb d_Model_numberOfTwo_30 (by decide) ?_
      refine lv_icmp_ne (tgt := 83) hx hb d_Model_numberOfTwo_33 (by decide) (fun hc => ?_) (fun hc => ?_)
      · have hf := sd_f hf hc
        refine lv_aload_n hx hb d_Model_numberOfTwo_83 rfl (lv_at hl 2 rfl) ?_
        refine lv_dup hx hb d_Model_numberOfTwo_84 rfl ?_
        refine va_get (D := D) (ci := 7) (v := .int (m4.1 0 2)) (C := "ScriptDeskModel") (T := T_Model) (N := 18) hx hb hts iw_Model hown hK hI.1 0 rfl rfl 2 (by decide) (hts _ tw_533) (fun _ h9 => h9) rfl d_Model_numberOfTwo_85 ?_
        refine lv_iconst (v := 2) hx hb d_Model_numberOfTwo_88 (by decide) ?_
        refine lv_isub hx hb d_Model_numberOfTwo_89 ?_
        refine k_put (ci := 7) (v := .int ((m4.1 0 2) - (2 : Int32))) (ty := .int) (C := "ScriptDeskModel") (T := T_Model) (N := 18) (μ' := sd_st m4 0 2 ((m4.1 0 2) - (2 : Int32))) hx hb hts iw_Model t_Model t_Model_ok n_Model hown hK hI 0 rfl rfl 2 (by decide) (hts _ tw_533) (fun _ h9 => h9) rfl (by decide +kernel) rfl rfl (Nat.le_of_ble_eq_true rfl) rfl d_Model_numberOfTwo_90 (fun H locs hI => ?_)
        obtain ⟨m7, hI, hf⟩ := k_lm hf hI
        refine lv_iload_n hx hb d_Model_numberOfTwo_93 rfl (lv_at hl 3 rfl) ?_
        by_cases hc147 : a1 = (147 : Int32)
        · have hf := sd_t hf hc147
          refine k_tbl (off := 82) (tgt := 176) hx hb d_Model_numberOfTwo_94 (by decide) (by rw [hc147]; decide) (by decide) ?_
          refine lv_aload_n hx hb d_Model_numberOfTwo_176 rfl (lv_at hl 2 rfl) ?_
          refine lv_lload hx hb d_Model_numberOfTwo_177 (lv_at hl 0 rfl) ?_
          refine lv_lload_n hx hb d_Model_numberOfTwo_179 rfl (lv_at hl 1 rfl) ?_
          refine lv_ladd hx hb d_Model_numberOfTwo_180 ?_
          obtain ⟨m8, hq, hf⟩ := sd_bv_e hf
          refine k_callVv (As := [.long (x6 + x3)]) (rest := []) (C := "ScriptDeskModel") (ci := 7) ZM_ok X hI (mt_Model_pushNumber_r0 l hq) (cwV 1 hts (gd_V tw_628 tw_630 ts_21 tw_9 tw_631) rfl rfl rfl (by decide +kernel) ⟨Nat.le_of_ble_eq_true rfl, Nat.le_of_ble_eq_true rfl⟩) 0 rfl rfl rfl hl.1 rfl (Nat.le_of_ble_eq_true rfl) d_Model_numberOfTwo_181 ⟨Nat.zero_le _, Nat.zero_le _⟩ (fun H locs hI => ?_)
          refine lv_goto (tgt := 422) hx hb d_Model_numberOfTwo_184 (by decide) ?_
          exact k_retv X hI hf d_Model_numberOfTwo_422
        · have hf := sd_f hf hc147
          by_cases hc148 : a1 = (148 : Int32)
          · have hf := sd_t hf hc148
            refine k_tbl (off := 93) (tgt := 187) hx hb d_Model_numberOfTwo_94 (by decide) (by rw [hc148]; decide) (by decide) ?_
            refine lv_aload_n hx hb d_Model_numberOfTwo_187 rfl (lv_at hl 2 rfl) ?_
            refine lv_lload hx hb d_Model_numberOfTwo_188 (lv_at hl 0 rfl) ?_
            refine lv_lload_n hx hb d_Model_numberOfTwo_190 rfl (lv_at hl 1 rfl) ?_
            refine lv_lsub hx hb d_Model_numberOfTwo_191 ?_
            obtain ⟨m9, hq, hf⟩ := sd_bv_e hf
            refine k_callVv (As := [.long (x6 - x3)]) (rest := []) (C := "ScriptDeskModel") (ci := 7) ZM_ok X hI (mt_Model_pushNumber_r0 l hq) (cwV 1 hts (gd_V tw_628 tw_630 ts_21 tw_9 tw_631) rfl rfl rfl (by decide +kernel) ⟨Nat.le_of_ble_eq_true rfl, Nat.le_of_ble_eq_true rfl⟩) 0 rfl rfl rfl hl.1 rfl (Nat.le_of_ble_eq_true rfl) d_Model_numberOfTwo_192 ⟨Nat.zero_le _, Nat.zero_le _⟩ (fun H locs hI => ?_)
            refine lv_goto (tgt := 422) hx hb d_Model_numberOfTwo_195 (by decide) ?_
            exact k_retv X hI hf d_Model_numberOfTwo_422
          · have hf := sd_f hf hc148
            by_cases hc154 : a1 = (154 : Int32)
            · have hf := sd_t hf hc154
              refine k_tbl (off := 104) (tgt := 198) hx hb d_Model_numberOfTwo_94 (by decide) (by rw [hc154]; decide) (by decide) ?_
              refine lv_aload_n hx hb d_Model_numberOfTwo_198 rfl (lv_at hl 2 rfl) ?_
              refine lv_lload hx hb d_Model_numberOfTwo_199 (lv_at hl 0 rfl) ?_
              refine lv_lconst (v := 0) hx hb d_Model_numberOfTwo_201 (by decide) ?_
              refine W.lcmp hx hb d_Model_numberOfTwo_202 ?_
              refine lv_if_eq (tgt := 216) hx hb d_Model_numberOfTwo_203 (by decide) (fun hc => ?_) (fun hc => ?_)
              · have hf := sd_t hf hc
                refine lv_iconst (v := 0) hx hb d_Model_numberOfTwo_216 (by decide) ?_
                obtain ⟨m10, hq, hf⟩ := sd_bv_e hf
                refine k_callVv (As := [.int (0 : Int32)]) (rest := []) (C := "ScriptDeskModel") (ci := 7) ZM_ok X hI (mt_Model_pushTruth_r0 l hq) (cwV 1 hts (gd_V tw_681 tw_683 ts_34 tw_9 tw_684) rfl rfl rfl (by decide +kernel) ⟨Nat.le_of_ble_eq_true rfl, Nat.le_of_ble_eq_true rfl⟩) 0 rfl rfl rfl hl.1 rfl (Nat.le_of_ble_eq_true rfl) d_Model_numberOfTwo_217 ⟨Nat.zero_le _, Nat.zero_le _⟩ (fun H locs hI => ?_)
                refine lv_goto (tgt := 422) hx hb d_Model_numberOfTwo_220 (by decide) ?_
                exact k_retv X hI hf d_Model_numberOfTwo_422
              · have hf := sd_f hf hc
                refine lv_lload_n hx hb d_Model_numberOfTwo_206 rfl (lv_at hl 1 rfl) ?_
                refine lv_lconst (v := 0) hx hb d_Model_numberOfTwo_207 (by decide) ?_
                refine W.lcmp hx hb d_Model_numberOfTwo_208 ?_
                refine lv_if_eq (tgt := 216) hx hb d_Model_numberOfTwo_209 (by decide) (fun hc => ?_) (fun hc => ?_)
                · have hf := sd_t hf hc
                  refine lv_iconst (v := 0) hx hb d_Model_numberOfTwo_216 (by decide) ?_
                  obtain ⟨m11, hq, hf⟩ := sd_bv_e hf
                  refine k_callVv (As := [.int (0 : Int32)]) (rest := []) (C := "ScriptDeskModel") (ci := 7) ZM_ok X hI (mt_Model_pushTruth_r0 l hq) (cwV 1 hts (gd_V tw_681 tw_683 ts_34 tw_9 tw_684) rfl rfl rfl (by decide +kernel) ⟨Nat.le_of_ble_eq_true rfl, Nat.le_of_ble_eq_true rfl⟩) 0 rfl rfl rfl hl.1 rfl (Nat.le_of_ble_eq_true rfl) d_Model_numberOfTwo_217 ⟨Nat.zero_le _, Nat.zero_le _⟩ (fun H locs hI => ?_)
                  refine lv_goto (tgt := 422) hx hb d_Model_numberOfTwo_220 (by decide) ?_
                  exact k_retv X hI hf d_Model_numberOfTwo_422
                · have hf := sd_f hf hc
                  refine lv_iconst (v := 1) hx hb d_Model_numberOfTwo_212 (by decide) ?_
                  refine lv_goto (tgt := 217) hx hb d_Model_numberOfTwo_213 (by decide) ?_
                  obtain ⟨m12, hq, hf⟩ := sd_bv_e hf
                  refine k_callVv (As := [.int (1 : Int32)]) (rest := []) (C := "ScriptDeskModel") (ci := 7) ZM_ok X hI (mt_Model_pushTruth_r0 l hq) (cwV 1 hts (gd_V tw_681 tw_683 ts_34 tw_9 tw_684) rfl rfl rfl (by decide +kernel) ⟨Nat.le_of_ble_eq_true rfl, Nat.le_of_ble_eq_true rfl⟩) 0 rfl rfl rfl hl.1 rfl (Nat.le_of_ble_eq_true rfl) d_Model_numberOfTwo_217 ⟨Nat.zero_le _, Nat.zero_le _⟩ (fun H locs hI => ?_)
                  refine lv_goto (tgt := 422) hx hb d_Model_numberOfTwo_220 (by decide) ?_
                  exact k_retv X hI hf d_Model_numberOfTwo_422
            · have hf := sd_f hf hc154
              by_cases hc155 : a1 = (155 : Int32)
              · have hf := sd_t hf hc155
                refine k_tbl (off := 129) (tgt := 223) hx hb d_Model_numberOfTwo_94 (by decide) (by rw [hc155]; decide) (by decide) ?_
                refine lv_aload_n hx hb d_Model_numberOfTwo_223 rfl (lv_at hl 2 rfl) ?_
                refine lv_lload hx hb d_Model_numberOfTwo_224 (lv_at hl 0 rfl) ?_
                refine lv_lconst (v := 0) hx hb d_Model_numberOfTwo_226 (by decide) ?_
                refine W.lcmp hx hb d_Model_numberOfTwo_227 ?_
                refine lv_if_ne (tgt := 237) hx hb d_Model_numberOfTwo_228 (by decide) (fun hc => ?_) (fun hc => ?_)
                · have hf := sd_f hf hc
                  refine lv_iconst (v := 1) hx hb d_Model_numberOfTwo_237 (by decide) ?_
                  refine lv_goto (tgt := 242) hx hb d_Model_numberOfTwo_238 (by decide) ?_
                  obtain ⟨m13, hq, hf⟩ := sd_bv_e hf
                  refine k_callVv (As := [.int (1 : Int32)]) (rest := []) (C := "ScriptDeskModel") (ci := 7) ZM_ok X hI (mt_Model_pushTruth_r0 l hq) (cwV 1 hts (gd_V tw_681 tw_683 ts_34 tw_9 tw_684) rfl rfl rfl (by decide +kernel) ⟨Nat.le_of_ble_eq_true rfl, Nat.le_of_ble_eq_true rfl⟩) 0 rfl rfl rfl hl.1 rfl (Nat.le_of_ble_eq_true rfl) d_Model_numberOfTwo_242 ⟨Nat.zero_le _, Nat.zero_le _⟩ (fun H locs hI => ?_)
                  refine lv_goto (tgt := 422) hx hb d_Model_numberOfTwo_245 (by decide) ?_
                  exact k_retv X hI hf d_Model_numberOfTwo_422
                · have hf := sd_t hf hc
                  refine lv_lload_n hx hb d_Model_numberOfTwo_231 rfl (lv_at hl 1 rfl) ?_
                  refine lv_lconst (v := 0) hx hb d_Model_numberOfTwo_232 (by decide) ?_
                  refine W.lcmp hx hb d_Model_numberOfTwo_233 ?_
                  refine lv_if_eq (tgt := 241) hx hb d_Model_numberOfTwo_234 (by decide) (fun hc => ?_) (fun hc => ?_)
                  · have hf := sd_t hf hc
                    refine lv_iconst (v := 0) hx hb d_Model_numberOfTwo_241 (by decide) ?_
                    obtain ⟨m14, hq, hf⟩ := sd_bv_e hf
                    refine k_callVv (As := [.int (0 : Int32)]) (rest := []) (C := "ScriptDeskModel") (ci := 7) ZM_ok X hI (mt_Model_pushTruth_r0 l hq) (cwV 1 hts (gd_V tw_681 tw_683 ts_34 tw_9 tw_684) rfl rfl rfl (by decide +kernel) ⟨Nat.le_of_ble_eq_true rfl, Nat.le_of_ble_eq_true rfl⟩) 0 rfl rfl rfl hl.1 rfl (Nat.le_of_ble_eq_true rfl) d_Model_numberOfTwo_242 ⟨Nat.zero_le _, Nat.zero_le _⟩ (fun H locs hI => ?_)
                    refine lv_goto (tgt := 422) hx hb d_Model_numberOfTwo_245 (by decide) ?_
                    exact k_retv X hI hf d_Model_numberOfTwo_422
                  · have hf := sd_f hf hc
                    refine lv_iconst (v := 1) hx hb d_Model_numberOfTwo_237 (by decide) ?_
                    refine lv_goto (tgt := 242) hx hb d_Model_numberOfTwo_238 (by decide) ?_
                    obtain ⟨m15, hq, hf⟩ := sd_bv_e hf
                    refine k_callVv (As := [.int (1 : Int32)]) (rest := []) (C := "ScriptDeskModel") (ci := 7) ZM_ok X hI (mt_Model_pushTruth_r0 l hq) (cwV 1 hts (gd_V tw_681 tw_683 ts_34 tw_9 tw_684) rfl rfl rfl (by decide +kernel) ⟨Nat.le_of_ble_eq_true rfl, Nat.le_of_ble_eq_true rfl⟩) 0 rfl rfl rfl hl.1 rfl (Nat.le_of_ble_eq_true rfl) d_Model_numberOfTwo_242 ⟨Nat.zero_le _, Nat.zero_le _⟩ (fun H locs hI => ?_)
                    refine lv_goto (tgt := 422) hx hb d_Model_numberOfTwo_245 (by decide) ?_
                    exact k_retv X hI hf d_Model_numberOfTwo_422
              · have hf := sd_f hf hc155
                by_cases hc156 : a1 = (156 : Int32)
                · have hf := sd_t hf hc156
                  refine k_tbl (off := 154) (tgt := 248) hx hb d_Model_numberOfTwo_94 (by decide) (by rw [hc156]; decide) (by decide) ?_
                  refine lv_aload_n hx hb d_Model_numberOfTwo_248 rfl (lv_at hl 2 rfl) ?_
                  refine lv_lload hx hb d_Model_numberOfTwo_249 (lv_at hl 0 rfl) ?_
                  refine lv_lload_n hx hb d_Model_numberOfTwo_251 rfl (lv_at hl 1 rfl) ?_
                  refine W.lcmp hx hb d_Model_numberOfTwo_252 ?_
                  refine lv_if_ne (tgt := 260) hx hb d_Model_numberOfTwo_253 (by decide) (fun hc => ?_) (fun hc => ?_)
                  · have hf := sd_f hf hc
                    refine lv_iconst (v := 0) hx hb d_Model_numberOfTwo_260 (by decide) ?_
                    obtain ⟨m16, hq, hf⟩ := sd_bv_e hf
                    refine k_callVv (As := [.int (0 : Int32)]) (rest := []) (C := "ScriptDeskModel") (ci := 7) ZM_ok X hI (mt_Model_pushTruth_r0 l hq) (cwV 1 hts (gd_V tw_681 tw_683 ts_34 tw_9 tw_684) rfl rfl rfl (by decide +kernel) ⟨Nat.le_of_ble_eq_true rfl, Nat.le_of_ble_eq_true rfl⟩) 0 rfl rfl rfl hl.1 rfl (Nat.le_of_ble_eq_true rfl) d_Model_numberOfTwo_261 ⟨Nat.zero_le _, Nat.zero_le _⟩ (fun H locs hI => ?_)
                    refine lv_goto (tgt := 422) hx hb d_Model_numberOfTwo_264 (by decide) ?_
                    exact k_retv X hI hf d_Model_numberOfTwo_422
                  · have hf := sd_t hf hc
                    refine lv_iconst (v := 1) hx hb d_Model_numberOfTwo_256 (by decide) ?_
                    refine lv_goto (tgt := 261) hx hb d_Model_numberOfTwo_257 (by decide) ?_
                    obtain ⟨m17, hq, hf⟩ := sd_bv_e hf
                    refine k_callVv (As := [.int (1 : Int32)]) (rest := []) (C := "ScriptDeskModel") (ci := 7) ZM_ok X hI (mt_Model_pushTruth_r0 l hq) (cwV 1 hts (gd_V tw_681 tw_683 ts_34 tw_9 tw_684) rfl rfl rfl (by decide +kernel) ⟨Nat.le_of_ble_eq_true rfl, Nat.le_of_ble_eq_true rfl⟩) 0 rfl rfl rfl hl.1 rfl (Nat.le_of_ble_eq_true rfl) d_Model_numberOfTwo_261 ⟨Nat.zero_le _, Nat.zero_le _⟩ (fun H locs hI => ?_)
                    refine lv_goto (tgt := 422) hx hb d_Model_numberOfTwo_264 (by decide) ?_
                    exact k_retv X hI hf d_Model_numberOfTwo_422
                · have hf := sd_f hf hc156
                  by_cases hc157 : a1 = (157 : Int32)
                  · have hf := sd_t hf hc157
                    refine k_tbl (off := 173) (tgt := 267) hx hb d_Model_numberOfTwo_94 (by decide) (by rw [hc157]; decide) (by decide) ?_
                    refine lv_aload_n hx hb d_Model_numberOfTwo_267 rfl (lv_at hl 2 rfl) ?_
                    refine lv_lload hx hb d_Model_numberOfTwo_268 (lv_at hl 0 rfl) ?_
                    refine lv_lload_n hx hb d_Model_numberOfTwo_270 rfl (lv_at hl 1 rfl) ?_
                    refine W.lcmp hx hb d_Model_numberOfTwo_271 ?_
                    refine lv_if_ne (tgt := 279) hx hb d_Model_numberOfTwo_272 (by decide) (fun hc => ?_) (fun hc => ?_)
                    · have hf := sd_f hf hc
                      refine lv_iconst (v := 0) hx hb d_Model_numberOfTwo_279 (by decide) ?_
                      obtain ⟨m18, hq, hf⟩ := sd_bv_e hf
                      refine k_callVv (As := [.int (0 : Int32)]) (rest := []) (C := "ScriptDeskModel") (ci := 7) ZM_ok X hI (mt_Model_pushTruth_r0 l hq) (cwV 1 hts (gd_V tw_681 tw_683 ts_34 tw_9 tw_684) rfl rfl rfl (by decide +kernel) ⟨Nat.le_of_ble_eq_true rfl, Nat.le_of_ble_eq_true rfl⟩) 0 rfl rfl rfl hl.1 rfl (Nat.le_of_ble_eq_true rfl) d_Model_numberOfTwo_280 ⟨Nat.zero_le _, Nat.zero_le _⟩ (fun H locs hI => ?_)
                      refine lv_aload_n hx hb d_Model_numberOfTwo_283 rfl (lv_at hl 2 rfl) ?_
                      obtain ⟨m19, hq, hf⟩ := sd_bv_e hf
                      refine k_callVv (As := []) (rest := []) (C := "ScriptDeskModel") (ci := 7) ZM_ok X hI (mt_Model_mustBeTrue_r0 l hq) (cwV 0 hts (gd_V tw_685 tw_687 ts_35 tw_9 tw_688) rfl rfl rfl (by decide +kernel) ⟨Nat.le_of_ble_eq_true rfl, Nat.le_of_ble_eq_true rfl⟩) 0 rfl rfl rfl hl.1 rfl (Nat.le_of_ble_eq_true rfl) d_Model_numberOfTwo_284 ⟨Nat.zero_le _, Nat.zero_le _⟩ (fun H locs hI => ?_)
                      refine lv_goto (tgt := 422) hx hb d_Model_numberOfTwo_287 (by decide) ?_
                      exact k_retv X hI hf d_Model_numberOfTwo_422
                    · have hf := sd_t hf hc
                      refine lv_iconst (v := 1) hx hb d_Model_numberOfTwo_275 (by decide) ?_
                      refine lv_goto (tgt := 280) hx hb d_Model_numberOfTwo_276 (by decide) ?_
                      obtain ⟨m20, hq, hf⟩ := sd_bv_e hf
                      refine k_callVv (As := [.int (1 : Int32)]) (rest := []) (C := "ScriptDeskModel") (ci := 7) ZM_ok X hI (mt_Model_pushTruth_r0 l hq) (cwV 1 hts (gd_V tw_681 tw_683 ts_34 tw_9 tw_684) rfl rfl rfl (by decide +kernel) ⟨Nat.le_of_ble_eq_true rfl, Nat.le_of_ble_eq_true rfl⟩) 0 rfl rfl rfl hl.1 rfl (Nat.le_of_ble_eq_true rfl) d_Model_numberOfTwo_280 ⟨Nat.zero_le _, Nat.zero_le _⟩ (fun H locs hI => ?_)
                      refine lv_aload_n hx hb d_Model_numberOfTwo_283 rfl (lv_at hl 2 rfl) ?_
                      obtain ⟨m21, hq, hf⟩ := sd_bv_e hf
                      refine k_callVv (As := []) (rest := []) (C := "ScriptDeskModel") (ci := 7) ZM_ok X hI (mt_Model_mustBeTrue_r0 l hq) (cwV 0 hts (gd_V tw_685 tw_687 ts_35 tw_9 tw_688) rfl rfl rfl (by decide +kernel) ⟨Nat.le_of_ble_eq_true rfl, Nat.le_of_ble_eq_true rfl⟩) 0 rfl rfl rfl hl.1 rfl (Nat.le_of_ble_eq_true rfl) d_Model_numberOfTwo_284 ⟨Nat.zero_le _, Nat.zero_le _⟩ (fun H locs hI => ?_)
                      refine lv_goto (tgt := 422) hx hb d_Model_numberOfTwo_287 (by decide) ?_
                      exact k_retv X hI hf d_Model_numberOfTwo_422
                  · have hf := sd_f hf hc157
                    by_cases hc158 : a1 = (158 : Int32)
                    · have hf := sd_t hf hc158
                      refine k_tbl (off := 196) (tgt := 290) hx hb d_Model_numberOfTwo_94 (by decide) (by rw [hc158]; decide) (by decide) ?_
                      refine lv_aload_n hx hb d_Model_numberOfTwo_290 rfl (lv_at hl 2 rfl) ?_
                      refine lv_lload hx hb d_Model_numberOfTwo_291 (lv_at hl 0 rfl) ?_
                      refine lv_lload_n hx hb d_Model_numberOfTwo_293 rfl (lv_at hl 1 rfl) ?_
                      refine W.lcmp hx hb d_Model_numberOfTwo_294 ?_
                      refine lv_if_eq (tgt := 302) hx hb d_Model_numberOfTwo_295 (by decide) (fun hc => ?_) (fun hc => ?_)
                      · have hf := sd_t hf hc
                        refine lv_iconst (v := 0) hx hb d_Model_numberOfTwo_302 (by decide) ?_
                        obtain ⟨m22, hq, hf⟩ := sd_bv_e hf
                        refine k_callVv (As := [.int (0 : Int32)]) (rest := []) (C := "ScriptDeskModel") (ci := 7) ZM_ok X hI (mt_Model_pushTruth_r0 l hq) (cwV 1 hts (gd_V tw_681 tw_683 ts_34 tw_9 tw_684) rfl rfl rfl (by decide +kernel) ⟨Nat.le_of_ble_eq_true rfl, Nat.le_of_ble_eq_true rfl⟩) 0 rfl rfl rfl hl.1 rfl (Nat.le_of_ble_eq_true rfl) d_Model_numberOfTwo_303 ⟨Nat.zero_le _, Nat.zero_le _⟩ (fun H locs hI => ?_)
                        refine lv_goto (tgt := 422) hx hb d_Model_numberOfTwo_306 (by decide) ?_
                        exact k_retv X hI hf d_Model_numberOfTwo_422
                      · have hf := sd_f hf hc
                        refine lv_iconst (v := 1) hx hb d_Model_numberOfTwo_298 (by decide) ?_
                        refine lv_goto (tgt := 303) hx hb d_Model_numberOfTwo_299 (by decide) ?_
                        obtain ⟨m23, hq, hf⟩ := sd_bv_e hf
                        refine k_callVv (As := [.int (1 : Int32)]) (rest := []) (C := "ScriptDeskModel") (ci := 7) ZM_ok X hI (mt_Model_pushTruth_r0 l hq) (cwV 1 hts (gd_V tw_681 tw_683 ts_34 tw_9 tw_684) rfl rfl rfl (by decide +kernel) ⟨Nat.le_of_ble_eq_true rfl, Nat.le_of_ble_eq_true rfl⟩) 0 rfl rfl rfl hl.1 rfl (Nat.le_of_ble_eq_true rfl) d_Model_numberOfTwo_303 ⟨Nat.zero_le _, Nat.zero_le _⟩ (fun H locs hI => ?_)
                        refine lv_goto (tgt := 422) hx hb d_Model_numberOfTwo_306 (by decide) ?_
                        exact k_retv X hI hf d_Model_numberOfTwo_422
                    · have hf := sd_f hf hc158
                      by_cases hc159 : a1 = (159 : Int32)
                      · have hf := sd_t hf hc159
                        refine k_tbl (off := 215) (tgt := 309) hx hb d_Model_numberOfTwo_94 (by decide) (by rw [hc159]; decide) (by decide) ?_
                        refine lv_aload_n hx hb d_Model_numberOfTwo_309 rfl (lv_at hl 2 rfl) ?_
                        refine lv_lload hx hb d_Model_numberOfTwo_310 (lv_at hl 0 rfl) ?_
                        refine lv_lload_n hx hb d_Model_numberOfTwo_312 rfl (lv_at hl 1 rfl) ?_
                        refine W.lcmp hx hb d_Model_numberOfTwo_313 ?_
                        refine lv_if_ge (tgt := 321) hx hb d_Model_numberOfTwo_314 (by decide) (fun hc => ?_) (fun hc => ?_)
                        · have hf := sd_t hf hc
                          refine lv_iconst (v := 0) hx hb d_Model_numberOfTwo_321 (by decide) ?_
                          obtain ⟨m24, hq, hf⟩ := sd_bv_e hf
                          refine k_callVv (As := [.int (0 : Int32)]) (rest := []) (C := "ScriptDeskModel") (ci := 7) ZM_ok X hI (mt_Model_pushTruth_r0 l hq) (cwV 1 hts (gd_V tw_681 tw_683 ts_34 tw_9 tw_684) rfl rfl rfl (by decide +kernel) ⟨Nat.le_of_ble_eq_true rfl, Nat.le_of_ble_eq_true rfl⟩) 0 rfl rfl rfl hl.1 rfl (Nat.le_of_ble_eq_true rfl) d_Model_numberOfTwo_322 ⟨Nat.zero_le _, Nat.zero_le _⟩ (fun H locs hI => ?_)
                          refine lv_goto (tgt := 422) hx hb d_Model_numberOfTwo_325 (by decide) ?_
                          exact k_retv X hI hf d_Model_numberOfTwo_422
                        · have hf := sd_f hf hc
                          refine lv_iconst (v := 1) hx hb d_Model_numberOfTwo_317 (by decide) ?_
                          refine lv_goto (tgt := 322) hx hb d_Model_numberOfTwo_318 (by decide) ?_
                          obtain ⟨m25, hq, hf⟩ := sd_bv_e hf
                          refine k_callVv (As := [.int (1 : Int32)]) (rest := []) (C := "ScriptDeskModel") (ci := 7) ZM_ok X hI (mt_Model_pushTruth_r0 l hq) (cwV 1 hts (gd_V tw_681 tw_683 ts_34 tw_9 tw_684) rfl rfl rfl (by decide +kernel) ⟨Nat.le_of_ble_eq_true rfl, Nat.le_of_ble_eq_true rfl⟩) 0 rfl rfl rfl hl.1 rfl (Nat.le_of_ble_eq_true rfl) d_Model_numberOfTwo_322 ⟨Nat.zero_le _, Nat.zero_le _⟩ (fun H locs hI => ?_)
                          refine lv_goto (tgt := 422) hx hb d_Model_numberOfTwo_325 (by decide) ?_
                          exact k_retv X hI hf d_Model_numberOfTwo_422
                      · have hf := sd_f hf hc159
                        by_cases hc160 : a1 = (160 : Int32)
                        · have hf := sd_t hf hc160
                          refine k_tbl (off := 234) (tgt := 328) hx hb d_Model_numberOfTwo_94 (by decide) (by rw [hc160]; decide) (by decide) ?_
                          refine lv_aload_n hx hb d_Model_numberOfTwo_328 rfl (lv_at hl 2 rfl) ?_
                          refine lv_lload hx hb d_Model_numberOfTwo_329 (lv_at hl 0 rfl) ?_
                          refine lv_lload_n hx hb d_Model_numberOfTwo_331 rfl (lv_at hl 1 rfl) ?_
                          refine W.lcmp hx hb d_Model_numberOfTwo_332 ?_
                          refine lv_if_le (tgt := 340) hx hb d_Model_numberOfTwo_333 (by decide) (fun hc => ?_) (fun hc => ?_)
                          · have hf := sd_t hf hc
                            refine lv_iconst (v := 0) hx hb d_Model_numberOfTwo_340 (by decide) ?_
                            obtain ⟨m26, hq, hf⟩ := sd_bv_e hf
                            refine k_callVv (As := [.int (0 : Int32)]) (rest := []) (C := "ScriptDeskModel") (ci := 7) ZM_ok X hI (mt_Model_pushTruth_r0 l hq) (cwV 1 hts (gd_V tw_681 tw_683 ts_34 tw_9 tw_684) rfl rfl rfl (by decide +kernel) ⟨Nat.le_of_ble_eq_true rfl, Nat.le_of_ble_eq_true rfl⟩) 0 rfl rfl rfl hl.1 rfl (Nat.le_of_ble_eq_true rfl) d_Model_numberOfTwo_341 ⟨Nat.zero_le _, Nat.zero_le _⟩ (fun H locs hI => ?_)
                            refine lv_goto (tgt := 422) hx hb d_Model_numberOfTwo_344 (by decide) ?_
                            exact k_retv X hI hf d_Model_numberOfTwo_422
                          · have hf := sd_f hf hc
                            refine lv_iconst (v := 1) hx hb d_Model_numberOfTwo_336 (by decide) ?_
                            refine lv_goto (tgt := 341) hx hb d_Model_numberOfTwo_337 (by decide) ?_
                            obtain ⟨m27, hq, hf⟩ := sd_bv_e hf
                            refine k_callVv (As := [.int (1 : Int32)]) (rest := []) (C := "ScriptDeskModel") (ci := 7) ZM_ok X hI (mt_Model_pushTruth_r0 l hq) (cwV 1 hts (gd_V tw_681 tw_683 ts_34 tw_9 tw_684) rfl rfl rfl (by decide +kernel) ⟨Nat.le_of_ble_eq_true rfl, Nat.le_of_ble_eq_true rfl⟩) 0 rfl rfl rfl hl.1 rfl (Nat.le_of_ble_eq_true rfl) d_Model_numberOfTwo_341 ⟨Nat.zero_le _, Nat.zero_le _⟩ (fun H locs hI => ?_)
                            refine lv_goto (tgt := 422) hx hb d_Model_numberOfTwo_344 (by decide) ?_
                            exact k_retv X hI hf d_Model_numberOfTwo_422
                        · have hf := sd_f hf hc160
                          by_cases hc161 : a1 = (161 : Int32)
                          · have hf := sd_t hf hc161
                            refine k_tbl (off := 253) (tgt := 347) hx hb d_Model_numberOfTwo_94 (by decide) (by rw [hc161]; decide) (by decide) ?_
                            refine lv_aload_n hx hb d_Model_numberOfTwo_347 rfl (lv_at hl 2 rfl) ?_
                            refine lv_lload hx hb d_Model_numberOfTwo_348 (lv_at hl 0 rfl) ?_
                            refine lv_lload_n hx hb d_Model_numberOfTwo_350 rfl (lv_at hl 1 rfl) ?_
                            refine W.lcmp hx hb d_Model_numberOfTwo_351 ?_
                            refine lv_if_gt (tgt := 359) hx hb d_Model_numberOfTwo_352 (by decide) (fun hc => ?_) (fun hc => ?_)
                            · have hf := sd_t hf hc
                              refine lv_iconst (v := 0) hx hb d_Model_numberOfTwo_359 (by decide) ?_
                              obtain ⟨m28, hq, hf⟩ := sd_bv_e hf
                              refine k_callVv (As := [.int (0 : Int32)]) (rest := []) (C := "ScriptDeskModel") (ci := 7) ZM_ok X hI (mt_Model_pushTruth_r0 l hq) (cwV 1 hts (gd_V tw_681 tw_683 ts_34 tw_9 tw_684) rfl rfl rfl (by decide +kernel) ⟨Nat.le_of_ble_eq_true rfl, Nat.le_of_ble_eq_true rfl⟩) 0 rfl rfl rfl hl.1 rfl (Nat.le_of_ble_eq_true rfl) d_Model_numberOfTwo_360 ⟨Nat.zero_le _, Nat.zero_le _⟩ (fun H locs hI => ?_)
                              refine lv_goto (tgt := 422) hx hb d_Model_numberOfTwo_363 (by decide) ?_
                              exact k_retv X hI hf d_Model_numberOfTwo_422
                            · have hf := sd_f hf hc
                              refine lv_iconst (v := 1) hx hb d_Model_numberOfTwo_355 (by decide) ?_
                              refine lv_goto (tgt := 360) hx hb d_Model_numberOfTwo_356 (by decide) ?_
                              obtain ⟨m29, hq, hf⟩ := sd_bv_e hf
                              refine k_callVv (As := [.int (1 : Int32)]) (rest := []) (C := "ScriptDeskModel") (ci := 7) ZM_ok X hI (mt_Model_pushTruth_r0 l hq) (cwV 1 hts (gd_V tw_681 tw_683 ts_34 tw_9 tw_684) rfl rfl rfl (by decide +kernel) ⟨Nat.le_of_ble_eq_true rfl, Nat.le_of_ble_eq_true rfl⟩) 0 rfl rfl rfl hl.1 rfl (Nat.le_of_ble_eq_true rfl) d_Model_numberOfTwo_360 ⟨Nat.zero_le _, Nat.zero_le _⟩ (fun H locs hI => ?_)
                              refine lv_goto (tgt := 422) hx hb d_Model_numberOfTwo_363 (by decide) ?_
                              exact k_retv X hI hf d_Model_numberOfTwo_422
                          · have hf := sd_f hf hc161
                            by_cases hc162 : a1 = (162 : Int32)
                            · have hf := sd_t hf hc162
                              refine k_tbl (off := 272) (tgt := 366) hx hb d_Model_numberOfTwo_94 (by decide) (by rw [hc162]; decide) (by decide) ?_
                              refine lv_aload_n hx hb d_Model_numberOfTwo_366 rfl (lv_at hl 2 rfl) ?_
                              refine lv_lload hx hb d_Model_numberOfTwo_367 (lv_at hl 0 rfl) ?_
                              refine lv_lload_n hx hb d_Model_numberOfTwo_369 rfl (lv_at hl 1 rfl) ?_
                              refine W.lcmp hx hb d_Model_numberOfTwo_370 ?_
                              refine lv_if_lt (tgt := 378) hx hb d_Model_numberOfTwo_371 (by decide) (fun hc => ?_) (fun hc => ?_)
                              · have hf := sd_t hf hc
                                refine lv_iconst (v := 0) hx hb d_Model_numberOfTwo_378 (by decide) ?_
                                obtain ⟨m30, hq, hf⟩ := sd_bv_e hf
                                refine k_callVv (As := [.int (0 : Int32)]) (rest := []) (C := "ScriptDeskModel") (ci := 7) ZM_ok X hI (mt_Model_pushTruth_r0 l hq) (cwV 1 hts (gd_V tw_681 tw_683 ts_34 tw_9 tw_684) rfl rfl rfl (by decide +kernel) ⟨Nat.le_of_ble_eq_true rfl, Nat.le_of_ble_eq_true rfl⟩) 0 rfl rfl rfl hl.1 rfl (Nat.le_of_ble_eq_true rfl) d_Model_numberOfTwo_379 ⟨Nat.zero_le _, Nat.zero_le _⟩ (fun H locs hI => ?_)
                                refine lv_goto (tgt := 422) hx hb d_Model_numberOfTwo_382 (by decide) ?_
                                exact k_retv X hI hf d_Model_numberOfTwo_422
                              · have hf := sd_f hf hc
                                refine lv_iconst (v := 1) hx hb d_Model_numberOfTwo_374 (by decide) ?_
                                refine lv_goto (tgt := 379) hx hb d_Model_numberOfTwo_375 (by decide) ?_
                                obtain ⟨m31, hq, hf⟩ := sd_bv_e hf
                                refine k_callVv (As := [.int (1 : Int32)]) (rest := []) (C := "ScriptDeskModel") (ci := 7) ZM_ok X hI (mt_Model_pushTruth_r0 l hq) (cwV 1 hts (gd_V tw_681 tw_683 ts_34 tw_9 tw_684) rfl rfl rfl (by decide +kernel) ⟨Nat.le_of_ble_eq_true rfl, Nat.le_of_ble_eq_true rfl⟩) 0 rfl rfl rfl hl.1 rfl (Nat.le_of_ble_eq_true rfl) d_Model_numberOfTwo_379 ⟨Nat.zero_le _, Nat.zero_le _⟩ (fun H locs hI => ?_)
                                refine lv_goto (tgt := 422) hx hb d_Model_numberOfTwo_382 (by decide) ?_
                                exact k_retv X hI hf d_Model_numberOfTwo_422
                            · have hf := sd_f hf hc162
                              by_cases hc163 : a1 = (163 : Int32)
                              · have hf := sd_t hf hc163
                                refine k_tbl (off := 291) (tgt := 385) hx hb d_Model_numberOfTwo_94 (by decide) (by rw [hc163]; decide) (by decide) ?_
                                refine lv_aload_n hx hb d_Model_numberOfTwo_385 rfl (lv_at hl 2 rfl) ?_
                                refine lv_lload hx hb d_Model_numberOfTwo_386 (lv_at hl 0 rfl) ?_
                                refine lv_lload_n hx hb d_Model_numberOfTwo_388 rfl (lv_at hl 1 rfl) ?_
                                refine W.lcmp hx hb d_Model_numberOfTwo_389 ?_
                                refine lv_if_ge (tgt := 398) hx hb d_Model_numberOfTwo_390 (by decide) (fun hc => ?_) (fun hc => ?_)
                                · have hf := sd_t hf hc
                                  refine lv_lload_n hx hb d_Model_numberOfTwo_398 rfl (lv_at hl 1 rfl) ?_
                                  obtain ⟨m32, hq, hf⟩ := sd_bv_e hf
                                  refine k_callVv (As := [.long x3]) (rest := []) (C := "ScriptDeskModel") (ci := 7) ZM_ok X hI (mt_Model_pushNumber_r0 l hq) (cwV 1 hts (gd_V tw_628 tw_630 ts_21 tw_9 tw_631) rfl rfl rfl (by decide +kernel) ⟨Nat.le_of_ble_eq_true rfl, Nat.le_of_ble_eq_true rfl⟩) 0 rfl rfl rfl hl.1 rfl (Nat.le_of_ble_eq_true rfl) d_Model_numberOfTwo_399 ⟨Nat.zero_le _, Nat.zero_le _⟩ (fun H locs hI => ?_)
                                  refine lv_goto (tgt := 422) hx hb d_Model_numberOfTwo_402 (by decide) ?_
                                  exact k_retv X hI hf d_Model_numberOfTwo_422
                                · have hf := sd_f hf hc
                                  refine lv_lload hx hb d_Model_numberOfTwo_393 (lv_at hl 0 rfl) ?_
                                  refine lv_goto (tgt := 399) hx hb d_Model_numberOfTwo_395 (by decide) ?_
                                  obtain ⟨m33, hq, hf⟩ := sd_bv_e hf
                                  refine k_callVv (As := [.long x6]) (rest := []) (C := "ScriptDeskModel") (ci := 7) ZM_ok X hI (mt_Model_pushNumber_r0 l hq) (cwV 1 hts (gd_V tw_628 tw_630 ts_21 tw_9 tw_631) rfl rfl rfl (by decide +kernel) ⟨Nat.le_of_ble_eq_true rfl, Nat.le_of_ble_eq_true rfl⟩) 0 rfl rfl rfl hl.1 rfl (Nat.le_of_ble_eq_true rfl) d_Model_numberOfTwo_399 ⟨Nat.zero_le _, Nat.zero_le _⟩ (fun H locs hI => ?_)
                                  refine lv_goto (tgt := 422) hx hb d_Model_numberOfTwo_402 (by decide) ?_
                                  exact k_retv X hI hf d_Model_numberOfTwo_422
                              · have hf := sd_f hf hc163
                                refine k_tbl (off := 311) (tgt := 405) hx hb d_Model_numberOfTwo_94 (by decide) (k_tbld [(147 : Int32), (148 : Int32), (154 : Int32), (155 : Int32), (156 : Int32), (157 : Int32), (158 : Int32), (159 : Int32), (160 : Int32), (161 : Int32), (162 : Int32), (163 : Int32)] (by decide) (by
                                    intro k hk
                                    simp only [List.mem_cons, List.not_mem_nil, or_false] at hk
                                    rcases hk with rfl | rfl | rfl | rfl | rfl | rfl | rfl | rfl | rfl | rfl | rfl | rfl
                                    · exact hc147
                                    · exact hc148
                                    · exact hc154
                                    · exact hc155
                                    · exact hc156
                                    · exact hc157
                                    · exact hc158
                                    · exact hc159
                                    · exact hc160
                                    · exact hc161
                                    · exact hc162
                                    · exact hc163
                                    )) (by decide) ?_
                                refine lv_aload_n hx hb d_Model_numberOfTwo_405 rfl (lv_at hl 2 rfl) ?_
                                refine lv_lload hx hb d_Model_numberOfTwo_406 (lv_at hl 0 rfl) ?_
                                refine lv_lload_n hx hb d_Model_numberOfTwo_408 rfl (lv_at hl 1 rfl) ?_
                                refine W.lcmp hx hb d_Model_numberOfTwo_409 ?_
                                refine lv_if_le (tgt := 418) hx hb d_Model_numberOfTwo_410 (by decide) (fun hc => ?_) (fun hc => ?_)
                                · have hf := sd_t hf hc
                                  refine lv_lload_n hx hb d_Model_numberOfTwo_418 rfl (lv_at hl 1 rfl) ?_
                                  obtain ⟨m34, hq, hf⟩ := sd_bv_e hf
                                  refine k_callVv (As := [.long x3]) (rest := []) (C := "ScriptDeskModel") (ci := 7) ZM_ok X hI (mt_Model_pushNumber_r0 l hq) (cwV 1 hts (gd_V tw_628 tw_630 ts_21 tw_9 tw_631) rfl rfl rfl (by decide +kernel) ⟨Nat.le_of_ble_eq_true rfl, Nat.le_of_ble_eq_true rfl⟩) 0 rfl rfl rfl hl.1 rfl (Nat.le_of_ble_eq_true rfl) d_Model_numberOfTwo_419 ⟨Nat.zero_le _, Nat.zero_le _⟩ (fun H locs hI => ?_)
                                  exact k_retv X hI hf d_Model_numberOfTwo_422
                                · have hf := sd_f hf hc
                                  refine lv_lload hx hb d_Model_numberOfTwo_413 (lv_at hl 0 rfl) ?_
                                  refine lv_goto (tgt := 419) hx hb d_Model_numberOfTwo_415 (by decide) ?_
                                  obtain ⟨m35, hq, hf⟩ := sd_bv_e hf
                                  refine k_callVv (As := [.long x6]) (rest := []) (C := "ScriptDeskModel") (ci := 7) ZM_ok X hI (mt_Model_pushNumber_r0 l hq) (cwV 1 hts (gd_V tw_628 tw_630 ts_21 tw_9 tw_631) rfl rfl rfl (by decide +kernel) ⟨Nat.le_of_ble_eq_true rfl, Nat.le_of_ble_eq_true rfl⟩) 0 rfl rfl rfl hl.1 rfl (Nat.le_of_ble_eq_true rfl) d_Model_numberOfTwo_419 ⟨Nat.zero_le _, Nat.zero_le _⟩ (fun H locs hI => ?_)
                                  exact k_retv X hI hf d_Model_numberOfTwo_422
      · have hf := sd_t hf hc
        refine lv_aload_n hx hb d_Model_numberOfTwo_36 rfl (lv_at hl 2 rfl) ?_
        refine lv_iconst (v := 2) hx hb d_Model_numberOfTwo_37 (by decide) ?_
        obtain ⟨x37, m36, hq, hf⟩ := sd_bi_e hf
        refine k_callV (As := [.int (2 : Int32)]) (rest := []) (C := "ScriptDeskModel") (ci := 7) ZM_ok X hI (mt_Model_reads_r0 l hq) (cwV 1 hts (gd_V tw_669 tw_671 ts_31 tw_9 tw_672) rfl rfl rfl (by decide +kernel) ⟨Nat.le_of_ble_eq_true rfl, Nat.le_of_ble_eq_true rfl⟩) 0 rfl rfl rfl hl.1 rfl (Nat.le_of_ble_eq_true rfl) d_Model_numberOfTwo_38 ⟨Nat.zero_le _, Nat.zero_le _⟩ (fun H locs hn_x37 hI => ?_)
        refine lv_if_eq (tgt := 82) hx hb d_Model_numberOfTwo_41 (by decide) (fun hc => ?_) (fun hc => ?_)
        · have hf := sd_t hf hc
          exact k_retv X hI hf d_Model_numberOfTwo_82
        · have hf := sd_f hf hc
          refine lv_aload_n hx hb d_Model_numberOfTwo_44 rfl (lv_at hl 2 rfl) ?_
          refine lv_dup hx hb d_Model_numberOfTwo_45 rfl ?_
          refine va_get (D := D) (ci := 7) (v := .int (m36.1 0 2)) (C := "ScriptDeskModel") (T := T_Model) (N := 18) hx hb hts iw_Model hown hK hI.1 0 rfl rfl 2 (by decide) (hts _ tw_533) (fun _ h9 => h9) rfl d_Model_numberOfTwo_46 ?_
          refine lv_iconst (v := 3) hx hb d_Model_numberOfTwo_49 (by decide) ?_
          refine lv_isub hx hb d_Model_numberOfTwo_50 ?_
          refine k_put (ci := 7) (v := .int ((m36.1 0 2) - (3 : Int32))) (ty := .int) (C := "ScriptDeskModel") (T := T_Model) (N := 18) (μ' := sd_st m36 0 2 ((m36.1 0 2) - (3 : Int32))) hx hb hts iw_Model t_Model t_Model_ok n_Model hown hK hI 0 rfl rfl 2 (by decide) (hts _ tw_533) (fun _ h9 => h9) rfl (by decide +kernel) rfl rfl (Nat.le_of_ble_eq_true rfl) rfl d_Model_numberOfTwo_51 (fun H locs hI => ?_)
          obtain ⟨m38, hI, hf⟩ := k_lm hf hI
          refine lv_aload_n hx hb d_Model_numberOfTwo_54 rfl (lv_at hl 2 rfl) ?_
          refine lv_lload hx hb d_Model_numberOfTwo_55 (lv_at hl 0 rfl) ?_
          refine lv_aload_n hx hb d_Model_numberOfTwo_57 rfl (lv_at hl 2 rfl) ?_
          refine va_get (D := D) (ci := 7) (v := .long (m38.2 1)) (C := "ScriptDeskModel") (T := T_Model) (N := 18) hx hb hts iw_Model hown hK hI.1 0 rfl rfl 13 (by decide) (hts _ tw_544) (fun _ h9 => h9) rfl d_Model_numberOfTwo_58 ?_
          refine W.lcmp hx hb d_Model_numberOfTwo_61 ?_
          refine lv_if_gt (tgt := 78) hx hb d_Model_numberOfTwo_62 (by decide) (fun hc => ?_) (fun hc => ?_)
          · have hf := sd_t hf hc
            refine lv_iconst (v := 0) hx hb d_Model_numberOfTwo_78 (by decide) ?_
            obtain ⟨m39, hq, hf⟩ := sd_bv_e hf
            refine k_callVv (As := [.int (0 : Int32)]) (rest := []) (C := "ScriptDeskModel") (ci := 7) ZM_ok X hI (mt_Model_pushTruth_r0 l hq) (cwV 1 hts (gd_V tw_681 tw_683 ts_34 tw_9 tw_684) rfl rfl rfl (by decide +kernel) ⟨Nat.le_of_ble_eq_true rfl, Nat.le_of_ble_eq_true rfl⟩) 0 rfl rfl rfl hl.1 rfl (Nat.le_of_ble_eq_true rfl) d_Model_numberOfTwo_79 ⟨Nat.zero_le _, Nat.zero_le _⟩ (fun H locs hI => ?_)
            exact k_retv X hI hf d_Model_numberOfTwo_82
          · have hf := sd_f hf hc
            refine lv_aload_n hx hb d_Model_numberOfTwo_65 rfl (lv_at hl 2 rfl) ?_
            refine va_get (D := D) (ci := 7) (v := .long (m38.2 1)) (C := "ScriptDeskModel") (T := T_Model) (N := 18) hx hb hts iw_Model hown hK hI.1 0 rfl rfl 13 (by decide) (hts _ tw_544) (fun _ h9 => h9) rfl d_Model_numberOfTwo_66 ?_
            refine lv_lload_n hx hb d_Model_numberOfTwo_69 rfl (lv_at hl 1 rfl) ?_
            refine W.lcmp hx hb d_Model_numberOfTwo_70 ?_
            refine lv_if_ge (tgt := 78) hx hb d_Model_numberOfTwo_71 (by decide) (fun hc => ?_) (fun hc => ?_)
            · have hf := sd_t hf hc
              refine lv_iconst (v := 0) hx hb d_Model_numberOfTwo_78 (by decide) ?_
              obtain ⟨m40, hq, hf⟩ := sd_bv_e hf
              refine k_callVv (As := [.int (0 : Int32)]) (rest := []) (C := "ScriptDeskModel") (ci := 7) ZM_ok X hI (mt_Model_pushTruth_r0 l hq) (cwV 1 hts (gd_V tw_681 tw_683 ts_34 tw_9 tw_684) rfl rfl rfl (by decide +kernel) ⟨Nat.le_of_ble_eq_true rfl, Nat.le_of_ble_eq_true rfl⟩) 0 rfl rfl rfl hl.1 rfl (Nat.le_of_ble_eq_true rfl) d_Model_numberOfTwo_79 ⟨Nat.zero_le _, Nat.zero_le _⟩ (fun H locs hI => ?_)
              exact k_retv X hI hf d_Model_numberOfTwo_82
            · have hf := sd_f hf hc
              refine lv_iconst (v := 1) hx hb d_Model_numberOfTwo_74 (by decide) ?_
              refine lv_goto (tgt := 79) hx hb d_Model_numberOfTwo_75 (by decide) ?_
              obtain ⟨m41, hq, hf⟩ := sd_bv_e hf
              refine k_callVv (As := [.int (1 : Int32)]) (rest := []) (C := "ScriptDeskModel") (ci := 7) ZM_ok X hI (mt_Model_pushTruth_r0 l hq) (cwV 1 hts (gd_V tw_681 tw_683 ts_34 tw_9 tw_684) rfl rfl rfl (by decide +kernel) ⟨Nat.le_of_ble_eq_true rfl, Nat.le_of_ble_eq_true rfl⟩) 0 rfl rfl rfl hl.1 rfl (Nat.le_of_ble_eq_true rfl) d_Model_numberOfTwo_79 ⟨Nat.zero_le _, Nat.zero_le _⟩ (fun H locs hI => ?_)
              exact k_retv X hI hf d_Model_numberOfTwo_82
    · have hf := sd_t hf hc
      exact k_retv X hI hf d_Model_numberOfTwo_22
  · have hf := sd_t hf hc
    exact k_retv X hI hf d_Model_numberOfTwo_8
set_option maxHeartbeats 4000000 in
set_option maxRecDepth 100000 in
theorem lp_Model_pad_r0_L19 (l : Launch) {p : Program} {e : Env} {s : State} {m : MethodId} {args : Array Value} {below : List Frame} {meth : Method} {c : Code} {A : Nat → Prop} {D : va_G} {q tq : Nat → Nat} {cA : ClassId} {ru : Int32 × sd_Me} (X : sd_Cx p s m args meth c prog_12_method_15_code "ScriptDeskModel" sx_tbl 7 (some .int) vwCl D [(cA, .int)] (ZM tq) A) {k74 : Int32 → Int32 → Int32 → sd_Me → Option (Int32 × sd_Me)} (hk74 : ∀ (v2 : Int32) (v3 : Int32) (v4 : Int32) (μ : sd_Me) (H : Heap) (locs : List Loc) (ls : Array Slot), sd_CI vwCl (wdM q cA) D A s H locs μ → lv_has ls 7 [(0, .ref (q 0)), (2, .int v2), (3, .int v3), (4, .int v4)] → k74 v2 v3 v4 μ = some ru → W p l e ({ frames := 0, cells := 0, slots := 0, locals := 0 }) s m args below meth c H locs 0 0 (sd_QI below vwCl (wdM q cA) D [(cA, .int)] .int A args s ru) (F0 m 74 ls [])) :
    ∀ (n : Nat) (v1 : Int32) (v2 : Int32) (v3 : Int32) (v4 : Int32) (v5 : Int32) (μ : sd_Me) (H : Heap) (locs : List Loc) (ls : Array Slot), sd_CI vwCl (wdM q cA) D A s H locs μ → lv_has ls 7 [(0, .ref (q 0)), (1, .int v1), (2, .int v2), (3, .int v3), (4, .int v4), (5, .int v5)] → fn_Model_pad_r0_L19 k74 n v1 v2 v3 v4 v5 μ = some ru → W p l e ({ frames := 0, cells := 0, slots := 0, locals := 0 }) s m args below meth c H locs 0 0 (sd_QI below vwCl (wdM q cA) D [(cA, .int)] .int A args s ru) (F0 m 19 ls []) := by
  obtain ⟨hx, hb, hml, hown, hts, hK, hZ, hA, hr, hlocks⟩ := id X
  intro n
  induction n with
  | zero =>
    intro v1 v2 v3 v4 v5 μ H locs ls hI hl hf
    cases hf
  | succ n ih =>
    intro v1 v2 v3 v4 v5 μ H locs ls hI hl hf
    rw [fn_Model_pad_r0_L19] at hf
    refine lv_iload hx hb d_Model_pad_19 (lv_at hl 5 rfl) ?_
    refine lv_sipush (v := 192) hx hb d_Model_pad_21 (by decide) ?_
    refine lv_icmp_ge (tgt := 74) hx hb d_Model_pad_24 (by decide) (fun hc => ?_) (fun hc => ?_)
    · have hf := sd_t hf hc
      exact hk74 (v2) (v3) (v4) μ _ _ _ hI (lv_sub hl [0, 2, 3, 4] rfl) hf
    · have hf := sd_f hf hc
      refine lv_aload_n hx hb d_Model_pad_27 rfl (lv_at hl 0 rfl) ?_
      refine va_get (D := D) (ci := 7) (v := .ref (q 5)) (C := "ScriptDeskModel") (T := T_Model) (N := 18) hx hb hts iw_Model hown hK hI.1 0 rfl rfl 14 (by decide) (hts _ tw_545) (fun _ h9 => h9) rfl d_Model_pad_28 ?_
      refine lv_iload hx hb d_Model_pad_31 (lv_at hl 5 rfl) ?_
      refine lv_iload hx hb d_Model_pad_33 (lv_at hl 5 rfl) ?_
      refine lv_iload_n hx hb d_Model_pad_35 rfl (lv_at hl 3 rfl) ?_
      refine lv_icmp_ge (tgt := 54) hx hb d_Model_pad_36 (by decide) (fun hc => ?_) (fun hc => ?_)
      · have hf := sd_t hf hc
        refine lv_iload hx hb d_Model_pad_54 (lv_at hl 5 rfl) ?_
        refine lv_iload_n hx hb d_Model_pad_56 rfl (lv_at hl 3 rfl) ?_
        refine lv_icmp_ne (tgt := 66) hx hb d_Model_pad_57 (by decide) (fun hc => ?_) (fun hc => ?_)
        · have hf := sd_f hf hc
          refine lv_iconst (v := 0) hx hb d_Model_pad_66 (by decide) ?_
          obtain ⟨hg, hf⟩ := sd_gd_e hf
          refine k_iast (μ' := sd_st μ 5 (Int32.toNatClampNeg v5) (0 : Int32)) hx hb hK hI 5 0 rfl rfl rfl hg d_Model_pad_67 (fun H locs hI => ?_)
          obtain ⟨m3, hI, hf⟩ := k_lm hf hI
          refine lv_iinc (v := (v5 + (1 : Int32))) (lv' := [(5, .int (v5 + (1 : Int32))), (0, .ref (q 0)), (1, .int v1), (2, .int v2), (3, .int v3), (4, .int v4)]) hx hb d_Model_pad_68 hl (k := 5) rfl rfl (by decide) rfl (fun ls hl => ?_)
          refine lv_goto (tgt := 19) hx hb d_Model_pad_71 (by decide) ?_
          exact ih (v1) (v2) (v3) (v4) ((v5 + (1 : Int32))) m3 _ _ _ hI (lv_sub hl [1, 2, 3, 4, 5, 0] rfl) hf
        · have hf := sd_t hf hc
          refine lv_sipush (v := 128) hx hb d_Model_pad_60 (by decide) ?_
          refine lv_goto (tgt := 67) hx hb d_Model_pad_63 (by decide) ?_
          obtain ⟨hg, hf⟩ := sd_gd_e hf
          refine k_iast (μ' := sd_st μ 5 (Int32.toNatClampNeg v5) (128 : Int32)) hx hb hK hI 5 0 rfl rfl rfl hg d_Model_pad_67 (fun H locs hI => ?_)
          obtain ⟨m4, hI, hf⟩ := k_lm hf hI
          refine lv_iinc (v := (v5 + (1 : Int32))) (lv' := [(5, .int (v5 + (1 : Int32))), (0, .ref (q 0)), (1, .int v1), (2, .int v2), (3, .int v3), (4, .int v4)]) hx hb d_Model_pad_68 hl (k := 5) rfl rfl (by decide) rfl (fun ls hl => ?_)
          refine lv_goto (tgt := 19) hx hb d_Model_pad_71 (by decide) ?_
          exact ih (v1) (v2) (v3) (v4) ((v5 + (1 : Int32))) m4 _ _ _ hI (lv_sub hl [1, 2, 3, 4, 5, 0] rfl) hf
      · have hf := sd_f hf hc
        refine lv_aload_n hx hb d_Model_pad_39 rfl (lv_at hl 0 rfl) ?_
        refine va_get (D := D) (ci := 7) (v := .ref (q 1)) (C := "ScriptDeskModel") (T := T_Model) (N := 18) hx hb hts iw_Model hown hK hI.1 0 rfl rfl 0 (by decide) (hts _ tw_531) (fun _ h9 => h9) rfl d_Model_pad_40 ?_
        refine lv_bipush (v := 120) hx hb d_Model_pad_43 (by decide) ?_
        refine lv_iload_n hx hb d_Model_pad_45 rfl (lv_at hl 1 rfl) ?_
        refine lv_imul hx hb d_Model_pad_46 ?_
        refine lv_iload hx hb d_Model_pad_47 (lv_at hl 5 rfl) ?_
        refine lv_iadd hx hb d_Model_pad_49 ?_
        obtain ⟨hg, hf⟩ := sd_gd_e hf
        refine k_iald hx hb hK hI 1 0 rfl rfl hg d_Model_pad_50 ?_
        refine lv_goto (tgt := 67) hx hb d_Model_pad_51 (by decide) ?_
        obtain ⟨hg, hf⟩ := sd_gd_e hf
        refine k_iast (μ' := sd_st μ 5 (Int32.toNatClampNeg v5) (μ.1 1 (Int32.toNatClampNeg (((120 : Int32) * v1) + v5)))) hx hb hK hI 5 0 rfl rfl rfl hg d_Model_pad_67 (fun H locs hI => ?_)
        obtain ⟨m5, hI, hf⟩ := k_lm hf hI
        refine lv_iinc (v := (v5 + (1 : Int32))) (lv' := [(5, .int (v5 + (1 : Int32))), (0, .ref (q 0)), (1, .int v1), (2, .int v2), (3, .int v3), (4, .int v4)]) hx hb d_Model_pad_68 hl (k := 5) rfl rfl (by decide) rfl (fun ls hl => ?_)
        refine lv_goto (tgt := 19) hx hb d_Model_pad_71 (by decide) ?_
        exact ih (v1) (v2) (v3) (v4) ((v5 + (1 : Int32))) m5 _ _ _ hI (lv_sub hl [1, 2, 3, 4, 5, 0] rfl) hf
set_option maxHeartbeats 4000000 in
set_option maxRecDepth 100000 in
theorem jn_Model_pad_r0_J107 (l : Launch) {p : Program} {e : Env} {s : State} {m : MethodId} {args : Array Value} {below : List Frame} {meth : Method} {c : Code} {A : Nat → Prop} {D : va_G} {q tq : Nat → Nat} {cA : ClassId} {ru : Int32 × sd_Me} (X : sd_Cx p s m args meth c prog_12_method_15_code "ScriptDeskModel" sx_tbl 7 (some .int) vwCl D [(cA, .int)] (ZM tq) A) (v2 : Int32) (v4 : Int32) (v5 : Int32) (v6 : Int32) (s1 : Int32) (μ : sd_Me) (H : Heap) (locs : List Loc) (ls : Array Slot) (hI : sd_CI vwCl (wdM q cA) D A s H locs μ) (hl : lv_has ls 7 [(0, .ref (q 0)), (2, .int v2), (4, .int v4), (5, .int v5), (6, .int v6)]) (hf : fn_Model_pad_r0_J107 v2 v4 v5 v6 s1 μ = some ru) : W p l e ({ frames := 0, cells := 0, slots := 0, locals := 0 }) s m args below meth c H locs 0 0 (sd_QI below vwCl (wdM q cA) D [(cA, .int)] .int A args s ru) (F0 m 107 ls [.int s1, .ref (q 5)]) := by
  obtain ⟨hx, hb, hml, hown, hts, hK, hZ, hA, hr, hlocks⟩ := id X
  unfold fn_Model_pad_r0_J107 at hf
  refine lv_iload hx hb d_Model_pad_107 (lv_at hl 3 rfl) ?_
  refine lv_sipush (v := 256) hx hb d_Model_pad_109 (by decide) ?_
  refine lv_irem hx hb d_Model_pad_112 (by decide) ?_
  obtain ⟨hg, hf⟩ := sd_gd_e hf
  refine k_iast (μ' := sd_st μ 5 (Int32.toNatClampNeg s1) (v5 - v5 / (256 : Int32) * (256 : Int32))) hx hb hK hI 5 0 rfl rfl rfl hg d_Model_pad_113 (fun H locs hI => ?_)
  obtain ⟨m12, hI, hf⟩ := k_lm hf hI
  refine lv_aload_n hx hb d_Model_pad_114 rfl (lv_at hl 0 rfl) ?_
  refine va_get (D := D) (ci := 7) (v := .ref (q 5)) (C := "ScriptDeskModel") (T := T_Model) (N := 18) hx hb hts iw_Model hown hK hI.1 0 rfl rfl 14 (by decide) (hts _ tw_545) (fun _ h9 => h9) rfl d_Model_pad_115 ?_
  refine lv_iload_n hx hb d_Model_pad_118 rfl (lv_at hl 1 rfl) ?_
  refine lv_if_eq (tgt := 129) hx hb d_Model_pad_119 (by decide) (fun hc => ?_) (fun hc => ?_)
  · have hf := sd_t hf hc
    refine lv_iload hx hb d_Model_pad_129 (lv_at hl 4 rfl) ?_
    refine lv_bipush (v := 7) hx hb d_Model_pad_131 (by decide) ?_
    refine lv_isub hx hb d_Model_pad_133 ?_
    refine lv_iload hx hb d_Model_pad_134 (lv_at hl 3 rfl) ?_
    refine lv_sipush (v := 256) hx hb d_Model_pad_136 (by decide) ?_
    refine lv_idiv hx hb d_Model_pad_139 (by decide) ?_
    obtain ⟨hg, hf⟩ := sd_gd_e hf
    refine k_iast (μ' := sd_st m12 5 (Int32.toNatClampNeg (v6 - (7 : Int32))) (v5 / (256 : Int32))) hx hb hK hI 5 0 rfl rfl rfl hg d_Model_pad_140 (fun H locs hI => ?_)
    obtain ⟨m13, hI, hf⟩ := k_lm hf hI
    refine lv_iload hx hb d_Model_pad_141 (lv_at hl 2 rfl) ?_
    exact k_reti X hI (vp_nar_int _) hf d_Model_pad_143
  · have hf := sd_f hf hc
    refine lv_iload hx hb d_Model_pad_122 (lv_at hl 4 rfl) ?_
    refine lv_iconst (v := 2) hx hb d_Model_pad_124 (by decide) ?_
    refine lv_isub hx hb d_Model_pad_125 ?_
    refine lv_goto (tgt := 134) hx hb d_Model_pad_126 (by decide) ?_
    refine lv_iload hx hb d_Model_pad_134 (lv_at hl 3 rfl) ?_
    refine lv_sipush (v := 256) hx hb d_Model_pad_136 (by decide) ?_
    refine lv_idiv hx hb d_Model_pad_139 (by decide) ?_
    obtain ⟨hg, hf⟩ := sd_gd_e hf
    refine k_iast (μ' := sd_st m12 5 (Int32.toNatClampNeg (v6 - (2 : Int32))) (v5 / (256 : Int32))) hx hb hK hI 5 0 rfl rfl rfl hg d_Model_pad_140 (fun H locs hI => ?_)
    obtain ⟨m14, hI, hf⟩ := k_lm hf hI
    refine lv_iload hx hb d_Model_pad_141 (lv_at hl 2 rfl) ?_
    exact k_reti X hI (vp_nar_int _) hf d_Model_pad_143
set_option maxHeartbeats 4000000 in
set_option maxRecDepth 100000 in
theorem mt_Model_pad_r0 (l : Launch) {D : va_G} {q tq : Nat → Nat} {cA : ClassId} {a1 : Int32} {a2 : Int32} {μ : sd_Me} {ru : Int32 × sd_Me} (hf : fn_Model_pad_r0 a1 a2 μ = some ru) : sd_CTi l y_Model_pad w_Model_pad ({ frames := 0, cells := 0, slots := 0, locals := 0 }) vwCl (wdM q cA) D [(cA, .int)] (ZM tq) .int [.ref (q 0), .int a1, .int a2] μ ru := by
  refine k_enti (cc := prog_12_method_15_code) 7 (by decide) rfl (Nat.le_of_ble_eq_true rfl) ?_
  intro p e s m below meth c A ls X hI hl
  have hl : lv_has ls 7 [(0, .ref (q 0)), (1, .int a1), (2, .int a2)] := hl
  obtain ⟨hx, hb, hml, hown, hts, hK, hZ, hA, hr, hlocks⟩ := id X
  unfold fn_Model_pad_r0 at hf
  refine lv_aload_n hx hb d_Model_pad_0 rfl (lv_at hl 0 rfl) ?_
  refine va_get (D := D) (ci := 7) (v := .ref (q 2)) (C := "ScriptDeskModel") (T := T_Model) (N := 18) hx hb hts iw_Model hown hK hI.1 0 rfl rfl 1 (by decide) (hts _ tw_532) (fun _ h9 => h9) rfl d_Model_pad_1 ?_
  refine lv_iload_n hx hb d_Model_pad_4 rfl (lv_at hl 1 rfl) ?_
  obtain ⟨hg, hf⟩ := sd_gd_e hf
  refine k_iald hx hb hK hI 2 0 rfl rfl hg d_Model_pad_5 ?_
  refine k_li hf (fun x1 hf => ?_)
  refine lv_istore_n (lv' := [(3, .int x1), (0, .ref (q 0)), (1, .int a1), (2, .int a2)]) hx hb d_Model_pad_6 rfl hl (by decide) rfl (fun ls hl => ?_)
  refine lv_iload_n hx hb d_Model_pad_7 rfl (lv_at hl 0 rfl) ?_
  refine lv_bipush (v := 72) hx hb d_Model_pad_8 (by decide) ?_
  refine lv_iadd hx hb d_Model_pad_10 ?_
  refine lv_bipush (v := 64) hx hb d_Model_pad_11 (by decide) ?_
  refine lv_idiv hx hb d_Model_pad_13 (by decide) ?_
  refine k_li hf (fun x2 hf => ?_)
  refine lv_istore (lv' := [(4, .int x2), (3, .int x1), (0, .ref (q 0)), (1, .int a1), (2, .int a2)]) hx hb d_Model_pad_14 hl (by decide) rfl (fun ls hl => ?_)
  refine lv_iconst (v := 0) hx hb d_Model_pad_16 (by decide) ?_
  refine lv_istore (lv' := [(5, .int (0 : Int32)), (4, .int x2), (3, .int x1), (0, .ref (q 0)), (1, .int a1), (2, .int a2)]) hx hb d_Model_pad_17 hl (by decide) rfl (fun ls hl => ?_)
  refine lp_Model_pad_r0_L19 l X ?_ 10000 (a1) (a2) (x1) (x2) ((0 : Int32)) μ _ _ _ hI (lv_sub hl [3, 4, 5, 2, 1, 0] rfl) hf
  · intro x6 x7 x8 m9 H locs ls hI hl hf
    refine lv_bipush (v := 8) hx hb d_Model_pad_74 (by decide) ?_
    refine lv_iload_n hx hb d_Model_pad_76 rfl (lv_at hl 2 rfl) ?_
    refine lv_imul hx hb d_Model_pad_77 ?_
    refine k_li hf (fun x10 hf => ?_)
    refine lv_istore (lv' := [(5, .int x10), (0, .ref (q 0)), (2, .int x6), (3, .int x7), (4, .int x8)]) hx hb d_Model_pad_78 hl (by decide) rfl (fun ls hl => ?_)
    refine lv_bipush (v := 64) hx hb d_Model_pad_80 (by decide) ?_
    refine lv_iload hx hb d_Model_pad_82 (lv_at hl 4 rfl) ?_
    refine lv_imul hx hb d_Model_pad_84 ?_
    refine k_li hf (fun x11 hf => ?_)
    refine lv_istore (lv' := [(6, .int x11), (5, .int x10), (0, .ref (q 0)), (2, .int x6), (3, .int x7), (4, .int x8)]) hx hb d_Model_pad_85 hl (by decide) rfl (fun ls hl => ?_)
    refine lv_aload_n hx hb d_Model_pad_87 rfl (lv_at hl 2 rfl) ?_
    refine va_get (D := D) (ci := 7) (v := .ref (q 5)) (C := "ScriptDeskModel") (T := T_Model) (N := 18) hx hb hts iw_Model hown hK hI.1 0 rfl rfl 14 (by decide) (hts _ tw_545) (fun _ h9 => h9) rfl d_Model_pad_88 ?_
    refine lv_iload_n hx hb d_Model_pad_91 rfl (lv_at hl 3 rfl) ?_
    refine lv_if_eq (tgt := 102) hx hb d_Model_pad_92 (by decide) (fun hc => ?_) (fun hc => ?_)
    · have hf := sd_t hf hc
      refine lv_iload hx hb d_Model_pad_102 (lv_at hl 0 rfl) ?_
      refine lv_bipush (v := 8) hx hb d_Model_pad_104 (by decide) ?_
      refine lv_isub hx hb d_Model_pad_106 ?_
      exact jn_Model_pad_r0_J107 l X (x6) (x8) (x10) (x11) ((x11 - (8 : Int32))) m9 _ _ _ hI (lv_sub hl [2, 3, 5, 1, 0] rfl) hf
    · have hf := sd_f hf hc
      refine lv_iload hx hb d_Model_pad_95 (lv_at hl 0 rfl) ?_
      refine lv_iconst (v := 1) hx hb d_Model_pad_97 (by decide) ?_
      refine lv_isub hx hb d_Model_pad_98 ?_
      refine lv_goto (tgt := 107) hx hb d_Model_pad_99 (by decide) ?_
      exact jn_Model_pad_r0_J107 l X (x6) (x8) (x10) (x11) ((x11 - (1 : Int32))) m9 _ _ _ hI (lv_sub hl [2, 3, 5, 1, 0] rfl) hf
