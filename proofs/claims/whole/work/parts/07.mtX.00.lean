set_option maxHeartbeats 4000000 in
set_option maxRecDepth 100000 in
theorem lp_Desk_put_r0_L33 (l : Launch) {p : Program} {e : Env} {s : State} {m : MethodId} {args : Array Value} {below : List Frame} {meth : Method} {c : Code} {A : Nat → Prop} {D : va_G} {q tq : Nat → Nat} {cA : ClassId} {ru : Int32 × sd_Me} (X : sd_Cx p s m args meth c prog_1_method_2_code "ScriptDesk" sx_tbl 5 (some .boolean) vwCl D [(cA, .int)] (ZX tq) A) {k72 : sd_Me → Option (Int32 × sd_Me)} (hk72 : ∀ (μ : sd_Me) (H : Heap) (locs : List Loc) (ls : Array Slot), sd_CI vwCl (wdX q cA) D A s H locs μ → lv_has ls 5 [] → k72 μ = some ru → W p l e ({ frames := 0, cells := 0, slots := 0, locals := 0 }) s m args below meth c H locs 0 0 (sd_QI below vwCl (wdX q cA) D [(cA, .int)] .boolean A args s ru) (F0 m 72 ls [])) :
    ∀ (n : Nat) (v1 : Int64) (v4 : Int32) (μ : sd_Me) (H : Heap) (locs : List Loc) (ls : Array Slot), sd_CI vwCl (wdX q cA) D A s H locs μ → lv_has ls 5 [(0, .ref (q 0)), (1, .long v1), (4, .int v4)] → fn_Desk_put_r0_L33 k72 n v1 v4 μ = some ru → W p l e ({ frames := 0, cells := 0, slots := 0, locals := 0 }) s m args below meth c H locs 0 0 (sd_QI below vwCl (wdX q cA) D [(cA, .int)] .boolean A args s ru) (F0 m 33 ls []) := by
  obtain ⟨hx, hb, hml, hown, hts, hK, hZ, hA, hr, hlocks⟩ := id X
  intro n
  induction n with
  | zero =>
    intro v1 v4 μ H locs ls hI hl hf
    cases hf
  | succ n ih =>
    intro v1 v4 μ H locs ls hI hl hf
    rw [fn_Desk_put_r0_L33] at hf
    refine lv_iload hx hb d_Desk_put_33 (lv_at hl 2 rfl) ?_
    refine lv_if_lt (tgt := 72) hx hb d_Desk_put_35 (by decide) (fun hc => ?_) (fun hc => ?_)
    · have hf := sd_t hf hc
      exact hk72  μ _ _ _ hI (lv_sub hl [] rfl) hf
    · have hf := sd_f hf hc
      refine lv_aload_n hx hb d_Desk_put_38 rfl (lv_at hl 0 rfl) ?_
      refine va_get (D := D) (ci := 0) (v := .ref (q 1)) (C := "ScriptDesk") (T := T_Desk) (N := 10) hx hb hts iw_Desk hown hK hI.1 0 rfl rfl 0 (by decide) (hts _ tw_139) (fun _ h9 => h9) rfl d_Desk_put_39 ?_
      refine lv_aload_n hx hb d_Desk_put_42 rfl (lv_at hl 0 rfl) ?_
      refine va_get (D := D) (ci := 0) (v := .int (μ.1 0 1)) (C := "ScriptDesk") (T := T_Desk) (N := 10) hx hb hts iw_Desk hown hK hI.1 0 rfl rfl 1 (by decide) (hts _ tw_140) (fun _ h9 => h9) rfl d_Desk_put_43 ?_
      refine lv_lload_n hx hb d_Desk_put_46 rfl (lv_at hl 1 rfl) ?_
      refine lv_iload hx hb d_Desk_put_47 (lv_at hl 2 rfl) ?_
      refine lv_lushr (v := (sd_lusr v1 v4)) hx hb d_Desk_put_49 rfl ?_
      refine lv_ldc2 (v := 255) hx hb hown (hts _ tw_174) d_Desk_put_50 ?_
      refine lv_land hx hb d_Desk_put_53 ?_
      refine lv_l2i (v := (Int64.toInt32 ((sd_lusr v1 v4) &&& (255 : Int64)))) hx hb d_Desk_put_54 rfl ?_
      obtain ⟨hg, hf⟩ := sd_gd_e hf
      refine k_iast (μ' := sd_st μ 1 (Int32.toNatClampNeg (μ.1 0 1)) (Int64.toInt32 ((sd_lusr v1 v4) &&& (255 : Int64)))) hx hb hK hI 1 0 rfl rfl rfl hg d_Desk_put_55 (fun H locs hI => ?_)
      obtain ⟨m2, hI, hf⟩ := k_lm hf hI
      refine lv_aload_n hx hb d_Desk_put_56 rfl (lv_at hl 0 rfl) ?_
      refine lv_dup hx hb d_Desk_put_57 rfl ?_
      refine va_get (D := D) (ci := 0) (v := .int (m2.1 0 1)) (C := "ScriptDesk") (T := T_Desk) (N := 10) hx hb hts iw_Desk hown hK hI.1 0 rfl rfl 1 (by decide) (hts _ tw_140) (fun _ h9 => h9) rfl d_Desk_put_58 ?_
      refine lv_iconst (v := 1) hx hb d_Desk_put_61 (by decide) ?_
      refine lv_iadd hx hb d_Desk_put_62 ?_
      refine k_put (ci := 0) (v := .int ((m2.1 0 1) + (1 : Int32))) (ty := .int) (C := "ScriptDesk") (T := T_Desk) (N := 10) (μ' := sd_st m2 0 1 ((m2.1 0 1) + (1 : Int32))) hx hb hts iw_Desk t_Desk t_Desk_ok n_Desk hown hK hI 0 rfl rfl 1 (by decide) (hts _ tw_140) (fun _ h9 => h9) rfl (by decide +kernel) rfl rfl (Nat.le_of_ble_eq_true rfl) rfl d_Desk_put_63 (fun H locs hI => ?_)
      obtain ⟨m3, hI, hf⟩ := k_lm hf hI
      refine lv_iinc (v := (v4 + (-8 : Int32))) (lv' := [(4, .int (v4 + (-8 : Int32))), (0, .ref (q 0)), (1, .long v1)]) hx hb d_Desk_put_66 hl (k := 2) rfl rfl (by decide) rfl (fun ls hl => ?_)
      refine lv_goto (tgt := 33) hx hb d_Desk_put_69 (by decide) ?_
      exact ih (v1) ((v4 + (-8 : Int32))) m3 _ _ _ hI (lv_sub hl [1, 2, 0] rfl) hf
set_option maxHeartbeats 4000000 in
set_option maxRecDepth 100000 in
theorem mt_Desk_put_r0 (l : Launch) {D : va_G} {q tq : Nat → Nat} {cA : ClassId} {a1 : Int64} {a3 : Int32} {μ : sd_Me} {ru : Int32 × sd_Me} (hf : fn_Desk_put_r0 a1 a3 μ = some ru) : sd_CTi l y_Desk_put w_Desk_put ({ frames := 0, cells := 0, slots := 0, locals := 0 }) vwCl (wdX q cA) D [(cA, .int)] (ZX tq) .boolean [.ref (q 0), .long a1, .int a3] μ ru := by
  refine k_enti (cc := prog_1_method_2_code) 5 (by decide) rfl (Nat.le_of_ble_eq_true rfl) ?_
  intro p e s m below meth c A ls X hI hl
  have hl : lv_has ls 5 [(0, .ref (q 0)), (1, .long a1), (3, .int a3)] := hl
  obtain ⟨hx, hb, hml, hown, hts, hK, hZ, hA, hr, hlocks⟩ := id X
  unfold fn_Desk_put_r0 at hf
  refine lv_iload_n hx hb d_Desk_put_0 rfl (lv_at hl 2 rfl) ?_
  refine lv_iconst (v := 1) hx hb d_Desk_put_1 (by decide) ?_
  refine lv_icmp_lt (tgt := 23) hx hb d_Desk_put_2 (by decide) (fun hc => ?_) (fun hc => ?_)
  · have hf := sd_t hf hc
    refine lv_iconst (v := 0) hx hb d_Desk_put_23 (by decide) ?_
    exact k_reti X hI rfl hf d_Desk_put_24
  · have hf := sd_f hf hc
    refine lv_iload_n hx hb d_Desk_put_5 rfl (lv_at hl 2 rfl) ?_
    refine lv_bipush (v := 8) hx hb d_Desk_put_6 (by decide) ?_
    refine lv_icmp_gt (tgt := 23) hx hb d_Desk_put_8 (by decide) (fun hc => ?_) (fun hc => ?_)
    · have hf := sd_t hf hc
      refine lv_iconst (v := 0) hx hb d_Desk_put_23 (by decide) ?_
      exact k_reti X hI rfl hf d_Desk_put_24
    · have hf := sd_f hf hc
      refine lv_aload_n hx hb d_Desk_put_11 rfl (lv_at hl 0 rfl) ?_
      refine va_get (D := D) (ci := 0) (v := .int (μ.1 0 1)) (C := "ScriptDesk") (T := T_Desk) (N := 10) hx hb hts iw_Desk hown hK hI.1 0 rfl rfl 1 (by decide) (hts _ tw_140) (fun _ h9 => h9) rfl d_Desk_put_12 ?_
      refine lv_iload_n hx hb d_Desk_put_15 rfl (lv_at hl 2 rfl) ?_
      refine lv_iadd hx hb d_Desk_put_16 ?_
      refine lv_sipush (v := 200) hx hb d_Desk_put_17 (by decide) ?_
      refine lv_icmp_le (tgt := 25) hx hb d_Desk_put_20 (by decide) (fun hc => ?_) (fun hc => ?_)
      · have hf := sd_t hf hc
        refine lv_bipush (v := 8) hx hb d_Desk_put_25 (by decide) ?_
        refine lv_iload_n hx hb d_Desk_put_27 rfl (lv_at hl 2 rfl) ?_
        refine lv_iconst (v := 1) hx hb d_Desk_put_28 (by decide) ?_
        refine lv_isub hx hb d_Desk_put_29 ?_
        refine lv_imul hx hb d_Desk_put_30 ?_
        refine k_li hf (fun x1 hf => ?_)
        refine lv_istore (lv' := [(4, .int x1), (0, .ref (q 0)), (1, .long a1), (3, .int a3)]) hx hb d_Desk_put_31 hl (by decide) rfl (fun ls hl => ?_)
        refine lp_Desk_put_r0_L33 l X ?_ 10000 (a1) (x1) μ _ _ _ hI (lv_sub hl [1, 2, 0] rfl) hf
        · intro m4 H locs ls hI hl hf
          refine lv_iconst (v := 1) hx hb d_Desk_put_72 (by decide) ?_
          exact k_reti X hI rfl hf d_Desk_put_73
      · have hf := sd_f hf hc
        refine lv_iconst (v := 0) hx hb d_Desk_put_23 (by decide) ?_
        exact k_reti X hI rfl hf d_Desk_put_24
set_option maxHeartbeats 4000000 in
set_option maxRecDepth 100000 in
theorem mt_Desk_secret_r0 (l : Launch) {D : va_G} {q tq : Nat → Nat} {cA : ClassId} {a1 : Int32} {μ : sd_Me} {ru : sd_Me} (hf : fn_Desk_secret_r0 a1 μ = some ru) : sd_CTv l y_Desk_secret w_Desk_secret ({ frames := 0, cells := 0, slots := 0, locals := 0 }) vwCl (wdX q cA) D [(cA, .int)] (ZX tq) [.ref (q 0), .int a1] μ ru := by
  refine k_entv (cc := prog_1_method_3_code) 2 (by decide) rfl (Nat.le_of_ble_eq_true rfl) ?_
  intro p e s m below meth c A ls X hI hl
  have hl : lv_has ls 2 [(0, .ref (q 0)), (1, .int a1)] := hl
  obtain ⟨hx, hb, hml, hown, hts, hK, hZ, hA, hr, hlocks⟩ := id X
  unfold fn_Desk_secret_r0 at hf
  refine lv_aload_n hx hb d_Desk_secret_0 rfl (lv_at hl 0 rfl) ?_
  refine va_get (D := D) (ci := 0) (v := .ref (q 8)) (C := "ScriptDesk") (T := T_Desk) (N := 10) hx hb hts iw_Desk hown hK hI.1 0 rfl rfl 7 (by decide) (hts _ tw_146) (fun _ h9 => h9) rfl d_Desk_secret_1 ?_
  refine lv_iload_n hx hb d_Desk_secret_4 rfl (lv_at hl 1 rfl) ?_
  refine k_put (ci := 4) (v := .int a1) (ty := .int) (C := "ScriptDesk$Signatures") (T := T_Signatures) (N := 2) (μ' := sd_st μ 8 0 a1) hx hb hts iw_Signatures t_Signatures t_Signatures_ok n_Signatures hown hK hI 8 rfl rfl 0 (by decide) (hts _ tw_79) (fun _ h9 => h9) rfl (by decide +kernel) rfl rfl (Nat.le_of_ble_eq_true rfl) rfl d_Desk_secret_5 (fun H locs hI => ?_)
  obtain ⟨m1, hI, hf⟩ := k_lm hf hI
  exact k_retv X hI hf d_Desk_secret_8
set_option maxHeartbeats 4000000 in
set_option maxRecDepth 100000 in
theorem mt_Flow_restart_r7 (l : Launch) {D : va_G} {q tq : Nat → Nat} {cA : ClassId} {μ : sd_Me} {ru : sd_Me} (hf : fn_Flow_restart_r7 μ = some ru) : sd_CTv l y_Flow_restart w_Flow_restart ({ frames := 0, cells := 0, slots := 0, locals := 0 }) vwCl (wdX q cA) D [(cA, .int)] (ZX tq) [.ref (q 7)] μ ru := by
  refine k_entv (cc := prog_4_method_2_code) 1 (by decide) rfl (Nat.le_of_ble_eq_true rfl) ?_
  intro p e s m below meth c A ls X hI hl
  have hl : lv_has ls 1 [(0, .ref (q 7))] := hl
  obtain ⟨hx, hb, hml, hown, hts, hK, hZ, hA, hr, hlocks⟩ := id X
  unfold fn_Flow_restart_r7 at hf
  refine lv_aload_n hx hb d_Flow_restart_0 rfl (lv_at hl 0 rfl) ?_
  refine lv_iconst (v := 0) hx hb d_Flow_restart_1 (by decide) ?_
  refine k_put (ci := 3) (v := .int (0 : Int32)) (ty := .int) (C := "ScriptDesk$Flow") (T := T_Flow) (N := 2) (μ' := sd_st μ 7 0 (0 : Int32)) hx hb hts iw_Flow t_Flow t_Flow_ok n_Flow hown hK hI 7 rfl rfl 0 (by decide) (hts _ tw_66) (fun _ h9 => h9) rfl (by decide +kernel) rfl rfl (Nat.le_of_ble_eq_true rfl) rfl d_Flow_restart_2 (fun H locs hI => ?_)
  obtain ⟨m1, hI, hf⟩ := k_lm hf hI
  refine lv_aload_n hx hb d_Flow_restart_5 rfl (lv_at hl 0 rfl) ?_
  refine lv_iconst (v := 0) hx hb d_Flow_restart_6 (by decide) ?_
  refine k_put (ci := 3) (v := .int (0 : Int32)) (ty := .int) (C := "ScriptDesk$Flow") (T := T_Flow) (N := 2) (μ' := sd_st m1 7 1 (0 : Int32)) hx hb hts iw_Flow t_Flow t_Flow_ok n_Flow hown hK hI 7 rfl rfl 1 (by decide) (hts _ tw_67) (fun _ h9 => h9) rfl (by decide +kernel) rfl rfl (Nat.le_of_ble_eq_true rfl) rfl d_Flow_restart_7 (fun H locs hI => ?_)
  obtain ⟨m2, hI, hf⟩ := k_lm hf hI
  exact k_retv X hI hf d_Flow_restart_10
set_option maxHeartbeats 4000000 in
set_option maxRecDepth 100000 in
theorem mt_Desk_restart_r0 (l : Launch) {D : va_G} {q tq : Nat → Nat} {cA : ClassId} {μ : sd_Me} {ru : sd_Me} (hf : fn_Desk_restart_r0 μ = some ru) : sd_CTv l y_Desk_restart w_Desk_restart ({ frames := 1, cells := 0, slots := 0, locals := 20 }) vwCl (wdX q cA) D [(cA, .int)] (ZX tq) [.ref (q 0)] μ ru := by
  refine k_entv (cc := prog_1_method_12_code) 1 (by decide) rfl (Nat.le_of_ble_eq_true rfl) ?_
  intro p e s m below meth c A ls X hI hl
  have hl : lv_has ls 1 [(0, .ref (q 0))] := hl
  obtain ⟨hx, hb, hml, hown, hts, hK, hZ, hA, hr, hlocks⟩ := id X
  unfold fn_Desk_restart_r0 at hf
  refine lv_aload_n hx hb d_Desk_restart_0 rfl (lv_at hl 0 rfl) ?_
  refine lv_iconst (v := 0) hx hb d_Desk_restart_1 (by decide) ?_
  refine k_put (ci := 0) (v := .int (0 : Int32)) (ty := .int) (C := "ScriptDesk") (T := T_Desk) (N := 10) (μ' := sd_st μ 0 1 (0 : Int32)) hx hb hts iw_Desk t_Desk t_Desk_ok n_Desk hown hK hI 0 rfl rfl 1 (by decide) (hts _ tw_140) (fun _ h9 => h9) rfl (by decide +kernel) rfl rfl (Nat.le_of_ble_eq_true rfl) rfl d_Desk_restart_2 (fun H locs hI => ?_)
  obtain ⟨m1, hI, hf⟩ := k_lm hf hI
  refine lv_aload_n hx hb d_Desk_restart_5 rfl (lv_at hl 0 rfl) ?_
  refine lv_iconst (v := 0) hx hb d_Desk_restart_6 (by decide) ?_
  refine k_put (ci := 0) (v := .int (0 : Int32)) (ty := .int) (C := "ScriptDesk") (T := T_Desk) (N := 10) (μ' := sd_st m1 0 2 (0 : Int32)) hx hb hts iw_Desk t_Desk t_Desk_ok n_Desk hown hK hI 0 rfl rfl 2 (by decide) (hts _ tw_141) (fun _ h9 => h9) rfl (by decide +kernel) rfl rfl (Nat.le_of_ble_eq_true rfl) rfl d_Desk_restart_7 (fun H locs hI => ?_)
  obtain ⟨m2, hI, hf⟩ := k_lm hf hI
  refine lv_aload_n hx hb d_Desk_restart_10 rfl (lv_at hl 0 rfl) ?_
  refine lv_iconst (v := -1) hx hb d_Desk_restart_11 (by decide) ?_
  refine k_put (ci := 0) (v := .int (-1 : Int32)) (ty := .int) (C := "ScriptDesk") (T := T_Desk) (N := 10) (μ' := sd_st m2 0 3 (-1 : Int32)) hx hb hts iw_Desk t_Desk t_Desk_ok n_Desk hown hK hI 0 rfl rfl 3 (by decide) (hts _ tw_142) (fun _ h9 => h9) rfl (by decide +kernel) rfl rfl (Nat.le_of_ble_eq_true rfl) rfl d_Desk_restart_12 (fun H locs hI => ?_)
  obtain ⟨m3, hI, hf⟩ := k_lm hf hI
  refine lv_aload_n hx hb d_Desk_restart_15 rfl (lv_at hl 0 rfl) ?_
  refine va_get (D := D) (ci := 0) (v := .ref (q 6)) (C := "ScriptDesk") (T := T_Desk) (N := 10) hx hb hts iw_Desk hown hK hI.1 0 rfl rfl 5 (by decide) (hts _ tw_144) (fun _ h9 => h9) rfl d_Desk_restart_16 ?_
  refine lv_iconst (v := 0) hx hb d_Desk_restart_19 (by decide) ?_
  refine k_put (ci := 2) (v := .int (0 : Int32)) (ty := .int) (C := "ScriptDesk$Tally") (T := T_Tally) (N := 1) (μ' := sd_st m3 6 0 (0 : Int32)) hx hb hts iw_Tally t_Tally t_Tally_ok n_Tally hown hK hI 6 rfl rfl 0 (by decide) (hts _ tw_56) (fun _ h9 => h9) rfl (by decide +kernel) rfl rfl (Nat.le_of_ble_eq_true rfl) rfl d_Desk_restart_20 (fun H locs hI => ?_)
  obtain ⟨m4, hI, hf⟩ := k_lm hf hI
  refine lv_aload_n hx hb d_Desk_restart_23 rfl (lv_at hl 0 rfl) ?_
  refine va_get (D := D) (ci := 0) (v := .ref (q 8)) (C := "ScriptDesk") (T := T_Desk) (N := 10) hx hb hts iw_Desk hown hK hI.1 0 rfl rfl 7 (by decide) (hts _ tw_146) (fun _ h9 => h9) rfl d_Desk_restart_24 ?_
  refine lv_iconst (v := 0) hx hb d_Desk_restart_27 (by decide) ?_
  refine k_put (ci := 4) (v := .int (0 : Int32)) (ty := .int) (C := "ScriptDesk$Signatures") (T := T_Signatures) (N := 2) (μ' := sd_st m4 8 1 (0 : Int32)) hx hb hts iw_Signatures t_Signatures t_Signatures_ok n_Signatures hown hK hI 8 rfl rfl 1 (by decide) (hts _ tw_82) (fun _ h9 => h9) rfl (by decide +kernel) rfl rfl (Nat.le_of_ble_eq_true rfl) rfl d_Desk_restart_28 (fun H locs hI => ?_)
  obtain ⟨m5, hI, hf⟩ := k_lm hf hI
  refine lv_aload_n hx hb d_Desk_restart_31 rfl (lv_at hl 0 rfl) ?_
  refine va_get (D := D) (ci := 0) (v := .ref (q 7)) (C := "ScriptDesk") (T := T_Desk) (N := 10) hx hb hts iw_Desk hown hK hI.1 0 rfl rfl 6 (by decide) (hts _ tw_145) (fun _ h9 => h9) rfl d_Desk_restart_32 ?_
  obtain ⟨m6, hq, hf⟩ := sd_bv_e hf
  refine k_callVv (As := []) (rest := []) (C := "ScriptDesk$Flow") (ci := 3) ZX_ok X hI (mt_Flow_restart_r7 l hq) (cwV 0 hts (gd_V tw_187 tw_188 tw_189 tw_4 tw_190) rfl rfl rfl (by decide +kernel) ⟨Nat.le_of_ble_eq_true rfl, Nat.le_of_ble_eq_true rfl⟩) 7 rfl rfl rfl hl.1 rfl (Nat.le_of_ble_eq_true rfl) d_Desk_restart_35 ⟨Nat.zero_le _, Nat.zero_le _⟩ (fun H locs hI => ?_)
  exact k_retv X hI hf d_Desk_restart_38
set_option maxHeartbeats 4000000 in
set_option maxRecDepth 100000 in
theorem mt_Flow_isDone_r7 (l : Launch) {D : va_G} {q tq : Nat → Nat} {cA : ClassId} {μ : sd_Me} {ru : Int32 × sd_Me} (hf : fn_Flow_isDone_r7 μ = some ru) : sd_CTi l y_Flow_isDone w_Flow_isDone ({ frames := 0, cells := 0, slots := 0, locals := 0 }) vwCl (wdX q cA) D [(cA, .int)] (ZX tq) .boolean [.ref (q 7)] μ ru := by
  refine k_enti (cc := prog_4_method_4_code) 1 (by decide) rfl (Nat.le_of_ble_eq_true rfl) ?_
  intro p e s m below meth c A ls X hI hl
  have hl : lv_has ls 1 [(0, .ref (q 7))] := hl
  obtain ⟨hx, hb, hml, hown, hts, hK, hZ, hA, hr, hlocks⟩ := id X
  unfold fn_Flow_isDone_r7 at hf
  refine lv_aload_n hx hb d_Flow_isDone_0 rfl (lv_at hl 0 rfl) ?_
  refine va_get (D := D) (ci := 3) (v := .int (μ.1 7 1)) (C := "ScriptDesk$Flow") (T := T_Flow) (N := 2) hx hb hts iw_Flow hown hK hI.1 7 rfl rfl 1 (by decide) (hts _ tw_67) (fun _ h9 => h9) rfl d_Flow_isDone_1 ?_
  refine lv_if_ne (tgt := 11) hx hb d_Flow_isDone_4 (by decide) (fun hc => ?_) (fun hc => ?_)
  · have hf := sd_f hf hc
    refine lv_iconst (v := 0) hx hb d_Flow_isDone_11 (by decide) ?_
    exact k_reti X hI rfl hf d_Flow_isDone_12
  · have hf := sd_t hf hc
    refine lv_iconst (v := 1) hx hb d_Flow_isDone_7 (by decide) ?_
    refine lv_goto (tgt := 12) hx hb d_Flow_isDone_8 (by decide) ?_
    exact k_reti X hI rfl hf d_Flow_isDone_12
set_option maxHeartbeats 4000000 in
set_option maxRecDepth 100000 in
theorem mt_Elements_lengthAt_r2 (l : Launch) {D : va_G} {q tq : Nat → Nat} {cA : ClassId} {a1 : Int32} {μ : sd_Me} {ru : Int32 × sd_Me} (hf : fn_Elements_lengthAt_r2 a1 μ = some ru) : sd_CTi l y_Elements_lengthAt w_Elements_lengthAt ({ frames := 0, cells := 0, slots := 0, locals := 0 }) vwCl (wdX q cA) D [(cA, .int)] (ZX tq) .int [.ref (q 2), .int a1] μ ru := by
  refine k_enti (cc := prog_3_method_3_code) 2 (by decide) rfl (Nat.le_of_ble_eq_true rfl) ?_
  intro p e s m below meth c A ls X hI hl
  have hl : lv_has ls 2 [(0, .ref (q 2)), (1, .int a1)] := hl
  obtain ⟨hx, hb, hml, hown, hts, hK, hZ, hA, hr, hlocks⟩ := id X
  unfold fn_Elements_lengthAt_r2 at hf
  refine lv_iload_n hx hb d_Elements_lengthAt_0 rfl (lv_at hl 1 rfl) ?_
  refine lv_if_lt (tgt := 12) hx hb d_Elements_lengthAt_1 (by decide) (fun hc => ?_) (fun hc => ?_)
  · have hf := sd_t hf hc
    refine lv_iconst (v := -1) hx hb d_Elements_lengthAt_12 (by decide) ?_
    exact k_reti X hI (vp_nar_int _) hf d_Elements_lengthAt_13
  · have hf := sd_f hf hc
    refine lv_iload_n hx hb d_Elements_lengthAt_4 rfl (lv_at hl 1 rfl) ?_
    refine lv_aload_n hx hb d_Elements_lengthAt_5 rfl (lv_at hl 0 rfl) ?_
    refine va_get (D := D) (ci := 1) (v := .int (μ.1 2 4)) (C := "ScriptDesk$Elements") (T := T_Elements) (N := 5) hx hb hts iw_Elements hown hK hI.1 2 rfl rfl 4 (by decide) (hts _ tw_33) (fun _ h9 => h9) rfl d_Elements_lengthAt_6 ?_
    refine lv_icmp_lt (tgt := 14) hx hb d_Elements_lengthAt_9 (by decide) (fun hc => ?_) (fun hc => ?_)
    · have hf := sd_t hf hc
      refine lv_aload_n hx hb d_Elements_lengthAt_14 rfl (lv_at hl 0 rfl) ?_
      refine va_get (D := D) (ci := 1) (v := .ref (q 4)) (C := "ScriptDesk$Elements") (T := T_Elements) (N := 5) hx hb hts iw_Elements hown hK hI.1 2 rfl rfl 1 (by decide) (hts _ tw_30) (fun _ h9 => h9) rfl d_Elements_lengthAt_15 ?_
      refine lv_aload_n hx hb d_Elements_lengthAt_18 rfl (lv_at hl 0 rfl) ?_
      refine va_get (D := D) (ci := 1) (v := .ref (q 5)) (C := "ScriptDesk$Elements") (T := T_Elements) (N := 5) hx hb hts iw_Elements hown hK hI.1 2 rfl rfl 2 (by decide) (hts _ tw_31) (fun _ h9 => h9) rfl d_Elements_lengthAt_19 ?_
      refine lv_aload_n hx hb d_Elements_lengthAt_22 rfl (lv_at hl 0 rfl) ?_
      refine va_get (D := D) (ci := 1) (v := .int (μ.1 2 4)) (C := "ScriptDesk$Elements") (T := T_Elements) (N := 5) hx hb hts iw_Elements hown hK hI.1 2 rfl rfl 4 (by decide) (hts _ tw_33) (fun _ h9 => h9) rfl d_Elements_lengthAt_23 ?_
      refine lv_iconst (v := 1) hx hb d_Elements_lengthAt_26 (by decide) ?_
      refine lv_isub hx hb d_Elements_lengthAt_27 ?_
      refine lv_iload_n hx hb d_Elements_lengthAt_28 rfl (lv_at hl 1 rfl) ?_
      refine lv_isub hx hb d_Elements_lengthAt_29 ?_
      obtain ⟨hg, hf⟩ := sd_gd_e hf
      refine k_iald hx hb hK hI 5 0 rfl rfl hg d_Elements_lengthAt_30 ?_
      obtain ⟨hg, hf⟩ := sd_gd_e hf
      refine k_iald hx hb hK hI 4 0 rfl rfl hg d_Elements_lengthAt_31 ?_
      exact k_reti X hI (vp_nar_int _) hf d_Elements_lengthAt_32
    · have hf := sd_f hf hc
      refine lv_iconst (v := -1) hx hb d_Elements_lengthAt_12 (by decide) ?_
      exact k_reti X hI (vp_nar_int _) hf d_Elements_lengthAt_13
set_option maxHeartbeats 4000000 in
set_option maxRecDepth 100000 in
theorem mt_Elements_octetAt_r2 (l : Launch) {D : va_G} {q tq : Nat → Nat} {cA : ClassId} {a1 : Int32} {a2 : Int32} {μ : sd_Me} {ru : Int32 × sd_Me} (hf : fn_Elements_octetAt_r2 a1 a2 μ = some ru) : sd_CTi l y_Elements_octetAt w_Elements_octetAt ({ frames := 0, cells := 0, slots := 0, locals := 0 }) vwCl (wdX q cA) D [(cA, .int)] (ZX tq) .int [.ref (q 2), .int a1, .int a2] μ ru := by
  refine k_enti (cc := prog_3_method_4_code) 4 (by decide) rfl (Nat.le_of_ble_eq_true rfl) ?_
  intro p e s m below meth c A ls X hI hl
  have hl : lv_has ls 4 [(0, .ref (q 2)), (1, .int a1), (2, .int a2)] := hl
  obtain ⟨hx, hb, hml, hown, hts, hK, hZ, hA, hr, hlocks⟩ := id X
  unfold fn_Elements_octetAt_r2 at hf
  refine lv_iload_n hx hb d_Elements_octetAt_0 rfl (lv_at hl 1 rfl) ?_
  refine lv_if_lt (tgt := 12) hx hb d_Elements_octetAt_1 (by decide) (fun hc => ?_) (fun hc => ?_)
  · have hf := sd_t hf hc
    refine lv_iconst (v := -1) hx hb d_Elements_octetAt_12 (by decide) ?_
    exact k_reti X hI (vp_nar_int _) hf d_Elements_octetAt_13
  · have hf := sd_f hf hc
    refine lv_iload_n hx hb d_Elements_octetAt_4 rfl (lv_at hl 1 rfl) ?_
    refine lv_aload_n hx hb d_Elements_octetAt_5 rfl (lv_at hl 0 rfl) ?_
    refine va_get (D := D) (ci := 1) (v := .int (μ.1 2 4)) (C := "ScriptDesk$Elements") (T := T_Elements) (N := 5) hx hb hts iw_Elements hown hK hI.1 2 rfl rfl 4 (by decide) (hts _ tw_33) (fun _ h9 => h9) rfl d_Elements_octetAt_6 ?_
    refine lv_icmp_lt (tgt := 14) hx hb d_Elements_octetAt_9 (by decide) (fun hc => ?_) (fun hc => ?_)
    · have hf := sd_t hf hc
      refine lv_aload_n hx hb d_Elements_octetAt_14 rfl (lv_at hl 0 rfl) ?_
      refine va_get (D := D) (ci := 1) (v := .ref (q 5)) (C := "ScriptDesk$Elements") (T := T_Elements) (N := 5) hx hb hts iw_Elements hown hK hI.1 2 rfl rfl 2 (by decide) (hts _ tw_31) (fun _ h9 => h9) rfl d_Elements_octetAt_15 ?_
      refine lv_aload_n hx hb d_Elements_octetAt_18 rfl (lv_at hl 0 rfl) ?_
      refine va_get (D := D) (ci := 1) (v := .int (μ.1 2 4)) (C := "ScriptDesk$Elements") (T := T_Elements) (N := 5) hx hb hts iw_Elements hown hK hI.1 2 rfl rfl 4 (by decide) (hts _ tw_33) (fun _ h9 => h9) rfl d_Elements_octetAt_19 ?_
      refine lv_iconst (v := 1) hx hb d_Elements_octetAt_22 (by decide) ?_
      refine lv_isub hx hb d_Elements_octetAt_23 ?_
      refine lv_iload_n hx hb d_Elements_octetAt_24 rfl (lv_at hl 1 rfl) ?_
      refine lv_isub hx hb d_Elements_octetAt_25 ?_
      obtain ⟨hg, hf⟩ := sd_gd_e hf
      refine k_iald hx hb hK hI 5 0 rfl rfl hg d_Elements_octetAt_26 ?_
      refine k_li hf (fun x1 hf => ?_)
      refine lv_istore_n (lv' := [(3, .int x1), (0, .ref (q 2)), (1, .int a1), (2, .int a2)]) hx hb d_Elements_octetAt_27 rfl hl (by decide) rfl (fun ls hl => ?_)
      refine lv_iload_n hx hb d_Elements_octetAt_28 rfl (lv_at hl 3 rfl) ?_
      refine lv_if_lt (tgt := 42) hx hb d_Elements_octetAt_29 (by decide) (fun hc => ?_) (fun hc => ?_)
      · have hf := sd_t hf hc
        refine lv_iconst (v := -1) hx hb d_Elements_octetAt_42 (by decide) ?_
        exact k_reti X hI (vp_nar_int _) hf d_Elements_octetAt_43
      · have hf := sd_f hf hc
        refine lv_iload_n hx hb d_Elements_octetAt_32 rfl (lv_at hl 3 rfl) ?_
        refine lv_aload_n hx hb d_Elements_octetAt_33 rfl (lv_at hl 1 rfl) ?_
        refine va_get (D := D) (ci := 1) (v := .ref (q 4)) (C := "ScriptDesk$Elements") (T := T_Elements) (N := 5) hx hb hts iw_Elements hown hK hI.1 2 rfl rfl 1 (by decide) (hts _ tw_30) (fun _ h9 => h9) rfl d_Elements_octetAt_34 ?_
        refine lv_iload_n hx hb d_Elements_octetAt_37 rfl (lv_at hl 0 rfl) ?_
        obtain ⟨hg, hf⟩ := sd_gd_e hf
        refine k_iald hx hb hK hI 4 0 rfl rfl hg d_Elements_octetAt_38 ?_
        refine lv_icmp_lt (tgt := 44) hx hb d_Elements_octetAt_39 (by decide) (fun hc => ?_) (fun hc => ?_)
        · have hf := sd_t hf hc
          refine lv_aload_n hx hb d_Elements_octetAt_44 rfl (lv_at hl 1 rfl) ?_
          refine va_get (D := D) (ci := 1) (v := .ref (q 3)) (C := "ScriptDesk$Elements") (T := T_Elements) (N := 5) hx hb hts iw_Elements hown hK hI.1 2 rfl rfl 0 (by decide) (hts _ tw_29) (fun _ h9 => h9) rfl d_Elements_octetAt_45 ?_
          refine lv_iload_n hx hb d_Elements_octetAt_48 rfl (lv_at hl 0 rfl) ?_
          refine lv_bipush (v := 120) hx hb d_Elements_octetAt_49 (by decide) ?_
          refine lv_imul hx hb d_Elements_octetAt_51 ?_
          refine lv_iload_n hx hb d_Elements_octetAt_52 rfl (lv_at hl 3 rfl) ?_
          refine lv_iadd hx hb d_Elements_octetAt_53 ?_
          obtain ⟨hg, hf⟩ := sd_gd_e hf
          refine k_iald hx hb hK hI 3 0 rfl rfl hg d_Elements_octetAt_54 ?_
          exact k_reti X hI (vp_nar_int _) hf d_Elements_octetAt_55
        · have hf := sd_f hf hc
          refine lv_iconst (v := -1) hx hb d_Elements_octetAt_42 (by decide) ?_
          exact k_reti X hI (vp_nar_int _) hf d_Elements_octetAt_43
    · have hf := sd_f hf hc
      refine lv_iconst (v := -1) hx hb d_Elements_octetAt_12 (by decide) ?_
      exact k_reti X hI (vp_nar_int _) hf d_Elements_octetAt_13
set_option maxHeartbeats 4000000 in
set_option maxRecDepth 100000 in
theorem lp_Elements_topHolds_r2_L10 (l : Launch) {p : Program} {e : Env} {s : State} {m : MethodId} {args : Array Value} {below : List Frame} {meth : Method} {c : Code} {A : Nat → Prop} {D : va_G} {q tq : Nat → Nat} {cA : ClassId} {ru : Int32 × sd_Me} (X : sd_Cx p s m args meth c prog_3_method_5_code "ScriptDesk$Elements" sx_tbl 3 (some .boolean) vwCl D [(cA, .int)] (ZX tq) A) {k32 : Int32 → sd_Me → Option (Int32 × sd_Me)} (hk32 : ∀ (v1 : Int32) (μ : sd_Me) (H : Heap) (locs : List Loc) (ls : Array Slot), sd_CI vwCl (wdX q cA) D A s H locs μ → lv_has ls 3 [(0, .ref (q 2)), (1, .int v1)] → k32 v1 μ = some ru → W p l e ({ frames := 1, cells := 0, slots := 0, locals := 23 }) s m args below meth c H locs 0 0 (sd_QI below vwCl (wdX q cA) D [(cA, .int)] .boolean A args s ru) (F0 m 32 ls [])) :
    ∀ (n : Nat) (v1 : Int32) (v2 : Int32) (μ : sd_Me) (H : Heap) (locs : List Loc) (ls : Array Slot), sd_CI vwCl (wdX q cA) D A s H locs μ → lv_has ls 3 [(0, .ref (q 2)), (1, .int v1), (2, .int v2)] → fn_Elements_topHolds_r2_L10 k32 n v1 v2 μ = some ru → W p l e ({ frames := 1, cells := 0, slots := 0, locals := 23 }) s m args below meth c H locs 0 0 (sd_QI below vwCl (wdX q cA) D [(cA, .int)] .boolean A args s ru) (F0 m 10 ls []) := by
  obtain ⟨hx, hb, hml, hown, hts, hK, hZ, hA, hr, hlocks⟩ := id X
  intro n
  induction n with
  | zero =>
    intro v1 v2 μ H locs ls hI hl hf
    cases hf
  | succ n ih =>
    intro v1 v2 μ H locs ls hI hl hf
    rw [fn_Elements_topHolds_r2_L10] at hf
    refine lv_iload_n hx hb d_Elements_topHolds_10 rfl (lv_at hl 2 rfl) ?_
    refine lv_iload_n hx hb d_Elements_topHolds_11 rfl (lv_at hl 1 rfl) ?_
    refine lv_icmp_ge (tgt := 32) hx hb d_Elements_topHolds_12 (by decide) (fun hc => ?_) (fun hc => ?_)
    · have hf := sd_t hf hc
      exact hk32 (v1) μ _ _ _ hI (lv_sub hl [0, 1] rfl) hf
    · have hf := sd_f hf hc
      refine lv_aload_n hx hb d_Elements_topHolds_15 rfl (lv_at hl 0 rfl) ?_
      refine lv_iconst (v := 0) hx hb d_Elements_topHolds_16 (by decide) ?_
      refine lv_iload_n hx hb d_Elements_topHolds_17 rfl (lv_at hl 2 rfl) ?_
      obtain ⟨x5, m4, hq, hf⟩ := sd_bi_e hf
      refine k_callV (As := [.int (0 : Int32), .int v2]) (rest := []) (C := "ScriptDesk$Elements") (ci := 1) ZX_ok X hI (mt_Elements_octetAt_r2 l hq) (cwV 2 hts (gd_V tw_230 tw_231 tw_232 tw_2 tw_233) rfl rfl rfl (by decide +kernel) ⟨Nat.le_of_ble_eq_true rfl, Nat.le_of_ble_eq_true rfl⟩) 2 rfl rfl rfl hl.1 rfl (Nat.le_of_ble_eq_true rfl) d_Elements_topHolds_18 ⟨Nat.zero_le _, Nat.zero_le _⟩ (fun H locs hn_x5 hI => ?_)
      refine lv_if_eq (tgt := 26) hx hb d_Elements_topHolds_21 (by decide) (fun hc => ?_) (fun hc => ?_)
      · have hf := sd_t hf hc
        refine lv_iinc (v := (v2 + (1 : Int32))) (lv' := [(2, .int (v2 + (1 : Int32))), (0, .ref (q 2)), (1, .int v1)]) hx hb d_Elements_topHolds_26 hl (k := 2) rfl rfl (by decide) rfl (fun ls hl => ?_)
        refine lv_goto (tgt := 10) hx hb d_Elements_topHolds_29 (by decide) ?_
        exact ih (v1) ((v2 + (1 : Int32))) m4 _ _ _ hI (lv_sub hl [1, 2, 0] rfl) hf
      · have hf := sd_f hf hc
        refine lv_iconst (v := 1) hx hb d_Elements_topHolds_24 (by decide) ?_
        exact k_reti X hI rfl hf d_Elements_topHolds_25
set_option maxHeartbeats 4000000 in
set_option maxRecDepth 100000 in
theorem mt_Elements_topHolds_r2 (l : Launch) {D : va_G} {q tq : Nat → Nat} {cA : ClassId} {μ : sd_Me} {ru : Int32 × sd_Me} (hf : fn_Elements_topHolds_r2 μ = some ru) : sd_CTi l y_Elements_topHolds w_Elements_topHolds ({ frames := 1, cells := 0, slots := 0, locals := 23 }) vwCl (wdX q cA) D [(cA, .int)] (ZX tq) .boolean [.ref (q 2)] μ ru := by
  refine k_enti (cc := prog_3_method_5_code) 3 (by decide) rfl (Nat.le_of_ble_eq_true rfl) ?_
  intro p e s m below meth c A ls X hI hl
  have hl : lv_has ls 3 [(0, .ref (q 2))] := hl
  obtain ⟨hx, hb, hml, hown, hts, hK, hZ, hA, hr, hlocks⟩ := id X
  unfold fn_Elements_topHolds_r2 at hf
  refine lv_aload_n hx hb d_Elements_topHolds_0 rfl (lv_at hl 0 rfl) ?_
  refine lv_iconst (v := 0) hx hb d_Elements_topHolds_1 (by decide) ?_
  obtain ⟨x2, m1, hq, hf⟩ := sd_bi_e hf
  refine k_callV (As := [.int (0 : Int32)]) (rest := []) (C := "ScriptDesk$Elements") (ci := 1) ZX_ok X hI (mt_Elements_lengthAt_r2 l hq) (cwV 1 hts (gd_V tw_226 tw_227 tw_228 tw_2 tw_229) rfl rfl rfl (by decide +kernel) ⟨Nat.le_of_ble_eq_true rfl, Nat.le_of_ble_eq_true rfl⟩) 2 rfl rfl rfl hl.1 rfl (Nat.le_of_ble_eq_true rfl) d_Elements_topHolds_2 ⟨Nat.zero_le _, Nat.zero_le _⟩ (fun H locs hn_x2 hI => ?_)
  refine lv_iconst (v := 1) hx hb d_Elements_topHolds_5 (by decide) ?_
  refine lv_isub hx hb d_Elements_topHolds_6 ?_
  refine k_li hf (fun x3 hf => ?_)
  refine lv_istore_n (lv' := [(1, .int x3), (0, .ref (q 2))]) hx hb d_Elements_topHolds_7 rfl hl (by decide) rfl (fun ls hl => ?_)
  refine lv_iconst (v := 0) hx hb d_Elements_topHolds_8 (by decide) ?_
  refine lv_istore_n (lv' := [(2, .int (0 : Int32)), (1, .int x3), (0, .ref (q 2))]) hx hb d_Elements_topHolds_9 rfl hl (by decide) rfl (fun ls hl => ?_)
  refine lp_Elements_topHolds_r2_L10 l X ?_ 10000 (x3) ((0 : Int32)) m1 _ _ _ hI (lv_sub hl [2, 1, 0] rfl) hf
  · intro x6 m7 H locs ls hI hl hf
    refine lv_aload_n hx hb d_Elements_topHolds_32 rfl (lv_at hl 0 rfl) ?_
    refine lv_iconst (v := 0) hx hb d_Elements_topHolds_33 (by decide) ?_
    refine lv_iload_n hx hb d_Elements_topHolds_34 rfl (lv_at hl 1 rfl) ?_
    obtain ⟨x9, m8, hq, hf⟩ := sd_bi_e hf
    refine k_callV (As := [.int (0 : Int32), .int x6]) (rest := []) (C := "ScriptDesk$Elements") (ci := 1) ZX_ok X hI (mt_Elements_octetAt_r2 l hq) (cwV 2 hts (gd_V tw_230 tw_231 tw_232 tw_2 tw_233) rfl rfl rfl (by decide +kernel) ⟨Nat.le_of_ble_eq_true rfl, Nat.le_of_ble_eq_true rfl⟩) 2 rfl rfl rfl hl.1 rfl (Nat.le_of_ble_eq_true rfl) d_Elements_topHolds_35 ⟨Nat.zero_le _, Nat.zero_le _⟩ (fun H locs hn_x9 hI => ?_)
    refine lv_istore_n (lv' := [(2, .int x9), (0, .ref (q 2)), (1, .int x6)]) hx hb d_Elements_topHolds_38 rfl hl (by decide) rfl (fun ls hl => ?_)
    refine lv_iload_n hx hb d_Elements_topHolds_39 rfl (lv_at hl 0 rfl) ?_
    refine lv_if_le (tgt := 54) hx hb d_Elements_topHolds_40 (by decide) (fun hc => ?_) (fun hc => ?_)
    · have hf := sd_t hf hc
      refine lv_iconst (v := 0) hx hb d_Elements_topHolds_54 (by decide) ?_
      exact k_reti X hI rfl hf d_Elements_topHolds_55
    · have hf := sd_f hf hc
      refine lv_iload_n hx hb d_Elements_topHolds_43 rfl (lv_at hl 0 rfl) ?_
      refine lv_sipush (v := 128) hx hb d_Elements_topHolds_44 (by decide) ?_
      refine lv_icmp_eq (tgt := 54) hx hb d_Elements_topHolds_47 (by decide) (fun hc => ?_) (fun hc => ?_)
      · have hf := sd_t hf hc
        refine lv_iconst (v := 0) hx hb d_Elements_topHolds_54 (by decide) ?_
        exact k_reti X hI rfl hf d_Elements_topHolds_55
      · have hf := sd_f hf hc
        refine lv_iconst (v := 1) hx hb d_Elements_topHolds_50 (by decide) ?_
        refine lv_goto (tgt := 55) hx hb d_Elements_topHolds_51 (by decide) ?_
        exact k_reti X hI rfl hf d_Elements_topHolds_55
set_option maxHeartbeats 4000000 in
set_option maxRecDepth 100000 in
theorem mt_Elements_drop_r2 (l : Launch) {D : va_G} {q tq : Nat → Nat} {cA : ClassId} {a1 : Int32} {μ : sd_Me} {ru : sd_Me} (hf : fn_Elements_drop_r2 a1 μ = some ru) : sd_CTv l y_Elements_drop w_Elements_drop ({ frames := 1, cells := 0, slots := 0, locals := 23 }) vwCl (wdX q cA) D [(cA, .int)] (ZX tq) [.ref (q 2), .int a1] μ ru := by
  refine k_entv (cc := prog_3_method_9_code) 2 (by decide) rfl (Nat.le_of_ble_eq_true rfl) ?_
  intro p e s m below meth c A ls X hI hl
  have hl : lv_has ls 2 [(0, .ref (q 2)), (1, .int a1)] := hl
  obtain ⟨hx, hb, hml, hown, hts, hK, hZ, hA, hr, hlocks⟩ := id X
  unfold fn_Elements_drop_r2 at hf
  refine lv_aload_n hx hb d_Elements_drop_0 rfl (lv_at hl 0 rfl) ?_
  refine lv_iconst (v := 0) hx hb d_Elements_drop_1 (by decide) ?_
  refine lv_aload_n hx hb d_Elements_drop_2 rfl (lv_at hl 0 rfl) ?_
  refine va_get (D := D) (ci := 1) (v := .int (μ.1 2 4)) (C := "ScriptDesk$Elements") (T := T_Elements) (N := 5) hx hb hts iw_Elements hown hK hI.1 2 rfl rfl 4 (by decide) (hts _ tw_33) (fun _ h9 => h9) rfl d_Elements_drop_3 ?_
  refine lv_iload_n hx hb d_Elements_drop_6 rfl (lv_at hl 1 rfl) ?_
  refine lv_isub hx hb d_Elements_drop_7 ?_
  refine va_mmax hx hb (hml.trans hl.1.symm) hown (hts _ tw_238) (hts _ tw_239) (hts _ tw_11) (hts _ tw_240) (Nat.le_of_ble_eq_true rfl) (Nat.le_of_ble_eq_true rfl) (Nat.zero_le _) (Nat.zero_le _) d_Elements_drop_8 ?_
  refine k_put (ci := 1) (v := .int (if (0 : Int32) < ((μ.1 2 4) - a1) then ((μ.1 2 4) - a1) else (0 : Int32))) (ty := .int) (C := "ScriptDesk$Elements") (T := T_Elements) (N := 5) (μ' := sd_st μ 2 4 (if (0 : Int32) < ((μ.1 2 4) - a1) then ((μ.1 2 4) - a1) else (0 : Int32))) hx hb hts iw_Elements t_Elements t_Elements_ok n_Elements hown hK hI 2 rfl rfl 4 (by decide) (hts _ tw_33) (fun _ h9 => h9) rfl (by decide +kernel) rfl rfl (Nat.le_of_ble_eq_true rfl) rfl d_Elements_drop_11 (fun H locs hI => ?_)
  obtain ⟨m1, hI, hf⟩ := k_lm hf hI
  exact k_retv X hI hf d_Elements_drop_14
set_option maxHeartbeats 4000000 in
set_option maxRecDepth 100000 in
theorem mt_Flow_enter_r7 (l : Launch) {D : va_G} {q tq : Nat → Nat} {cA : ClassId} {a1 : Int32} {μ : sd_Me} {ru : sd_Me} (hf : fn_Flow_enter_r7 a1 μ = some ru) : sd_CTv l y_Flow_enter w_Flow_enter ({ frames := 0, cells := 0, slots := 0, locals := 0 }) vwCl (wdX q cA) D [(cA, .int)] (ZX tq) [.ref (q 7), .int a1] μ ru := by
  refine k_entv (cc := prog_4_method_5_code) 2 (by decide) rfl (Nat.le_of_ble_eq_true rfl) ?_
  intro p e s m below meth c A ls X hI hl
  have hl : lv_has ls 2 [(0, .ref (q 7)), (1, .int a1)] := hl
  obtain ⟨hx, hb, hml, hown, hts, hK, hZ, hA, hr, hlocks⟩ := id X
  unfold fn_Flow_enter_r7 at hf
  refine lv_aload_n hx hb d_Flow_enter_0 rfl (lv_at hl 0 rfl) ?_
  refine lv_dup hx hb d_Flow_enter_1 rfl ?_
  refine va_get (D := D) (ci := 3) (v := .int (μ.1 7 0)) (C := "ScriptDesk$Flow") (T := T_Flow) (N := 2) hx hb hts iw_Flow hown hK hI.1 7 rfl rfl 0 (by decide) (hts _ tw_66) (fun _ h9 => h9) rfl d_Flow_enter_2 ?_
  refine lv_iconst (v := 1) hx hb d_Flow_enter_5 (by decide) ?_
  refine lv_iadd hx hb d_Flow_enter_6 ?_
  refine k_put (ci := 3) (v := .int ((μ.1 7 0) + (1 : Int32))) (ty := .int) (C := "ScriptDesk$Flow") (T := T_Flow) (N := 2) (μ' := sd_st μ 7 0 ((μ.1 7 0) + (1 : Int32))) hx hb hts iw_Flow t_Flow t_Flow_ok n_Flow hown hK hI 7 rfl rfl 0 (by decide) (hts _ tw_66) (fun _ h9 => h9) rfl (by decide +kernel) rfl rfl (Nat.le_of_ble_eq_true rfl) rfl d_Flow_enter_7 (fun H locs hI => ?_)
  obtain ⟨m1, hI, hf⟩ := k_lm hf hI
  refine lv_iload_n hx hb d_Flow_enter_10 rfl (lv_at hl 1 rfl) ?_
  refine lv_if_ne (tgt := 29) hx hb d_Flow_enter_11 (by decide) (fun hc => ?_) (fun hc => ?_)
  · have hf := sd_f hf hc
    exact k_retv X hI hf d_Flow_enter_29
  · have hf := sd_t hf hc
    refine lv_aload_n hx hb d_Flow_enter_14 rfl (lv_at hl 0 rfl) ?_
    refine va_get (D := D) (ci := 3) (v := .int (m1.1 7 1)) (C := "ScriptDesk$Flow") (T := T_Flow) (N := 2) hx hb hts iw_Flow hown hK hI.1 7 rfl rfl 1 (by decide) (hts _ tw_67) (fun _ h9 => h9) rfl d_Flow_enter_15 ?_
    refine lv_if_ne (tgt := 29) hx hb d_Flow_enter_18 (by decide) (fun hc => ?_) (fun hc => ?_)
    · have hf := sd_f hf hc
      exact k_retv X hI hf d_Flow_enter_29
    · have hf := sd_t hf hc
      refine lv_aload_n hx hb d_Flow_enter_21 rfl (lv_at hl 0 rfl) ?_
      refine lv_aload_n hx hb d_Flow_enter_22 rfl (lv_at hl 0 rfl) ?_
      refine va_get (D := D) (ci := 3) (v := .int (m1.1 7 0)) (C := "ScriptDesk$Flow") (T := T_Flow) (N := 2) hx hb hts iw_Flow hown hK hI.1 7 rfl rfl 0 (by decide) (hts _ tw_66) (fun _ h9 => h9) rfl d_Flow_enter_23 ?_
      refine k_put (ci := 3) (v := .int (m1.1 7 0)) (ty := .int) (C := "ScriptDesk$Flow") (T := T_Flow) (N := 2) (μ' := sd_st m1 7 1 (m1.1 7 0)) hx hb hts iw_Flow t_Flow t_Flow_ok n_Flow hown hK hI 7 rfl rfl 1 (by decide) (hts _ tw_67) (fun _ h9 => h9) rfl (by decide +kernel) rfl rfl (Nat.le_of_ble_eq_true rfl) rfl d_Flow_enter_26 (fun H locs hI => ?_)
      obtain ⟨m2, hI, hf⟩ := k_lm hf hI
      exact k_retv X hI hf d_Flow_enter_29
set_option maxHeartbeats 4000000 in
set_option maxRecDepth 100000 in
theorem mt_Desk_enterPart_r0 (l : Launch) {D : va_G} {q tq : Nat → Nat} {cA : ClassId} {a1 : Int32} {μ : sd_Me} {ru : Int32 × sd_Me} (hf : fn_Desk_enterPart_r0 a1 μ = some ru) : sd_CTi l y_Desk_enterPart w_Desk_enterPart ({ frames := 2, cells := 0, slots := 0, locals := 45 }) vwCl (wdX q cA) D [(cA, .int)] (ZX tq) .int [.ref (q 0), .int a1] μ ru := by
  refine k_enti (cc := prog_1_method_15_code) 3 (by decide) rfl (Nat.le_of_ble_eq_true rfl) ?_
  intro p e s m below meth c A ls X hI hl
  have hl : lv_has ls 3 [(0, .ref (q 0)), (1, .int a1)] := hl
  obtain ⟨hx, hb, hml, hown, hts, hK, hZ, hA, hr, hlocks⟩ := id X
  unfold fn_Desk_enterPart_r0 at hf
  refine lv_aload_n hx hb d_Desk_enterPart_0 rfl (lv_at hl 0 rfl) ?_
  refine va_get (D := D) (ci := 0) (v := .ref (q 7)) (C := "ScriptDesk") (T := T_Desk) (N := 10) hx hb hts iw_Desk hown hK hI.1 0 rfl rfl 6 (by decide) (hts _ tw_145) (fun _ h9 => h9) rfl d_Desk_enterPart_1 ?_
  obtain ⟨x2, m1, hq, hf⟩ := sd_bi_e hf
  refine k_callV (As := []) (rest := []) (C := "ScriptDesk$Flow") (ci := 3) ZX_ok X hI (mt_Flow_isDone_r7 l hq) (cwV 0 hts (gd_V tw_195 tw_196 tw_197 tw_4 tw_198) rfl rfl rfl (by decide +kernel) ⟨Nat.le_of_ble_eq_true rfl, Nat.le_of_ble_eq_true rfl⟩) 7 rfl rfl rfl hl.1 rfl (Nat.le_of_ble_eq_true rfl) d_Desk_enterPart_4 ⟨Nat.zero_le _, Nat.zero_le _⟩ (fun H locs hn_x2 hI => ?_)
  refine lv_if_ne (tgt := 20) hx hb d_Desk_enterPart_7 (by decide) (fun hc => ?_) (fun hc => ?_)
  · have hf := sd_f hf hc
    refine lv_aload_n hx hb d_Desk_enterPart_20 rfl (lv_at hl 0 rfl) ?_
    refine va_get (D := D) (ci := 0) (v := .ref (q 2)) (C := "ScriptDesk") (T := T_Desk) (N := 10) hx hb hts iw_Desk hown hK hI.1 0 rfl rfl 4 (by decide) (hts _ tw_143) (fun _ h9 => h9) rfl d_Desk_enterPart_21 ?_
    refine va_get (D := D) (ci := 1) (v := .int (m1.1 2 4)) (C := "ScriptDesk$Elements") (T := T_Elements) (N := 5) hx hb hts iw_Elements hown hK hI.1 2 rfl rfl 4 (by decide) (hts _ tw_36) (fun _ h9 => h9) rfl d_Desk_enterPart_24 ?_
    refine lv_iconst (v := 1) hx hb d_Desk_enterPart_27 (by decide) ?_
    refine lv_icmp_ge (tgt := 33) hx hb d_Desk_enterPart_28 (by decide) (fun hc => ?_) (fun hc => ?_)
    · have hf := sd_t hf hc
      refine lv_aload_n hx hb d_Desk_enterPart_33 rfl (lv_at hl 0 rfl) ?_
      refine va_get (D := D) (ci := 0) (v := .ref (q 2)) (C := "ScriptDesk") (T := T_Desk) (N := 10) hx hb hts iw_Desk hown hK hI.1 0 rfl rfl 4 (by decide) (hts _ tw_143) (fun _ h9 => h9) rfl d_Desk_enterPart_34 ?_
      obtain ⟨x4, m3, hq, hf⟩ := sd_bi_e hf
      refine k_callV (As := []) (rest := []) (C := "ScriptDesk$Elements") (ci := 1) ZX_ok X hI (mt_Elements_topHolds_r2 l hq) (cwV 0 hts (gd_V tw_222 tw_223 tw_224 tw_2 tw_225) rfl rfl rfl (by decide +kernel) ⟨Nat.le_of_ble_eq_true rfl, Nat.le_of_ble_eq_true rfl⟩) 2 rfl rfl rfl hl.1 rfl (Nat.le_of_ble_eq_true rfl) d_Desk_enterPart_37 ⟨Nat.zero_le _, Nat.zero_le _⟩ (fun H locs hn_x4 hI => ?_)
      refine lv_istore_n (lv' := [(2, .int x4), (0, .ref (q 0)), (1, .int a1)]) hx hb d_Desk_enterPart_40 rfl hl (by decide) rfl (fun ls hl => ?_)
      refine lv_aload_n hx hb d_Desk_enterPart_41 rfl (lv_at hl 1 rfl) ?_
      refine va_get (D := D) (ci := 0) (v := .ref (q 2)) (C := "ScriptDesk") (T := T_Desk) (N := 10) hx hb hts iw_Desk hown hK hI.1 0 rfl rfl 4 (by decide) (hts _ tw_143) (fun _ h9 => h9) rfl d_Desk_enterPart_42 ?_
      refine lv_iconst (v := 1) hx hb d_Desk_enterPart_45 (by decide) ?_
      obtain ⟨m5, hq, hf⟩ := sd_bv_e hf
      refine k_callVv (As := [.int (1 : Int32)]) (rest := []) (C := "ScriptDesk$Elements") (ci := 1) ZX_ok X hI (mt_Elements_drop_r2 l hq) (cwV 1 hts (gd_V tw_234 tw_235 tw_236 tw_2 tw_237) rfl rfl rfl (by decide +kernel) ⟨Nat.le_of_ble_eq_true rfl, Nat.le_of_ble_eq_true rfl⟩) 2 rfl rfl rfl hl.1 rfl (Nat.le_of_ble_eq_true rfl) d_Desk_enterPart_46 ⟨Nat.zero_le _, Nat.zero_le _⟩ (fun H locs hI => ?_)
      refine lv_aload_n hx hb d_Desk_enterPart_49 rfl (lv_at hl 1 rfl) ?_
      refine va_get (D := D) (ci := 0) (v := .ref (q 7)) (C := "ScriptDesk") (T := T_Desk) (N := 10) hx hb hts iw_Desk hown hK hI.1 0 rfl rfl 6 (by decide) (hts _ tw_145) (fun _ h9 => h9) rfl d_Desk_enterPart_50 ?_
      refine lv_iload_n hx hb d_Desk_enterPart_53 rfl (lv_at hl 0 rfl) ?_
      refine lv_iload_n hx hb d_Desk_enterPart_54 rfl (lv_at hl 2 rfl) ?_
      refine lv_icmp_ne (tgt := 62) hx hb d_Desk_enterPart_55 (by decide) (fun hc => ?_) (fun hc => ?_)
      · have hf := sd_f hf hc
        refine lv_iconst (v := 0) hx hb d_Desk_enterPart_62 (by decide) ?_
        obtain ⟨m6, hq, hf⟩ := sd_bv_e hf
        refine k_callVv (As := [.int (0 : Int32)]) (rest := []) (C := "ScriptDesk$Flow") (ci := 3) ZX_ok X hI (mt_Flow_enter_r7 l hq) (cwV 1 hts (gd_V tw_218 tw_219 tw_220 tw_4 tw_221) rfl rfl rfl (by decide +kernel) ⟨Nat.le_of_ble_eq_true rfl, Nat.le_of_ble_eq_true rfl⟩) 7 rfl rfl rfl hl.1 rfl (Nat.le_of_ble_eq_true rfl) d_Desk_enterPart_63 ⟨Nat.zero_le _, Nat.zero_le _⟩ (fun H locs hI => ?_)
        refine lv_iconst (v := 0) hx hb d_Desk_enterPart_66 (by decide) ?_
        exact k_reti X hI (vp_nar_int _) hf d_Desk_enterPart_67
      · have hf := sd_t hf hc
        refine lv_iconst (v := 1) hx hb d_Desk_enterPart_58 (by decide) ?_
        refine lv_goto (tgt := 63) hx hb d_Desk_enterPart_59 (by decide) ?_
        obtain ⟨m7, hq, hf⟩ := sd_bv_e hf
        refine k_callVv (As := [.int (1 : Int32)]) (rest := []) (C := "ScriptDesk$Flow") (ci := 3) ZX_ok X hI (mt_Flow_enter_r7 l hq) (cwV 1 hts (gd_V tw_218 tw_219 tw_220 tw_4 tw_221) rfl rfl rfl (by decide +kernel) ⟨Nat.le_of_ble_eq_true rfl, Nat.le_of_ble_eq_true rfl⟩) 7 rfl rfl rfl hl.1 rfl (Nat.le_of_ble_eq_true rfl) d_Desk_enterPart_63 ⟨Nat.zero_le _, Nat.zero_le _⟩ (fun H locs hI => ?_)
        refine lv_iconst (v := 0) hx hb d_Desk_enterPart_66 (by decide) ?_
        exact k_reti X hI (vp_nar_int _) hf d_Desk_enterPart_67
    · have hf := sd_f hf hc
      refine lv_iconst (v := 5) hx hb d_Desk_enterPart_31 (by decide) ?_
      exact k_reti X hI (vp_nar_int _) hf d_Desk_enterPart_32
  · have hf := sd_t hf hc
    refine lv_aload_n hx hb d_Desk_enterPart_10 rfl (lv_at hl 0 rfl) ?_
    refine va_get (D := D) (ci := 0) (v := .ref (q 7)) (C := "ScriptDesk") (T := T_Desk) (N := 10) hx hb hts iw_Desk hown hK hI.1 0 rfl rfl 6 (by decide) (hts _ tw_145) (fun _ h9 => h9) rfl d_Desk_enterPart_11 ?_
    refine lv_iconst (v := 0) hx hb d_Desk_enterPart_14 (by decide) ?_
    obtain ⟨m8, hq, hf⟩ := sd_bv_e hf
    refine k_callVv (As := [.int (0 : Int32)]) (rest := []) (C := "ScriptDesk$Flow") (ci := 3) ZX_ok X hI (mt_Flow_enter_r7 l hq) (cwV 1 hts (gd_V tw_218 tw_219 tw_220 tw_4 tw_221) rfl rfl rfl (by decide +kernel) ⟨Nat.le_of_ble_eq_true rfl, Nat.le_of_ble_eq_true rfl⟩) 7 rfl rfl rfl hl.1 rfl (Nat.le_of_ble_eq_true rfl) d_Desk_enterPart_15 ⟨Nat.zero_le _, Nat.zero_le _⟩ (fun H locs hI => ?_)
    refine lv_iconst (v := 0) hx hb d_Desk_enterPart_18 (by decide) ?_
    exact k_reti X hI (vp_nar_int _) hf d_Desk_enterPart_19
set_option maxHeartbeats 4000000 in
set_option maxRecDepth 100000 in
theorem mt_Flow_isInside_r7 (l : Launch) {D : va_G} {q tq : Nat → Nat} {cA : ClassId} {μ : sd_Me} {ru : Int32 × sd_Me} (hf : fn_Flow_isInside_r7 μ = some ru) : sd_CTi l y_Flow_isInside w_Flow_isInside ({ frames := 0, cells := 0, slots := 0, locals := 0 }) vwCl (wdX q cA) D [(cA, .int)] (ZX tq) .boolean [.ref (q 7)] μ ru := by
  refine k_enti (cc := prog_4_method_3_code) 1 (by decide) rfl (Nat.le_of_ble_eq_true rfl) ?_
  intro p e s m below meth c A ls X hI hl
  have hl : lv_has ls 1 [(0, .ref (q 7))] := hl
  obtain ⟨hx, hb, hml, hown, hts, hK, hZ, hA, hr, hlocks⟩ := id X
  unfold fn_Flow_isInside_r7 at hf
  refine lv_aload_n hx hb d_Flow_isInside_0 rfl (lv_at hl 0 rfl) ?_
  refine va_get (D := D) (ci := 3) (v := .int (μ.1 7 0)) (C := "ScriptDesk$Flow") (T := T_Flow) (N := 2) hx hb hts iw_Flow hown hK hI.1 7 rfl rfl 0 (by decide) (hts _ tw_66) (fun _ h9 => h9) rfl d_Flow_isInside_1 ?_
  refine lv_if_le (tgt := 11) hx hb d_Flow_isInside_4 (by decide) (fun hc => ?_) (fun hc => ?_)
  · have hf := sd_t hf hc
    refine lv_iconst (v := 0) hx hb d_Flow_isInside_11 (by decide) ?_
    exact k_reti X hI rfl hf d_Flow_isInside_12
  · have hf := sd_f hf hc
    refine lv_iconst (v := 1) hx hb d_Flow_isInside_7 (by decide) ?_
    refine lv_goto (tgt := 12) hx hb d_Flow_isInside_8 (by decide) ?_
    exact k_reti X hI rfl hf d_Flow_isInside_12
set_option maxHeartbeats 4000000 in
set_option maxRecDepth 100000 in
theorem mt_Flow_turn_r7 (l : Launch) {D : va_G} {q tq : Nat → Nat} {cA : ClassId} {μ : sd_Me} {ru : sd_Me} (hf : fn_Flow_turn_r7 μ = some ru) : sd_CTv l y_Flow_turn w_Flow_turn ({ frames := 0, cells := 0, slots := 0, locals := 0 }) vwCl (wdX q cA) D [(cA, .int)] (ZX tq) [.ref (q 7)] μ ru := by
  refine k_entv (cc := prog_4_method_6_code) 1 (by decide) rfl (Nat.le_of_ble_eq_true rfl) ?_
  intro p e s m below meth c A ls X hI hl
  have hl : lv_has ls 1 [(0, .ref (q 7))] := hl
  obtain ⟨hx, hb, hml, hown, hts, hK, hZ, hA, hr, hlocks⟩ := id X
  unfold fn_Flow_turn_r7 at hf
  refine lv_aload_n hx hb d_Flow_turn_0 rfl (lv_at hl 0 rfl) ?_
  refine va_get (D := D) (ci := 3) (v := .int (μ.1 7 1)) (C := "ScriptDesk$Flow") (T := T_Flow) (N := 2) hx hb hts iw_Flow hown hK hI.1 7 rfl rfl 1 (by decide) (hts _ tw_67) (fun _ h9 => h9) rfl d_Flow_turn_1 ?_
  refine lv_if_ne (tgt := 18) hx hb d_Flow_turn_4 (by decide) (fun hc => ?_) (fun hc => ?_)
  · have hf := sd_f hf hc
    refine lv_aload_n hx hb d_Flow_turn_18 rfl (lv_at hl 0 rfl) ?_
    refine va_get (D := D) (ci := 3) (v := .int (μ.1 7 1)) (C := "ScriptDesk$Flow") (T := T_Flow) (N := 2) hx hb hts iw_Flow hown hK hI.1 7 rfl rfl 1 (by decide) (hts _ tw_67) (fun _ h9 => h9) rfl d_Flow_turn_19 ?_
    refine lv_aload_n hx hb d_Flow_turn_22 rfl (lv_at hl 0 rfl) ?_
    refine va_get (D := D) (ci := 3) (v := .int (μ.1 7 0)) (C := "ScriptDesk$Flow") (T := T_Flow) (N := 2) hx hb hts iw_Flow hown hK hI.1 7 rfl rfl 0 (by decide) (hts _ tw_66) (fun _ h9 => h9) rfl d_Flow_turn_23 ?_
    refine lv_icmp_ne (tgt := 34) hx hb d_Flow_turn_26 (by decide) (fun hc => ?_) (fun hc => ?_)
    · have hf := sd_f hf hc
      exact k_retv X hI hf d_Flow_turn_34
    · have hf := sd_t hf hc
      refine lv_aload_n hx hb d_Flow_turn_29 rfl (lv_at hl 0 rfl) ?_
      refine lv_iconst (v := 0) hx hb d_Flow_turn_30 (by decide) ?_
      refine k_put (ci := 3) (v := .int (0 : Int32)) (ty := .int) (C := "ScriptDesk$Flow") (T := T_Flow) (N := 2) (μ' := sd_st μ 7 1 (0 : Int32)) hx hb hts iw_Flow t_Flow t_Flow_ok n_Flow hown hK hI 7 rfl rfl 1 (by decide) (hts _ tw_67) (fun _ h9 => h9) rfl (by decide +kernel) rfl rfl (Nat.le_of_ble_eq_true rfl) rfl d_Flow_turn_31 (fun H locs hI => ?_)
      obtain ⟨m1, hI, hf⟩ := k_lm hf hI
      exact k_retv X hI hf d_Flow_turn_34
  · have hf := sd_t hf hc
    refine lv_aload_n hx hb d_Flow_turn_7 rfl (lv_at hl 0 rfl) ?_
    refine lv_aload_n hx hb d_Flow_turn_8 rfl (lv_at hl 0 rfl) ?_
    refine va_get (D := D) (ci := 3) (v := .int (μ.1 7 0)) (C := "ScriptDesk$Flow") (T := T_Flow) (N := 2) hx hb hts iw_Flow hown hK hI.1 7 rfl rfl 0 (by decide) (hts _ tw_66) (fun _ h9 => h9) rfl d_Flow_turn_9 ?_
    refine k_put (ci := 3) (v := .int (μ.1 7 0)) (ty := .int) (C := "ScriptDesk$Flow") (T := T_Flow) (N := 2) (μ' := sd_st μ 7 1 (μ.1 7 0)) hx hb hts iw_Flow t_Flow t_Flow_ok n_Flow hown hK hI 7 rfl rfl 1 (by decide) (hts _ tw_67) (fun _ h9 => h9) rfl (by decide +kernel) rfl rfl (Nat.le_of_ble_eq_true rfl) rfl d_Flow_turn_12 (fun H locs hI => ?_)
    obtain ⟨m2, hI, hf⟩ := k_lm hf hI
    refine lv_goto (tgt := 34) hx hb d_Flow_turn_15 (by decide) ?_
    exact k_retv X hI hf d_Flow_turn_34
set_option maxHeartbeats 4000000 in
set_option maxRecDepth 100000 in
theorem mt_Flow_end_r7 (l : Launch) {D : va_G} {q tq : Nat → Nat} {cA : ClassId} {μ : sd_Me} {ru : sd_Me} (hf : fn_Flow_end_r7 μ = some ru) : sd_CTv l y_Flow_end w_Flow_end ({ frames := 0, cells := 0, slots := 0, locals := 0 }) vwCl (wdX q cA) D [(cA, .int)] (ZX tq) [.ref (q 7)] μ ru := by
  refine k_entv (cc := prog_4_method_7_code) 1 (by decide) rfl (Nat.le_of_ble_eq_true rfl) ?_
  intro p e s m below meth c A ls X hI hl
  have hl : lv_has ls 1 [(0, .ref (q 7))] := hl
  obtain ⟨hx, hb, hml, hown, hts, hK, hZ, hA, hr, hlocks⟩ := id X
  unfold fn_Flow_end_r7 at hf
  refine lv_aload_n hx hb d_Flow_end_0 rfl (lv_at hl 0 rfl) ?_
  refine va_get (D := D) (ci := 3) (v := .int (μ.1 7 1)) (C := "ScriptDesk$Flow") (T := T_Flow) (N := 2) hx hb hts iw_Flow hown hK hI.1 7 rfl rfl 1 (by decide) (hts _ tw_67) (fun _ h9 => h9) rfl d_Flow_end_1 ?_
  refine lv_aload_n hx hb d_Flow_end_4 rfl (lv_at hl 0 rfl) ?_
  refine va_get (D := D) (ci := 3) (v := .int (μ.1 7 0)) (C := "ScriptDesk$Flow") (T := T_Flow) (N := 2) hx hb hts iw_Flow hown hK hI.1 7 rfl rfl 0 (by decide) (hts _ tw_66) (fun _ h9 => h9) rfl d_Flow_end_5 ?_
  refine lv_icmp_ne (tgt := 16) hx hb d_Flow_end_8 (by decide) (fun hc => ?_) (fun hc => ?_)
  · have hf := sd_f hf hc
    refine lv_aload_n hx hb d_Flow_end_16 rfl (lv_at hl 0 rfl) ?_
    refine lv_dup hx hb d_Flow_end_17 rfl ?_
    refine va_get (D := D) (ci := 3) (v := .int (μ.1 7 0)) (C := "ScriptDesk$Flow") (T := T_Flow) (N := 2) hx hb hts iw_Flow hown hK hI.1 7 rfl rfl 0 (by decide) (hts _ tw_66) (fun _ h9 => h9) rfl d_Flow_end_18 ?_
    refine lv_iconst (v := 1) hx hb d_Flow_end_21 (by decide) ?_
    refine lv_isub hx hb d_Flow_end_22 ?_
    refine k_put (ci := 3) (v := .int ((μ.1 7 0) - (1 : Int32))) (ty := .int) (C := "ScriptDesk$Flow") (T := T_Flow) (N := 2) (μ' := sd_st μ 7 0 ((μ.1 7 0) - (1 : Int32))) hx hb hts iw_Flow t_Flow t_Flow_ok n_Flow hown hK hI 7 rfl rfl 0 (by decide) (hts _ tw_66) (fun _ h9 => h9) rfl (by decide +kernel) rfl rfl (Nat.le_of_ble_eq_true rfl) rfl d_Flow_end_23 (fun H locs hI => ?_)
    obtain ⟨m1, hI, hf⟩ := k_lm hf hI
    exact k_retv X hI hf d_Flow_end_26
  · have hf := sd_t hf hc
    refine lv_aload_n hx hb d_Flow_end_11 rfl (lv_at hl 0 rfl) ?_
    refine lv_iconst (v := 0) hx hb d_Flow_end_12 (by decide) ?_
    refine k_put (ci := 3) (v := .int (0 : Int32)) (ty := .int) (C := "ScriptDesk$Flow") (T := T_Flow) (N := 2) (μ' := sd_st μ 7 1 (0 : Int32)) hx hb hts iw_Flow t_Flow t_Flow_ok n_Flow hown hK hI 7 rfl rfl 1 (by decide) (hts _ tw_67) (fun _ h9 => h9) rfl (by decide +kernel) rfl rfl (Nat.le_of_ble_eq_true rfl) rfl d_Flow_end_13 (fun H locs hI => ?_)
    obtain ⟨m2, hI, hf⟩ := k_lm hf hI
    refine lv_aload_n hx hb d_Flow_end_16 rfl (lv_at hl 0 rfl) ?_
    refine lv_dup hx hb d_Flow_end_17 rfl ?_
    refine va_get (D := D) (ci := 3) (v := .int (m2.1 7 0)) (C := "ScriptDesk$Flow") (T := T_Flow) (N := 2) hx hb hts iw_Flow hown hK hI.1 7 rfl rfl 0 (by decide) (hts _ tw_66) (fun _ h9 => h9) rfl d_Flow_end_18 ?_
    refine lv_iconst (v := 1) hx hb d_Flow_end_21 (by decide) ?_
    refine lv_isub hx hb d_Flow_end_22 ?_
    refine k_put (ci := 3) (v := .int ((m2.1 7 0) - (1 : Int32))) (ty := .int) (C := "ScriptDesk$Flow") (T := T_Flow) (N := 2) (μ' := sd_st m2 7 0 ((m2.1 7 0) - (1 : Int32))) hx hb hts iw_Flow t_Flow t_Flow_ok n_Flow hown hK hI 7 rfl rfl 0 (by decide) (hts _ tw_66) (fun _ h9 => h9) rfl (by decide +kernel) rfl rfl (Nat.le_of_ble_eq_true rfl) rfl d_Flow_end_23 (fun H locs hI => ?_)
    obtain ⟨m3, hI, hf⟩ := k_lm hf hI
    exact k_retv X hI hf d_Flow_end_26
set_option maxHeartbeats 4000000 in
set_option maxRecDepth 100000 in
theorem mt_Desk_leavePart_r0 (l : Launch) {D : va_G} {q tq : Nat → Nat} {cA : ClassId} {a1 : Int32} {μ : sd_Me} {ru : Int32 × sd_Me} (hf : fn_Desk_leavePart_r0 a1 μ = some ru) : sd_CTi l y_Desk_leavePart w_Desk_leavePart ({ frames := 1, cells := 0, slots := 0, locals := 20 }) vwCl (wdX q cA) D [(cA, .int)] (ZX tq) .int [.ref (q 0), .int a1] μ ru := by
  refine k_enti (cc := prog_1_method_16_code) 2 (by decide) rfl (Nat.le_of_ble_eq_true rfl) ?_
  intro p e s m below meth c A ls X hI hl
  have hl : lv_has ls 2 [(0, .ref (q 0)), (1, .int a1)] := hl
  obtain ⟨hx, hb, hml, hown, hts, hK, hZ, hA, hr, hlocks⟩ := id X
  unfold fn_Desk_leavePart_r0 at hf
  refine lv_aload_n hx hb d_Desk_leavePart_0 rfl (lv_at hl 0 rfl) ?_
  refine va_get (D := D) (ci := 0) (v := .ref (q 7)) (C := "ScriptDesk") (T := T_Desk) (N := 10) hx hb hts iw_Desk hown hK hI.1 0 rfl rfl 6 (by decide) (hts _ tw_145) (fun _ h9 => h9) rfl d_Desk_leavePart_1 ?_
  obtain ⟨x2, m1, hq, hf⟩ := sd_bi_e hf
  refine k_callV (As := []) (rest := []) (C := "ScriptDesk$Flow") (ci := 3) ZX_ok X hI (mt_Flow_isInside_r7 l hq) (cwV 0 hts (gd_V tw_245 tw_246 tw_247 tw_4 tw_248) rfl rfl rfl (by decide +kernel) ⟨Nat.le_of_ble_eq_true rfl, Nat.le_of_ble_eq_true rfl⟩) 7 rfl rfl rfl hl.1 rfl (Nat.le_of_ble_eq_true rfl) d_Desk_leavePart_4 ⟨Nat.zero_le _, Nat.zero_le _⟩ (fun H locs hn_x2 hI => ?_)
  refine lv_if_ne (tgt := 13) hx hb d_Desk_leavePart_7 (by decide) (fun hc => ?_) (fun hc => ?_)
  · have hf := sd_f hf hc
    refine lv_iload_n hx hb d_Desk_leavePart_13 rfl (lv_at hl 1 rfl) ?_
    refine lv_if_eq (tgt := 27) hx hb d_Desk_leavePart_14 (by decide) (fun hc => ?_) (fun hc => ?_)
    · have hf := sd_t hf hc
      refine lv_aload_n hx hb d_Desk_leavePart_27 rfl (lv_at hl 0 rfl) ?_
      refine va_get (D := D) (ci := 0) (v := .ref (q 7)) (C := "ScriptDesk") (T := T_Desk) (N := 10) hx hb hts iw_Desk hown hK hI.1 0 rfl rfl 6 (by decide) (hts _ tw_145) (fun _ h9 => h9) rfl d_Desk_leavePart_28 ?_
      obtain ⟨m3, hq, hf⟩ := sd_bv_e hf
      refine k_callVv (As := []) (rest := []) (C := "ScriptDesk$Flow") (ci := 3) ZX_ok X hI (mt_Flow_turn_r7 l hq) (cwV 0 hts (gd_V tw_253 tw_254 tw_255 tw_4 tw_256) rfl rfl rfl (by decide +kernel) ⟨Nat.le_of_ble_eq_true rfl, Nat.le_of_ble_eq_true rfl⟩) 7 rfl rfl rfl hl.1 rfl (Nat.le_of_ble_eq_true rfl) d_Desk_leavePart_31 ⟨Nat.zero_le _, Nat.zero_le _⟩ (fun H locs hI => ?_)
      refine lv_iconst (v := 0) hx hb d_Desk_leavePart_34 (by decide) ?_
      exact k_reti X hI (vp_nar_int _) hf d_Desk_leavePart_35
    · have hf := sd_f hf hc
      refine lv_aload_n hx hb d_Desk_leavePart_17 rfl (lv_at hl 0 rfl) ?_
      refine va_get (D := D) (ci := 0) (v := .ref (q 7)) (C := "ScriptDesk") (T := T_Desk) (N := 10) hx hb hts iw_Desk hown hK hI.1 0 rfl rfl 6 (by decide) (hts _ tw_145) (fun _ h9 => h9) rfl d_Desk_leavePart_18 ?_
      obtain ⟨m4, hq, hf⟩ := sd_bv_e hf
      refine k_callVv (As := []) (rest := []) (C := "ScriptDesk$Flow") (ci := 3) ZX_ok X hI (mt_Flow_end_r7 l hq) (cwV 0 hts (gd_V tw_249 tw_250 tw_251 tw_4 tw_252) rfl rfl rfl (by decide +kernel) ⟨Nat.le_of_ble_eq_true rfl, Nat.le_of_ble_eq_true rfl⟩) 7 rfl rfl rfl hl.1 rfl (Nat.le_of_ble_eq_true rfl) d_Desk_leavePart_21 ⟨Nat.zero_le _, Nat.zero_le _⟩ (fun H locs hI => ?_)
      refine lv_goto (tgt := 34) hx hb d_Desk_leavePart_24 (by decide) ?_
      refine lv_iconst (v := 0) hx hb d_Desk_leavePart_34 (by decide) ?_
      exact k_reti X hI (vp_nar_int _) hf d_Desk_leavePart_35
  · have hf := sd_t hf hc
    refine lv_bipush (v := 10) hx hb d_Desk_leavePart_10 (by decide) ?_
    exact k_reti X hI (vp_nar_int _) hf d_Desk_leavePart_12
set_option maxHeartbeats 4000000 in
set_option maxRecDepth 100000 in
theorem mt_Elements_faultOfNumber_r2 (l : Launch) {D : va_G} {q tq : Nat → Nat} {cA : ClassId} {a1 : Int32} {μ : sd_Me} {ru : Int32 × sd_Me} (hf : fn_Elements_faultOfNumber_r2 a1 μ = some ru) : sd_CTi l y_Elements_faultOfNumber w_Elements_faultOfNumber ({ frames := 1, cells := 0, slots := 0, locals := 21 }) vwCl (wdX q cA) D [(cA, .int)] (ZX tq) .int [.ref (q 2), .int a1] μ ru := by
  refine k_enti (cc := prog_3_method_7_code) 2 (by decide) rfl (Nat.le_of_ble_eq_true rfl) ?_
  intro p e s m below meth c A ls X hI hl
  have hl : lv_has ls 2 [(0, .ref (q 2)), (1, .int a1)] := hl
  obtain ⟨hx, hb, hml, hown, hts, hK, hZ, hA, hr, hlocks⟩ := id X
  unfold fn_Elements_faultOfNumber_r2 at hf
  refine lv_iload_n hx hb d_Elements_faultOfNumber_0 rfl (lv_at hl 1 rfl) ?_
  refine lv_aload_n hx hb d_Elements_faultOfNumber_1 rfl (lv_at hl 0 rfl) ?_
  refine va_get (D := D) (ci := 1) (v := .int (μ.1 2 4)) (C := "ScriptDesk$Elements") (T := T_Elements) (N := 5) hx hb hts iw_Elements hown hK hI.1 2 rfl rfl 4 (by decide) (hts _ tw_33) (fun _ h9 => h9) rfl d_Elements_faultOfNumber_2 ?_
  refine lv_icmp_lt (tgt := 10) hx hb d_Elements_faultOfNumber_5 (by decide) (fun hc => ?_) (fun hc => ?_)
  · have hf := sd_t hf hc
    refine lv_aload_n hx hb d_Elements_faultOfNumber_10 rfl (lv_at hl 0 rfl) ?_
    refine lv_iload_n hx hb d_Elements_faultOfNumber_11 rfl (lv_at hl 1 rfl) ?_
    obtain ⟨x2, m1, hq, hf⟩ := sd_bi_e hf
    refine k_callV (As := [.int a1]) (rest := []) (C := "ScriptDesk$Elements") (ci := 1) ZX_ok X hI (mt_Elements_lengthAt_r2 l hq) (cwV 1 hts (gd_V tw_226 tw_227 tw_228 tw_2 tw_229) rfl rfl rfl (by decide +kernel) ⟨Nat.le_of_ble_eq_true rfl, Nat.le_of_ble_eq_true rfl⟩) 2 rfl rfl rfl hl.1 rfl (Nat.le_of_ble_eq_true rfl) d_Elements_faultOfNumber_12 ⟨Nat.zero_le _, Nat.zero_le _⟩ (fun H locs hn_x2 hI => ?_)
    refine lv_iconst (v := 4) hx hb d_Elements_faultOfNumber_15 (by decide) ?_
    refine lv_icmp_le (tgt := 24) hx hb d_Elements_faultOfNumber_16 (by decide) (fun hc => ?_) (fun hc => ?_)
    · have hf := sd_t hf hc
      refine lv_iconst (v := 0) hx hb d_Elements_faultOfNumber_24 (by decide) ?_
      exact k_reti X hI (vp_nar_int _) hf d_Elements_faultOfNumber_25
    · have hf := sd_f hf hc
      refine lv_bipush (v := 6) hx hb d_Elements_faultOfNumber_19 (by decide) ?_
      refine lv_goto (tgt := 25) hx hb d_Elements_faultOfNumber_21 (by decide) ?_
      exact k_reti X hI (vp_nar_int _) hf d_Elements_faultOfNumber_25
  · have hf := sd_f hf hc
    refine lv_iconst (v := 5) hx hb d_Elements_faultOfNumber_8 (by decide) ?_
    exact k_reti X hI (vp_nar_int _) hf d_Elements_faultOfNumber_9
set_option maxHeartbeats 4000000 in
set_option maxRecDepth 100000 in
theorem lp_Elements_numberAt_r2_L35 (l : Launch) {p : Program} {e : Env} {s : State} {m : MethodId} {args : Array Value} {below : List Frame} {meth : Method} {c : Code} {A : Nat → Prop} {D : va_G} {q tq : Nat → Nat} {cA : ClassId} {ru : Int64 × sd_Me} (X : sd_Cx p s m args meth c prog_3_method_8_code "ScriptDesk$Elements" sx_tbl 6 (some .long) vwCl D [(cA, .int)] (ZX tq) A) {k61 : Int32 → Int32 → Int64 → sd_Me → Option (Int64 × sd_Me)} (hk61 : ∀ (v1 : Int32) (v2 : Int32) (v3 : Int64) (μ : sd_Me) (H : Heap) (locs : List Loc) (ls : Array Slot), sd_CI vwCl (wdX q cA) D A s H locs μ → lv_has ls 6 [(0, .ref (q 2)), (1, .int v1), (2, .int v2), (3, .long v3)] → k61 v1 v2 v3 μ = some ru → W p l e ({ frames := 1, cells := 0, slots := 0, locals := 23 }) s m args below meth c H locs 0 0 (sd_QL below vwCl (wdX q cA) D [(cA, .int)] A args s ru) (F0 m 61 ls [])) :
    ∀ (n : Nat) (v1 : Int32) (v2 : Int32) (v3 : Int64) (v5 : Int32) (μ : sd_Me) (H : Heap) (locs : List Loc) (ls : Array Slot), sd_CI vwCl (wdX q cA) D A s H locs μ → lv_has ls 6 [(0, .ref (q 2)), (1, .int v1), (2, .int v2), (3, .long v3), (5, .int v5)] → fn_Elements_numberAt_r2_L35 k61 n v1 v2 v3 v5 μ = some ru → W p l e ({ frames := 1, cells := 0, slots := 0, locals := 23 }) s m args below meth c H locs 0 0 (sd_QL below vwCl (wdX q cA) D [(cA, .int)] A args s ru) (F0 m 35 ls []) := by
  obtain ⟨hx, hb, hml, hown, hts, hK, hZ, hA, hr, hlocks⟩ := id X
  intro n
  induction n with
  | zero =>
    intro v1 v2 v3 v5 μ H locs ls hI hl hf
    cases hf
  | succ n ih =>
    intro v1 v2 v3 v5 μ H locs ls hI hl hf
    rw [fn_Elements_numberAt_r2_L35] at hf
    refine lv_iload hx hb d_Elements_numberAt_35 (lv_at hl 4 rfl) ?_
    refine lv_if_lt (tgt := 61) hx hb d_Elements_numberAt_37 (by decide) (fun hc => ?_) (fun hc => ?_)
    · have hf := sd_t hf hc
      exact hk61 (v1) (v2) (v3) μ _ _ _ hI (lv_sub hl [0, 1, 2, 3] rfl) hf
    · have hf := sd_f hf hc
      refine lv_lload_n hx hb d_Elements_numberAt_40 rfl (lv_at hl 3 rfl) ?_
      refine lv_ldc2 (v := 256) hx hb hown (hts _ tw_302) d_Elements_numberAt_41 ?_
      refine lv_lmul hx hb d_Elements_numberAt_44 ?_
      refine lv_aload_n hx hb d_Elements_numberAt_45 rfl (lv_at hl 0 rfl) ?_
      refine lv_iload_n hx hb d_Elements_numberAt_46 rfl (lv_at hl 1 rfl) ?_
      refine lv_iload hx hb d_Elements_numberAt_47 (lv_at hl 4 rfl) ?_
      obtain ⟨x9, m8, hq, hf⟩ := sd_bi_e hf
      refine k_callV (As := [.int v1, .int v5]) (rest := [.long (v3 * (256 : Int64))]) (C := "ScriptDesk$Elements") (ci := 1) ZX_ok X hI (mt_Elements_octetAt_r2 l hq) (cwV 2 hts (gd_V tw_230 tw_231 tw_232 tw_2 tw_233) rfl rfl rfl (by decide +kernel) ⟨Nat.le_of_ble_eq_true rfl, Nat.le_of_ble_eq_true rfl⟩) 2 rfl rfl rfl hl.1 rfl (Nat.le_of_ble_eq_true rfl) d_Elements_numberAt_49 ⟨Nat.zero_le _, Nat.zero_le _⟩ (fun H locs hn_x9 hI => ?_)
      refine lv_i2l (v := (Int32.toInt64 x9)) hx hb d_Elements_numberAt_52 rfl ?_
      refine lv_ladd hx hb d_Elements_numberAt_53 ?_
      refine k_ll hf (fun x10 hf => ?_)
      refine lv_lstore_n (lv' := [(3, .long x10), (0, .ref (q 2)), (1, .int v1), (2, .int v2), (5, .int v5)]) hx hb d_Elements_numberAt_54 rfl hl (by decide) rfl (fun ls hl => ?_)
      refine lv_iinc (v := (v5 + (-1 : Int32))) (lv' := [(5, .int (v5 + (-1 : Int32))), (3, .long x10), (0, .ref (q 2)), (1, .int v1), (2, .int v2)]) hx hb d_Elements_numberAt_55 hl (k := 4) rfl rfl (by decide) rfl (fun ls hl => ?_)
      refine lv_goto (tgt := 35) hx hb d_Elements_numberAt_58 (by decide) ?_
      exact ih (v1) (v2) (x10) ((v5 + (-1 : Int32))) m8 _ _ _ hI (lv_sub hl [2, 3, 4, 1, 0] rfl) hf
set_option maxHeartbeats 4000000 in
set_option maxRecDepth 100000 in
theorem mt_Elements_numberAt_r2 (l : Launch) {D : va_G} {q tq : Nat → Nat} {cA : ClassId} {a1 : Int32} {μ : sd_Me} {ru : Int64 × sd_Me} (hf : fn_Elements_numberAt_r2 a1 μ = some ru) : sd_CTl l y_Elements_numberAt w_Elements_numberAt ({ frames := 1, cells := 0, slots := 0, locals := 23 }) vwCl (wdX q cA) D [(cA, .int)] (ZX tq) [.ref (q 2), .int a1] μ ru := by
  refine k_entl (cc := prog_3_method_8_code) 6 (by decide) rfl (Nat.le_of_ble_eq_true rfl) ?_
  intro p e s m below meth c A ls X hI hl
  have hl : lv_has ls 6 [(0, .ref (q 2)), (1, .int a1)] := hl
  obtain ⟨hx, hb, hml, hown, hts, hK, hZ, hA, hr, hlocks⟩ := id X
  unfold fn_Elements_numberAt_r2 at hf
  refine lv_aload_n hx hb d_Elements_numberAt_0 rfl (lv_at hl 0 rfl) ?_
  refine lv_iload_n hx hb d_Elements_numberAt_1 rfl (lv_at hl 1 rfl) ?_
  obtain ⟨x2, m1, hq, hf⟩ := sd_bi_e hf
  refine k_callV (As := [.int a1]) (rest := []) (C := "ScriptDesk$Elements") (ci := 1) ZX_ok X hI (mt_Elements_lengthAt_r2 l hq) (cwV 1 hts (gd_V tw_226 tw_227 tw_228 tw_2 tw_229) rfl rfl rfl (by decide +kernel) ⟨Nat.le_of_ble_eq_true rfl, Nat.le_of_ble_eq_true rfl⟩) 2 rfl rfl rfl hl.1 rfl (Nat.le_of_ble_eq_true rfl) d_Elements_numberAt_2 ⟨Nat.zero_le _, Nat.zero_le _⟩ (fun H locs hn_x2 hI => ?_)
  refine lv_iconst (v := 1) hx hb d_Elements_numberAt_5 (by decide) ?_
  refine lv_isub hx hb d_Elements_numberAt_6 ?_
  refine k_li hf (fun x3 hf => ?_)
  refine lv_istore_n (lv' := [(2, .int x3), (0, .ref (q 2)), (1, .int a1)]) hx hb d_Elements_numberAt_7 rfl hl (by decide) rfl (fun ls hl => ?_)
  refine lv_iload_n hx hb d_Elements_numberAt_8 rfl (lv_at hl 0 rfl) ?_
  refine lv_if_lt (tgt := 17) hx hb d_Elements_numberAt_9 (by decide) (fun hc => ?_) (fun hc => ?_)
  · have hf := sd_t hf hc
    refine lv_lconst (v := 0) hx hb d_Elements_numberAt_17 (by decide) ?_
    exact k_retl X hI hf d_Elements_numberAt_18
  · have hf := sd_f hf hc
    refine lv_iload_n hx hb d_Elements_numberAt_12 rfl (lv_at hl 0 rfl) ?_
    refine lv_iconst (v := 4) hx hb d_Elements_numberAt_13 (by decide) ?_
    refine lv_icmp_lt (tgt := 19) hx hb d_Elements_numberAt_14 (by decide) (fun hc => ?_) (fun hc => ?_)
    · have hf := sd_t hf hc
      refine lv_aload_n hx hb d_Elements_numberAt_19 rfl (lv_at hl 1 rfl) ?_
      refine lv_iload_n hx hb d_Elements_numberAt_20 rfl (lv_at hl 2 rfl) ?_
      refine lv_iload_n hx hb d_Elements_numberAt_21 rfl (lv_at hl 0 rfl) ?_
      obtain ⟨x5, m4, hq, hf⟩ := sd_bi_e hf
      refine k_callV (As := [.int a1, .int x3]) (rest := []) (C := "ScriptDesk$Elements") (ci := 1) ZX_ok X hI (mt_Elements_octetAt_r2 l hq) (cwV 2 hts (gd_V tw_230 tw_231 tw_232 tw_2 tw_233) rfl rfl rfl (by decide +kernel) ⟨Nat.le_of_ble_eq_true rfl, Nat.le_of_ble_eq_true rfl⟩) 2 rfl rfl rfl hl.1 rfl (Nat.le_of_ble_eq_true rfl) d_Elements_numberAt_22 ⟨Nat.zero_le _, Nat.zero_le _⟩ (fun H locs hn_x5 hI => ?_)
      refine lv_bipush (v := 127) hx hb d_Elements_numberAt_25 (by decide) ?_
      refine lv_iand hx hb d_Elements_numberAt_27 ?_
      refine lv_i2l (v := (Int32.toInt64 (x5 &&& (127 : Int32)))) hx hb d_Elements_numberAt_28 rfl ?_
      refine k_ll hf (fun x6 hf => ?_)
      refine lv_lstore_n (lv' := [(3, .long x6), (2, .int x3), (0, .ref (q 2)), (1, .int a1)]) hx hb d_Elements_numberAt_29 rfl hl (by decide) rfl (fun ls hl => ?_)
      refine lv_iload_n hx hb d_Elements_numberAt_30 rfl (lv_at hl 1 rfl) ?_
      refine lv_iconst (v := 1) hx hb d_Elements_numberAt_31 (by decide) ?_
      refine lv_isub hx hb d_Elements_numberAt_32 ?_
      refine k_li hf (fun x7 hf => ?_)
      refine lv_istore (lv' := [(5, .int x7), (3, .long x6), (2, .int x3), (0, .ref (q 2)), (1, .int a1)]) hx hb d_Elements_numberAt_33 hl (by decide) rfl (fun ls hl => ?_)
      refine lp_Elements_numberAt_r2_L35 l X ?_ 10000 (a1) (x3) (x6) (x7) m4 _ _ _ hI (lv_sub hl [3, 4, 2, 1, 0] rfl) hf
      · intro x11 x12 x13 m14 H locs ls hI hl hf
        refine lv_aload_n hx hb d_Elements_numberAt_61 rfl (lv_at hl 0 rfl) ?_
        refine lv_iload_n hx hb d_Elements_numberAt_62 rfl (lv_at hl 1 rfl) ?_
        refine lv_iload_n hx hb d_Elements_numberAt_63 rfl (lv_at hl 2 rfl) ?_
        obtain ⟨x16, m15, hq, hf⟩ := sd_bi_e hf
        refine k_callV (As := [.int x11, .int x12]) (rest := []) (C := "ScriptDesk$Elements") (ci := 1) ZX_ok X hI (mt_Elements_octetAt_r2 l hq) (cwV 2 hts (gd_V tw_230 tw_231 tw_232 tw_2 tw_233) rfl rfl rfl (by decide +kernel) ⟨Nat.le_of_ble_eq_true rfl, Nat.le_of_ble_eq_true rfl⟩) 2 rfl rfl rfl hl.1 rfl (Nat.le_of_ble_eq_true rfl) d_Elements_numberAt_64 ⟨Nat.zero_le _, Nat.zero_le _⟩ (fun H locs hn_x16 hI => ?_)
        refine lv_sipush (v := 128) hx hb d_Elements_numberAt_67 (by decide) ?_
        refine lv_icmp_lt (tgt := 78) hx hb d_Elements_numberAt_70 (by decide) (fun hc => ?_) (fun hc => ?_)
        · have hf := sd_t hf hc
          refine lv_lload_n hx hb d_Elements_numberAt_78 rfl (lv_at hl 3 rfl) ?_
          exact k_retl X hI hf d_Elements_numberAt_79
        · have hf := sd_f hf hc
          refine lv_lload_n hx hb d_Elements_numberAt_73 rfl (lv_at hl 3 rfl) ?_
          refine lv_lneg hx hb d_Elements_numberAt_74 ?_
          refine lv_goto (tgt := 79) hx hb d_Elements_numberAt_75 (by decide) ?_
          exact k_retl X hI hf d_Elements_numberAt_79
    · have hf := sd_f hf hc
      refine lv_lconst (v := 0) hx hb d_Elements_numberAt_17 (by decide) ?_
      exact k_retl X hI hf d_Elements_numberAt_18
set_option maxHeartbeats 4000000 in
set_option maxRecDepth 100000 in
theorem mt_Signatures_faultOfAmount_r2 (l : Launch) {D : va_G} {q tq : Nat → Nat} {cA : ClassId} {a1 : Int32} {a2 : Int32} {μ : sd_Me} {ru : Int32 × sd_Me} (hf : fn_Signatures_faultOfAmount_r2 a1 a2 μ = some ru) : sd_CTi l y_Signatures_faultOfAmount w_Signatures_faultOfAmount ({ frames := 2, cells := 0, slots := 0, locals := 48 }) vwCl (wdX q cA) D [(cA, .int)] (ZX tq) .int [.ref (q 2), .int a1, .int a2] μ ru := by
  refine k_enti (cc := prog_9_method_5_code) 6 (by decide) rfl (Nat.le_of_ble_eq_true rfl) ?_
  intro p e s m below meth c A ls X hI hl
  have hl : lv_has ls 6 [(0, .ref (q 2)), (1, .int a1), (2, .int a2)] := hl
  obtain ⟨hx, hb, hml, hown, hts, hK, hZ, hA, hr, hlocks⟩ := id X
  unfold fn_Signatures_faultOfAmount_r2 at hf
  refine lv_aload_n hx hb d_Signatures_faultOfAmount_0 rfl (lv_at hl 0 rfl) ?_
  refine lv_iload_n hx hb d_Signatures_faultOfAmount_1 rfl (lv_at hl 1 rfl) ?_
  obtain ⟨x2, m1, hq, hf⟩ := sd_bi_e hf
  refine k_callV (As := [.int a1]) (rest := []) (C := "ScriptDesk$Elements") (ci := 1) ZX_ok X hI (mt_Elements_faultOfNumber_r2 l hq) (cwV 1 hts (gd_V tw_479 tw_295 tw_296 tw_2 tw_297) rfl rfl rfl (by decide +kernel) ⟨Nat.le_of_ble_eq_true rfl, Nat.le_of_ble_eq_true rfl⟩) 2 rfl rfl rfl hl.1 rfl (Nat.le_of_ble_eq_true rfl) d_Signatures_faultOfAmount_2 ⟨Nat.zero_le _, Nat.zero_le _⟩ (fun H locs hn_x2 hI => ?_)
  refine lv_istore_n (lv' := [(3, .int x2), (0, .ref (q 2)), (1, .int a1), (2, .int a2)]) hx hb d_Signatures_faultOfAmount_5 rfl hl (by decide) rfl (fun ls hl => ?_)
  refine lv_iload_n hx hb d_Signatures_faultOfAmount_6 rfl (lv_at hl 0 rfl) ?_
  refine lv_if_eq (tgt := 12) hx hb d_Signatures_faultOfAmount_7 (by decide) (fun hc => ?_) (fun hc => ?_)
  · have hf := sd_t hf hc
    refine lv_aload_n hx hb d_Signatures_faultOfAmount_12 rfl (lv_at hl 1 rfl) ?_
    refine lv_iload_n hx hb d_Signatures_faultOfAmount_13 rfl (lv_at hl 2 rfl) ?_
    obtain ⟨x4, m3, hq, hf⟩ := sd_bl_e hf
    refine k_callVl (As := [.int a1]) (rest := []) (C := "ScriptDesk$Elements") (ci := 1) ZX_ok X hI (mt_Elements_numberAt_r2 l hq) (cwV 1 hts (gd_V tw_480 tw_299 tw_300 tw_2 tw_301) rfl rfl rfl (by decide +kernel) ⟨Nat.le_of_ble_eq_true rfl, Nat.le_of_ble_eq_true rfl⟩) 2 rfl rfl rfl hl.1 rfl (Nat.le_of_ble_eq_true rfl) d_Signatures_faultOfAmount_14 ⟨Nat.zero_le _, Nat.zero_le _⟩ (fun H locs hI => ?_)
    refine lv_lstore (lv' := [(4, .long x4), (3, .int x2), (0, .ref (q 2)), (1, .int a1), (2, .int a2)]) hx hb d_Signatures_faultOfAmount_17 hl (by decide) rfl (fun ls hl => ?_)
    refine lv_lload hx hb d_Signatures_faultOfAmount_19 (lv_at hl 0 rfl) ?_
    refine lv_lconst (v := 0) hx hb d_Signatures_faultOfAmount_21 (by decide) ?_
    refine W.lcmp hx hb d_Signatures_faultOfAmount_22 ?_
    refine lv_if_lt (tgt := 34) hx hb d_Signatures_faultOfAmount_23 (by decide) (fun hc => ?_) (fun hc => ?_)
    · have hf := sd_t hf hc
      refine lv_bipush (v := 7) hx hb d_Signatures_faultOfAmount_34 (by decide) ?_
      refine lv_goto (tgt := 40) hx hb d_Signatures_faultOfAmount_36 (by decide) ?_
      exact k_reti X hI (vp_nar_int _) hf d_Signatures_faultOfAmount_40
    · have hf := sd_f hf hc
      refine lv_lload hx hb d_Signatures_faultOfAmount_26 (lv_at hl 0 rfl) ?_
      refine lv_iload_n hx hb d_Signatures_faultOfAmount_28 rfl (lv_at hl 4 rfl) ?_
      refine lv_i2l (v := (Int32.toInt64 a2)) hx hb d_Signatures_faultOfAmount_29 rfl ?_
      refine W.lcmp hx hb d_Signatures_faultOfAmount_30 ?_
      refine lv_if_le (tgt := 39) hx hb d_Signatures_faultOfAmount_31 (by decide) (fun hc => ?_) (fun hc => ?_)
      · have hf := sd_t hf hc
        refine lv_iconst (v := 0) hx hb d_Signatures_faultOfAmount_39 (by decide) ?_
        exact k_reti X hI (vp_nar_int _) hf d_Signatures_faultOfAmount_40
      · have hf := sd_f hf hc
        refine lv_bipush (v := 7) hx hb d_Signatures_faultOfAmount_34 (by decide) ?_
        refine lv_goto (tgt := 40) hx hb d_Signatures_faultOfAmount_36 (by decide) ?_
        exact k_reti X hI (vp_nar_int _) hf d_Signatures_faultOfAmount_40
  · have hf := sd_f hf hc
    refine lv_iload_n hx hb d_Signatures_faultOfAmount_10 rfl (lv_at hl 0 rfl) ?_
    exact k_reti X hI (vp_nar_int _) hf d_Signatures_faultOfAmount_11
set_option maxHeartbeats 4000000 in
set_option maxRecDepth 100000 in
theorem mt_Tally_passesLimit_r6 (l : Launch) {D : va_G} {q tq : Nat → Nat} {cA : ClassId} {a1 : Int32} {μ : sd_Me} {ru : Int32 × sd_Me} (hf : fn_Tally_passesLimit_r6 a1 μ = some ru) : sd_CTi l y_Tally_passesLimit w_Tally_passesLimit ({ frames := 0, cells := 0, slots := 0, locals := 0 }) vwCl (wdX q cA) D [(cA, .int)] (ZX tq) .boolean [.ref (q 6), .int a1] μ ru := by
  refine k_enti (cc := prog_10_method_2_code) 2 (by decide) rfl (Nat.le_of_ble_eq_true rfl) ?_
  intro p e s m below meth c A ls X hI hl
  have hl : lv_has ls 2 [(0, .ref (q 6)), (1, .int a1)] := hl
  obtain ⟨hx, hb, hml, hown, hts, hK, hZ, hA, hr, hlocks⟩ := id X
  unfold fn_Tally_passesLimit_r6 at hf
  refine lv_aload_n hx hb d_Tally_passesLimit_0 rfl (lv_at hl 0 rfl) ?_
  refine lv_dup hx hb d_Tally_passesLimit_1 rfl ?_
  refine va_get (D := D) (ci := 2) (v := .int (μ.1 6 0)) (C := "ScriptDesk$Tally") (T := T_Tally) (N := 1) hx hb hts iw_Tally hown hK hI.1 6 rfl rfl 0 (by decide) (hts _ tw_55) (fun _ h9 => h9) rfl d_Tally_passesLimit_2 ?_
  refine lv_iload_n hx hb d_Tally_passesLimit_5 rfl (lv_at hl 1 rfl) ?_
  refine lv_iadd hx hb d_Tally_passesLimit_6 ?_
  refine k_put (ci := 2) (v := .int ((μ.1 6 0) + a1)) (ty := .int) (C := "ScriptDesk$Tally") (T := T_Tally) (N := 1) (μ' := sd_st μ 6 0 ((μ.1 6 0) + a1)) hx hb hts iw_Tally t_Tally t_Tally_ok n_Tally hown hK hI 6 rfl rfl 0 (by decide) (hts _ tw_55) (fun _ h9 => h9) rfl (by decide +kernel) rfl rfl (Nat.le_of_ble_eq_true rfl) rfl d_Tally_passesLimit_7 (fun H locs hI => ?_)
  obtain ⟨m1, hI, hf⟩ := k_lm hf hI
  refine lv_aload_n hx hb d_Tally_passesLimit_10 rfl (lv_at hl 0 rfl) ?_
  refine va_get (D := D) (ci := 2) (v := .int (m1.1 6 0)) (C := "ScriptDesk$Tally") (T := T_Tally) (N := 1) hx hb hts iw_Tally hown hK hI.1 6 rfl rfl 0 (by decide) (hts _ tw_55) (fun _ h9 => h9) rfl d_Tally_passesLimit_11 ?_
  refine lv_bipush (v := 100) hx hb d_Tally_passesLimit_14 (by decide) ?_
  refine lv_icmp_le (tgt := 23) hx hb d_Tally_passesLimit_16 (by decide) (fun hc => ?_) (fun hc => ?_)
  · have hf := sd_t hf hc
    refine lv_iconst (v := 0) hx hb d_Tally_passesLimit_23 (by decide) ?_
    exact k_reti X hI rfl hf d_Tally_passesLimit_24
  · have hf := sd_f hf hc
    refine lv_iconst (v := 1) hx hb d_Tally_passesLimit_19 (by decide) ?_
    refine lv_goto (tgt := 24) hx hb d_Tally_passesLimit_20 (by decide) ?_
    exact k_reti X hI rfl hf d_Tally_passesLimit_24
set_option maxHeartbeats 4000000 in
set_option maxRecDepth 100000 in
theorem mt_Signatures_fits_r8_r2 (l : Launch) {D : va_G} {q tq : Nat → Nat} {cA : ClassId} {a2 : Int32} {a3 : Int32} {μ : sd_Me} {ru : Int32 × sd_Me} (hf : fn_Signatures_fits_r8_r2 a2 a3 μ = some ru) : sd_CTi l y_Signatures_fits w_Signatures_fits ({ frames := 1, cells := 0, slots := 0, locals := 23 }) vwCl (wdX q cA) D [(cA, .int)] (ZX tq) .boolean [.ref (q 8), .ref (q 2), .int a2, .int a3] μ ru := by
  refine k_enti (cc := prog_9_method_7_code) 12 (by decide) rfl (Nat.le_of_ble_eq_true rfl) ?_
  intro p e s m below meth c A ls X hI hl
  have hl : lv_has ls 12 [(0, .ref (q 8)), (1, .ref (q 2)), (2, .int a2), (3, .int a3)] := hl
  obtain ⟨hx, hb, hml, hown, hts, hK, hZ, hA, hr, hlocks⟩ := id X
  unfold fn_Signatures_fits_r8_r2 at hf
  refine lv_aload_n hx hb d_Signatures_fits_0 rfl (lv_at hl 0 rfl) ?_
  refine lv_dup hx hb d_Signatures_fits_1 rfl ?_
  refine va_get (D := D) (ci := 4) (v := .int (μ.1 8 1)) (C := "ScriptDesk$Signatures") (T := T_Signatures) (N := 2) hx hb hts iw_Signatures hown hK hI.1 8 rfl rfl 1 (by decide) (hts _ tw_81) (fun _ h9 => h9) rfl d_Signatures_fits_2 ?_
  refine lv_iconst (v := 1) hx hb d_Signatures_fits_5 (by decide) ?_
  refine lv_iadd hx hb d_Signatures_fits_6 ?_
  refine k_put (ci := 4) (v := .int ((μ.1 8 1) + (1 : Int32))) (ty := .int) (C := "ScriptDesk$Signatures") (T := T_Signatures) (N := 2) (μ' := sd_st μ 8 1 ((μ.1 8 1) + (1 : Int32))) hx hb hts iw_Signatures t_Signatures t_Signatures_ok n_Signatures hown hK hI 8 rfl rfl 1 (by decide) (hts _ tw_81) (fun _ h9 => h9) rfl (by decide +kernel) rfl rfl (Nat.le_of_ble_eq_true rfl) rfl d_Signatures_fits_7 (fun H locs hI => ?_)
  obtain ⟨m1, hI, hf⟩ := k_lm hf hI
  refine lv_aload_n hx hb d_Signatures_fits_10 rfl (lv_at hl 1 rfl) ?_
  refine lv_iload_n hx hb d_Signatures_fits_11 rfl (lv_at hl 2 rfl) ?_
  obtain ⟨x3, m2, hq, hf⟩ := sd_bi_e hf
  refine k_callV (As := [.int a2]) (rest := []) (C := "ScriptDesk$Elements") (ci := 1) ZX_ok X hI (mt_Elements_lengthAt_r2 l hq) (cwV 1 hts (gd_V tw_468 tw_227 tw_228 tw_2 tw_229) rfl rfl rfl (by decide +kernel) ⟨Nat.le_of_ble_eq_true rfl, Nat.le_of_ble_eq_true rfl⟩) 2 rfl rfl rfl hl.1 rfl (Nat.le_of_ble_eq_true rfl) d_Signatures_fits_12 ⟨Nat.zero_le _, Nat.zero_le _⟩ (fun H locs hn_x3 hI => ?_)
  refine lv_istore (lv' := [(4, .int x3), (0, .ref (q 8)), (1, .ref (q 2)), (2, .int a2), (3, .int a3)]) hx hb d_Signatures_fits_15 hl (by decide) rfl (fun ls hl => ?_)
  refine lv_aload_n hx hb d_Signatures_fits_17 rfl (lv_at hl 2 rfl) ?_
  refine lv_iload_n hx hb d_Signatures_fits_18 rfl (lv_at hl 4 rfl) ?_
  obtain ⟨x5, m4, hq, hf⟩ := sd_bi_e hf
  refine k_callV (As := [.int a3]) (rest := []) (C := "ScriptDesk$Elements") (ci := 1) ZX_ok X hI (mt_Elements_lengthAt_r2 l hq) (cwV 1 hts (gd_V tw_468 tw_227 tw_228 tw_2 tw_229) rfl rfl rfl (by decide +kernel) ⟨Nat.le_of_ble_eq_true rfl, Nat.le_of_ble_eq_true rfl⟩) 2 rfl rfl rfl hl.1 rfl (Nat.le_of_ble_eq_true rfl) d_Signatures_fits_19 ⟨Nat.zero_le _, Nat.zero_le _⟩ (fun H locs hn_x5 hI => ?_)
  refine lv_istore (lv' := [(5, .int x5), (4, .int x3), (0, .ref (q 8)), (1, .ref (q 2)), (2, .int a2), (3, .int a3)]) hx hb d_Signatures_fits_22 hl (by decide) rfl (fun ls hl => ?_)
  refine lv_iload hx hb d_Signatures_fits_24 (lv_at hl 1 rfl) ?_
  refine lv_iconst (v := 1) hx hb d_Signatures_fits_26 (by decide) ?_
  refine lv_icmp_lt (tgt := 36) hx hb d_Signatures_fits_27 (by decide) (fun hc => ?_) (fun hc => ?_)
  · have hf := sd_t hf hc
    refine lv_iconst (v := 0) hx hb d_Signatures_fits_36 (by decide) ?_
    exact k_reti X hI rfl hf d_Signatures_fits_37
  · have hf := sd_f hf hc
    refine lv_iload hx hb d_Signatures_fits_30 (lv_at hl 0 rfl) ?_
    refine lv_iconst (v := 1) hx hb d_Signatures_fits_32 (by decide) ?_
    refine lv_icmp_ge (tgt := 38) hx hb d_Signatures_fits_33 (by decide) (fun hc => ?_) (fun hc => ?_)
    · have hf := sd_t hf hc
      refine lv_aload_n hx hb d_Signatures_fits_38 rfl (lv_at hl 3 rfl) ?_
      refine lv_iload_n hx hb d_Signatures_fits_39 rfl (lv_at hl 4 rfl) ?_
      refine lv_iconst (v := 0) hx hb d_Signatures_fits_40 (by decide) ?_
      obtain ⟨x7, m6, hq, hf⟩ := sd_bi_e hf
      refine k_callV (As := [.int a2, .int (0 : Int32)]) (rest := []) (C := "ScriptDesk$Elements") (ci := 1) ZX_ok X hI (mt_Elements_octetAt_r2 l hq) (cwV 2 hts (gd_V tw_469 tw_231 tw_232 tw_2 tw_233) rfl rfl rfl (by decide +kernel) ⟨Nat.le_of_ble_eq_true rfl, Nat.le_of_ble_eq_true rfl⟩) 2 rfl rfl rfl hl.1 rfl (Nat.le_of_ble_eq_true rfl) d_Signatures_fits_41 ⟨Nat.zero_le _, Nat.zero_le _⟩ (fun H locs hn_x7 hI => ?_)
      refine lv_i2l (v := (Int32.toInt64 x7)) hx hb d_Signatures_fits_44 rfl ?_
      refine k_ll hf (fun x8 hf => ?_)
      refine lv_lstore (lv' := [(6, .long x8), (5, .int x5), (4, .int x3), (0, .ref (q 8)), (1, .ref (q 2)), (2, .int a2), (3, .int a3)]) hx hb d_Signatures_fits_45 hl (by decide) rfl (fun ls hl => ?_)
      refine lv_aload_n hx hb d_Signatures_fits_47 rfl (lv_at hl 4 rfl) ?_
      refine lv_iload_n hx hb d_Signatures_fits_48 rfl (lv_at hl 5 rfl) ?_
      refine lv_iload hx hb d_Signatures_fits_49 (lv_at hl 2 rfl) ?_
      refine lv_iconst (v := 1) hx hb d_Signatures_fits_51 (by decide) ?_
      refine lv_isub hx hb d_Signatures_fits_52 ?_
      obtain ⟨x10, m9, hq, hf⟩ := sd_bi_e hf
      refine k_callV (As := [.int a2, .int (x3 - (1 : Int32))]) (rest := []) (C := "ScriptDesk$Elements") (ci := 1) ZX_ok X hI (mt_Elements_octetAt_r2 l hq) (cwV 2 hts (gd_V tw_469 tw_231 tw_232 tw_2 tw_233) rfl rfl rfl (by decide +kernel) ⟨Nat.le_of_ble_eq_true rfl, Nat.le_of_ble_eq_true rfl⟩) 2 rfl rfl rfl hl.1 rfl (Nat.le_of_ble_eq_true rfl) d_Signatures_fits_53 ⟨Nat.zero_le _, Nat.zero_le _⟩ (fun H locs hn_x10 hI => ?_)
      refine lv_i2l (v := (Int32.toInt64 x10)) hx hb d_Signatures_fits_56 rfl ?_
      refine k_ll hf (fun x11 hf => ?_)
      refine lv_lstore (lv' := [(8, .long x11), (6, .long x8), (5, .int x5), (4, .int x3), (0, .ref (q 8)), (1, .ref (q 2)), (2, .int a2), (3, .int a3)]) hx hb d_Signatures_fits_57 hl (by decide) rfl (fun ls hl => ?_)
      refine lv_aload_n hx hb d_Signatures_fits_59 rfl (lv_at hl 5 rfl) ?_
      refine lv_iload_n hx hb d_Signatures_fits_60 rfl (lv_at hl 7 rfl) ?_
      refine lv_iload hx hb d_Signatures_fits_61 (lv_at hl 2 rfl) ?_
      refine lv_iconst (v := 1) hx hb d_Signatures_fits_63 (by decide) ?_
      refine lv_isub hx hb d_Signatures_fits_64 ?_
      obtain ⟨x13, m12, hq, hf⟩ := sd_bi_e hf
      refine k_callV (As := [.int a3, .int (x5 - (1 : Int32))]) (rest := []) (C := "ScriptDesk$Elements") (ci := 1) ZX_ok X hI (mt_Elements_octetAt_r2 l hq) (cwV 2 hts (gd_V tw_469 tw_231 tw_232 tw_2 tw_233) rfl rfl rfl (by decide +kernel) ⟨Nat.le_of_ble_eq_true rfl, Nat.le_of_ble_eq_true rfl⟩) 2 rfl rfl rfl hl.1 rfl (Nat.le_of_ble_eq_true rfl) d_Signatures_fits_65 ⟨Nat.zero_le _, Nat.zero_le _⟩ (fun H locs hn_x13 hI => ?_)
      refine lv_i2l (v := (Int32.toInt64 x13)) hx hb d_Signatures_fits_68 rfl ?_
      refine k_ll hf (fun x14 hf => ?_)
      refine lv_lstore (lv' := [(10, .long x14), (8, .long x11), (6, .long x8), (5, .int x5), (4, .int x3), (0, .ref (q 8)), (1, .ref (q 2)), (2, .int a2), (3, .int a3)]) hx hb d_Signatures_fits_69 hl (by decide) rfl (fun ls hl => ?_)
      refine lv_aload_n hx hb d_Signatures_fits_71 rfl (lv_at hl 5 rfl) ?_
      refine va_get (D := D) (ci := 4) (v := .int (m12.1 8 0)) (C := "ScriptDesk$Signatures") (T := T_Signatures) (N := 2) hx hb hts iw_Signatures hown hK hI.1 8 rfl rfl 0 (by decide) (hts _ tw_80) (fun _ h9 => h9) rfl d_Signatures_fits_72 ?_
      refine lv_i2l (v := (Int32.toInt64 (m12.1 8 0))) hx hb d_Signatures_fits_75 rfl ?_
      refine lv_lload hx hb d_Signatures_fits_76 (lv_at hl 2 rfl) ?_
      refine lv_lload hx hb d_Signatures_fits_78 (lv_at hl 0 rfl) ?_
      refine lv_lmul hx hb d_Signatures_fits_80 ?_
      refine lv_ladd hx hb d_Signatures_fits_81 ?_
      refine lv_lload hx hb d_Signatures_fits_82 (lv_at hl 1 rfl) ?_
      refine lv_ladd hx hb d_Signatures_fits_84 ?_
      refine lv_ldc2 (v := 3) hx hb hown (hts _ tw_470) d_Signatures_fits_85 ?_
      refine lv_lrem hx hb d_Signatures_fits_88 (by decide) ?_
      refine lv_lconst (v := 0) hx hb d_Signatures_fits_89 (by decide) ?_
      refine W.lcmp hx hb d_Signatures_fits_90 ?_
      refine lv_if_ne (tgt := 98) hx hb d_Signatures_fits_91 (by decide) (fun hc => ?_) (fun hc => ?_)
      · have hf := sd_f hf hc
        refine lv_iconst (v := 0) hx hb d_Signatures_fits_98 (by decide) ?_
        exact k_reti X hI rfl hf d_Signatures_fits_99
      · have hf := sd_t hf hc
        refine lv_iconst (v := 1) hx hb d_Signatures_fits_94 (by decide) ?_
        refine lv_goto (tgt := 99) hx hb d_Signatures_fits_95 (by decide) ?_
        exact k_reti X hI rfl hf d_Signatures_fits_99
    · have hf := sd_f hf hc
      refine lv_iconst (v := 0) hx hb d_Signatures_fits_36 (by decide) ?_
      exact k_reti X hI rfl hf d_Signatures_fits_37
