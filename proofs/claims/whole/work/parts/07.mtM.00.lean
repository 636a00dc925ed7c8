set_option maxHeartbeats 4000000 in
set_option maxRecDepth 100000 in
theorem lp_Model_put_r0_L30 (l : Launch) {p : Program} {e : Env} {s : State} {m : MethodId} {args : Array Value} {below : List Frame} {meth : Method} {c : Code} {A : Nat → Prop} {D : va_G} {q tq : Nat → Nat} {cA : ClassId} {ru : Int32 × sd_Me} (X : sd_Cx p s m args meth c prog_12_method_2_code "ScriptDeskModel" sx_tbl 5 (some .boolean) vwCl D [(cA, .int)] (ZM tq) A) {k72 : sd_Me → Option (Int32 × sd_Me)} (hk72 : ∀ (μ : sd_Me) (H : Heap) (locs : List Loc) (ls : Array Slot), sd_CI vwCl (wdM q cA) D A s H locs μ → lv_has ls 5 [] → k72 μ = some ru → W p l e ({ frames := 0, cells := 0, slots := 0, locals := 0 }) s m args below meth c H locs 0 0 (sd_QI below vwCl (wdM q cA) D [(cA, .int)] .boolean A args s ru) (F0 m 72 ls [])) :
    ∀ (n : Nat) (v1 : Int64) (v4 : Int32) (μ : sd_Me) (H : Heap) (locs : List Loc) (ls : Array Slot), sd_CI vwCl (wdM q cA) D A s H locs μ → lv_has ls 5 [(0, .ref (q 0)), (1, .long v1), (4, .int v4)] → fn_Model_put_r0_L30 k72 n v1 v4 μ = some ru → W p l e ({ frames := 0, cells := 0, slots := 0, locals := 0 }) s m args below meth c H locs 0 0 (sd_QI below vwCl (wdM q cA) D [(cA, .int)] .boolean A args s ru) (F0 m 30 ls []) := by
  obtain ⟨hx, hb, hml, hown, hts, hK, hZ, hA, hr, hlocks⟩ := id X
  intro n
  induction n with
  | zero =>
    intro v1 v4 μ H locs ls hI hl hf
    cases hf
  | succ n ih =>
    intro v1 v4 μ H locs ls hI hl hf
    rw [fn_Model_put_r0_L30] at hf
    refine lv_iload hx hb d_Model_put_30 (lv_at hl 2 rfl) ?_
    refine lv_if_lt (tgt := 72) hx hb d_Model_put_32 (by decide) (fun hc => ?_) (fun hc => ?_)
    · have hf := sd_t hf hc
      exact hk72  μ _ _ _ hI (lv_sub hl [] rfl) hf
    · have hf := sd_f hf hc
      refine lv_aload_n hx hb d_Model_put_35 rfl (lv_at hl 0 rfl) ?_
      refine va_get (D := D) (ci := 7) (v := .ref (q 3)) (C := "ScriptDeskModel") (T := T_Model) (N := 18) hx hb hts iw_Model hown hK hI.1 0 rfl rfl 4 (by decide) (hts _ tw_535) (fun _ h9 => h9) rfl d_Model_put_36 ?_
      refine lv_aload_n hx hb d_Model_put_39 rfl (lv_at hl 0 rfl) ?_
      refine va_get (D := D) (ci := 7) (v := .int (μ.1 0 5)) (C := "ScriptDeskModel") (T := T_Model) (N := 18) hx hb hts iw_Model hown hK hI.1 0 rfl rfl 5 (by decide) (hts _ tw_536) (fun _ h9 => h9) rfl d_Model_put_40 ?_
      refine lv_lload_n hx hb d_Model_put_43 rfl (lv_at hl 1 rfl) ?_
      refine lv_bipush (v := 8) hx hb d_Model_put_44 (by decide) ?_
      refine lv_iload hx hb d_Model_put_46 (lv_at hl 2 rfl) ?_
      refine lv_imul hx hb d_Model_put_48 ?_
      refine lv_lshr (v := (sd_lsr v1 ((8 : Int32) * v4))) hx hb d_Model_put_49 rfl ?_
      refine lv_ldc2 (v := 255) hx hb hown (hts _ tw_590) d_Model_put_50 ?_
      refine lv_land hx hb d_Model_put_53 ?_
      refine lv_l2i (v := (Int64.toInt32 ((sd_lsr v1 ((8 : Int32) * v4)) &&& (255 : Int64)))) hx hb d_Model_put_54 rfl ?_
      obtain ⟨hg, hf⟩ := sd_gd_e hf
      refine k_iast (μ' := sd_st μ 3 (Int32.toNatClampNeg (μ.1 0 5)) (Int64.toInt32 ((sd_lsr v1 ((8 : Int32) * v4)) &&& (255 : Int64)))) hx hb hK hI 3 0 rfl rfl rfl hg d_Model_put_55 (fun H locs hI => ?_)
      obtain ⟨m2, hI, hf⟩ := k_lm hf hI
      refine lv_aload_n hx hb d_Model_put_56 rfl (lv_at hl 0 rfl) ?_
      refine lv_dup hx hb d_Model_put_57 rfl ?_
      refine va_get (D := D) (ci := 7) (v := .int (m2.1 0 5)) (C := "ScriptDeskModel") (T := T_Model) (N := 18) hx hb hts iw_Model hown hK hI.1 0 rfl rfl 5 (by decide) (hts _ tw_536) (fun _ h9 => h9) rfl d_Model_put_58 ?_
      refine lv_iconst (v := 1) hx hb d_Model_put_61 (by decide) ?_
      refine lv_iadd hx hb d_Model_put_62 ?_
      refine k_put (ci := 7) (v := .int ((m2.1 0 5) + (1 : Int32))) (ty := .int) (C := "ScriptDeskModel") (T := T_Model) (N := 18) (μ' := sd_st m2 0 5 ((m2.1 0 5) + (1 : Int32))) hx hb hts iw_Model t_Model t_Model_ok n_Model hown hK hI 0 rfl rfl 5 (by decide) (hts _ tw_536) (fun _ h9 => h9) rfl (by decide +kernel) rfl rfl (Nat.le_of_ble_eq_true rfl) rfl d_Model_put_63 (fun H locs hI => ?_)
      obtain ⟨m3, hI, hf⟩ := k_lm hf hI
      refine lv_iinc (v := (v4 + (-1 : Int32))) (lv' := [(4, .int (v4 + (-1 : Int32))), (0, .ref (q 0)), (1, .long v1)]) hx hb d_Model_put_66 hl (k := 2) rfl rfl (by decide) rfl (fun ls hl => ?_)
      refine lv_goto (tgt := 30) hx hb d_Model_put_69 (by decide) ?_
      exact ih (v1) ((v4 + (-1 : Int32))) m3 _ _ _ hI (lv_sub hl [1, 2, 0] rfl) hf
set_option maxHeartbeats 4000000 in
set_option maxRecDepth 100000 in
theorem mt_Model_put_r0 (l : Launch) {D : va_G} {q tq : Nat → Nat} {cA : ClassId} {a1 : Int64} {a3 : Int32} {μ : sd_Me} {ru : Int32 × sd_Me} (hf : fn_Model_put_r0 a1 a3 μ = some ru) : sd_CTi l y_Model_put w_Model_put ({ frames := 0, cells := 0, slots := 0, locals := 0 }) vwCl (wdM q cA) D [(cA, .int)] (ZM tq) .boolean [.ref (q 0), .long a1, .int a3] μ ru := by
  refine k_enti (cc := prog_12_method_2_code) 5 (by decide) rfl (Nat.le_of_ble_eq_true rfl) ?_
  intro p e s m below meth c A ls X hI hl
  have hl : lv_has ls 5 [(0, .ref (q 0)), (1, .long a1), (3, .int a3)] := hl
  obtain ⟨hx, hb, hml, hown, hts, hK, hZ, hA, hr, hlocks⟩ := id X
  unfold fn_Model_put_r0 at hf
  refine lv_iload_n hx hb d_Model_put_0 rfl (lv_at hl 2 rfl) ?_
  refine lv_iconst (v := 1) hx hb d_Model_put_1 (by decide) ?_
  refine lv_icmp_lt (tgt := 23) hx hb d_Model_put_2 (by decide) (fun hc => ?_) (fun hc => ?_)
  · have hf := sd_t hf hc
    refine lv_iconst (v := 0) hx hb d_Model_put_23 (by decide) ?_
    exact k_reti X hI rfl hf d_Model_put_24
  · have hf := sd_f hf hc
    refine lv_iload_n hx hb d_Model_put_5 rfl (lv_at hl 2 rfl) ?_
    refine lv_bipush (v := 8) hx hb d_Model_put_6 (by decide) ?_
    refine lv_icmp_gt (tgt := 23) hx hb d_Model_put_8 (by decide) (fun hc => ?_) (fun hc => ?_)
    · have hf := sd_t hf hc
      refine lv_iconst (v := 0) hx hb d_Model_put_23 (by decide) ?_
      exact k_reti X hI rfl hf d_Model_put_24
    · have hf := sd_f hf hc
      refine lv_aload_n hx hb d_Model_put_11 rfl (lv_at hl 0 rfl) ?_
      refine va_get (D := D) (ci := 7) (v := .int (μ.1 0 5)) (C := "ScriptDeskModel") (T := T_Model) (N := 18) hx hb hts iw_Model hown hK hI.1 0 rfl rfl 5 (by decide) (hts _ tw_536) (fun _ h9 => h9) rfl d_Model_put_12 ?_
      refine lv_iload_n hx hb d_Model_put_15 rfl (lv_at hl 2 rfl) ?_
      refine lv_iadd hx hb d_Model_put_16 ?_
      refine lv_sipush (v := 200) hx hb d_Model_put_17 (by decide) ?_
      refine lv_icmp_le (tgt := 25) hx hb d_Model_put_20 (by decide) (fun hc => ?_) (fun hc => ?_)
      · have hf := sd_t hf hc
        refine lv_iload_n hx hb d_Model_put_25 rfl (lv_at hl 2 rfl) ?_
        refine lv_iconst (v := 1) hx hb d_Model_put_26 (by decide) ?_
        refine lv_isub hx hb d_Model_put_27 ?_
        refine k_li hf (fun x1 hf => ?_)
        refine lv_istore (lv' := [(4, .int x1), (0, .ref (q 0)), (1, .long a1), (3, .int a3)]) hx hb d_Model_put_28 hl (by decide) rfl (fun ls hl => ?_)
        refine lp_Model_put_r0_L30 l X ?_ 10000 (a1) (x1) μ _ _ _ hI (lv_sub hl [1, 2, 0] rfl) hf
        · intro m4 H locs ls hI hl hf
          refine lv_iconst (v := 1) hx hb d_Model_put_72 (by decide) ?_
          exact k_reti X hI rfl hf d_Model_put_73
      · have hf := sd_f hf hc
        refine lv_iconst (v := 0) hx hb d_Model_put_23 (by decide) ?_
        exact k_reti X hI rfl hf d_Model_put_24
set_option maxHeartbeats 4000000 in
set_option maxRecDepth 100000 in
theorem mt_Model_secret_r0 (l : Launch) {D : va_G} {q tq : Nat → Nat} {cA : ClassId} {a1 : Int32} {μ : sd_Me} {ru : sd_Me} (hf : fn_Model_secret_r0 a1 μ = some ru) : sd_CTv l y_Model_secret w_Model_secret ({ frames := 0, cells := 0, slots := 0, locals := 0 }) vwCl (wdM q cA) D [(cA, .int)] (ZM tq) [.ref (q 0), .int a1] μ ru := by
  refine k_entv (cc := prog_12_method_3_code) 2 (by decide) rfl (Nat.le_of_ble_eq_true rfl) ?_
  intro p e s m below meth c A ls X hI hl
  have hl : lv_has ls 2 [(0, .ref (q 0)), (1, .int a1)] := hl
  obtain ⟨hx, hb, hml, hown, hts, hK, hZ, hA, hr, hlocks⟩ := id X
  unfold fn_Model_secret_r0 at hf
  refine lv_aload_n hx hb d_Model_secret_0 rfl (lv_at hl 0 rfl) ?_
  refine lv_iload_n hx hb d_Model_secret_1 rfl (lv_at hl 1 rfl) ?_
  refine lv_i2l (v := (Int32.toInt64 a1)) hx hb d_Model_secret_2 rfl ?_
  refine k_put (ci := 7) (v := .long (Int32.toInt64 a1)) (ty := .long) (C := "ScriptDeskModel") (T := T_Model) (N := 18) (μ' := sd_lst μ 0 (Int32.toInt64 a1)) hx hb hts iw_Model t_Model t_Model_ok n_Model hown hK hI 0 rfl rfl 6 (by decide) (hts _ tw_537) (fun _ h9 => h9) rfl (by decide +kernel) rfl rfl (Nat.le_of_ble_eq_true rfl) rfl d_Model_secret_3 (fun H locs hI => ?_)
  obtain ⟨m1, hI, hf⟩ := k_lm hf hI
  exact k_retv X hI hf d_Model_secret_6
set_option maxHeartbeats 4000000 in
set_option maxRecDepth 100000 in
theorem mt_Model_isDone_r0 (l : Launch) {D : va_G} {q tq : Nat → Nat} {cA : ClassId} {μ : sd_Me} {ru : Int32 × sd_Me} (hf : fn_Model_isDone_r0 μ = some ru) : sd_CTi l y_Model_isDone w_Model_isDone ({ frames := 0, cells := 0, slots := 0, locals := 0 }) vwCl (wdM q cA) D [(cA, .int)] (ZM tq) .boolean [.ref (q 0)] μ ru := by
  refine k_enti (cc := prog_12_method_24_code) 1 (by decide) rfl (Nat.le_of_ble_eq_true rfl) ?_
  intro p e s m below meth c A ls X hI hl
  have hl : lv_has ls 1 [(0, .ref (q 0))] := hl
  obtain ⟨hx, hb, hml, hown, hts, hK, hZ, hA, hr, hlocks⟩ := id X
  unfold fn_Model_isDone_r0 at hf
  refine lv_aload_n hx hb d_Model_isDone_0 rfl (lv_at hl 0 rfl) ?_
  refine va_get (D := D) (ci := 7) (v := .int (μ.1 0 11)) (C := "ScriptDeskModel") (T := T_Model) (N := 18) hx hb hts iw_Model hown hK hI.1 0 rfl rfl 11 (by decide) (hts _ tw_542) (fun _ h9 => h9) rfl d_Model_isDone_1 ?_
  refine lv_if_eq (tgt := 22) hx hb d_Model_isDone_4 (by decide) (fun hc => ?_) (fun hc => ?_)
  · have hf := sd_t hf hc
    refine lv_iconst (v := 1) hx hb d_Model_isDone_22 (by decide) ?_
    refine lv_goto (tgt := 27) hx hb d_Model_isDone_23 (by decide) ?_
    exact k_reti X hI rfl hf d_Model_isDone_27
  · have hf := sd_f hf hc
    refine lv_aload_n hx hb d_Model_isDone_7 rfl (lv_at hl 0 rfl) ?_
    refine va_get (D := D) (ci := 7) (v := .ref (q 4)) (C := "ScriptDeskModel") (T := T_Model) (N := 18) hx hb hts iw_Model hown hK hI.1 0 rfl rfl 12 (by decide) (hts _ tw_543) (fun _ h9 => h9) rfl d_Model_isDone_8 ?_
    refine lv_aload_n hx hb d_Model_isDone_11 rfl (lv_at hl 0 rfl) ?_
    refine va_get (D := D) (ci := 7) (v := .int (μ.1 0 11)) (C := "ScriptDeskModel") (T := T_Model) (N := 18) hx hb hts iw_Model hown hK hI.1 0 rfl rfl 11 (by decide) (hts _ tw_542) (fun _ h9 => h9) rfl d_Model_isDone_12 ?_
    refine lv_iconst (v := 1) hx hb d_Model_isDone_15 (by decide) ?_
    refine lv_isub hx hb d_Model_isDone_16 ?_
    obtain ⟨hg, hf⟩ := sd_gd_e hf
    refine k_iald hx hb hK hI 4 0 rfl rfl hg d_Model_isDone_17 ?_
    refine lv_iconst (v := 1) hx hb d_Model_isDone_18 (by decide) ?_
    refine lv_icmp_ne (tgt := 26) hx hb d_Model_isDone_19 (by decide) (fun hc => ?_) (fun hc => ?_)
    · have hf := sd_f hf hc
      refine lv_iconst (v := 0) hx hb d_Model_isDone_26 (by decide) ?_
      exact k_reti X hI rfl hf d_Model_isDone_27
    · have hf := sd_t hf hc
      refine lv_iconst (v := 1) hx hb d_Model_isDone_22 (by decide) ?_
      refine lv_goto (tgt := 27) hx hb d_Model_isDone_23 (by decide) ?_
      exact k_reti X hI rfl hf d_Model_isDone_27
set_option maxHeartbeats 4000000 in
set_option maxRecDepth 100000 in
theorem mt_Model_fails_r0 (l : Launch) {D : va_G} {q tq : Nat → Nat} {cA : ClassId} {a1 : Int32} {μ : sd_Me} {ru : sd_Me} (hf : fn_Model_fails_r0 a1 μ = some ru) : sd_CTv l y_Model_fails w_Model_fails ({ frames := 0, cells := 0, slots := 0, locals := 0 }) vwCl (wdM q cA) D [(cA, .int)] (ZM tq) [.ref (q 0), .int a1] μ ru := by
  refine k_entv (cc := prog_12_method_11_code) 2 (by decide) rfl (Nat.le_of_ble_eq_true rfl) ?_
  intro p e s m below meth c A ls X hI hl
  have hl : lv_has ls 2 [(0, .ref (q 0)), (1, .int a1)] := hl
  obtain ⟨hx, hb, hml, hown, hts, hK, hZ, hA, hr, hlocks⟩ := id X
  unfold fn_Model_fails_r0 at hf
  refine lv_aload_n hx hb d_Model_fails_0 rfl (lv_at hl 0 rfl) ?_
  refine lv_aload_n hx hb d_Model_fails_1 rfl (lv_at hl 0 rfl) ?_
  refine va_get (D := D) (ci := 7) (v := .int (μ.1 0 7)) (C := "ScriptDeskModel") (T := T_Model) (N := 18) hx hb hts iw_Model hown hK hI.1 0 rfl rfl 7 (by decide) (hts _ tw_538) (fun _ h9 => h9) rfl d_Model_fails_2 ?_
  refine lv_if_ne (tgt := 12) hx hb d_Model_fails_5 (by decide) (fun hc => ?_) (fun hc => ?_)
  · have hf := sd_f hf hc
    refine lv_aload_n hx hb d_Model_fails_12 rfl (lv_at hl 0 rfl) ?_
    refine va_get (D := D) (ci := 7) (v := .int (μ.1 0 7)) (C := "ScriptDeskModel") (T := T_Model) (N := 18) hx hb hts iw_Model hown hK hI.1 0 rfl rfl 7 (by decide) (hts _ tw_538) (fun _ h9 => h9) rfl d_Model_fails_13 ?_
    refine k_put (ci := 7) (v := .int (μ.1 0 7)) (ty := .int) (C := "ScriptDeskModel") (T := T_Model) (N := 18) (μ' := sd_st μ 0 7 (μ.1 0 7)) hx hb hts iw_Model t_Model t_Model_ok n_Model hown hK hI 0 rfl rfl 7 (by decide) (hts _ tw_538) (fun _ h9 => h9) rfl (by decide +kernel) rfl rfl (Nat.le_of_ble_eq_true rfl) rfl d_Model_fails_16 (fun H locs hI => ?_)
    obtain ⟨m1, hI, hf⟩ := k_lm hf hI
    exact k_retv X hI hf d_Model_fails_19
  · have hf := sd_t hf hc
    refine lv_iload_n hx hb d_Model_fails_8 rfl (lv_at hl 1 rfl) ?_
    refine lv_goto (tgt := 16) hx hb d_Model_fails_9 (by decide) ?_
    refine k_put (ci := 7) (v := .int a1) (ty := .int) (C := "ScriptDeskModel") (T := T_Model) (N := 18) (μ' := sd_st μ 0 7 a1) hx hb hts iw_Model t_Model t_Model_ok n_Model hown hK hI 0 rfl rfl 7 (by decide) (hts _ tw_538) (fun _ h9 => h9) rfl (by decide +kernel) rfl rfl (Nat.le_of_ble_eq_true rfl) rfl d_Model_fails_16 (fun H locs hI => ?_)
    obtain ⟨m2, hI, hf⟩ := k_lm hf hI
    exact k_retv X hI hf d_Model_fails_19
set_option maxHeartbeats 4000000 in
set_option maxRecDepth 100000 in
theorem mt_Model_has_r0 (l : Launch) {D : va_G} {q tq : Nat → Nat} {cA : ClassId} {a1 : Int32} {μ : sd_Me} {ru : Int32 × sd_Me} (hf : fn_Model_has_r0 a1 μ = some ru) : sd_CTi l y_Model_has w_Model_has ({ frames := 1, cells := 0, slots := 0, locals := 21 }) vwCl (wdM q cA) D [(cA, .int)] (ZM tq) .boolean [.ref (q 0), .int a1] μ ru := by
  refine k_enti (cc := prog_12_method_12_code) 2 (by decide) rfl (Nat.le_of_ble_eq_true rfl) ?_
  intro p e s m below meth c A ls X hI hl
  have hl : lv_has ls 2 [(0, .ref (q 0)), (1, .int a1)] := hl
  obtain ⟨hx, hb, hml, hown, hts, hK, hZ, hA, hr, hlocks⟩ := id X
  unfold fn_Model_has_r0 at hf
  refine lv_aload_n hx hb d_Model_has_0 rfl (lv_at hl 0 rfl) ?_
  refine va_get (D := D) (ci := 7) (v := .int (μ.1 0 2)) (C := "ScriptDeskModel") (T := T_Model) (N := 18) hx hb hts iw_Model hown hK hI.1 0 rfl rfl 2 (by decide) (hts _ tw_533) (fun _ h9 => h9) rfl d_Model_has_1 ?_
  refine lv_iload_n hx hb d_Model_has_4 rfl (lv_at hl 1 rfl) ?_
  refine lv_icmp_ge (tgt := 13) hx hb d_Model_has_5 (by decide) (fun hc => ?_) (fun hc => ?_)
  · have hf := sd_t hf hc
    refine lv_aload_n hx hb d_Model_has_13 rfl (lv_at hl 0 rfl) ?_
    refine va_get (D := D) (ci := 7) (v := .int (μ.1 0 2)) (C := "ScriptDeskModel") (T := T_Model) (N := 18) hx hb hts iw_Model hown hK hI.1 0 rfl rfl 2 (by decide) (hts _ tw_533) (fun _ h9 => h9) rfl d_Model_has_14 ?_
    refine lv_iload_n hx hb d_Model_has_17 rfl (lv_at hl 1 rfl) ?_
    refine lv_icmp_lt (tgt := 25) hx hb d_Model_has_18 (by decide) (fun hc => ?_) (fun hc => ?_)
    · have hf := sd_t hf hc
      refine lv_iconst (v := 0) hx hb d_Model_has_25 (by decide) ?_
      exact k_reti X hI rfl hf d_Model_has_26
    · have hf := sd_f hf hc
      refine lv_iconst (v := 1) hx hb d_Model_has_21 (by decide) ?_
      refine lv_goto (tgt := 26) hx hb d_Model_has_22 (by decide) ?_
      exact k_reti X hI rfl hf d_Model_has_26
  · have hf := sd_f hf hc
    refine lv_aload_n hx hb d_Model_has_8 rfl (lv_at hl 0 rfl) ?_
    refine lv_iconst (v := 5) hx hb d_Model_has_9 (by decide) ?_
    obtain ⟨m1, hq, hf⟩ := sd_bv_e hf
    refine k_callVv (As := [.int (5 : Int32)]) (rest := []) (C := "ScriptDeskModel") (ci := 7) ZM_ok X hI (mt_Model_fails_r0 l hq) (cwV 1 hts (gd_V tw_607 tw_609 ts_16 tw_9 tw_610) rfl rfl rfl (by decide +kernel) ⟨Nat.le_of_ble_eq_true rfl, Nat.le_of_ble_eq_true rfl⟩) 0 rfl rfl rfl hl.1 rfl (Nat.le_of_ble_eq_true rfl) d_Model_has_10 ⟨Nat.zero_le _, Nat.zero_le _⟩ (fun H locs hI => ?_)
    refine lv_aload_n hx hb d_Model_has_13 rfl (lv_at hl 0 rfl) ?_
    refine va_get (D := D) (ci := 7) (v := .int (m1.1 0 2)) (C := "ScriptDeskModel") (T := T_Model) (N := 18) hx hb hts iw_Model hown hK hI.1 0 rfl rfl 2 (by decide) (hts _ tw_533) (fun _ h9 => h9) rfl d_Model_has_14 ?_
    refine lv_iload_n hx hb d_Model_has_17 rfl (lv_at hl 1 rfl) ?_
    refine lv_icmp_lt (tgt := 25) hx hb d_Model_has_18 (by decide) (fun hc => ?_) (fun hc => ?_)
    · have hf := sd_t hf hc
      refine lv_iconst (v := 0) hx hb d_Model_has_25 (by decide) ?_
      exact k_reti X hI rfl hf d_Model_has_26
    · have hf := sd_f hf hc
      refine lv_iconst (v := 1) hx hb d_Model_has_21 (by decide) ?_
      refine lv_goto (tgt := 26) hx hb d_Model_has_22 (by decide) ?_
      exact k_reti X hI rfl hf d_Model_has_26
set_option maxHeartbeats 4000000 in
set_option maxRecDepth 100000 in
theorem lp_Model_isTrueRow_r0_L4 (l : Launch) {p : Program} {e : Env} {s : State} {m : MethodId} {args : Array Value} {below : List Frame} {meth : Method} {c : Code} {A : Nat → Prop} {D : va_G} {q tq : Nat → Nat} {cA : ClassId} {ru : Int32 × sd_Me} (X : sd_Cx p s m args meth c prog_12_method_9_code "ScriptDeskModel" sx_tbl 5 (some .boolean) vwCl D [(cA, .int)] (ZM tq) A) {k68 : Int32 → sd_Me → Option (Int32 × sd_Me)} (hk68 : ∀ (v2 : Int32) (μ : sd_Me) (H : Heap) (locs : List Loc) (ls : Array Slot), sd_CI vwCl (wdM q cA) D A s H locs μ → lv_has ls 5 [(2, .int v2)] → k68 v2 μ = some ru → W p l e ({ frames := 0, cells := 0, slots := 0, locals := 0 }) s m args below meth c H locs 0 0 (sd_QI below vwCl (wdM q cA) D [(cA, .int)] .boolean A args s ru) (F0 m 68 ls [])) :
    ∀ (n : Nat) (v1 : Int32) (v2 : Int32) (v3 : Int32) (μ : sd_Me) (H : Heap) (locs : List Loc) (ls : Array Slot), sd_CI vwCl (wdM q cA) D A s H locs μ → lv_has ls 5 [(0, .ref (q 0)), (1, .int v1), (2, .int v2), (3, .int v3)] → fn_Model_isTrueRow_r0_L4 k68 n v1 v2 v3 μ = some ru → W p l e ({ frames := 0, cells := 0, slots := 0, locals := 0 }) s m args below meth c H locs 0 0 (sd_QI below vwCl (wdM q cA) D [(cA, .int)] .boolean A args s ru) (F0 m 4 ls []) := by
  obtain ⟨hx, hb, hml, hown, hts, hK, hZ, hA, hr, hlocks⟩ := id X
  intro n
  induction n with
  | zero =>
    intro v1 v2 v3 μ H locs ls hI hl hf
    cases hf
  | succ n ih =>
    intro v1 v2 v3 μ H locs ls hI hl hf
    rw [fn_Model_isTrueRow_r0_L4] at hf
    refine lv_iload_n hx hb d_Model_isTrueRow_4 rfl (lv_at hl 3 rfl) ?_
    refine lv_aload_n hx hb d_Model_isTrueRow_5 rfl (lv_at hl 0 rfl) ?_
    refine va_get (D := D) (ci := 7) (v := .ref (q 2)) (C := "ScriptDeskModel") (T := T_Model) (N := 18) hx hb hts iw_Model hown hK hI.1 0 rfl rfl 1 (by decide) (hts _ tw_532) (fun _ h9 => h9) rfl d_Model_isTrueRow_6 ?_
    refine lv_iload_n hx hb d_Model_isTrueRow_9 rfl (lv_at hl 1 rfl) ?_
    obtain ⟨hg, hf⟩ := sd_gd_e hf
    refine k_iald hx hb hK hI 2 0 rfl rfl hg d_Model_isTrueRow_10 ?_
    refine lv_icmp_ge (tgt := 68) hx hb d_Model_isTrueRow_11 (by decide) (fun hc => ?_) (fun hc => ?_)
    · have hf := sd_t hf hc
      exact hk68 (v2) μ _ _ _ hI (lv_sub hl [2] rfl) hf
    · have hf := sd_f hf hc
      refine lv_aload_n hx hb d_Model_isTrueRow_14 rfl (lv_at hl 0 rfl) ?_
      refine va_get (D := D) (ci := 7) (v := .ref (q 1)) (C := "ScriptDeskModel") (T := T_Model) (N := 18) hx hb hts iw_Model hown hK hI.1 0 rfl rfl 0 (by decide) (hts _ tw_531) (fun _ h9 => h9) rfl d_Model_isTrueRow_15 ?_
      refine lv_bipush (v := 120) hx hb d_Model_isTrueRow_18 (by decide) ?_
      refine lv_iload_n hx hb d_Model_isTrueRow_20 rfl (lv_at hl 1 rfl) ?_
      refine lv_imul hx hb d_Model_isTrueRow_21 ?_
      refine lv_iload_n hx hb d_Model_isTrueRow_22 rfl (lv_at hl 3 rfl) ?_
      refine lv_iadd hx hb d_Model_isTrueRow_23 ?_
      obtain ⟨hg, hf⟩ := sd_gd_e hf
      refine k_iald hx hb hK hI 1 0 rfl rfl hg d_Model_isTrueRow_24 ?_
      refine k_li hf (fun x1 hf => ?_)
      refine lv_istore (lv' := [(4, .int x1), (0, .ref (q 0)), (1, .int v1), (2, .int v2), (3, .int v3)]) hx hb d_Model_isTrueRow_25 hl (by decide) rfl (fun ls hl => ?_)
      refine lv_iload_n hx hb d_Model_isTrueRow_27 rfl (lv_at hl 3 rfl) ?_
      refine lv_if_ne (tgt := 56) hx hb d_Model_isTrueRow_28 (by decide) (fun hc => ?_) (fun hc => ?_)
      · have hf := sd_f hf hc
        refine lv_iconst (v := 1) hx hb d_Model_isTrueRow_56 (by decide) ?_
        refine lv_goto (tgt := 61) hx hb d_Model_isTrueRow_57 (by decide) ?_
        refine lv_istore_n (lv' := [(2, .int (1 : Int32)), (4, .int x1), (0, .ref (q 0)), (1, .int v1), (3, .int v3)]) hx hb d_Model_isTrueRow_61 rfl hl (by decide) rfl (fun ls hl => ?_)
        refine lv_iinc (v := (v3 + (1 : Int32))) (lv' := [(3, .int (v3 + (1 : Int32))), (2, .int (1 : Int32)), (4, .int x1), (0, .ref (q 0)), (1, .int v1)]) hx hb d_Model_isTrueRow_62 hl (k := 4) rfl rfl (by decide) rfl (fun ls hl => ?_)
        refine lv_goto (tgt := 4) hx hb d_Model_isTrueRow_65 (by decide) ?_
        exact ih (v1) ((1 : Int32)) ((v3 + (1 : Int32))) μ _ _ _ hI (lv_sub hl [3, 4, 1, 0] rfl) hf
      · have hf := sd_t hf hc
        refine lv_iload hx hb d_Model_isTrueRow_31 (lv_at hl 0 rfl) ?_
        refine lv_if_eq (tgt := 60) hx hb d_Model_isTrueRow_33 (by decide) (fun hc => ?_) (fun hc => ?_)
        · have hf := sd_t hf hc
          refine lv_iconst (v := 0) hx hb d_Model_isTrueRow_60 (by decide) ?_
          refine lv_istore_n (lv' := [(2, .int (0 : Int32)), (4, .int x1), (0, .ref (q 0)), (1, .int v1), (3, .int v3)]) hx hb d_Model_isTrueRow_61 rfl hl (by decide) rfl (fun ls hl => ?_)
          refine lv_iinc (v := (v3 + (1 : Int32))) (lv' := [(3, .int (v3 + (1 : Int32))), (2, .int (0 : Int32)), (4, .int x1), (0, .ref (q 0)), (1, .int v1)]) hx hb d_Model_isTrueRow_62 hl (k := 4) rfl rfl (by decide) rfl (fun ls hl => ?_)
          refine lv_goto (tgt := 4) hx hb d_Model_isTrueRow_65 (by decide) ?_
          exact ih (v1) ((0 : Int32)) ((v3 + (1 : Int32))) μ _ _ _ hI (lv_sub hl [3, 4, 1, 0] rfl) hf
        · have hf := sd_f hf hc
          refine lv_iload_n hx hb d_Model_isTrueRow_36 rfl (lv_at hl 4 rfl) ?_
          refine lv_aload_n hx hb d_Model_isTrueRow_37 rfl (lv_at hl 1 rfl) ?_
          refine va_get (D := D) (ci := 7) (v := .ref (q 2)) (C := "ScriptDeskModel") (T := T_Model) (N := 18) hx hb hts iw_Model hown hK hI.1 0 rfl rfl 1 (by decide) (hts _ tw_532) (fun _ h9 => h9) rfl d_Model_isTrueRow_38 ?_
          refine lv_iload_n hx hb d_Model_isTrueRow_41 rfl (lv_at hl 2 rfl) ?_
          obtain ⟨hg, hf⟩ := sd_gd_e hf
          refine k_iald hx hb hK hI 2 0 rfl rfl hg d_Model_isTrueRow_42 ?_
          refine lv_iconst (v := 1) hx hb d_Model_isTrueRow_43 (by decide) ?_
          refine lv_isub hx hb d_Model_isTrueRow_44 ?_
          refine lv_icmp_lt (tgt := 56) hx hb d_Model_isTrueRow_45 (by decide) (fun hc => ?_) (fun hc => ?_)
          · have hf := sd_t hf hc
            refine lv_iconst (v := 1) hx hb d_Model_isTrueRow_56 (by decide) ?_
            refine lv_goto (tgt := 61) hx hb d_Model_isTrueRow_57 (by decide) ?_
            refine lv_istore_n (lv' := [(2, .int (1 : Int32)), (4, .int x1), (0, .ref (q 0)), (1, .int v1), (3, .int v3)]) hx hb d_Model_isTrueRow_61 rfl hl (by decide) rfl (fun ls hl => ?_)
            refine lv_iinc (v := (v3 + (1 : Int32))) (lv' := [(3, .int (v3 + (1 : Int32))), (2, .int (1 : Int32)), (4, .int x1), (0, .ref (q 0)), (1, .int v1)]) hx hb d_Model_isTrueRow_62 hl (k := 4) rfl rfl (by decide) rfl (fun ls hl => ?_)
            refine lv_goto (tgt := 4) hx hb d_Model_isTrueRow_65 (by decide) ?_
            exact ih (v1) ((1 : Int32)) ((v3 + (1 : Int32))) μ _ _ _ hI (lv_sub hl [3, 4, 1, 0] rfl) hf
          · have hf := sd_f hf hc
            refine lv_iload hx hb d_Model_isTrueRow_48 (lv_at hl 0 rfl) ?_
            refine lv_sipush (v := 128) hx hb d_Model_isTrueRow_50 (by decide) ?_
            refine lv_icmp_eq (tgt := 60) hx hb d_Model_isTrueRow_53 (by decide) (fun hc => ?_) (fun hc => ?_)
            · have hf := sd_t hf hc
              refine lv_iconst (v := 0) hx hb d_Model_isTrueRow_60 (by decide) ?_
              refine lv_istore_n (lv' := [(2, .int (0 : Int32)), (4, .int x1), (0, .ref (q 0)), (1, .int v1), (3, .int v3)]) hx hb d_Model_isTrueRow_61 rfl hl (by decide) rfl (fun ls hl => ?_)
              refine lv_iinc (v := (v3 + (1 : Int32))) (lv' := [(3, .int (v3 + (1 : Int32))), (2, .int (0 : Int32)), (4, .int x1), (0, .ref (q 0)), (1, .int v1)]) hx hb d_Model_isTrueRow_62 hl (k := 4) rfl rfl (by decide) rfl (fun ls hl => ?_)
              refine lv_goto (tgt := 4) hx hb d_Model_isTrueRow_65 (by decide) ?_
              exact ih (v1) ((0 : Int32)) ((v3 + (1 : Int32))) μ _ _ _ hI (lv_sub hl [3, 4, 1, 0] rfl) hf
            · have hf := sd_f hf hc
              refine lv_iconst (v := 1) hx hb d_Model_isTrueRow_56 (by decide) ?_
              refine lv_goto (tgt := 61) hx hb d_Model_isTrueRow_57 (by decide) ?_
              refine lv_istore_n (lv' := [(2, .int (1 : Int32)), (4, .int x1), (0, .ref (q 0)), (1, .int v1), (3, .int v3)]) hx hb d_Model_isTrueRow_61 rfl hl (by decide) rfl (fun ls hl => ?_)
              refine lv_iinc (v := (v3 + (1 : Int32))) (lv' := [(3, .int (v3 + (1 : Int32))), (2, .int (1 : Int32)), (4, .int x1), (0, .ref (q 0)), (1, .int v1)]) hx hb d_Model_isTrueRow_62 hl (k := 4) rfl rfl (by decide) rfl (fun ls hl => ?_)
              refine lv_goto (tgt := 4) hx hb d_Model_isTrueRow_65 (by decide) ?_
              exact ih (v1) ((1 : Int32)) ((v3 + (1 : Int32))) μ _ _ _ hI (lv_sub hl [3, 4, 1, 0] rfl) hf
set_option maxHeartbeats 4000000 in
set_option maxRecDepth 100000 in
theorem mt_Model_isTrueRow_r0 (l : Launch) {D : va_G} {q tq : Nat → Nat} {cA : ClassId} {a1 : Int32} {μ : sd_Me} {ru : Int32 × sd_Me} (hf : fn_Model_isTrueRow_r0 a1 μ = some ru) : sd_CTi l y_Model_isTrueRow w_Model_isTrueRow ({ frames := 0, cells := 0, slots := 0, locals := 0 }) vwCl (wdM q cA) D [(cA, .int)] (ZM tq) .boolean [.ref (q 0), .int a1] μ ru := by
  refine k_enti (cc := prog_12_method_9_code) 5 (by decide) rfl (Nat.le_of_ble_eq_true rfl) ?_
  intro p e s m below meth c A ls X hI hl
  have hl : lv_has ls 5 [(0, .ref (q 0)), (1, .int a1)] := hl
  obtain ⟨hx, hb, hml, hown, hts, hK, hZ, hA, hr, hlocks⟩ := id X
  unfold fn_Model_isTrueRow_r0 at hf
  refine lv_iconst (v := 0) hx hb d_Model_isTrueRow_0 (by decide) ?_
  refine lv_istore_n (lv' := [(2, .int (0 : Int32)), (0, .ref (q 0)), (1, .int a1)]) hx hb d_Model_isTrueRow_1 rfl hl (by decide) rfl (fun ls hl => ?_)
  refine lv_iconst (v := 0) hx hb d_Model_isTrueRow_2 (by decide) ?_
  refine lv_istore_n (lv' := [(3, .int (0 : Int32)), (2, .int (0 : Int32)), (0, .ref (q 0)), (1, .int a1)]) hx hb d_Model_isTrueRow_3 rfl hl (by decide) rfl (fun ls hl => ?_)
  refine lp_Model_isTrueRow_r0_L4 l X ?_ 10000 (a1) ((0 : Int32)) ((0 : Int32)) μ _ _ _ hI (lv_sub hl [2, 3, 1, 0] rfl) hf
  · intro x2 m3 H locs ls hI hl hf
    refine lv_iload_n hx hb d_Model_isTrueRow_68 rfl (lv_at hl 0 rfl) ?_
    obtain ⟨hg, hf⟩ := sd_gd_e hf
    exact k_reti X hI (sd_zb_n hg) hf d_Model_isTrueRow_69
set_option maxHeartbeats 4000000 in
set_option maxRecDepth 100000 in
theorem jn_Model_flow_r0_J77 (l : Launch) {p : Program} {e : Env} {s : State} {m : MethodId} {args : Array Value} {below : List Frame} {meth : Method} {c : Code} {A : Nat → Prop} {D : va_G} {q tq : Nat → Nat} {cA : ClassId} {ru : sd_Me} (X : sd_Cx p s m args meth c prog_12_method_25_code "ScriptDeskModel" sx_tbl 3 none vwCl D [(cA, .int)] (ZM tq) A) (s1 : Int32) (s2 : Int32) (s3 : Int32) (μ : sd_Me) (H : Heap) (locs : List Loc) (ls : Array Slot) (hI : sd_CI vwCl (wdM q cA) D A s H locs μ) (hl : lv_has ls 3 [(0, .ref (q 0))]) (hf : fn_Model_flow_r0_J77 s1 s2 s3 μ = some ru) : W p l e ({ frames := 2, cells := 0, slots := 0, locals := 42 }) s m args below meth c H locs 0 0 (sd_QV below vwCl (wdM q cA) D [(cA, .int)] A args s ru) (F0 m 77 ls [.int s3, .int s2, .int s1, .ref (q 4)]) := by
  obtain ⟨hx, hb, hml, hown, hts, hK, hZ, hA, hr, hlocks⟩ := id X
  unfold fn_Model_flow_r0_J77 at hf
  refine lv_icmp_ne (tgt := 84) hx hb d_Model_flow_77 (by decide) (fun hc => ?_) (fun hc => ?_)
  · have hf := sd_f hf hc
    refine lv_iconst (v := 2) hx hb d_Model_flow_84 (by decide) ?_
    obtain ⟨hg, hf⟩ := sd_gd_e hf
    refine k_iast (μ' := sd_st μ 4 (Int32.toNatClampNeg s1) (2 : Int32)) hx hb hK hI 4 0 rfl rfl rfl hg d_Model_flow_85 (fun H locs hI => ?_)
    obtain ⟨m9, hI, hf⟩ := k_lm hf hI
    refine lv_aload_n hx hb d_Model_flow_86 rfl (lv_at hl 0 rfl) ?_
    refine lv_dup hx hb d_Model_flow_87 rfl ?_
    refine va_get (D := D) (ci := 7) (v := .int (m9.1 0 11)) (C := "ScriptDeskModel") (T := T_Model) (N := 18) hx hb hts iw_Model hown hK hI.1 0 rfl rfl 11 (by decide) (hts _ tw_542) (fun _ h9 => h9) rfl d_Model_flow_88 ?_
    refine lv_iconst (v := 1) hx hb d_Model_flow_91 (by decide) ?_
    refine lv_iadd hx hb d_Model_flow_92 ?_
    refine k_put (ci := 7) (v := .int ((m9.1 0 11) + (1 : Int32))) (ty := .int) (C := "ScriptDeskModel") (T := T_Model) (N := 18) (μ' := sd_st m9 0 11 ((m9.1 0 11) + (1 : Int32))) hx hb hts iw_Model t_Model t_Model_ok n_Model hown hK hI 0 rfl rfl 11 (by decide) (hts _ tw_542) (fun _ h9 => h9) rfl (by decide +kernel) rfl rfl (Nat.le_of_ble_eq_true rfl) rfl d_Model_flow_93 (fun H locs hI => ?_)
    obtain ⟨m10, hI, hf⟩ := k_lm hf hI
    exact k_retv X hI hf d_Model_flow_96
  · have hf := sd_t hf hc
    refine lv_iconst (v := 1) hx hb d_Model_flow_80 (by decide) ?_
    refine lv_goto (tgt := 85) hx hb d_Model_flow_81 (by decide) ?_
    obtain ⟨hg, hf⟩ := sd_gd_e hf
    refine k_iast (μ' := sd_st μ 4 (Int32.toNatClampNeg s1) (1 : Int32)) hx hb hK hI 4 0 rfl rfl rfl hg d_Model_flow_85 (fun H locs hI => ?_)
    obtain ⟨m11, hI, hf⟩ := k_lm hf hI
    refine lv_aload_n hx hb d_Model_flow_86 rfl (lv_at hl 0 rfl) ?_
    refine lv_dup hx hb d_Model_flow_87 rfl ?_
    refine va_get (D := D) (ci := 7) (v := .int (m11.1 0 11)) (C := "ScriptDeskModel") (T := T_Model) (N := 18) hx hb hts iw_Model hown hK hI.1 0 rfl rfl 11 (by decide) (hts _ tw_542) (fun _ h9 => h9) rfl d_Model_flow_88 ?_
    refine lv_iconst (v := 1) hx hb d_Model_flow_91 (by decide) ?_
    refine lv_iadd hx hb d_Model_flow_92 ?_
    refine k_put (ci := 7) (v := .int ((m11.1 0 11) + (1 : Int32))) (ty := .int) (C := "ScriptDeskModel") (T := T_Model) (N := 18) (μ' := sd_st m11 0 11 ((m11.1 0 11) + (1 : Int32))) hx hb hts iw_Model t_Model t_Model_ok n_Model hown hK hI 0 rfl rfl 11 (by decide) (hts _ tw_542) (fun _ h9 => h9) rfl (by decide +kernel) rfl rfl (Nat.le_of_ble_eq_true rfl) rfl d_Model_flow_93 (fun H locs hI => ?_)
    obtain ⟨m12, hI, hf⟩ := k_lm hf hI
    exact k_retv X hI hf d_Model_flow_96
set_option maxHeartbeats 4000000 in
set_option maxRecDepth 100000 in
theorem jn_Model_flow_r0_J12 (l : Launch) {p : Program} {e : Env} {s : State} {m : MethodId} {args : Array Value} {below : List Frame} {meth : Method} {c : Code} {A : Nat → Prop} {D : va_G} {q tq : Nat → Nat} {cA : ClassId} {ru : sd_Me} (X : sd_Cx p s m args meth c prog_12_method_25_code "ScriptDeskModel" sx_tbl 3 none vwCl D [(cA, .int)] (ZM tq) A) (v1 : Int32) (μ : sd_Me) (H : Heap) (locs : List Loc) (ls : Array Slot) (hI : sd_CI vwCl (wdM q cA) D A s H locs μ) (hl : lv_has ls 3 [(0, .ref (q 0)), (1, .int v1)]) (hf : fn_Model_flow_r0_J12 v1 μ = some ru) : W p l e ({ frames := 2, cells := 0, slots := 0, locals := 42 }) s m args below meth c H locs 0 0 (sd_QV below vwCl (wdM q cA) D [(cA, .int)] A args s ru) (F0 m 12 ls []) := by
  obtain ⟨hx, hb, hml, hown, hts, hK, hZ, hA, hr, hlocks⟩ := id X
  unfold fn_Model_flow_r0_J12 at hf
  refine lv_aload_n hx hb d_Model_flow_12 rfl (lv_at hl 0 rfl) ?_
  obtain ⟨x2, m1, hq, hf⟩ := sd_bi_e hf
  refine k_callV (As := []) (rest := []) (C := "ScriptDeskModel") (ci := 7) ZM_ok X hI (mt_Model_isDone_r0 l hq) (cwV 0 hts (gd_V tw_603 tw_605 ts_15 tw_9 tw_606) rfl rfl rfl (by decide +kernel) ⟨Nat.le_of_ble_eq_true rfl, Nat.le_of_ble_eq_true rfl⟩) 0 rfl rfl rfl hl.1 rfl (Nat.le_of_ble_eq_true rfl) d_Model_flow_13 ⟨Nat.zero_le _, Nat.zero_le _⟩ (fun H locs hn_x2 hI => ?_)
  refine lv_if_ne (tgt := 32) hx hb d_Model_flow_16 (by decide) (fun hc => ?_) (fun hc => ?_)
  · have hf := sd_f hf hc
    refine lv_aload_n hx hb d_Model_flow_32 rfl (lv_at hl 0 rfl) ?_
    refine lv_iconst (v := 1) hx hb d_Model_flow_33 (by decide) ?_
    obtain ⟨x4, m3, hq, hf⟩ := sd_bi_e hf
    refine k_callV (As := [.int (1 : Int32)]) (rest := []) (C := "ScriptDeskModel") (ci := 7) ZM_ok X hI (mt_Model_has_r0 l hq) (cwV 1 hts (gd_V tw_619 tw_621 ts_19 tw_9 tw_622) rfl rfl rfl (by decide +kernel) ⟨Nat.le_of_ble_eq_true rfl, Nat.le_of_ble_eq_true rfl⟩) 0 rfl rfl rfl hl.1 rfl (Nat.le_of_ble_eq_true rfl) d_Model_flow_34 ⟨Nat.zero_le _, Nat.zero_le _⟩ (fun H locs hn_x4 hI => ?_)
    refine lv_if_eq (tgt := 86) hx hb d_Model_flow_37 (by decide) (fun hc => ?_) (fun hc => ?_)
    · have hf := sd_t hf hc
      refine lv_aload_n hx hb d_Model_flow_86 rfl (lv_at hl 0 rfl) ?_
      refine lv_dup hx hb d_Model_flow_87 rfl ?_
      refine va_get (D := D) (ci := 7) (v := .int (m3.1 0 11)) (C := "ScriptDeskModel") (T := T_Model) (N := 18) hx hb hts iw_Model hown hK hI.1 0 rfl rfl 11 (by decide) (hts _ tw_542) (fun _ h9 => h9) rfl d_Model_flow_88 ?_
      refine lv_iconst (v := 1) hx hb d_Model_flow_91 (by decide) ?_
      refine lv_iadd hx hb d_Model_flow_92 ?_
      refine k_put (ci := 7) (v := .int ((m3.1 0 11) + (1 : Int32))) (ty := .int) (C := "ScriptDeskModel") (T := T_Model) (N := 18) (μ' := sd_st m3 0 11 ((m3.1 0 11) + (1 : Int32))) hx hb hts iw_Model t_Model t_Model_ok n_Model hown hK hI 0 rfl rfl 11 (by decide) (hts _ tw_542) (fun _ h9 => h9) rfl (by decide +kernel) rfl rfl (Nat.le_of_ble_eq_true rfl) rfl d_Model_flow_93 (fun H locs hI => ?_)
      obtain ⟨m5, hI, hf⟩ := k_lm hf hI
      exact k_retv X hI hf d_Model_flow_96
    · have hf := sd_f hf hc
      refine lv_aload_n hx hb d_Model_flow_40 rfl (lv_at hl 0 rfl) ?_
      refine lv_dup hx hb d_Model_flow_41 rfl ?_
      refine va_get (D := D) (ci := 7) (v := .int (m3.1 0 2)) (C := "ScriptDeskModel") (T := T_Model) (N := 18) hx hb hts iw_Model hown hK hI.1 0 rfl rfl 2 (by decide) (hts _ tw_533) (fun _ h9 => h9) rfl d_Model_flow_42 ?_
      refine lv_iconst (v := 1) hx hb d_Model_flow_45 (by decide) ?_
      refine lv_isub hx hb d_Model_flow_46 ?_
      refine k_put (ci := 7) (v := .int ((m3.1 0 2) - (1 : Int32))) (ty := .int) (C := "ScriptDeskModel") (T := T_Model) (N := 18) (μ' := sd_st m3 0 2 ((m3.1 0 2) - (1 : Int32))) hx hb hts iw_Model t_Model t_Model_ok n_Model hown hK hI 0 rfl rfl 2 (by decide) (hts _ tw_533) (fun _ h9 => h9) rfl (by decide +kernel) rfl rfl (Nat.le_of_ble_eq_true rfl) rfl d_Model_flow_47 (fun H locs hI => ?_)
      obtain ⟨m6, hI, hf⟩ := k_lm hf hI
      refine lv_aload_n hx hb d_Model_flow_50 rfl (lv_at hl 0 rfl) ?_
      refine va_get (D := D) (ci := 7) (v := .ref (q 4)) (C := "ScriptDeskModel") (T := T_Model) (N := 18) hx hb hts iw_Model hown hK hI.1 0 rfl rfl 12 (by decide) (hts _ tw_543) (fun _ h9 => h9) rfl d_Model_flow_51 ?_
      refine lv_aload_n hx hb d_Model_flow_54 rfl (lv_at hl 0 rfl) ?_
      refine va_get (D := D) (ci := 7) (v := .int (m6.1 0 11)) (C := "ScriptDeskModel") (T := T_Model) (N := 18) hx hb hts iw_Model hown hK hI.1 0 rfl rfl 11 (by decide) (hts _ tw_542) (fun _ h9 => h9) rfl d_Model_flow_55 ?_
      refine lv_aload_n hx hb d_Model_flow_58 rfl (lv_at hl 0 rfl) ?_
      refine lv_aload_n hx hb d_Model_flow_59 rfl (lv_at hl 0 rfl) ?_
      refine va_get (D := D) (ci := 7) (v := .int (m6.1 0 2)) (C := "ScriptDeskModel") (T := T_Model) (N := 18) hx hb hts iw_Model hown hK hI.1 0 rfl rfl 2 (by decide) (hts _ tw_533) (fun _ h9 => h9) rfl d_Model_flow_60 ?_
      obtain ⟨x8, m7, hq, hf⟩ := sd_bi_e hf
      refine k_callV (As := [.int (m6.1 0 2)]) (rest := [.int (m6.1 0 11), .ref (q 4)]) (C := "ScriptDeskModel") (ci := 7) ZM_ok X hI (mt_Model_isTrueRow_r0 l hq) (cwV 1 hts (gd_V tw_623 tw_625 ts_20 tw_9 tw_626) rfl rfl rfl (by decide +kernel) ⟨Nat.le_of_ble_eq_true rfl, Nat.le_of_ble_eq_true rfl⟩) 0 rfl rfl rfl hl.1 rfl (Nat.le_of_ble_eq_true rfl) d_Model_flow_63 ⟨Nat.zero_le _, Nat.zero_le _⟩ (fun H locs hn_x8 hI => ?_)
      refine lv_iload_n hx hb d_Model_flow_66 rfl (lv_at hl 1 rfl) ?_
      refine lv_bipush (v := 99) hx hb d_Model_flow_67 (by decide) ?_
      refine lv_icmp_ne (tgt := 76) hx hb d_Model_flow_69 (by decide) (fun hc => ?_) (fun hc => ?_)
      · have hf := sd_f hf hc
        refine lv_iconst (v := 0) hx hb d_Model_flow_76 (by decide) ?_
        exact jn_Model_flow_r0_J77 l X ((m6.1 0 11)) (x8) ((0 : Int32)) m7 _ _ _ hI (lv_sub hl [0] rfl) hf
      · have hf := sd_t hf hc
        refine lv_iconst (v := 1) hx hb d_Model_flow_72 (by decide) ?_
        refine lv_goto (tgt := 77) hx hb d_Model_flow_73 (by decide) ?_
        exact jn_Model_flow_r0_J77 l X ((m6.1 0 11)) (x8) ((1 : Int32)) m7 _ _ _ hI (lv_sub hl [0] rfl) hf
  · have hf := sd_t hf hc
    refine lv_aload_n hx hb d_Model_flow_19 rfl (lv_at hl 0 rfl) ?_
    refine va_get (D := D) (ci := 7) (v := .ref (q 4)) (C := "ScriptDeskModel") (T := T_Model) (N := 18) hx hb hts iw_Model hown hK hI.1 0 rfl rfl 12 (by decide) (hts _ tw_543) (fun _ h9 => h9) rfl d_Model_flow_20 ?_
    refine lv_aload_n hx hb d_Model_flow_23 rfl (lv_at hl 0 rfl) ?_
    refine va_get (D := D) (ci := 7) (v := .int (m1.1 0 11)) (C := "ScriptDeskModel") (T := T_Model) (N := 18) hx hb hts iw_Model hown hK hI.1 0 rfl rfl 11 (by decide) (hts _ tw_542) (fun _ h9 => h9) rfl d_Model_flow_24 ?_
    refine lv_iconst (v := 3) hx hb d_Model_flow_27 (by decide) ?_
    obtain ⟨hg, hf⟩ := sd_gd_e hf
    refine k_iast (μ' := sd_st m1 4 (Int32.toNatClampNeg (m1.1 0 11)) (3 : Int32)) hx hb hK hI 4 0 rfl rfl rfl hg d_Model_flow_28 (fun H locs hI => ?_)
    obtain ⟨m13, hI, hf⟩ := k_lm hf hI
    refine lv_goto (tgt := 86) hx hb d_Model_flow_29 (by decide) ?_
    refine lv_aload_n hx hb d_Model_flow_86 rfl (lv_at hl 0 rfl) ?_
    refine lv_dup hx hb d_Model_flow_87 rfl ?_
    refine va_get (D := D) (ci := 7) (v := .int (m13.1 0 11)) (C := "ScriptDeskModel") (T := T_Model) (N := 18) hx hb hts iw_Model hown hK hI.1 0 rfl rfl 11 (by decide) (hts _ tw_542) (fun _ h9 => h9) rfl d_Model_flow_88 ?_
    refine lv_iconst (v := 1) hx hb d_Model_flow_91 (by decide) ?_
    refine lv_iadd hx hb d_Model_flow_92 ?_
    refine k_put (ci := 7) (v := .int ((m13.1 0 11) + (1 : Int32))) (ty := .int) (C := "ScriptDeskModel") (T := T_Model) (N := 18) (μ' := sd_st m13 0 11 ((m13.1 0 11) + (1 : Int32))) hx hb hts iw_Model t_Model t_Model_ok n_Model hown hK hI 0 rfl rfl 11 (by decide) (hts _ tw_542) (fun _ h9 => h9) rfl (by decide +kernel) rfl rfl (Nat.le_of_ble_eq_true rfl) rfl d_Model_flow_93 (fun H locs hI => ?_)
    obtain ⟨m14, hI, hf⟩ := k_lm hf hI
    exact k_retv X hI hf d_Model_flow_96
set_option maxHeartbeats 4000000 in
set_option maxRecDepth 100000 in
theorem mt_Model_flow_r0 (l : Launch) {D : va_G} {q tq : Nat → Nat} {cA : ClassId} {a1 : Int32} {μ : sd_Me} {ru : sd_Me} (hf : fn_Model_flow_r0 a1 μ = some ru) : sd_CTv l y_Model_flow w_Model_flow ({ frames := 2, cells := 0, slots := 0, locals := 42 }) vwCl (wdM q cA) D [(cA, .int)] (ZM tq) [.ref (q 0), .int a1] μ ru := by
  refine k_entv (cc := prog_12_method_25_code) 3 (by decide) rfl (Nat.le_of_ble_eq_true rfl) ?_
  intro p e s m below meth c A ls X hI hl
  have hl : lv_has ls 3 [(0, .ref (q 0)), (1, .int a1)] := hl
  obtain ⟨hx, hb, hml, hown, hts, hK, hZ, hA, hr, hlocks⟩ := id X
  unfold fn_Model_flow_r0 at hf
  refine lv_iload_n hx hb d_Model_flow_0 rfl (lv_at hl 1 rfl) ?_
  refine lv_bipush (v := 99) hx hb d_Model_flow_1 (by decide) ?_
  refine lv_icmp_eq (tgt := 12) hx hb d_Model_flow_3 (by decide) (fun hc => ?_) (fun hc => ?_)
  · have hf := sd_t hf hc
    exact jn_Model_flow_r0_J12 l X (a1) μ _ _ _ hI (lv_sub hl [0, 1] rfl) hf
  · have hf := sd_f hf hc
    refine lv_iload_n hx hb d_Model_flow_6 rfl (lv_at hl 1 rfl) ?_
    refine lv_bipush (v := 100) hx hb d_Model_flow_7 (by decide) ?_
    refine lv_icmp_ne (tgt := 97) hx hb d_Model_flow_9 (by decide) (fun hc => ?_) (fun hc => ?_)
    · have hf := sd_f hf hc
      refine lv_aload_n hx hb d_Model_flow_97 rfl (lv_at hl 0 rfl) ?_
      refine va_get (D := D) (ci := 7) (v := .int (μ.1 0 11)) (C := "ScriptDeskModel") (T := T_Model) (N := 18) hx hb hts iw_Model hown hK hI.1 0 rfl rfl 11 (by decide) (hts _ tw_542) (fun _ h9 => h9) rfl d_Model_flow_98 ?_
      refine lv_if_ne (tgt := 113) hx hb d_Model_flow_101 (by decide) (fun hc => ?_) (fun hc => ?_)
      · have hf := sd_f hf hc
        refine lv_iload_n hx hb d_Model_flow_113 rfl (lv_at hl 1 rfl) ?_
        refine lv_bipush (v := 104) hx hb d_Model_flow_114 (by decide) ?_
        refine lv_icmp_ne (tgt := 132) hx hb d_Model_flow_116 (by decide) (fun hc => ?_) (fun hc => ?_)
        · have hf := sd_f hf hc
          refine lv_aload_n hx hb d_Model_flow_132 rfl (lv_at hl 0 rfl) ?_
          refine va_get (D := D) (ci := 7) (v := .ref (q 4)) (C := "ScriptDeskModel") (T := T_Model) (N := 18) hx hb hts iw_Model hown hK hI.1 0 rfl rfl 12 (by decide) (hts _ tw_543) (fun _ h9 => h9) rfl d_Model_flow_133 ?_
          refine lv_aload_n hx hb d_Model_flow_136 rfl (lv_at hl 0 rfl) ?_
          refine va_get (D := D) (ci := 7) (v := .int (μ.1 0 11)) (C := "ScriptDeskModel") (T := T_Model) (N := 18) hx hb hts iw_Model hown hK hI.1 0 rfl rfl 11 (by decide) (hts _ tw_542) (fun _ h9 => h9) rfl d_Model_flow_137 ?_
          refine lv_iconst (v := 1) hx hb d_Model_flow_140 (by decide) ?_
          refine lv_isub hx hb d_Model_flow_141 ?_
          obtain ⟨hg, hf⟩ := sd_gd_e hf
          refine k_iald hx hb hK hI 4 0 rfl rfl hg d_Model_flow_142 ?_
          refine k_li hf (fun x15 hf => ?_)
          refine lv_istore_n (lv' := [(2, .int x15), (0, .ref (q 0)), (1, .int a1)]) hx hb d_Model_flow_143 rfl hl (by decide) rfl (fun ls hl => ?_)
          refine lv_aload_n hx hb d_Model_flow_144 rfl (lv_at hl 1 rfl) ?_
          refine va_get (D := D) (ci := 7) (v := .ref (q 4)) (C := "ScriptDeskModel") (T := T_Model) (N := 18) hx hb hts iw_Model hown hK hI.1 0 rfl rfl 12 (by decide) (hts _ tw_543) (fun _ h9 => h9) rfl d_Model_flow_145 ?_
          refine lv_aload_n hx hb d_Model_flow_148 rfl (lv_at hl 1 rfl) ?_
          refine va_get (D := D) (ci := 7) (v := .int (μ.1 0 11)) (C := "ScriptDeskModel") (T := T_Model) (N := 18) hx hb hts iw_Model hown hK hI.1 0 rfl rfl 11 (by decide) (hts _ tw_542) (fun _ h9 => h9) rfl d_Model_flow_149 ?_
          refine lv_iconst (v := 1) hx hb d_Model_flow_152 (by decide) ?_
          refine lv_isub hx hb d_Model_flow_153 ?_
          refine lv_iload_n hx hb d_Model_flow_154 rfl (lv_at hl 0 rfl) ?_
          refine lv_iconst (v := 3) hx hb d_Model_flow_155 (by decide) ?_
          refine lv_icmp_ne (tgt := 163) hx hb d_Model_flow_156 (by decide) (fun hc => ?_) (fun hc => ?_)
          · have hf := sd_f hf hc
            refine lv_iconst (v := 3) hx hb d_Model_flow_163 (by decide) ?_
            refine lv_iload_n hx hb d_Model_flow_164 rfl (lv_at hl 0 rfl) ?_
            refine lv_isub hx hb d_Model_flow_165 ?_
            obtain ⟨hg, hf⟩ := sd_gd_e hf
            refine k_iast (μ' := sd_st μ 4 (Int32.toNatClampNeg ((μ.1 0 11) - (1 : Int32))) ((3 : Int32) - x15)) hx hb hK hI 4 0 rfl rfl rfl hg d_Model_flow_166 (fun H locs hI => ?_)
            obtain ⟨m16, hI, hf⟩ := k_lm hf hI
            exact k_retv X hI hf d_Model_flow_167
          · have hf := sd_t hf hc
            refine lv_iconst (v := 3) hx hb d_Model_flow_159 (by decide) ?_
            refine lv_goto (tgt := 166) hx hb d_Model_flow_160 (by decide) ?_
            obtain ⟨hg, hf⟩ := sd_gd_e hf
            refine k_iast (μ' := sd_st μ 4 (Int32.toNatClampNeg ((μ.1 0 11) - (1 : Int32))) (3 : Int32)) hx hb hK hI 4 0 rfl rfl rfl hg d_Model_flow_166 (fun H locs hI => ?_)
            obtain ⟨m17, hI, hf⟩ := k_lm hf hI
            exact k_retv X hI hf d_Model_flow_167
        · have hf := sd_t hf hc
          refine lv_aload_n hx hb d_Model_flow_119 rfl (lv_at hl 0 rfl) ?_
          refine lv_dup hx hb d_Model_flow_120 rfl ?_
          refine va_get (D := D) (ci := 7) (v := .int (μ.1 0 11)) (C := "ScriptDeskModel") (T := T_Model) (N := 18) hx hb hts iw_Model hown hK hI.1 0 rfl rfl 11 (by decide) (hts _ tw_542) (fun _ h9 => h9) rfl d_Model_flow_121 ?_
          refine lv_iconst (v := 1) hx hb d_Model_flow_124 (by decide) ?_
          refine lv_isub hx hb d_Model_flow_125 ?_
          refine k_put (ci := 7) (v := .int ((μ.1 0 11) - (1 : Int32))) (ty := .int) (C := "ScriptDeskModel") (T := T_Model) (N := 18) (μ' := sd_st μ 0 11 ((μ.1 0 11) - (1 : Int32))) hx hb hts iw_Model t_Model t_Model_ok n_Model hown hK hI 0 rfl rfl 11 (by decide) (hts _ tw_542) (fun _ h9 => h9) rfl (by decide +kernel) rfl rfl (Nat.le_of_ble_eq_true rfl) rfl d_Model_flow_126 (fun H locs hI => ?_)
          obtain ⟨m18, hI, hf⟩ := k_lm hf hI
          refine lv_goto (tgt := 167) hx hb d_Model_flow_129 (by decide) ?_
          exact k_retv X hI hf d_Model_flow_167
      · have hf := sd_t hf hc
        refine lv_aload_n hx hb d_Model_flow_104 rfl (lv_at hl 0 rfl) ?_
        refine lv_bipush (v := 10) hx hb d_Model_flow_105 (by decide) ?_
        obtain ⟨m19, hq, hf⟩ := sd_bv_e hf
        refine k_callVv (As := [.int (10 : Int32)]) (rest := []) (C := "ScriptDeskModel") (ci := 7) ZM_ok X hI (mt_Model_fails_r0 l hq) (cwV 1 hts (gd_V tw_607 tw_609 ts_16 tw_9 tw_610) rfl rfl rfl (by decide +kernel) ⟨Nat.le_of_ble_eq_true rfl, Nat.le_of_ble_eq_true rfl⟩) 0 rfl rfl rfl hl.1 rfl (Nat.le_of_ble_eq_true rfl) d_Model_flow_107 ⟨Nat.zero_le _, Nat.zero_le _⟩ (fun H locs hI => ?_)
        refine lv_goto (tgt := 167) hx hb d_Model_flow_110 (by decide) ?_
        exact k_retv X hI hf d_Model_flow_167
    · have hf := sd_t hf hc
      exact jn_Model_flow_r0_J12 l X (a1) μ _ _ _ hI (lv_sub hl [0, 1] rfl) hf
set_option maxHeartbeats 4000000 in
set_option maxRecDepth 100000 in
theorem mt_Model_top_r0 (l : Launch) {D : va_G} {q tq : Nat → Nat} {cA : ClassId} {a1 : Int32} {μ : sd_Me} {ru : Int32 × sd_Me} (hf : fn_Model_top_r0 a1 μ = some ru) : sd_CTi l y_Model_top w_Model_top ({ frames := 0, cells := 0, slots := 0, locals := 0 }) vwCl (wdM q cA) D [(cA, .int)] (ZM tq) .int [.ref (q 0), .int a1] μ ru := by
  refine k_enti (cc := prog_12_method_5_code) 2 (by decide) rfl (Nat.le_of_ble_eq_true rfl) ?_
  intro p e s m below meth c A ls X hI hl
  have hl : lv_has ls 2 [(0, .ref (q 0)), (1, .int a1)] := hl
  obtain ⟨hx, hb, hml, hown, hts, hK, hZ, hA, hr, hlocks⟩ := id X
  unfold fn_Model_top_r0 at hf
  refine lv_aload_n hx hb d_Model_top_0 rfl (lv_at hl 0 rfl) ?_
  refine va_get (D := D) (ci := 7) (v := .int (μ.1 0 2)) (C := "ScriptDeskModel") (T := T_Model) (N := 18) hx hb hts iw_Model hown hK hI.1 0 rfl rfl 2 (by decide) (hts _ tw_533) (fun _ h9 => h9) rfl d_Model_top_1 ?_
  refine lv_iconst (v := 1) hx hb d_Model_top_4 (by decide) ?_
  refine lv_isub hx hb d_Model_top_5 ?_
  refine lv_iload_n hx hb d_Model_top_6 rfl (lv_at hl 1 rfl) ?_
  refine lv_isub hx hb d_Model_top_7 ?_
  exact k_reti X hI (vp_nar_int _) hf d_Model_top_8
set_option maxHeartbeats 4000000 in
set_option maxRecDepth 100000 in
theorem lp_Model_isSame_r0_L24 (l : Launch) {p : Program} {e : Env} {s : State} {m : MethodId} {args : Array Value} {below : List Frame} {meth : Method} {c : Code} {A : Nat → Prop} {D : va_G} {q tq : Nat → Nat} {cA : ClassId} {ru : Int32 × sd_Me} (X : sd_Cx p s m args meth c prog_12_method_10_code "ScriptDeskModel" sx_tbl 5 (some .boolean) vwCl D [(cA, .int)] (ZM tq) A) {k78 : Int32 → sd_Me → Option (Int32 × sd_Me)} (hk78 : ∀ (v3 : Int32) (μ : sd_Me) (H : Heap) (locs : List Loc) (ls : Array Slot), sd_CI vwCl (wdM q cA) D A s H locs μ → lv_has ls 5 [(3, .int v3)] → k78 v3 μ = some ru → W p l e ({ frames := 0, cells := 0, slots := 0, locals := 0 }) s m args below meth c H locs 0 0 (sd_QI below vwCl (wdM q cA) D [(cA, .int)] .boolean A args s ru) (F0 m 78 ls [])) :
    ∀ (n : Nat) (v1 : Int32) (v2 : Int32) (v3 : Int32) (v4 : Int32) (μ : sd_Me) (H : Heap) (locs : List Loc) (ls : Array Slot), sd_CI vwCl (wdM q cA) D A s H locs μ → lv_has ls 5 [(0, .ref (q 0)), (1, .int v1), (2, .int v2), (3, .int v3), (4, .int v4)] → fn_Model_isSame_r0_L24 k78 n v1 v2 v3 v4 μ = some ru → W p l e ({ frames := 0, cells := 0, slots := 0, locals := 0 }) s m args below meth c H locs 0 0 (sd_QI below vwCl (wdM q cA) D [(cA, .int)] .boolean A args s ru) (F0 m 24 ls []) := by
  obtain ⟨hx, hb, hml, hown, hts, hK, hZ, hA, hr, hlocks⟩ := id X
  intro n
  induction n with
  | zero =>
    intro v1 v2 v3 v4 μ H locs ls hI hl hf
    cases hf
  | succ n ih =>
    intro v1 v2 v3 v4 μ H locs ls hI hl hf
    rw [fn_Model_isSame_r0_L24] at hf
    refine lv_iload hx hb d_Model_isSame_24 (lv_at hl 4 rfl) ?_
    refine lv_aload_n hx hb d_Model_isSame_26 rfl (lv_at hl 0 rfl) ?_
    refine va_get (D := D) (ci := 7) (v := .ref (q 2)) (C := "ScriptDeskModel") (T := T_Model) (N := 18) hx hb hts iw_Model hown hK hI.1 0 rfl rfl 1 (by decide) (hts _ tw_532) (fun _ h9 => h9) rfl d_Model_isSame_27 ?_
    refine lv_iload_n hx hb d_Model_isSame_30 rfl (lv_at hl 1 rfl) ?_
    obtain ⟨hg, hf⟩ := sd_gd_e hf
    refine k_iald hx hb hK hI 2 0 rfl rfl hg d_Model_isSame_31 ?_
    refine lv_icmp_ge (tgt := 78) hx hb d_Model_isSame_32 (by decide) (fun hc => ?_) (fun hc => ?_)
    · have hf := sd_t hf hc
      exact hk78 (v3) μ _ _ _ hI (lv_sub hl [3] rfl) hf
    · have hf := sd_f hf hc
      refine lv_iload_n hx hb d_Model_isSame_35 rfl (lv_at hl 3 rfl) ?_
      refine lv_if_eq (tgt := 70) hx hb d_Model_isSame_36 (by decide) (fun hc => ?_) (fun hc => ?_)
      · have hf := sd_t hf hc
        refine lv_iconst (v := 0) hx hb d_Model_isSame_70 (by decide) ?_
        refine lv_istore_n (lv' := [(3, .int (0 : Int32)), (0, .ref (q 0)), (1, .int v1), (2, .int v2), (4, .int v4)]) hx hb d_Model_isSame_71 rfl hl (by decide) rfl (fun ls hl => ?_)
        refine lv_iinc (v := (v4 + (1 : Int32))) (lv' := [(4, .int (v4 + (1 : Int32))), (3, .int (0 : Int32)), (0, .ref (q 0)), (1, .int v1), (2, .int v2)]) hx hb d_Model_isSame_72 hl (k := 4) rfl rfl (by decide) rfl (fun ls hl => ?_)
        refine lv_goto (tgt := 24) hx hb d_Model_isSame_75 (by decide) ?_
        exact ih (v1) (v2) ((0 : Int32)) ((v4 + (1 : Int32))) μ _ _ _ hI (lv_sub hl [2, 3, 4, 1, 0] rfl) hf
      · have hf := sd_f hf hc
        refine lv_aload_n hx hb d_Model_isSame_39 rfl (lv_at hl 0 rfl) ?_
        refine va_get (D := D) (ci := 7) (v := .ref (q 1)) (C := "ScriptDeskModel") (T := T_Model) (N := 18) hx hb hts iw_Model hown hK hI.1 0 rfl rfl 0 (by decide) (hts _ tw_531) (fun _ h9 => h9) rfl d_Model_isSame_40 ?_
        refine lv_bipush (v := 120) hx hb d_Model_isSame_43 (by decide) ?_
        refine lv_iload_n hx hb d_Model_isSame_45 rfl (lv_at hl 1 rfl) ?_
        refine lv_imul hx hb d_Model_isSame_46 ?_
        refine lv_iload hx hb d_Model_isSame_47 (lv_at hl 4 rfl) ?_
        refine lv_iadd hx hb d_Model_isSame_49 ?_
        obtain ⟨hg, hf⟩ := sd_gd_e hf
        refine k_iald hx hb hK hI 1 0 rfl rfl hg d_Model_isSame_50 ?_
        refine lv_aload_n hx hb d_Model_isSame_51 rfl (lv_at hl 0 rfl) ?_
        refine va_get (D := D) (ci := 7) (v := .ref (q 1)) (C := "ScriptDeskModel") (T := T_Model) (N := 18) hx hb hts iw_Model hown hK hI.1 0 rfl rfl 0 (by decide) (hts _ tw_531) (fun _ h9 => h9) rfl d_Model_isSame_52 ?_
        refine lv_bipush (v := 120) hx hb d_Model_isSame_55 (by decide) ?_
        refine lv_iload_n hx hb d_Model_isSame_57 rfl (lv_at hl 2 rfl) ?_
        refine lv_imul hx hb d_Model_isSame_58 ?_
        refine lv_iload hx hb d_Model_isSame_59 (lv_at hl 4 rfl) ?_
        refine lv_iadd hx hb d_Model_isSame_61 ?_
        obtain ⟨hg, hf⟩ := sd_gd_e hf
        refine k_iald hx hb hK hI 1 0 rfl rfl hg d_Model_isSame_62 ?_
        refine lv_icmp_ne (tgt := 70) hx hb d_Model_isSame_63 (by decide) (fun hc => ?_) (fun hc => ?_)
        · have hf := sd_f hf hc
          refine lv_iconst (v := 0) hx hb d_Model_isSame_70 (by decide) ?_
          refine lv_istore_n (lv' := [(3, .int (0 : Int32)), (0, .ref (q 0)), (1, .int v1), (2, .int v2), (4, .int v4)]) hx hb d_Model_isSame_71 rfl hl (by decide) rfl (fun ls hl => ?_)
          refine lv_iinc (v := (v4 + (1 : Int32))) (lv' := [(4, .int (v4 + (1 : Int32))), (3, .int (0 : Int32)), (0, .ref (q 0)), (1, .int v1), (2, .int v2)]) hx hb d_Model_isSame_72 hl (k := 4) rfl rfl (by decide) rfl (fun ls hl => ?_)
          refine lv_goto (tgt := 24) hx hb d_Model_isSame_75 (by decide) ?_
          exact ih (v1) (v2) ((0 : Int32)) ((v4 + (1 : Int32))) μ _ _ _ hI (lv_sub hl [2, 3, 4, 1, 0] rfl) hf
        · have hf := sd_t hf hc
          refine lv_iconst (v := 1) hx hb d_Model_isSame_66 (by decide) ?_
          refine lv_goto (tgt := 71) hx hb d_Model_isSame_67 (by decide) ?_
          refine lv_istore_n (lv' := [(3, .int (1 : Int32)), (0, .ref (q 0)), (1, .int v1), (2, .int v2), (4, .int v4)]) hx hb d_Model_isSame_71 rfl hl (by decide) rfl (fun ls hl => ?_)
          refine lv_iinc (v := (v4 + (1 : Int32))) (lv' := [(4, .int (v4 + (1 : Int32))), (3, .int (1 : Int32)), (0, .ref (q 0)), (1, .int v1), (2, .int v2)]) hx hb d_Model_isSame_72 hl (k := 4) rfl rfl (by decide) rfl (fun ls hl => ?_)
          refine lv_goto (tgt := 24) hx hb d_Model_isSame_75 (by decide) ?_
          exact ih (v1) (v2) ((1 : Int32)) ((v4 + (1 : Int32))) μ _ _ _ hI (lv_sub hl [2, 3, 4, 1, 0] rfl) hf
set_option maxHeartbeats 4000000 in
set_option maxRecDepth 100000 in
theorem jn_Model_isSame_r0_J20 (l : Launch) {p : Program} {e : Env} {s : State} {m : MethodId} {args : Array Value} {below : List Frame} {meth : Method} {c : Code} {A : Nat → Prop} {D : va_G} {q tq : Nat → Nat} {cA : ClassId} {ru : Int32 × sd_Me} (X : sd_Cx p s m args meth c prog_12_method_10_code "ScriptDeskModel" sx_tbl 5 (some .boolean) vwCl D [(cA, .int)] (ZM tq) A) (v1 : Int32) (v2 : Int32) (s0 : Int32) (μ : sd_Me) (H : Heap) (locs : List Loc) (ls : Array Slot) (hI : sd_CI vwCl (wdM q cA) D A s H locs μ) (hl : lv_has ls 5 [(0, .ref (q 0)), (1, .int v1), (2, .int v2)]) (hf : fn_Model_isSame_r0_J20 v1 v2 s0 μ = some ru) : W p l e ({ frames := 0, cells := 0, slots := 0, locals := 0 }) s m args below meth c H locs 0 0 (sd_QI below vwCl (wdM q cA) D [(cA, .int)] .boolean A args s ru) (F0 m 20 ls [.int s0]) := by
  obtain ⟨hx, hb, hml, hown, hts, hK, hZ, hA, hr, hlocks⟩ := id X
  unfold fn_Model_isSame_r0_J20 at hf
  refine lv_istore_n (lv' := [(3, .int s0), (0, .ref (q 0)), (1, .int v1), (2, .int v2)]) hx hb d_Model_isSame_20 rfl hl (by decide) rfl (fun ls hl => ?_)
  refine lv_iconst (v := 0) hx hb d_Model_isSame_21 (by decide) ?_
  refine lv_istore (lv' := [(4, .int (0 : Int32)), (3, .int s0), (0, .ref (q 0)), (1, .int v1), (2, .int v2)]) hx hb d_Model_isSame_22 hl (by decide) rfl (fun ls hl => ?_)
  refine lp_Model_isSame_r0_L24 l X ?_ 10000 (v1) (v2) (s0) ((0 : Int32)) μ _ _ _ hI (lv_sub hl [2, 3, 4, 1, 0] rfl) hf
  · intro x1 m2 H locs ls hI hl hf
    refine lv_iload_n hx hb d_Model_isSame_78 rfl (lv_at hl 0 rfl) ?_
    obtain ⟨hg, hf⟩ := sd_gd_e hf
    exact k_reti X hI (sd_zb_n hg) hf d_Model_isSame_79
set_option maxHeartbeats 4000000 in
set_option maxRecDepth 100000 in
theorem mt_Model_isSame_r0 (l : Launch) {D : va_G} {q tq : Nat → Nat} {cA : ClassId} {a1 : Int32} {a2 : Int32} {μ : sd_Me} {ru : Int32 × sd_Me} (hf : fn_Model_isSame_r0 a1 a2 μ = some ru) : sd_CTi l y_Model_isSame w_Model_isSame ({ frames := 0, cells := 0, slots := 0, locals := 0 }) vwCl (wdM q cA) D [(cA, .int)] (ZM tq) .boolean [.ref (q 0), .int a1, .int a2] μ ru := by
  refine k_enti (cc := prog_12_method_10_code) 5 (by decide) rfl (Nat.le_of_ble_eq_true rfl) ?_
  intro p e s m below meth c A ls X hI hl
  have hl : lv_has ls 5 [(0, .ref (q 0)), (1, .int a1), (2, .int a2)] := hl
  obtain ⟨hx, hb, hml, hown, hts, hK, hZ, hA, hr, hlocks⟩ := id X
  unfold fn_Model_isSame_r0 at hf
  refine lv_aload_n hx hb d_Model_isSame_0 rfl (lv_at hl 0 rfl) ?_
  refine va_get (D := D) (ci := 7) (v := .ref (q 2)) (C := "ScriptDeskModel") (T := T_Model) (N := 18) hx hb hts iw_Model hown hK hI.1 0 rfl rfl 1 (by decide) (hts _ tw_532) (fun _ h9 => h9) rfl d_Model_isSame_1 ?_
  refine lv_iload_n hx hb d_Model_isSame_4 rfl (lv_at hl 1 rfl) ?_
  obtain ⟨hg, hf⟩ := sd_gd_e hf
  refine k_iald hx hb hK hI 2 0 rfl rfl hg d_Model_isSame_5 ?_
  refine lv_aload_n hx hb d_Model_isSame_6 rfl (lv_at hl 0 rfl) ?_
  refine va_get (D := D) (ci := 7) (v := .ref (q 2)) (C := "ScriptDeskModel") (T := T_Model) (N := 18) hx hb hts iw_Model hown hK hI.1 0 rfl rfl 1 (by decide) (hts _ tw_532) (fun _ h9 => h9) rfl d_Model_isSame_7 ?_
  refine lv_iload_n hx hb d_Model_isSame_10 rfl (lv_at hl 2 rfl) ?_
  obtain ⟨hg, hf⟩ := sd_gd_e hf
  refine k_iald hx hb hK hI 2 0 rfl rfl hg d_Model_isSame_11 ?_
  refine lv_icmp_ne (tgt := 19) hx hb d_Model_isSame_12 (by decide) (fun hc => ?_) (fun hc => ?_)
  · have hf := sd_f hf hc
    refine lv_iconst (v := 0) hx hb d_Model_isSame_19 (by decide) ?_
    exact jn_Model_isSame_r0_J20 l X (a1) (a2) ((0 : Int32)) μ _ _ _ hI (lv_sub hl [0, 1, 2] rfl) hf
  · have hf := sd_t hf hc
    refine lv_iconst (v := 1) hx hb d_Model_isSame_15 (by decide) ?_
    refine lv_goto (tgt := 20) hx hb d_Model_isSame_16 (by decide) ?_
    exact jn_Model_isSame_r0_J20 l X (a1) (a2) ((1 : Int32)) μ _ _ _ hI (lv_sub hl [0, 1, 2] rfl) hf
set_option maxHeartbeats 4000000 in
set_option maxRecDepth 100000 in
theorem lp_Model_pushNumber_r0_L16 (l : Launch) {p : Program} {e : Env} {s : State} {m : MethodId} {args : Array Value} {below : List Frame} {meth : Method} {c : Code} {A : Nat → Prop} {D : va_G} {q tq : Nat → Nat} {cA : ClassId} {ru : sd_Me} (X : sd_Cx p s m args meth c prog_12_method_7_code "ScriptDeskModel" sx_tbl 6 none vwCl D [(cA, .int)] (ZM tq) A) {k55 : Int64 → Int32 → sd_Me → Option (sd_Me)} (hk55 : ∀ (v1 : Int64) (v5 : Int32) (μ : sd_Me) (H : Heap) (locs : List Loc) (ls : Array Slot), sd_CI vwCl (wdM q cA) D A s H locs μ → lv_has ls 6 [(0, .ref (q 0)), (1, .long v1), (5, .int v5)] → k55 v1 v5 μ = some ru → W p l e ({ frames := 0, cells := 0, slots := 0, locals := 0 }) s m args below meth c H locs 0 0 (sd_QV below vwCl (wdM q cA) D [(cA, .int)] A args s ru) (F0 m 55 ls [])) :
    ∀ (n : Nat) (v1 : Int64) (v3 : Int64) (v5 : Int32) (μ : sd_Me) (H : Heap) (locs : List Loc) (ls : Array Slot), sd_CI vwCl (wdM q cA) D A s H locs μ → lv_has ls 6 [(0, .ref (q 0)), (1, .long v1), (3, .long v3), (5, .int v5)] → fn_Model_pushNumber_r0_L16 k55 n v1 v3 v5 μ = some ru → W p l e ({ frames := 0, cells := 0, slots := 0, locals := 0 }) s m args below meth c H locs 0 0 (sd_QV below vwCl (wdM q cA) D [(cA, .int)] A args s ru) (F0 m 16 ls []) := by
  obtain ⟨hx, hb, hml, hown, hts, hK, hZ, hA, hr, hlocks⟩ := id X
  intro n
  induction n with
  | zero =>
    intro v1 v3 v5 μ H locs ls hI hl hf
    cases hf
  | succ n ih =>
    intro v1 v3 v5 μ H locs ls hI hl hf
    rw [fn_Model_pushNumber_r0_L16] at hf
    refine lv_lload_n hx hb d_Model_pushNumber_16 rfl (lv_at hl 2 rfl) ?_
    refine lv_lconst (v := 0) hx hb d_Model_pushNumber_17 (by decide) ?_
    refine W.lcmp hx hb d_Model_pushNumber_18 ?_
    refine lv_if_le (tgt := 55) hx hb d_Model_pushNumber_19 (by decide) (fun hc => ?_) (fun hc => ?_)
    · have hf := sd_t hf hc
      exact hk55 (v1) (v5) μ _ _ _ hI (lv_sub hl [0, 1, 3] rfl) hf
    · have hf := sd_f hf hc
      refine lv_aload_n hx hb d_Model_pushNumber_22 rfl (lv_at hl 0 rfl) ?_
      refine va_get (D := D) (ci := 7) (v := .ref (q 1)) (C := "ScriptDeskModel") (T := T_Model) (N := 18) hx hb hts iw_Model hown hK hI.1 0 rfl rfl 0 (by decide) (hts _ tw_531) (fun _ h9 => h9) rfl d_Model_pushNumber_23 ?_
      refine lv_bipush (v := 120) hx hb d_Model_pushNumber_26 (by decide) ?_
      refine lv_aload_n hx hb d_Model_pushNumber_28 rfl (lv_at hl 0 rfl) ?_
      refine va_get (D := D) (ci := 7) (v := .int (μ.1 0 2)) (C := "ScriptDeskModel") (T := T_Model) (N := 18) hx hb hts iw_Model hown hK hI.1 0 rfl rfl 2 (by decide) (hts _ tw_533) (fun _ h9 => h9) rfl d_Model_pushNumber_29 ?_
      refine lv_imul hx hb d_Model_pushNumber_32 ?_
      refine lv_iload hx hb d_Model_pushNumber_33 (lv_at hl 3 rfl) ?_
      refine lv_iadd hx hb d_Model_pushNumber_35 ?_
      refine lv_lload_n hx hb d_Model_pushNumber_36 rfl (lv_at hl 2 rfl) ?_
      refine lv_ldc2 (v := 256) hx hb hown (hts _ tw_632) d_Model_pushNumber_37 ?_
      refine lv_lrem hx hb d_Model_pushNumber_40 (by decide) ?_
      refine lv_l2i (v := (Int64.toInt32 (v3 - v3 / (256 : Int64) * (256 : Int64)))) hx hb d_Model_pushNumber_41 rfl ?_
      obtain ⟨hg, hf⟩ := sd_gd_e hf
      refine k_iast (μ' := sd_st μ 1 (Int32.toNatClampNeg (((120 : Int32) * (μ.1 0 2)) + v5)) (Int64.toInt32 (v3 - v3 / (256 : Int64) * (256 : Int64)))) hx hb hK hI 1 0 rfl rfl rfl hg d_Model_pushNumber_42 (fun H locs hI => ?_)
      obtain ⟨m1, hI, hf⟩ := k_lm hf hI
      refine lv_lload_n hx hb d_Model_pushNumber_43 rfl (lv_at hl 2 rfl) ?_
      refine lv_ldc2 (v := 256) hx hb hown (hts _ tw_632) d_Model_pushNumber_44 ?_
      refine lv_ldiv hx hb d_Model_pushNumber_47 (by decide) ?_
      refine k_ll hf (fun x2 hf => ?_)
      refine lv_lstore_n (lv' := [(3, .long x2), (0, .ref (q 0)), (1, .long v1), (5, .int v5)]) hx hb d_Model_pushNumber_48 rfl hl (by decide) rfl (fun ls hl => ?_)
      refine lv_iinc (v := (v5 + (1 : Int32))) (lv' := [(5, .int (v5 + (1 : Int32))), (3, .long x2), (0, .ref (q 0)), (1, .long v1)]) hx hb d_Model_pushNumber_49 hl (k := 3) rfl rfl (by decide) rfl (fun ls hl => ?_)
      refine lv_goto (tgt := 16) hx hb d_Model_pushNumber_52 (by decide) ?_
      exact ih (v1) (x2) ((v5 + (1 : Int32))) m1 _ _ _ hI (lv_sub hl [2, 3, 1, 0] rfl) hf
set_option maxHeartbeats 4000000 in
set_option maxRecDepth 100000 in
theorem jn_Model_pushNumber_r0_J130 (l : Launch) {p : Program} {e : Env} {s : State} {m : MethodId} {args : Array Value} {below : List Frame} {meth : Method} {c : Code} {A : Nat → Prop} {D : va_G} {q tq : Nat → Nat} {cA : ClassId} {ru : sd_Me} (X : sd_Cx p s m args meth c prog_12_method_7_code "ScriptDeskModel" sx_tbl 6 none vwCl D [(cA, .int)] (ZM tq) A) (v5 : Int32) (μ : sd_Me) (H : Heap) (locs : List Loc) (ls : Array Slot) (hI : sd_CI vwCl (wdM q cA) D A s H locs μ) (hl : lv_has ls 6 [(0, .ref (q 0)), (5, .int v5)]) (hf : fn_Model_pushNumber_r0_J130 v5 μ = some ru) : W p l e ({ frames := 0, cells := 0, slots := 0, locals := 0 }) s m args below meth c H locs 0 0 (sd_QV below vwCl (wdM q cA) D [(cA, .int)] A args s ru) (F0 m 130 ls []) := by
  obtain ⟨hx, hb, hml, hown, hts, hK, hZ, hA, hr, hlocks⟩ := id X
  unfold fn_Model_pushNumber_r0_J130 at hf
  refine lv_aload_n hx hb d_Model_pushNumber_130 rfl (lv_at hl 0 rfl) ?_
  refine va_get (D := D) (ci := 7) (v := .ref (q 2)) (C := "ScriptDeskModel") (T := T_Model) (N := 18) hx hb hts iw_Model hown hK hI.1 0 rfl rfl 1 (by decide) (hts _ tw_532) (fun _ h9 => h9) rfl d_Model_pushNumber_131 ?_
  refine lv_aload_n hx hb d_Model_pushNumber_134 rfl (lv_at hl 0 rfl) ?_
  refine va_get (D := D) (ci := 7) (v := .int (μ.1 0 2)) (C := "ScriptDeskModel") (T := T_Model) (N := 18) hx hb hts iw_Model hown hK hI.1 0 rfl rfl 2 (by decide) (hts _ tw_533) (fun _ h9 => h9) rfl d_Model_pushNumber_135 ?_
  refine lv_iload hx hb d_Model_pushNumber_138 (lv_at hl 1 rfl) ?_
  obtain ⟨hg, hf⟩ := sd_gd_e hf
  refine k_iast (μ' := sd_st μ 2 (Int32.toNatClampNeg (μ.1 0 2)) v5) hx hb hK hI 2 0 rfl rfl rfl hg d_Model_pushNumber_140 (fun H locs hI => ?_)
  obtain ⟨m6, hI, hf⟩ := k_lm hf hI
  refine lv_aload_n hx hb d_Model_pushNumber_141 rfl (lv_at hl 0 rfl) ?_
  refine lv_dup hx hb d_Model_pushNumber_142 rfl ?_
  refine va_get (D := D) (ci := 7) (v := .int (m6.1 0 2)) (C := "ScriptDeskModel") (T := T_Model) (N := 18) hx hb hts iw_Model hown hK hI.1 0 rfl rfl 2 (by decide) (hts _ tw_533) (fun _ h9 => h9) rfl d_Model_pushNumber_143 ?_
  refine lv_iconst (v := 1) hx hb d_Model_pushNumber_146 (by decide) ?_
  refine lv_iadd hx hb d_Model_pushNumber_147 ?_
  refine k_put (ci := 7) (v := .int ((m6.1 0 2) + (1 : Int32))) (ty := .int) (C := "ScriptDeskModel") (T := T_Model) (N := 18) (μ' := sd_st m6 0 2 ((m6.1 0 2) + (1 : Int32))) hx hb hts iw_Model t_Model t_Model_ok n_Model hown hK hI 0 rfl rfl 2 (by decide) (hts _ tw_533) (fun _ h9 => h9) rfl (by decide +kernel) rfl rfl (Nat.le_of_ble_eq_true rfl) rfl d_Model_pushNumber_148 (fun H locs hI => ?_)
  obtain ⟨m7, hI, hf⟩ := k_lm hf hI
  exact k_retv X hI hf d_Model_pushNumber_151
set_option maxHeartbeats 4000000 in
set_option maxRecDepth 100000 in
theorem jn_Model_pushNumber_r0_J101 (l : Launch) {p : Program} {e : Env} {s : State} {m : MethodId} {args : Array Value} {below : List Frame} {meth : Method} {c : Code} {A : Nat → Prop} {D : va_G} {q tq : Nat → Nat} {cA : ClassId} {ru : sd_Me} (X : sd_Cx p s m args meth c prog_12_method_7_code "ScriptDeskModel" sx_tbl 6 none vwCl D [(cA, .int)] (ZM tq) A) (v1 : Int64) (v5 : Int32) (μ : sd_Me) (H : Heap) (locs : List Loc) (ls : Array Slot) (hI : sd_CI vwCl (wdM q cA) D A s H locs μ) (hl : lv_has ls 6 [(0, .ref (q 0)), (1, .long v1), (5, .int v5)]) (hf : fn_Model_pushNumber_r0_J101 v1 v5 μ = some ru) : W p l e ({ frames := 0, cells := 0, slots := 0, locals := 0 }) s m args below meth c H locs 0 0 (sd_QV below vwCl (wdM q cA) D [(cA, .int)] A args s ru) (F0 m 101 ls []) := by
  obtain ⟨hx, hb, hml, hown, hts, hK, hZ, hA, hr, hlocks⟩ := id X
  unfold fn_Model_pushNumber_r0_J101 at hf
  refine lv_lload_n hx hb d_Model_pushNumber_101 rfl (lv_at hl 1 rfl) ?_
  refine lv_lconst (v := 0) hx hb d_Model_pushNumber_102 (by decide) ?_
  refine W.lcmp hx hb d_Model_pushNumber_103 ?_
  refine lv_if_ge (tgt := 130) hx hb d_Model_pushNumber_104 (by decide) (fun hc => ?_) (fun hc => ?_)
  · have hf := sd_t hf hc
    exact jn_Model_pushNumber_r0_J130 l X (v5) μ _ _ _ hI (lv_sub hl [0, 2] rfl) hf
  · have hf := sd_f hf hc
    refine lv_aload_n hx hb d_Model_pushNumber_107 rfl (lv_at hl 0 rfl) ?_
    refine va_get (D := D) (ci := 7) (v := .ref (q 1)) (C := "ScriptDeskModel") (T := T_Model) (N := 18) hx hb hts iw_Model hown hK hI.1 0 rfl rfl 0 (by decide) (hts _ tw_531) (fun _ h9 => h9) rfl d_Model_pushNumber_108 ?_
    refine lv_bipush (v := 120) hx hb d_Model_pushNumber_111 (by decide) ?_
    refine lv_aload_n hx hb d_Model_pushNumber_113 rfl (lv_at hl 0 rfl) ?_
    refine va_get (D := D) (ci := 7) (v := .int (μ.1 0 2)) (C := "ScriptDeskModel") (T := T_Model) (N := 18) hx hb hts iw_Model hown hK hI.1 0 rfl rfl 2 (by decide) (hts _ tw_533) (fun _ h9 => h9) rfl d_Model_pushNumber_114 ?_
    refine lv_imul hx hb d_Model_pushNumber_117 ?_
    refine lv_iload hx hb d_Model_pushNumber_118 (lv_at hl 2 rfl) ?_
    refine lv_iadd hx hb d_Model_pushNumber_120 ?_
    refine lv_iconst (v := 1) hx hb d_Model_pushNumber_121 (by decide) ?_
    refine lv_isub hx hb d_Model_pushNumber_122 ?_
    refine lv_dup2_11 hx hb d_Model_pushNumber_123 rfl rfl ?_
    obtain ⟨hg, hf⟩ := sd_gd_e hf
    refine k_iald hx hb hK hI 1 0 rfl rfl hg d_Model_pushNumber_124 ?_
    refine lv_sipush (v := 128) hx hb d_Model_pushNumber_125 (by decide) ?_
    refine lv_iadd hx hb d_Model_pushNumber_128 ?_
    obtain ⟨hg, hf⟩ := sd_gd_e hf
    refine k_iast (μ' := sd_st μ 1 (Int32.toNatClampNeg ((((120 : Int32) * (μ.1 0 2)) + v5) - (1 : Int32))) ((μ.1 1 (Int32.toNatClampNeg ((((120 : Int32) * (μ.1 0 2)) + v5) - (1 : Int32)))) + (128 : Int32))) hx hb hK hI 1 0 rfl rfl rfl hg d_Model_pushNumber_129 (fun H locs hI => ?_)
    obtain ⟨m8, hI, hf⟩ := k_lm hf hI
    exact jn_Model_pushNumber_r0_J130 l X (v5) m8 _ _ _ hI (lv_sub hl [0, 2] rfl) hf
set_option maxHeartbeats 4000000 in
set_option maxRecDepth 100000 in
theorem jn_Model_pushNumber_r0_J12 (l : Launch) {p : Program} {e : Env} {s : State} {m : MethodId} {args : Array Value} {below : List Frame} {meth : Method} {c : Code} {A : Nat → Prop} {D : va_G} {q tq : Nat → Nat} {cA : ClassId} {ru : sd_Me} (X : sd_Cx p s m args meth c prog_12_method_7_code "ScriptDeskModel" sx_tbl 6 none vwCl D [(cA, .int)] (ZM tq) A) (v1 : Int64) (s0 : Int64) (μ : sd_Me) (H : Heap) (locs : List Loc) (ls : Array Slot) (hI : sd_CI vwCl (wdM q cA) D A s H locs μ) (hl : lv_has ls 6 [(0, .ref (q 0)), (1, .long v1)]) (hf : fn_Model_pushNumber_r0_J12 v1 s0 μ = some ru) : W p l e ({ frames := 0, cells := 0, slots := 0, locals := 0 }) s m args below meth c H locs 0 0 (sd_QV below vwCl (wdM q cA) D [(cA, .int)] A args s ru) (F0 m 12 ls [.long s0]) := by
  obtain ⟨hx, hb, hml, hown, hts, hK, hZ, hA, hr, hlocks⟩ := id X
  unfold fn_Model_pushNumber_r0_J12 at hf
  refine lv_lstore_n (lv' := [(3, .long s0), (0, .ref (q 0)), (1, .long v1)]) hx hb d_Model_pushNumber_12 rfl hl (by decide) rfl (fun ls hl => ?_)
  refine lv_iconst (v := 0) hx hb d_Model_pushNumber_13 (by decide) ?_
  refine lv_istore (lv' := [(5, .int (0 : Int32)), (3, .long s0), (0, .ref (q 0)), (1, .long v1)]) hx hb d_Model_pushNumber_14 hl (by decide) rfl (fun ls hl => ?_)
  refine lp_Model_pushNumber_r0_L16 l X ?_ 10000 (v1) (s0) ((0 : Int32)) μ _ _ _ hI (lv_sub hl [2, 3, 1, 0] rfl) hf
  · intro x3 x4 m5 H locs ls hI hl hf
    refine lv_iload hx hb d_Model_pushNumber_55 (lv_at hl 2 rfl) ?_
    refine lv_if_le (tgt := 101) hx hb d_Model_pushNumber_57 (by decide) (fun hc => ?_) (fun hc => ?_)
    · have hf := sd_t hf hc
      exact jn_Model_pushNumber_r0_J101 l X (x3) (x4) m5 _ _ _ hI (lv_sub hl [0, 1, 2] rfl) hf
    · have hf := sd_f hf hc
      refine lv_aload_n hx hb d_Model_pushNumber_60 rfl (lv_at hl 0 rfl) ?_
      refine va_get (D := D) (ci := 7) (v := .ref (q 1)) (C := "ScriptDeskModel") (T := T_Model) (N := 18) hx hb hts iw_Model hown hK hI.1 0 rfl rfl 0 (by decide) (hts _ tw_531) (fun _ h9 => h9) rfl d_Model_pushNumber_61 ?_
      refine lv_bipush (v := 120) hx hb d_Model_pushNumber_64 (by decide) ?_
      refine lv_aload_n hx hb d_Model_pushNumber_66 rfl (lv_at hl 0 rfl) ?_
      refine va_get (D := D) (ci := 7) (v := .int (m5.1 0 2)) (C := "ScriptDeskModel") (T := T_Model) (N := 18) hx hb hts iw_Model hown hK hI.1 0 rfl rfl 2 (by decide) (hts _ tw_533) (fun _ h9 => h9) rfl d_Model_pushNumber_67 ?_
      refine lv_imul hx hb d_Model_pushNumber_70 ?_
      refine lv_iload hx hb d_Model_pushNumber_71 (lv_at hl 2 rfl) ?_
      refine lv_iadd hx hb d_Model_pushNumber_73 ?_
      refine lv_iconst (v := 1) hx hb d_Model_pushNumber_74 (by decide) ?_
      refine lv_isub hx hb d_Model_pushNumber_75 ?_
      obtain ⟨hg, hf⟩ := sd_gd_e hf
      refine k_iald hx hb hK hI 1 0 rfl rfl hg d_Model_pushNumber_76 ?_
      refine lv_bipush (v := 127) hx hb d_Model_pushNumber_77 (by decide) ?_
      refine lv_icmp_le (tgt := 101) hx hb d_Model_pushNumber_79 (by decide) (fun hc => ?_) (fun hc => ?_)
      · have hf := sd_t hf hc
        exact jn_Model_pushNumber_r0_J101 l X (x3) (x4) m5 _ _ _ hI (lv_sub hl [0, 1, 2] rfl) hf
      · have hf := sd_f hf hc
        refine lv_aload_n hx hb d_Model_pushNumber_82 rfl (lv_at hl 0 rfl) ?_
        refine va_get (D := D) (ci := 7) (v := .ref (q 1)) (C := "ScriptDeskModel") (T := T_Model) (N := 18) hx hb hts iw_Model hown hK hI.1 0 rfl rfl 0 (by decide) (hts _ tw_531) (fun _ h9 => h9) rfl d_Model_pushNumber_83 ?_
        refine lv_bipush (v := 120) hx hb d_Model_pushNumber_86 (by decide) ?_
        refine lv_aload_n hx hb d_Model_pushNumber_88 rfl (lv_at hl 0 rfl) ?_
        refine va_get (D := D) (ci := 7) (v := .int (m5.1 0 2)) (C := "ScriptDeskModel") (T := T_Model) (N := 18) hx hb hts iw_Model hown hK hI.1 0 rfl rfl 2 (by decide) (hts _ tw_533) (fun _ h9 => h9) rfl d_Model_pushNumber_89 ?_
        refine lv_imul hx hb d_Model_pushNumber_92 ?_
        refine lv_iload hx hb d_Model_pushNumber_93 (lv_at hl 2 rfl) ?_
        refine lv_iadd hx hb d_Model_pushNumber_95 ?_
        refine lv_iconst (v := 0) hx hb d_Model_pushNumber_96 (by decide) ?_
        obtain ⟨hg, hf⟩ := sd_gd_e hf
        refine k_iast (μ' := sd_st m5 1 (Int32.toNatClampNeg (((120 : Int32) * (m5.1 0 2)) + x4)) (0 : Int32)) hx hb hK hI 1 0 rfl rfl rfl hg d_Model_pushNumber_97 (fun H locs hI => ?_)
        obtain ⟨m9, hI, hf⟩ := k_lm hf hI
        refine lv_iinc (v := (x4 + (1 : Int32))) (lv' := [(5, .int (x4 + (1 : Int32))), (0, .ref (q 0)), (1, .long x3)]) hx hb d_Model_pushNumber_98 hl (k := 2) rfl rfl (by decide) rfl (fun ls hl => ?_)
        exact jn_Model_pushNumber_r0_J101 l X (x3) ((x4 + (1 : Int32))) m9 _ _ _ hI (lv_sub hl [1, 2, 0] rfl) hf
set_option maxHeartbeats 4000000 in
set_option maxRecDepth 100000 in
theorem mt_Model_pushNumber_r0 (l : Launch) {D : va_G} {q tq : Nat → Nat} {cA : ClassId} {a1 : Int64} {μ : sd_Me} {ru : sd_Me} (hf : fn_Model_pushNumber_r0 a1 μ = some ru) : sd_CTv l y_Model_pushNumber w_Model_pushNumber ({ frames := 0, cells := 0, slots := 0, locals := 0 }) vwCl (wdM q cA) D [(cA, .int)] (ZM tq) [.ref (q 0), .long a1] μ ru := by
  refine k_entv (cc := prog_12_method_7_code) 6 (by decide) rfl (Nat.le_of_ble_eq_true rfl) ?_
  intro p e s m below meth c A ls X hI hl
  have hl : lv_has ls 6 [(0, .ref (q 0)), (1, .long a1)] := hl
  obtain ⟨hx, hb, hml, hown, hts, hK, hZ, hA, hr, hlocks⟩ := id X
  unfold fn_Model_pushNumber_r0 at hf
  refine lv_lload_n hx hb d_Model_pushNumber_0 rfl (lv_at hl 1 rfl) ?_
  refine lv_lconst (v := 0) hx hb d_Model_pushNumber_1 (by decide) ?_
  refine W.lcmp hx hb d_Model_pushNumber_2 ?_
  refine lv_if_ge (tgt := 11) hx hb d_Model_pushNumber_3 (by decide) (fun hc => ?_) (fun hc => ?_)
  · have hf := sd_t hf hc
    refine lv_lload_n hx hb d_Model_pushNumber_11 rfl (lv_at hl 1 rfl) ?_
    exact jn_Model_pushNumber_r0_J12 l X (a1) (a1) μ _ _ _ hI (lv_sub hl [0, 1] rfl) hf
  · have hf := sd_f hf hc
    refine lv_lload_n hx hb d_Model_pushNumber_6 rfl (lv_at hl 1 rfl) ?_
    refine lv_lneg hx hb d_Model_pushNumber_7 ?_
    refine lv_goto (tgt := 12) hx hb d_Model_pushNumber_8 (by decide) ?_
    exact jn_Model_pushNumber_r0_J12 l X (a1) ((-a1)) μ _ _ _ hI (lv_sub hl [0, 1] rfl) hf
set_option maxHeartbeats 4000000 in
set_option maxRecDepth 100000 in
theorem mt_Model_pushTruth_r0 (l : Launch) {D : va_G} {q tq : Nat → Nat} {cA : ClassId} {a1 : Int32} {μ : sd_Me} {ru : sd_Me} (hf : fn_Model_pushTruth_r0 a1 μ = some ru) : sd_CTv l y_Model_pushTruth w_Model_pushTruth ({ frames := 1, cells := 0, slots := 0, locals := 25 }) vwCl (wdM q cA) D [(cA, .int)] (ZM tq) [.ref (q 0), .int a1] μ ru := by
  refine k_entv (cc := prog_12_method_8_code) 2 (by decide) rfl (Nat.le_of_ble_eq_true rfl) ?_
  intro p e s m below meth c A ls X hI hl
  have hl : lv_has ls 2 [(0, .ref (q 0)), (1, .int a1)] := hl
  obtain ⟨hx, hb, hml, hown, hts, hK, hZ, hA, hr, hlocks⟩ := id X
  unfold fn_Model_pushTruth_r0 at hf
  refine lv_aload_n hx hb d_Model_pushTruth_0 rfl (lv_at hl 0 rfl) ?_
  refine lv_iload_n hx hb d_Model_pushTruth_1 rfl (lv_at hl 1 rfl) ?_
  refine lv_if_eq (tgt := 9) hx hb d_Model_pushTruth_2 (by decide) (fun hc => ?_) (fun hc => ?_)
  · have hf := sd_t hf hc
    refine lv_lconst (v := 0) hx hb d_Model_pushTruth_9 (by decide) ?_
    obtain ⟨m1, hq, hf⟩ := sd_bv_e hf
    refine k_callVv (As := [.long (0 : Int64)]) (rest := []) (C := "ScriptDeskModel") (ci := 7) ZM_ok X hI (mt_Model_pushNumber_r0 l hq) (cwV 1 hts (gd_V tw_628 tw_630 ts_21 tw_9 tw_631) rfl rfl rfl (by decide +kernel) ⟨Nat.le_of_ble_eq_true rfl, Nat.le_of_ble_eq_true rfl⟩) 0 rfl rfl rfl hl.1 rfl (Nat.le_of_ble_eq_true rfl) d_Model_pushTruth_10 ⟨Nat.zero_le _, Nat.zero_le _⟩ (fun H locs hI => ?_)
    exact k_retv X hI hf d_Model_pushTruth_13
  · have hf := sd_f hf hc
    refine lv_lconst (v := 1) hx hb d_Model_pushTruth_5 (by decide) ?_
    refine lv_goto (tgt := 10) hx hb d_Model_pushTruth_6 (by decide) ?_
    obtain ⟨m2, hq, hf⟩ := sd_bv_e hf
    refine k_callVv (As := [.long (1 : Int64)]) (rest := []) (C := "ScriptDeskModel") (ci := 7) ZM_ok X hI (mt_Model_pushNumber_r0 l hq) (cwV 1 hts (gd_V tw_628 tw_630 ts_21 tw_9 tw_631) rfl rfl rfl (by decide +kernel) ⟨Nat.le_of_ble_eq_true rfl, Nat.le_of_ble_eq_true rfl⟩) 0 rfl rfl rfl hl.1 rfl (Nat.le_of_ble_eq_true rfl) d_Model_pushTruth_10 ⟨Nat.zero_le _, Nat.zero_le _⟩ (fun H locs hI => ?_)
    exact k_retv X hI hf d_Model_pushTruth_13
set_option maxHeartbeats 4000000 in
set_option maxRecDepth 100000 in
theorem mt_Model_mustBeTrue_r0 (l : Launch) {D : va_G} {q tq : Nat → Nat} {cA : ClassId} {μ : sd_Me} {ru : sd_Me} (hf : fn_Model_mustBeTrue_r0 μ = some ru) : sd_CTv l y_Model_mustBeTrue w_Model_mustBeTrue ({ frames := 2, cells := 0, slots := 0, locals := 42 }) vwCl (wdM q cA) D [(cA, .int)] (ZM tq) [.ref (q 0)] μ ru := by
  refine k_entv (cc := prog_12_method_14_code) 1 (by decide) rfl (Nat.le_of_ble_eq_true rfl) ?_
  intro p e s m below meth c A ls X hI hl
  have hl : lv_has ls 1 [(0, .ref (q 0))] := hl
  obtain ⟨hx, hb, hml, hown, hts, hK, hZ, hA, hr, hlocks⟩ := id X
  unfold fn_Model_mustBeTrue_r0 at hf
  refine lv_aload_n hx hb d_Model_mustBeTrue_0 rfl (lv_at hl 0 rfl) ?_
  refine lv_iconst (v := 1) hx hb d_Model_mustBeTrue_1 (by decide) ?_
  obtain ⟨x2, m1, hq, hf⟩ := sd_bi_e hf
  refine k_callV (As := [.int (1 : Int32)]) (rest := []) (C := "ScriptDeskModel") (ci := 7) ZM_ok X hI (mt_Model_has_r0 l hq) (cwV 1 hts (gd_V tw_619 tw_621 ts_19 tw_9 tw_622) rfl rfl rfl (by decide +kernel) ⟨Nat.le_of_ble_eq_true rfl, Nat.le_of_ble_eq_true rfl⟩) 0 rfl rfl rfl hl.1 rfl (Nat.le_of_ble_eq_true rfl) d_Model_mustBeTrue_2 ⟨Nat.zero_le _, Nat.zero_le _⟩ (fun H locs hn_x2 hI => ?_)
  refine lv_if_eq (tgt := 35) hx hb d_Model_mustBeTrue_5 (by decide) (fun hc => ?_) (fun hc => ?_)
  · have hf := sd_t hf hc
    exact k_retv X hI hf d_Model_mustBeTrue_35
  · have hf := sd_f hf hc
    refine lv_aload_n hx hb d_Model_mustBeTrue_8 rfl (lv_at hl 0 rfl) ?_
    refine lv_dup hx hb d_Model_mustBeTrue_9 rfl ?_
    refine va_get (D := D) (ci := 7) (v := .int (m1.1 0 2)) (C := "ScriptDeskModel") (T := T_Model) (N := 18) hx hb hts iw_Model hown hK hI.1 0 rfl rfl 2 (by decide) (hts _ tw_533) (fun _ h9 => h9) rfl d_Model_mustBeTrue_10 ?_
    refine lv_iconst (v := 1) hx hb d_Model_mustBeTrue_13 (by decide) ?_
    refine lv_isub hx hb d_Model_mustBeTrue_14 ?_
    refine k_put (ci := 7) (v := .int ((m1.1 0 2) - (1 : Int32))) (ty := .int) (C := "ScriptDeskModel") (T := T_Model) (N := 18) (μ' := sd_st m1 0 2 ((m1.1 0 2) - (1 : Int32))) hx hb hts iw_Model t_Model t_Model_ok n_Model hown hK hI 0 rfl rfl 2 (by decide) (hts _ tw_533) (fun _ h9 => h9) rfl (by decide +kernel) rfl rfl (Nat.le_of_ble_eq_true rfl) rfl d_Model_mustBeTrue_15 (fun H locs hI => ?_)
    obtain ⟨m3, hI, hf⟩ := k_lm hf hI
    refine lv_aload_n hx hb d_Model_mustBeTrue_18 rfl (lv_at hl 0 rfl) ?_
    refine lv_aload_n hx hb d_Model_mustBeTrue_19 rfl (lv_at hl 0 rfl) ?_
    refine va_get (D := D) (ci := 7) (v := .int (m3.1 0 2)) (C := "ScriptDeskModel") (T := T_Model) (N := 18) hx hb hts iw_Model hown hK hI.1 0 rfl rfl 2 (by decide) (hts _ tw_533) (fun _ h9 => h9) rfl d_Model_mustBeTrue_20 ?_
    obtain ⟨x5, m4, hq, hf⟩ := sd_bi_e hf
    refine k_callV (As := [.int (m3.1 0 2)]) (rest := []) (C := "ScriptDeskModel") (ci := 7) ZM_ok X hI (mt_Model_isTrueRow_r0 l hq) (cwV 1 hts (gd_V tw_623 tw_625 ts_20 tw_9 tw_626) rfl rfl rfl (by decide +kernel) ⟨Nat.le_of_ble_eq_true rfl, Nat.le_of_ble_eq_true rfl⟩) 0 rfl rfl rfl hl.1 rfl (Nat.le_of_ble_eq_true rfl) d_Model_mustBeTrue_23 ⟨Nat.zero_le _, Nat.zero_le _⟩ (fun H locs hn_x5 hI => ?_)
    refine lv_if_ne (tgt := 35) hx hb d_Model_mustBeTrue_26 (by decide) (fun hc => ?_) (fun hc => ?_)
    · have hf := sd_f hf hc
      exact k_retv X hI hf d_Model_mustBeTrue_35
    · have hf := sd_t hf hc
      refine lv_aload_n hx hb d_Model_mustBeTrue_29 rfl (lv_at hl 0 rfl) ?_
      refine lv_bipush (v := 8) hx hb d_Model_mustBeTrue_30 (by decide) ?_
      obtain ⟨m6, hq, hf⟩ := sd_bv_e hf
      refine k_callVv (As := [.int (8 : Int32)]) (rest := []) (C := "ScriptDeskModel") (ci := 7) ZM_ok X hI (mt_Model_fails_r0 l hq) (cwV 1 hts (gd_V tw_607 tw_609 ts_16 tw_9 tw_610) rfl rfl rfl (by decide +kernel) ⟨Nat.le_of_ble_eq_true rfl, Nat.le_of_ble_eq_true rfl⟩) 0 rfl rfl rfl hl.1 rfl (Nat.le_of_ble_eq_true rfl) d_Model_mustBeTrue_32 ⟨Nat.zero_le _, Nat.zero_le _⟩ (fun H locs hI => ?_)
      exact k_retv X hI hf d_Model_mustBeTrue_35
set_option maxHeartbeats 4000000 in
set_option maxRecDepth 100000 in
theorem mt_Model_equal_r0 (l : Launch) {D : va_G} {q tq : Nat → Nat} {cA : ClassId} {a1 : Int32} {μ : sd_Me} {ru : sd_Me} (hf : fn_Model_equal_r0 a1 μ = some ru) : sd_CTv l y_Model_equal w_Model_equal ({ frames := 3, cells := 0, slots := 0, locals := 62 }) vwCl (wdM q cA) D [(cA, .int)] (ZM tq) [.ref (q 0), .int a1] μ ru := by
  refine k_entv (cc := prog_12_method_31_code) 3 (by decide) rfl (Nat.le_of_ble_eq_true rfl) ?_
  intro p e s m below meth c A ls X hI hl
  have hl : lv_has ls 3 [(0, .ref (q 0)), (1, .int a1)] := hl
  obtain ⟨hx, hb, hml, hown, hts, hK, hZ, hA, hr, hlocks⟩ := id X
  unfold fn_Model_equal_r0 at hf
  refine lv_aload_n hx hb d_Model_equal_0 rfl (lv_at hl 0 rfl) ?_
  refine lv_iconst (v := 2) hx hb d_Model_equal_1 (by decide) ?_
  obtain ⟨x2, m1, hq, hf⟩ := sd_bi_e hf
  refine k_callV (As := [.int (2 : Int32)]) (rest := []) (C := "ScriptDeskModel") (ci := 7) ZM_ok X hI (mt_Model_has_r0 l hq) (cwV 1 hts (gd_V tw_619 tw_621 ts_19 tw_9 tw_622) rfl rfl rfl (by decide +kernel) ⟨Nat.le_of_ble_eq_true rfl, Nat.le_of_ble_eq_true rfl⟩) 0 rfl rfl rfl hl.1 rfl (Nat.le_of_ble_eq_true rfl) d_Model_equal_2 ⟨Nat.zero_le _, Nat.zero_le _⟩ (fun H locs hn_x2 hI => ?_)
  refine lv_if_ne (tgt := 9) hx hb d_Model_equal_5 (by decide) (fun hc => ?_) (fun hc => ?_)
  · have hf := sd_f hf hc
    refine lv_aload_n hx hb d_Model_equal_9 rfl (lv_at hl 0 rfl) ?_
    refine lv_aload_n hx hb d_Model_equal_10 rfl (lv_at hl 0 rfl) ?_
    refine lv_iconst (v := 0) hx hb d_Model_equal_11 (by decide) ?_
    obtain ⟨x4, m3, hq, hf⟩ := sd_bi_e hf
    refine k_callV (As := [.int (0 : Int32)]) (rest := [.ref (q 0)]) (C := "ScriptDeskModel") (ci := 7) ZM_ok X hI (mt_Model_top_r0 l hq) (cwV 1 hts (gd_V tw_657 tw_659 ts_28 tw_9 tw_660) rfl rfl rfl (by decide +kernel) ⟨Nat.le_of_ble_eq_true rfl, Nat.le_of_ble_eq_true rfl⟩) 0 rfl rfl rfl hl.1 rfl (Nat.le_of_ble_eq_true rfl) d_Model_equal_12 ⟨Nat.zero_le _, Nat.zero_le _⟩ (fun H locs hn_x4 hI => ?_)
    refine lv_aload_n hx hb d_Model_equal_15 rfl (lv_at hl 0 rfl) ?_
    refine lv_iconst (v := 1) hx hb d_Model_equal_16 (by decide) ?_
    obtain ⟨x6, m5, hq, hf⟩ := sd_bi_e hf
    refine k_callV (As := [.int (1 : Int32)]) (rest := [.int x4, .ref (q 0)]) (C := "ScriptDeskModel") (ci := 7) ZM_ok X hI (mt_Model_top_r0 l hq) (cwV 1 hts (gd_V tw_657 tw_659 ts_28 tw_9 tw_660) rfl rfl rfl (by decide +kernel) ⟨Nat.le_of_ble_eq_true rfl, Nat.le_of_ble_eq_true rfl⟩) 0 rfl rfl rfl hl.1 rfl (Nat.le_of_ble_eq_true rfl) d_Model_equal_17 ⟨Nat.zero_le _, Nat.zero_le _⟩ (fun H locs hn_x6 hI => ?_)
    obtain ⟨x8, m7, hq, hf⟩ := sd_bi_e hf
    refine k_callV (As := [.int x4, .int x6]) (rest := []) (C := "ScriptDeskModel") (ci := 7) ZM_ok X hI (mt_Model_isSame_r0 l hq) (cwV 2 hts (gd_V tw_677 tw_679 ts_33 tw_9 tw_680) rfl rfl rfl (by decide +kernel) ⟨Nat.le_of_ble_eq_true rfl, Nat.le_of_ble_eq_true rfl⟩) 0 rfl rfl rfl hl.1 rfl (Nat.le_of_ble_eq_true rfl) d_Model_equal_20 ⟨Nat.zero_le _, Nat.zero_le _⟩ (fun H locs hn_x8 hI => ?_)
    refine lv_istore_n (lv' := [(2, .int x8), (0, .ref (q 0)), (1, .int a1)]) hx hb d_Model_equal_23 rfl hl (by decide) rfl (fun ls hl => ?_)
    refine lv_aload_n hx hb d_Model_equal_24 rfl (lv_at hl 1 rfl) ?_
    refine lv_dup hx hb d_Model_equal_25 rfl ?_
    refine va_get (D := D) (ci := 7) (v := .int (m7.1 0 2)) (C := "ScriptDeskModel") (T := T_Model) (N := 18) hx hb hts iw_Model hown hK hI.1 0 rfl rfl 2 (by decide) (hts _ tw_533) (fun _ h9 => h9) rfl d_Model_equal_26 ?_
    refine lv_iconst (v := 2) hx hb d_Model_equal_29 (by decide) ?_
    refine lv_isub hx hb d_Model_equal_30 ?_
    refine k_put (ci := 7) (v := .int ((m7.1 0 2) - (2 : Int32))) (ty := .int) (C := "ScriptDeskModel") (T := T_Model) (N := 18) (μ' := sd_st m7 0 2 ((m7.1 0 2) - (2 : Int32))) hx hb hts iw_Model t_Model t_Model_ok n_Model hown hK hI 0 rfl rfl 2 (by decide) (hts _ tw_533) (fun _ h9 => h9) rfl (by decide +kernel) rfl rfl (Nat.le_of_ble_eq_true rfl) rfl d_Model_equal_31 (fun H locs hI => ?_)
    obtain ⟨m9, hI, hf⟩ := k_lm hf hI
    refine lv_aload_n hx hb d_Model_equal_34 rfl (lv_at hl 1 rfl) ?_
    refine lv_iload_n hx hb d_Model_equal_35 rfl (lv_at hl 0 rfl) ?_
    obtain ⟨m10, hq, hf⟩ := sd_bv_e hf
    refine k_callVv (As := [.int x8]) (rest := []) (C := "ScriptDeskModel") (ci := 7) ZM_ok X hI (mt_Model_pushTruth_r0 l hq) (cwV 1 hts (gd_V tw_681 tw_683 ts_34 tw_9 tw_684) rfl rfl rfl (by decide +kernel) ⟨Nat.le_of_ble_eq_true rfl, Nat.le_of_ble_eq_true rfl⟩) 0 rfl rfl rfl hl.1 rfl (Nat.le_of_ble_eq_true rfl) d_Model_equal_36 ⟨Nat.zero_le _, Nat.zero_le _⟩ (fun H locs hI => ?_)
    refine lv_iload_n hx hb d_Model_equal_39 rfl (lv_at hl 2 rfl) ?_
    refine lv_if_eq (tgt := 47) hx hb d_Model_equal_40 (by decide) (fun hc => ?_) (fun hc => ?_)
    · have hf := sd_t hf hc
      exact k_retv X hI hf d_Model_equal_47
    · have hf := sd_f hf hc
      refine lv_aload_n hx hb d_Model_equal_43 rfl (lv_at hl 1 rfl) ?_
      obtain ⟨m11, hq, hf⟩ := sd_bv_e hf
      refine k_callVv (As := []) (rest := []) (C := "ScriptDeskModel") (ci := 7) ZM_ok X hI (mt_Model_mustBeTrue_r0 l hq) (cwV 0 hts (gd_V tw_685 tw_687 ts_35 tw_9 tw_688) rfl rfl rfl (by decide +kernel) ⟨Nat.le_of_ble_eq_true rfl, Nat.le_of_ble_eq_true rfl⟩) 0 rfl rfl rfl hl.1 rfl (Nat.le_of_ble_eq_true rfl) d_Model_equal_44 ⟨Nat.zero_le _, Nat.zero_le _⟩ (fun H locs hI => ?_)
      exact k_retv X hI hf d_Model_equal_47
  · have hf := sd_t hf hc
    exact k_retv X hI hf d_Model_equal_8
