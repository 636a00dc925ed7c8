set_option maxHeartbeats 4000000 in
set_option maxRecDepth 100000 in
theorem lp_BlockDigest_write_r9_r10_L16 (l : Launch) {p : Program} {e : Env} {s : State} {m : MethodId} {args : Array Value} {below : List Frame} {meth : Method} {c : Code} {A : Nat → Prop} {D : va_G} {q tq : Nat → Nat} {cA : ClassId} {ru : sd_Me} (X : sd_Cx p s m args meth c prog_2_method_7_code "ScriptDesk$BlockDigest" sx_tbl 5 none vwCl D [(cA, .int)] (ZX tq) A) {k46 : sd_Me → Option (sd_Me)} (hk46 : ∀ (μ : sd_Me) (H : Heap) (locs : List Loc) (ls : Array Slot), sd_CI vwCl (wdX q cA) D A s H locs μ → lv_has ls 5 [] → k46 μ = some ru → W p l e ({ frames := 1, cells := 0, slots := 0, locals := 21 }) s m args below meth c H locs 0 0 (sd_QV below vwCl (wdX q cA) D [(cA, .int)] A args s ru) (F0 m 46 ls [])) :
    ∀ (n : Nat) (v1 : Int32) (v3 : Int32) (v4 : Int32) (μ : sd_Me) (H : Heap) (locs : List Loc) (ls : Array Slot), sd_CI vwCl (wdX q cA) D A s H locs μ → lv_has ls 5 [(0, .ref (q 9)), (1, .int v1), (2, .ref (q 10)), (3, .int v3), (4, .int v4)] → fn_BlockDigest_write_r9_r10_L16 k46 n v1 v3 v4 μ = some ru → W p l e ({ frames := 1, cells := 0, slots := 0, locals := 21 }) s m args below meth c H locs 0 0 (sd_QV below vwCl (wdX q cA) D [(cA, .int)] A args s ru) (F0 m 16 ls []) := by
  obtain ⟨hx, hb, hml, hown, hts, hK, hZ, hA, hr, hlocks⟩ := id X
  intro n
  induction n with
  | zero =>
    intro v1 v3 v4 μ H locs ls hI hl hf
    cases hf
  | succ n ih =>
    intro v1 v3 v4 μ H locs ls hI hl hf
    rw [fn_BlockDigest_write_r9_r10_L16] at hf
    refine lv_iload hx hb d_BlockDigest_write_16 (lv_at hl 4 rfl) ?_
    refine lv_iconst (v := 4) hx hb d_BlockDigest_write_18 (by decide) ?_
    refine lv_icmp_ge (tgt := 46) hx hb d_BlockDigest_write_19 (by decide) (fun hc => ?_) (fun hc => ?_)
    · have hf := sd_t hf hc
      exact hk46  μ _ _ _ hI (lv_sub hl [] rfl) hf
    · have hf := sd_f hf hc
      refine lv_aload_n hx hb d_BlockDigest_write_22 rfl (lv_at hl 2 rfl) ?_
      refine lv_iload_n hx hb d_BlockDigest_write_23 rfl (lv_at hl 3 rfl) ?_
      refine lv_iload hx hb d_BlockDigest_write_24 (lv_at hl 4 rfl) ?_
      refine lv_iadd hx hb d_BlockDigest_write_26 ?_
      refine lv_iload_n hx hb d_BlockDigest_write_27 rfl (lv_at hl 1 rfl) ?_
      refine lv_aload_n hx hb d_BlockDigest_write_28 rfl (lv_at hl 0 rfl) ?_
      refine lv_iload hx hb d_BlockDigest_write_29 (lv_at hl 4 rfl) ?_
      obtain ⟨x2, m1, hq, hf⟩ := sd_bi_e hf
      refine k_callU (As := [.int v4]) (rest := [.int v1, .int (v3 + v4), .ref (q 10)]) (C := "ScriptDesk$Sha256") (ci := 5) ZX_ok X hI (mt_BlockDigest_shiftOf_r9 l hq) (va_cwU 1 hts (gd_U tw_392 tw_799 sp_4 tw_394 tw_6 tw_395) rfl rfl rfl rfl (by decide +kernel) ⟨Nat.le_of_ble_eq_true rfl, Nat.le_of_ble_eq_true rfl⟩) 9 rfl rfl rfl hl.1 rfl (Nat.le_of_ble_eq_true rfl) d_BlockDigest_write_31 ⟨Nat.zero_le _, Nat.zero_le _⟩ (fun H locs hn_x2 hI => ?_)
      refine lv_iushr (v := (sd_usr v1 x2)) hx hb d_BlockDigest_write_34 rfl ?_
      refine lv_sipush (v := 255) hx hb d_BlockDigest_write_35 (by decide) ?_
      refine lv_iand hx hb d_BlockDigest_write_38 ?_
      obtain ⟨hg, hf⟩ := sd_gd_e hf
      refine k_iast (μ' := sd_st m1 10 (Int32.toNatClampNeg (v3 + v4)) ((sd_usr v1 x2) &&& (255 : Int32))) hx hb hK hI 10 0 rfl rfl rfl hg d_BlockDigest_write_39 (fun H locs hI => ?_)
      obtain ⟨m3, hI, hf⟩ := k_lm hf hI
      refine lv_iinc (v := (v4 + (1 : Int32))) (lv' := [(4, .int (v4 + (1 : Int32))), (0, .ref (q 9)), (1, .int v1), (2, .ref (q 10)), (3, .int v3)]) hx hb d_BlockDigest_write_40 hl (k := 4) rfl rfl (by decide) rfl (fun ls hl => ?_)
      refine lv_goto (tgt := 16) hx hb d_BlockDigest_write_43 (by decide) ?_
      exact ih (v1) (v3) ((v4 + (1 : Int32))) m3 _ _ _ hI (lv_sub hl [1, 2, 3, 4, 0] rfl) hf
set_option maxHeartbeats 4000000 in
set_option maxRecDepth 100000 in
theorem mt_BlockDigest_write_r9_r10 (l : Launch) {D : va_G} {q tq : Nat → Nat} {cA : ClassId} {a1 : Int32} {a3 : Int32} {μ : sd_Me} {ru : sd_Me} (hf : fn_BlockDigest_write_r9_r10 a1 a3 μ = some ru) : sd_CTv l y_BlockDigest_write w_BlockDigest_write ({ frames := 1, cells := 0, slots := 0, locals := 21 }) vwCl (wdX q cA) D [(cA, .int)] (ZX tq) [.ref (q 9), .int a1, .ref (q 10), .int a3] μ ru := by
  refine k_entv (cc := prog_2_method_7_code) 5 (by decide) rfl (Nat.le_of_ble_eq_true rfl) ?_
  intro p e s m below meth c A ls X hI hl
  have hl : lv_has ls 5 [(0, .ref (q 9)), (1, .int a1), (2, .ref (q 10)), (3, .int a3)] := hl
  obtain ⟨hx, hb, hml, hown, hts, hK, hZ, hA, hr, hlocks⟩ := id X
  unfold fn_BlockDigest_write_r9_r10 at hf
  refine lv_iload_n hx hb d_BlockDigest_write_0 rfl (lv_at hl 3 rfl) ?_
  refine lv_if_lt (tgt := 12) hx hb d_BlockDigest_write_1 (by decide) (fun hc => ?_) (fun hc => ?_)
  · have hf := sd_t hf hc
    exact k_retv X hI hf d_BlockDigest_write_12
  · have hf := sd_f hf hc
    refine lv_iload_n hx hb d_BlockDigest_write_4 rfl (lv_at hl 3 rfl) ?_
    refine lv_aload_n hx hb d_BlockDigest_write_5 rfl (lv_at hl 2 rfl) ?_
    refine va_alen (v := 192) hx hb hK hI.1 10 0 rfl rfl (show Int32.ofNat 192 = 192 by decide) d_BlockDigest_write_6 ?_
    refine lv_iconst (v := 4) hx hb d_BlockDigest_write_7 (by decide) ?_
    refine lv_isub hx hb d_BlockDigest_write_8 ?_
    refine lv_icmp_le (tgt := 13) hx hb d_BlockDigest_write_9 (by decide) (fun hc => ?_) (fun hc => ?_)
    · have hf := sd_t hf hc
      refine lv_iconst (v := 0) hx hb d_BlockDigest_write_13 (by decide) ?_
      refine lv_istore (lv' := [(4, .int (0 : Int32)), (0, .ref (q 9)), (1, .int a1), (2, .ref (q 10)), (3, .int a3)]) hx hb d_BlockDigest_write_14 hl (by decide) rfl (fun ls hl => ?_)
      refine lp_BlockDigest_write_r9_r10_L16 l X ?_ 10000 (a1) (a3) ((0 : Int32)) μ _ _ _ hI (lv_sub hl [1, 2, 3, 4, 0] rfl) hf
      · intro m4 H locs ls hI hl hf
        exact k_retv X hI hf d_BlockDigest_write_46
    · have hf := sd_f hf hc
      exact k_retv X hI hf d_BlockDigest_write_12
set_option maxHeartbeats 4000000 in
set_option maxRecDepth 100000 in
theorem lp_BlockDigest_pad_r9_r2_L27 (l : Launch) {p : Program} {e : Env} {s : State} {m : MethodId} {args : Array Value} {below : List Frame} {meth : Method} {c : Code} {A : Nat → Prop} {D : va_G} {q tq : Nat → Nat} {cA : ClassId} {ru : Int32 × sd_Me} (X : sd_Cx p s m args meth c prog_2_method_5_code "ScriptDesk$BlockDigest" sx_tbl 5 (some .int) vwCl D [(cA, .int)] (ZX tq) A) {k53 : Int32 → Int32 → sd_Me → Option (Int32 × sd_Me)} (hk53 : ∀ (v2 : Int32) (v3 : Int32) (μ : sd_Me) (H : Heap) (locs : List Loc) (ls : Array Slot), sd_CI vwCl (wdX q cA) D A s H locs μ → lv_has ls 5 [(0, .ref (q 9)), (2, .int v2), (3, .int v3)] → k53 v2 v3 μ = some ru → W p l e ({ frames := 2, cells := 0, slots := 0, locals := 45 }) s m args below meth c H locs 0 0 (sd_QI below vwCl (wdX q cA) D [(cA, .int)] .int A args s ru) (F0 m 53 ls [])) :
    ∀ (n : Nat) (v2 : Int32) (v3 : Int32) (v4 : Int32) (μ : sd_Me) (H : Heap) (locs : List Loc) (ls : Array Slot), sd_CI vwCl (wdX q cA) D A s H locs μ → lv_has ls 5 [(0, .ref (q 9)), (1, .ref (q 2)), (2, .int v2), (3, .int v3), (4, .int v4)] → fn_BlockDigest_pad_r9_r2_L27 k53 n v2 v3 v4 μ = some ru → W p l e ({ frames := 2, cells := 0, slots := 0, locals := 45 }) s m args below meth c H locs 0 0 (sd_QI below vwCl (wdX q cA) D [(cA, .int)] .int A args s ru) (F0 m 27 ls []) := by
  obtain ⟨hx, hb, hml, hown, hts, hK, hZ, hA, hr, hlocks⟩ := id X
  intro n
  induction n with
  | zero =>
    intro v2 v3 v4 μ H locs ls hI hl hf
    cases hf
  | succ n ih =>
    intro v2 v3 v4 μ H locs ls hI hl hf
    rw [fn_BlockDigest_pad_r9_r2_L27] at hf
    refine lv_iload hx hb d_BlockDigest_pad_27 (lv_at hl 4 rfl) ?_
    refine lv_iload_n hx hb d_BlockDigest_pad_29 rfl (lv_at hl 2 rfl) ?_
    refine lv_icmp_ge (tgt := 53) hx hb d_BlockDigest_pad_30 (by decide) (fun hc => ?_) (fun hc => ?_)
    · have hf := sd_t hf hc
      exact hk53 (v2) (v3) μ _ _ _ hI (lv_sub hl [0, 2, 3] rfl) hf
    · have hf := sd_f hf hc
      refine lv_aload_n hx hb d_BlockDigest_pad_33 rfl (lv_at hl 0 rfl) ?_
      refine va_get (D := D) (ci := 5) (v := .ref (q 10)) (C := "ScriptDesk$Sha256") (T := T_Sha256) (N := 5) hx hb hts iw_Sha256 hown hK hI.1 9 rfl rfl 0 (by decide) (hts _ tw_97) (fun _ h9 => h9) rfl d_BlockDigest_pad_34 ?_
      refine lv_iload hx hb d_BlockDigest_pad_37 (lv_at hl 4 rfl) ?_
      refine lv_aload_n hx hb d_BlockDigest_pad_39 rfl (lv_at hl 1 rfl) ?_
      refine lv_iconst (v := 0) hx hb d_BlockDigest_pad_40 (by decide) ?_
      refine lv_iload hx hb d_BlockDigest_pad_41 (lv_at hl 4 rfl) ?_
      obtain ⟨x4, m3, hq, hf⟩ := sd_bi_e hf
      refine k_callV (As := [.int (0 : Int32), .int v4]) (rest := [.int v4, .ref (q 10)]) (C := "ScriptDesk$Elements") (ci := 1) ZX_ok X hI (mt_Elements_octetAt_r2 l hq) (cwV 2 hts (gd_V tw_387 tw_231 tw_232 tw_2 tw_233) rfl rfl rfl (by decide +kernel) ⟨Nat.le_of_ble_eq_true rfl, Nat.le_of_ble_eq_true rfl⟩) 2 rfl rfl rfl hl.1 rfl (Nat.le_of_ble_eq_true rfl) d_BlockDigest_pad_43 ⟨Nat.zero_le _, Nat.zero_le _⟩ (fun H locs hn_x4 hI => ?_)
      obtain ⟨hg, hf⟩ := sd_gd_e hf
      refine k_iast (μ' := sd_st m3 10 (Int32.toNatClampNeg v4) x4) hx hb hK hI 10 0 rfl rfl rfl hg d_BlockDigest_pad_46 (fun H locs hI => ?_)
      obtain ⟨m5, hI, hf⟩ := k_lm hf hI
      refine lv_iinc (v := (v4 + (1 : Int32))) (lv' := [(4, .int (v4 + (1 : Int32))), (0, .ref (q 9)), (1, .ref (q 2)), (2, .int v2), (3, .int v3)]) hx hb d_BlockDigest_pad_47 hl (k := 4) rfl rfl (by decide) rfl (fun ls hl => ?_)
      refine lv_goto (tgt := 27) hx hb d_BlockDigest_pad_50 (by decide) ?_
      exact ih (v2) (v3) ((v4 + (1 : Int32))) m5 _ _ _ hI (lv_sub hl [1, 2, 3, 4, 0] rfl) hf
set_option maxHeartbeats 4000000 in
set_option maxRecDepth 100000 in
theorem mt_BlockDigest_pad_r9_r2 (l : Launch) {D : va_G} {q tq : Nat → Nat} {cA : ClassId} {a2 : Int32} {μ : sd_Me} {ru : Int32 × sd_Me} (hf : fn_BlockDigest_pad_r9_r2 a2 μ = some ru) : sd_CTi l y_BlockDigest_pad w_BlockDigest_pad ({ frames := 2, cells := 0, slots := 0, locals := 45 }) vwCl (wdX q cA) D [(cA, .int)] (ZX tq) .int [.ref (q 9), .ref (q 2), .int a2] μ ru := by
  refine k_enti (cc := prog_2_method_5_code) 5 (by decide) rfl (Nat.le_of_ble_eq_true rfl) ?_
  intro p e s m below meth c A ls X hI hl
  have hl : lv_has ls 5 [(0, .ref (q 9)), (1, .ref (q 2)), (2, .int a2)] := hl
  obtain ⟨hx, hb, hml, hown, hts, hK, hZ, hA, hr, hlocks⟩ := id X
  unfold fn_BlockDigest_pad_r9_r2 at hf
  refine lv_iload_n hx hb d_BlockDigest_pad_0 rfl (lv_at hl 2 rfl) ?_
  refine lv_bipush (v := 9) hx hb d_BlockDigest_pad_1 (by decide) ?_
  refine lv_iadd hx hb d_BlockDigest_pad_3 ?_
  refine lv_bipush (v := 64) hx hb d_BlockDigest_pad_4 (by decide) ?_
  refine lv_iadd hx hb d_BlockDigest_pad_6 ?_
  refine lv_iconst (v := 1) hx hb d_BlockDigest_pad_7 (by decide) ?_
  refine lv_isub hx hb d_BlockDigest_pad_8 ?_
  refine lv_bipush (v := 64) hx hb d_BlockDigest_pad_9 (by decide) ?_
  refine lv_idiv hx hb d_BlockDigest_pad_11 (by decide) ?_
  refine lv_bipush (v := 64) hx hb d_BlockDigest_pad_12 (by decide) ?_
  refine lv_imul hx hb d_BlockDigest_pad_14 ?_
  refine k_li hf (fun x1 hf => ?_)
  refine lv_istore_n (lv' := [(3, .int x1), (0, .ref (q 9)), (1, .ref (q 2)), (2, .int a2)]) hx hb d_BlockDigest_pad_15 rfl hl (by decide) rfl (fun ls hl => ?_)
  refine lv_aload_n hx hb d_BlockDigest_pad_16 rfl (lv_at hl 1 rfl) ?_
  refine va_get (D := D) (ci := 5) (v := .ref (q 10)) (C := "ScriptDesk$Sha256") (T := T_Sha256) (N := 5) hx hb hts iw_Sha256 hown hK hI.1 9 rfl rfl 0 (by decide) (hts _ tw_97) (fun _ h9 => h9) rfl d_BlockDigest_pad_17 ?_
  refine lv_iconst (v := 0) hx hb d_BlockDigest_pad_20 (by decide) ?_
  obtain ⟨m2, hq, hf⟩ := sd_bv_e hf
  refine k_callSv (As := [.ref (q 10), .int (0 : Int32)]) (rest := []) ZX_ok X hI (mt_Arrays_fill_r10 l hq) (va_cwS 2 hts (gd_S tw_384 tw_385 tw_14 tw_386) rfl rfl rfl (by decide +kernel) ⟨Nat.le_of_ble_eq_true rfl, Nat.le_of_ble_eq_true rfl⟩) rfl hl.1 rfl (Nat.le_of_ble_eq_true rfl) d_BlockDigest_pad_21 ⟨Nat.zero_le _, Nat.zero_le _⟩ (fun H locs hI => ?_)
  refine lv_iconst (v := 0) hx hb d_BlockDigest_pad_24 (by decide) ?_
  refine lv_istore (lv' := [(4, .int (0 : Int32)), (3, .int x1), (0, .ref (q 9)), (1, .ref (q 2)), (2, .int a2)]) hx hb d_BlockDigest_pad_25 hl (by decide) rfl (fun ls hl => ?_)
  refine lp_BlockDigest_pad_r9_r2_L27 l X ?_ 10000 (a2) (x1) ((0 : Int32)) m2 _ _ _ hI (lv_sub hl [2, 3, 4, 1, 0] rfl) hf
  · intro x6 x7 m8 H locs ls hI hl hf
    refine lv_aload_n hx hb d_BlockDigest_pad_53 rfl (lv_at hl 0 rfl) ?_
    refine va_get (D := D) (ci := 5) (v := .ref (q 10)) (C := "ScriptDesk$Sha256") (T := T_Sha256) (N := 5) hx hb hts iw_Sha256 hown hK hI.1 9 rfl rfl 0 (by decide) (hts _ tw_97) (fun _ h9 => h9) rfl d_BlockDigest_pad_54 ?_
    refine lv_iload_n hx hb d_BlockDigest_pad_57 rfl (lv_at hl 1 rfl) ?_
    refine lv_sipush (v := 128) hx hb d_BlockDigest_pad_58 (by decide) ?_
    obtain ⟨hg, hf⟩ := sd_gd_e hf
    refine k_iast (μ' := sd_st m8 10 (Int32.toNatClampNeg x6) (128 : Int32)) hx hb hK hI 10 0 rfl rfl rfl hg d_BlockDigest_pad_61 (fun H locs hI => ?_)
    obtain ⟨m9, hI, hf⟩ := k_lm hf hI
    refine lv_aload_n hx hb d_BlockDigest_pad_62 rfl (lv_at hl 0 rfl) ?_
    refine lv_bipush (v := 8) hx hb d_BlockDigest_pad_63 (by decide) ?_
    refine lv_iload_n hx hb d_BlockDigest_pad_65 rfl (lv_at hl 1 rfl) ?_
    refine lv_imul hx hb d_BlockDigest_pad_66 ?_
    refine lv_aload_n hx hb d_BlockDigest_pad_67 rfl (lv_at hl 0 rfl) ?_
    refine va_get (D := D) (ci := 5) (v := .ref (q 10)) (C := "ScriptDesk$Sha256") (T := T_Sha256) (N := 5) hx hb hts iw_Sha256 hown hK hI.1 9 rfl rfl 0 (by decide) (hts _ tw_97) (fun _ h9 => h9) rfl d_BlockDigest_pad_68 ?_
    refine lv_aload_n hx hb d_BlockDigest_pad_71 rfl (lv_at hl 0 rfl) ?_
    refine va_get (D := D) (ci := 5) (v := .int (m9.1 9 2)) (C := "ScriptDesk$Sha256") (T := T_Sha256) (N := 5) hx hb hts iw_Sha256 hown hK hI.1 9 rfl rfl 2 (by decide) (hts _ tw_99) (fun _ h9 => h9) rfl d_BlockDigest_pad_72 ?_
    refine lv_if_eq (tgt := 84) hx hb d_BlockDigest_pad_75 (by decide) (fun hc => ?_) (fun hc => ?_)
    · have hf := sd_t hf hc
      refine lv_iload_n hx hb d_BlockDigest_pad_84 rfl (lv_at hl 2 rfl) ?_
      refine lv_bipush (v := 8) hx hb d_BlockDigest_pad_85 (by decide) ?_
      refine lv_isub hx hb d_BlockDigest_pad_87 ?_
      obtain ⟨m10, hq, hf⟩ := sd_bv_e hf
      refine k_callUv (As := [.int ((8 : Int32) * x6), .ref (q 10), .int (x7 - (8 : Int32))]) (rest := []) (C := "ScriptDesk$Sha256") (ci := 5) ZX_ok X hI (mt_BlockDigest_write_r9_r10 l hq) (va_cwU 3 hts (gd_U tw_388 tw_798 sp_5 tw_390 tw_6 tw_391) rfl rfl rfl rfl (by decide +kernel) ⟨Nat.le_of_ble_eq_true rfl, Nat.le_of_ble_eq_true rfl⟩) 9 rfl rfl rfl hl.1 rfl (Nat.le_of_ble_eq_true rfl) d_BlockDigest_pad_88 ⟨Nat.zero_le _, Nat.zero_le _⟩ (fun H locs hI => ?_)
      refine lv_iload_n hx hb d_BlockDigest_pad_91 rfl (lv_at hl 2 rfl) ?_
      exact k_reti X hI (vp_nar_int _) hf d_BlockDigest_pad_92
    · have hf := sd_f hf hc
      refine lv_iload_n hx hb d_BlockDigest_pad_78 rfl (lv_at hl 2 rfl) ?_
      refine lv_iconst (v := 4) hx hb d_BlockDigest_pad_79 (by decide) ?_
      refine lv_isub hx hb d_BlockDigest_pad_80 ?_
      refine lv_goto (tgt := 88) hx hb d_BlockDigest_pad_81 (by decide) ?_
      obtain ⟨m11, hq, hf⟩ := sd_bv_e hf
      refine k_callUv (As := [.int ((8 : Int32) * x6), .ref (q 10), .int (x7 - (4 : Int32))]) (rest := []) (C := "ScriptDesk$Sha256") (ci := 5) ZX_ok X hI (mt_BlockDigest_write_r9_r10 l hq) (va_cwU 3 hts (gd_U tw_388 tw_798 sp_5 tw_390 tw_6 tw_391) rfl rfl rfl rfl (by decide +kernel) ⟨Nat.le_of_ble_eq_true rfl, Nat.le_of_ble_eq_true rfl⟩) 9 rfl rfl rfl hl.1 rfl (Nat.le_of_ble_eq_true rfl) d_BlockDigest_pad_88 ⟨Nat.zero_le _, Nat.zero_le _⟩ (fun H locs hI => ?_)
      refine lv_iload_n hx hb d_BlockDigest_pad_91 rfl (lv_at hl 2 rfl) ?_
      exact k_reti X hI (vp_nar_int _) hf d_BlockDigest_pad_92
set_option maxHeartbeats 4000000 in
set_option maxRecDepth 100000 in
theorem mt_Sha256_begin_r9 (l : Launch) {D : va_G} {q tq : Nat → Nat} {cA : ClassId} {μ : sd_Me} {ru : sd_Me} (hf : fn_Sha256_begin_r9 μ = some ru) : sd_CTv l y_Sha256_begin w_Sha256_begin ({ frames := 1, cells := 0, slots := 0, locals := 35 }) vwCl (wdX q cA) D [(cA, .int)] (ZX tq) [.ref (q 9)] μ ru := by
  refine k_entv (cc := prog_8_method_2_code) 1 (by decide) rfl (Nat.le_of_ble_eq_true rfl) ?_
  intro p e s m below meth c A ls X hI hl
  have hl : lv_has ls 1 [(0, .ref (q 9))] := hl
  obtain ⟨hx, hb, hml, hown, hts, hK, hZ, hA, hr, hlocks⟩ := id X
  unfold fn_Sha256_begin_r9 at hf
  refine va_gets hx hb (hZX_Z1 hZ) hI.2.2 hown (hts _ tw_408) (fun _ h9 => h9) d_Sha256_begin_0 ?_
  refine lv_iconst (v := 0) hx hb d_Sha256_begin_3 (by decide) ?_
  refine lv_aload_n hx hb d_Sha256_begin_4 rfl (lv_at hl 0 rfl) ?_
  refine va_get (D := D) (ci := 5) (v := .ref (q 13)) (C := "ScriptDesk$Sha256") (T := T_Sha256) (N := 5) hx hb hts iw_Sha256 hown hK hI.1 9 rfl rfl 4 (by decide) (hts _ tw_108) (fun z h9 => u_same (hts _ tw_109) z h9) rfl d_Sha256_begin_5 ?_
  refine lv_iconst (v := 0) hx hb d_Sha256_begin_8 (by decide) ?_
  refine lv_bipush (v := 8) hx hb d_Sha256_begin_9 (by decide) ?_
  obtain ⟨hg, hf⟩ := sd_gd_e hf
  refine k_copyt (μ' := sd_mrow μ 13 (va_cpy tabX1 (μ.1 13) (Int32.toNatClampNeg (0 : Int32)) (Int32.toNatClampNeg (0 : Int32)) (Int32.toNatClampNeg (8 : Int32)))) hx hb (hml.trans hl.1.symm) hown (hts _ tw_410) (hts _ tw_205) (hts _ tw_204) (hts _ tw_10) hK hI (hZX_T1 hZ) 13 0 rfl rfl rfl hg (Nat.le_of_ble_eq_true rfl) (Nat.le_of_ble_eq_true rfl) d_Sha256_begin_11 (fun H locs hI => ?_)
  obtain ⟨m1, hI, hf⟩ := k_lm hf hI
  exact k_retv X hI hf d_Sha256_begin_14
set_option maxHeartbeats 4000000 in
set_option maxRecDepth 100000 in
theorem lp_BlockDigest_readBlock_r9_L35 (l : Launch) {p : Program} {e : Env} {s : State} {m : MethodId} {args : Array Value} {below : List Frame} {meth : Method} {c : Code} {A : Nat → Prop} {D : va_G} {q tq : Nat → Nat} {cA : ClassId} {ru : sd_Me} (X : sd_Cx p s m args meth c prog_2_method_6_code "ScriptDesk$BlockDigest" sx_tbl 5 none vwCl D [(cA, .int)] (ZX tq) A) {k70 : Int32 → Int32 → Int32 → sd_Me → Option (sd_Me)} (hk70 : ∀ (v1 : Int32) (v2 : Int32) (v3 : Int32) (μ : sd_Me) (H : Heap) (locs : List Loc) (ls : Array Slot), sd_CI vwCl (wdX q cA) D A s H locs μ → lv_has ls 5 [(0, .ref (q 9)), (1, .int v1), (2, .int v2), (3, .int v3)] → k70 v1 v2 v3 μ = some ru → W p l e ({ frames := 1, cells := 0, slots := 0, locals := 21 }) s m args below meth c H locs 0 0 (sd_QV below vwCl (wdX q cA) D [(cA, .int)] A args s ru) (F0 m 70 ls [])) :
    ∀ (n : Nat) (v1 : Int32) (v2 : Int32) (v3 : Int32) (v4 : Int32) (μ : sd_Me) (H : Heap) (locs : List Loc) (ls : Array Slot), sd_CI vwCl (wdX q cA) D A s H locs μ → lv_has ls 5 [(0, .ref (q 9)), (1, .int v1), (2, .int v2), (3, .int v3), (4, .int v4)] → fn_BlockDigest_readBlock_r9_L35 k70 n v1 v2 v3 v4 μ = some ru → W p l e ({ frames := 1, cells := 0, slots := 0, locals := 21 }) s m args below meth c H locs 0 0 (sd_QV below vwCl (wdX q cA) D [(cA, .int)] A args s ru) (F0 m 35 ls []) := by
  obtain ⟨hx, hb, hml, hown, hts, hK, hZ, hA, hr, hlocks⟩ := id X
  intro n
  induction n with
  | zero =>
    intro v1 v2 v3 v4 μ H locs ls hI hl hf
    cases hf
  | succ n ih =>
    intro v1 v2 v3 v4 μ H locs ls hI hl hf
    rw [fn_BlockDigest_readBlock_r9_L35] at hf
    refine lv_iload hx hb d_BlockDigest_readBlock_35 (lv_at hl 4 rfl) ?_
    refine lv_iconst (v := 4) hx hb d_BlockDigest_readBlock_37 (by decide) ?_
    refine lv_icmp_ge (tgt := 70) hx hb d_BlockDigest_readBlock_38 (by decide) (fun hc => ?_) (fun hc => ?_)
    · have hf := sd_t hf hc
      exact hk70 (v1) (v2) (v3) μ _ _ _ hI (lv_sub hl [0, 1, 2, 3] rfl) hf
    · have hf := sd_f hf hc
      refine lv_iload_n hx hb d_BlockDigest_readBlock_41 rfl (lv_at hl 3 rfl) ?_
      refine lv_aload_n hx hb d_BlockDigest_readBlock_42 rfl (lv_at hl 0 rfl) ?_
      refine va_get (D := D) (ci := 5) (v := .ref (q 10)) (C := "ScriptDesk$Sha256") (T := T_Sha256) (N := 5) hx hb hts iw_Sha256 hown hK hI.1 9 rfl rfl 0 (by decide) (hts _ tw_97) (fun _ h9 => h9) rfl d_BlockDigest_readBlock_43 ?_
      refine lv_iload_n hx hb d_BlockDigest_readBlock_46 rfl (lv_at hl 1 rfl) ?_
      refine lv_iconst (v := 4) hx hb d_BlockDigest_readBlock_47 (by decide) ?_
      refine lv_iload_n hx hb d_BlockDigest_readBlock_48 rfl (lv_at hl 2 rfl) ?_
      refine lv_imul hx hb d_BlockDigest_readBlock_49 ?_
      refine lv_iadd hx hb d_BlockDigest_readBlock_50 ?_
      refine lv_iload hx hb d_BlockDigest_readBlock_51 (lv_at hl 4 rfl) ?_
      refine lv_iadd hx hb d_BlockDigest_readBlock_53 ?_
      obtain ⟨hg, hf⟩ := sd_gd_e hf
      refine k_iald hx hb hK hI 10 0 rfl rfl hg d_BlockDigest_readBlock_54 ?_
      refine lv_aload_n hx hb d_BlockDigest_readBlock_55 rfl (lv_at hl 0 rfl) ?_
      refine lv_iload hx hb d_BlockDigest_readBlock_56 (lv_at hl 4 rfl) ?_
      obtain ⟨x2, m1, hq, hf⟩ := sd_bi_e hf
      refine k_callU (As := [.int v4]) (rest := [.int (μ.1 10 (Int32.toNatClampNeg ((v1 + ((4 : Int32) * v2)) + v4))), .int v3]) (C := "ScriptDesk$Sha256") (ci := 5) ZX_ok X hI (mt_BlockDigest_shiftOf_r9 l hq) (va_cwU 1 hts (gd_U tw_392 tw_799 sp_4 tw_394 tw_6 tw_395) rfl rfl rfl rfl (by decide +kernel) ⟨Nat.le_of_ble_eq_true rfl, Nat.le_of_ble_eq_true rfl⟩) 9 rfl rfl rfl hl.1 rfl (Nat.le_of_ble_eq_true rfl) d_BlockDigest_readBlock_58 ⟨Nat.zero_le _, Nat.zero_le _⟩ (fun H locs hn_x2 hI => ?_)
      refine lv_ishl hx hb d_BlockDigest_readBlock_61 ?_
      refine lv_ior hx hb d_BlockDigest_readBlock_62 ?_
      refine k_li hf (fun x3 hf => ?_)
      refine lv_istore_n (lv' := [(3, .int x3), (0, .ref (q 9)), (1, .int v1), (2, .int v2), (4, .int v4)]) hx hb d_BlockDigest_readBlock_63 rfl hl (by decide) rfl (fun ls hl => ?_)
      refine lv_iinc (v := (v4 + (1 : Int32))) (lv' := [(4, .int (v4 + (1 : Int32))), (3, .int x3), (0, .ref (q 9)), (1, .int v1), (2, .int v2)]) hx hb d_BlockDigest_readBlock_64 hl (k := 4) rfl rfl (by decide) rfl (fun ls hl => ?_)
      refine lv_goto (tgt := 35) hx hb d_BlockDigest_readBlock_67 (by decide) ?_
      exact ih (v1) (v2) (x3) ((v4 + (1 : Int32))) m1 _ _ _ hI (lv_sub hl [2, 3, 4, 1, 0] rfl) hf
set_option maxHeartbeats 4000000 in
set_option maxRecDepth 100000 in
theorem lp_BlockDigest_readBlock_r9_L24 (l : Launch) {p : Program} {e : Env} {s : State} {m : MethodId} {args : Array Value} {below : List Frame} {meth : Method} {c : Code} {A : Nat → Prop} {D : va_G} {q tq : Nat → Nat} {cA : ClassId} {ru : sd_Me} (X : sd_Cx p s m args meth c prog_2_method_6_code "ScriptDesk$BlockDigest" sx_tbl 5 none vwCl D [(cA, .int)] (ZX tq) A) {k83 : sd_Me → Option (sd_Me)} (hk83 : ∀ (μ : sd_Me) (H : Heap) (locs : List Loc) (ls : Array Slot), sd_CI vwCl (wdX q cA) D A s H locs μ → lv_has ls 5 [] → k83 μ = some ru → W p l e ({ frames := 1, cells := 0, slots := 0, locals := 21 }) s m args below meth c H locs 0 0 (sd_QV below vwCl (wdX q cA) D [(cA, .int)] A args s ru) (F0 m 83 ls [])) :
    ∀ (n : Nat) (v1 : Int32) (v2 : Int32) (μ : sd_Me) (H : Heap) (locs : List Loc) (ls : Array Slot), sd_CI vwCl (wdX q cA) D A s H locs μ → lv_has ls 5 [(0, .ref (q 9)), (1, .int v1), (2, .int v2)] → fn_BlockDigest_readBlock_r9_L24 k83 n v1 v2 μ = some ru → W p l e ({ frames := 1, cells := 0, slots := 0, locals := 21 }) s m args below meth c H locs 0 0 (sd_QV below vwCl (wdX q cA) D [(cA, .int)] A args s ru) (F0 m 24 ls []) := by
  obtain ⟨hx, hb, hml, hown, hts, hK, hZ, hA, hr, hlocks⟩ := id X
  intro n
  induction n with
  | zero =>
    intro v1 v2 μ H locs ls hI hl hf
    cases hf
  | succ n ih =>
    intro v1 v2 μ H locs ls hI hl hf
    rw [fn_BlockDigest_readBlock_r9_L24] at hf
    refine lv_iload_n hx hb d_BlockDigest_readBlock_24 rfl (lv_at hl 2 rfl) ?_
    refine lv_bipush (v := 16) hx hb d_BlockDigest_readBlock_25 (by decide) ?_
    refine lv_icmp_ge (tgt := 83) hx hb d_BlockDigest_readBlock_27 (by decide) (fun hc => ?_) (fun hc => ?_)
    · have hf := sd_t hf hc
      exact hk83  μ _ _ _ hI (lv_sub hl [] rfl) hf
    · have hf := sd_f hf hc
      refine lv_iconst (v := 0) hx hb d_BlockDigest_readBlock_30 (by decide) ?_
      refine lv_istore_n (lv' := [(3, .int (0 : Int32)), (0, .ref (q 9)), (1, .int v1), (2, .int v2)]) hx hb d_BlockDigest_readBlock_31 rfl hl (by decide) rfl (fun ls hl => ?_)
      refine lv_iconst (v := 0) hx hb d_BlockDigest_readBlock_32 (by decide) ?_
      refine lv_istore (lv' := [(4, .int (0 : Int32)), (3, .int (0 : Int32)), (0, .ref (q 9)), (1, .int v1), (2, .int v2)]) hx hb d_BlockDigest_readBlock_33 hl (by decide) rfl (fun ls hl => ?_)
      refine lp_BlockDigest_readBlock_r9_L35 l X ?_ 10000 (v1) (v2) ((0 : Int32)) ((0 : Int32)) μ _ _ _ hI (lv_sub hl [2, 3, 4, 1, 0] rfl) hf
      · intro x4 x5 x6 m7 H locs ls hI hl hf
        refine lv_aload_n hx hb d_BlockDigest_readBlock_70 rfl (lv_at hl 0 rfl) ?_
        refine va_get (D := D) (ci := 5) (v := .ref (q 12)) (C := "ScriptDesk$Sha256") (T := T_Sha256) (N := 5) hx hb hts iw_Sha256 hown hK hI.1 9 rfl rfl 3 (by decide) (hts _ tw_100) (fun _ h9 => h9) rfl d_BlockDigest_readBlock_71 ?_
        refine lv_iload_n hx hb d_BlockDigest_readBlock_74 rfl (lv_at hl 2 rfl) ?_
        refine lv_iload_n hx hb d_BlockDigest_readBlock_75 rfl (lv_at hl 3 rfl) ?_
        obtain ⟨hg, hf⟩ := sd_gd_e hf
        refine k_iast (μ' := sd_st m7 12 (Int32.toNatClampNeg x5) x6) hx hb hK hI 12 0 rfl rfl rfl hg d_BlockDigest_readBlock_76 (fun H locs hI => ?_)
        obtain ⟨m8, hI, hf⟩ := k_lm hf hI
        refine lv_iinc (v := (x5 + (1 : Int32))) (lv' := [(2, .int (x5 + (1 : Int32))), (0, .ref (q 9)), (1, .int x4), (3, .int x6)]) hx hb d_BlockDigest_readBlock_77 hl (k := 2) rfl rfl (by decide) rfl (fun ls hl => ?_)
        refine lv_goto (tgt := 24) hx hb d_BlockDigest_readBlock_80 (by decide) ?_
        exact ih (x4) ((x5 + (1 : Int32))) m8 _ _ _ hI (lv_sub hl [1, 2, 0] rfl) hf
set_option maxHeartbeats 4000000 in
set_option maxRecDepth 100000 in
theorem mt_BlockDigest_readBlock_r9 (l : Launch) {D : va_G} {q tq : Nat → Nat} {cA : ClassId} {a1 : Int32} {μ : sd_Me} {ru : sd_Me} (hf : fn_BlockDigest_readBlock_r9 a1 μ = some ru) : sd_CTv l y_BlockDigest_readBlock w_BlockDigest_readBlock ({ frames := 1, cells := 0, slots := 0, locals := 21 }) vwCl (wdX q cA) D [(cA, .int)] (ZX tq) [.ref (q 9), .int a1] μ ru := by
  refine k_entv (cc := prog_2_method_6_code) 5 (by decide) rfl (Nat.le_of_ble_eq_true rfl) ?_
  intro p e s m below meth c A ls X hI hl
  have hl : lv_has ls 5 [(0, .ref (q 9)), (1, .int a1)] := hl
  obtain ⟨hx, hb, hml, hown, hts, hK, hZ, hA, hr, hlocks⟩ := id X
  unfold fn_BlockDigest_readBlock_r9 at hf
  refine lv_iload_n hx hb d_BlockDigest_readBlock_0 rfl (lv_at hl 1 rfl) ?_
  refine lv_if_lt (tgt := 21) hx hb d_BlockDigest_readBlock_1 (by decide) (fun hc => ?_) (fun hc => ?_)
  · have hf := sd_t hf hc
    exact k_retv X hI hf d_BlockDigest_readBlock_21
  · have hf := sd_f hf hc
    refine lv_iload_n hx hb d_BlockDigest_readBlock_4 rfl (lv_at hl 1 rfl) ?_
    refine lv_sipush (v := 128) hx hb d_BlockDigest_readBlock_5 (by decide) ?_
    refine lv_icmp_gt (tgt := 21) hx hb d_BlockDigest_readBlock_8 (by decide) (fun hc => ?_) (fun hc => ?_)
    · have hf := sd_t hf hc
      exact k_retv X hI hf d_BlockDigest_readBlock_21
    · have hf := sd_f hf hc
      refine lv_aload_n hx hb d_BlockDigest_readBlock_11 rfl (lv_at hl 0 rfl) ?_
      refine va_get (D := D) (ci := 5) (v := .ref (q 12)) (C := "ScriptDesk$Sha256") (T := T_Sha256) (N := 5) hx hb hts iw_Sha256 hown hK hI.1 9 rfl rfl 3 (by decide) (hts _ tw_100) (fun _ h9 => h9) rfl d_BlockDigest_readBlock_12 ?_
      refine va_alen (v := 64) hx hb hK hI.1 12 0 rfl rfl (show Int32.ofNat 64 = 64 by decide) d_BlockDigest_readBlock_15 ?_
      refine lv_bipush (v := 16) hx hb d_BlockDigest_readBlock_16 (by decide) ?_
      refine lv_icmp_ge (tgt := 22) hx hb d_BlockDigest_readBlock_18 (by decide) (fun hc => ?_) (fun hc => ?_)
      · have hf := sd_t hf hc
        refine lv_iconst (v := 0) hx hb d_BlockDigest_readBlock_22 (by decide) ?_
        refine lv_istore_n (lv' := [(2, .int (0 : Int32)), (0, .ref (q 9)), (1, .int a1)]) hx hb d_BlockDigest_readBlock_23 rfl hl (by decide) rfl (fun ls hl => ?_)
        refine lp_BlockDigest_readBlock_r9_L24 l X ?_ 10000 (a1) ((0 : Int32)) μ _ _ _ hI (lv_sub hl [1, 2, 0] rfl) hf
        · intro m9 H locs ls hI hl hf
          exact k_retv X hI hf d_BlockDigest_readBlock_83
      · have hf := sd_f hf hc
        exact k_retv X hI hf d_BlockDigest_readBlock_21
set_option maxHeartbeats 4000000 in
set_option maxRecDepth 100000 in
theorem mt_Sha256_turned (l : Launch) {D : va_G} {q tq : Nat → Nat} {cA : ClassId} {a0 : Int32} {a1 : Int32} {μ : sd_Me} {ru : Int32 × sd_Me} (hf : fn_Sha256_turned a0 a1 μ = some ru) : sd_CTi l y_Sha256_turned w_Sha256_turned ({ frames := 0, cells := 0, slots := 0, locals := 0 }) vwCl (wdX q cA) D [(cA, .int)] (ZX tq) .int [.int a0, .int a1] μ ru := by
  refine k_enti (cc := prog_8_method_5_code) 2 (by decide) rfl (Nat.le_of_ble_eq_true rfl) ?_
  intro p e s m below meth c A ls X hI hl
  have hl : lv_has ls 2 [(0, .int a0), (1, .int a1)] := hl
  obtain ⟨hx, hb, hml, hown, hts, hK, hZ, hA, hr, hlocks⟩ := id X
  unfold fn_Sha256_turned at hf
  refine lv_iload_n hx hb d_Sha256_turned_0 rfl (lv_at hl 0 rfl) ?_
  refine lv_iload_n hx hb d_Sha256_turned_1 rfl (lv_at hl 1 rfl) ?_
  refine lv_iushr (v := (sd_usr a0 a1)) hx hb d_Sha256_turned_2 rfl ?_
  refine lv_iload_n hx hb d_Sha256_turned_3 rfl (lv_at hl 0 rfl) ?_
  refine lv_bipush (v := 32) hx hb d_Sha256_turned_4 (by decide) ?_
  refine lv_iload_n hx hb d_Sha256_turned_6 rfl (lv_at hl 1 rfl) ?_
  refine lv_isub hx hb d_Sha256_turned_7 ?_
  refine lv_ishl hx hb d_Sha256_turned_8 ?_
  refine lv_ior hx hb d_Sha256_turned_9 ?_
  exact k_reti X hI (vp_nar_int _) hf d_Sha256_turned_10
set_option maxHeartbeats 4000000 in
set_option maxRecDepth 100000 in
theorem lp_Sha256_spreadWords_r9_L3 (l : Launch) {p : Program} {e : Env} {s : State} {m : MethodId} {args : Array Value} {below : List Frame} {meth : Method} {c : Code} {A : Nat → Prop} {D : va_G} {q tq : Nat → Nat} {cA : ClassId} {ru : sd_Me} (X : sd_Cx p s m args meth c prog_8_method_4_code "ScriptDesk$Sha256" sx_tbl 6 none vwCl D [(cA, .int)] (ZX tq) A) {k104 : sd_Me → Option (sd_Me)} (hk104 : ∀ (μ : sd_Me) (H : Heap) (locs : List Loc) (ls : Array Slot), sd_CI vwCl (wdX q cA) D A s H locs μ → lv_has ls 6 [] → k104 μ = some ru → W p l e ({ frames := 1, cells := 0, slots := 0, locals := 21 }) s m args below meth c H locs 0 0 (sd_QV below vwCl (wdX q cA) D [(cA, .int)] A args s ru) (F0 m 104 ls [])) :
    ∀ (n : Nat) (v1 : Int32) (μ : sd_Me) (H : Heap) (locs : List Loc) (ls : Array Slot), sd_CI vwCl (wdX q cA) D A s H locs μ → lv_has ls 6 [(0, .ref (q 9)), (1, .int v1)] → fn_Sha256_spreadWords_r9_L3 k104 n v1 μ = some ru → W p l e ({ frames := 1, cells := 0, slots := 0, locals := 21 }) s m args below meth c H locs 0 0 (sd_QV below vwCl (wdX q cA) D [(cA, .int)] A args s ru) (F0 m 3 ls []) := by
  obtain ⟨hx, hb, hml, hown, hts, hK, hZ, hA, hr, hlocks⟩ := id X
  intro n
  induction n with
  | zero =>
    intro v1 μ H locs ls hI hl hf
    cases hf
  | succ n ih =>
    intro v1 μ H locs ls hI hl hf
    rw [fn_Sha256_spreadWords_r9_L3] at hf
    refine lv_iload_n hx hb d_Sha256_spreadWords_3 rfl (lv_at hl 1 rfl) ?_
    refine lv_bipush (v := 64) hx hb d_Sha256_spreadWords_4 (by decide) ?_
    refine lv_icmp_ge (tgt := 104) hx hb d_Sha256_spreadWords_6 (by decide) (fun hc => ?_) (fun hc => ?_)
    · have hf := sd_t hf hc
      exact hk104  μ _ _ _ hI (lv_sub hl [] rfl) hf
    · have hf := sd_f hf hc
      refine lv_aload_n hx hb d_Sha256_spreadWords_9 rfl (lv_at hl 0 rfl) ?_
      refine va_get (D := D) (ci := 5) (v := .ref (q 12)) (C := "ScriptDesk$Sha256") (T := T_Sha256) (N := 5) hx hb hts iw_Sha256 hown hK hI.1 9 rfl rfl 3 (by decide) (hts _ tw_103) (fun z h9 => u_same (hts _ tw_104) z h9) rfl d_Sha256_spreadWords_10 ?_
      refine lv_iload_n hx hb d_Sha256_spreadWords_13 rfl (lv_at hl 1 rfl) ?_
      refine lv_bipush (v := 15) hx hb d_Sha256_spreadWords_14 (by decide) ?_
      refine lv_isub hx hb d_Sha256_spreadWords_16 ?_
      obtain ⟨hg, hf⟩ := sd_gd_e hf
      refine k_iald hx hb hK hI 12 0 rfl rfl hg d_Sha256_spreadWords_17 ?_
      refine k_li hf (fun x1 hf => ?_)
      refine lv_istore_n (lv' := [(2, .int x1), (0, .ref (q 9)), (1, .int v1)]) hx hb d_Sha256_spreadWords_18 rfl hl (by decide) rfl (fun ls hl => ?_)
      refine lv_aload_n hx hb d_Sha256_spreadWords_19 rfl (lv_at hl 1 rfl) ?_
      refine va_get (D := D) (ci := 5) (v := .ref (q 12)) (C := "ScriptDesk$Sha256") (T := T_Sha256) (N := 5) hx hb hts iw_Sha256 hown hK hI.1 9 rfl rfl 3 (by decide) (hts _ tw_103) (fun z h9 => u_same (hts _ tw_104) z h9) rfl d_Sha256_spreadWords_20 ?_
      refine lv_iload_n hx hb d_Sha256_spreadWords_23 rfl (lv_at hl 2 rfl) ?_
      refine lv_iconst (v := 2) hx hb d_Sha256_spreadWords_24 (by decide) ?_
      refine lv_isub hx hb d_Sha256_spreadWords_25 ?_
      obtain ⟨hg, hf⟩ := sd_gd_e hf
      refine k_iald hx hb hK hI 12 0 rfl rfl hg d_Sha256_spreadWords_26 ?_
      refine k_li hf (fun x2 hf => ?_)
      refine lv_istore_n (lv' := [(3, .int x2), (2, .int x1), (0, .ref (q 9)), (1, .int v1)]) hx hb d_Sha256_spreadWords_27 rfl hl (by decide) rfl (fun ls hl => ?_)
      refine lv_iload_n hx hb d_Sha256_spreadWords_28 rfl (lv_at hl 1 rfl) ?_
      refine lv_bipush (v := 7) hx hb d_Sha256_spreadWords_29 (by decide) ?_
      obtain ⟨x4, m3, hq, hf⟩ := sd_bi_e hf
      refine k_callS (As := [.int x1, .int (7 : Int32)]) (rest := []) ZX_ok X hI (mt_Sha256_turned l hq) (va_cwS 2 hts (gd_S tw_449 tw_450 tw_7 tw_451) rfl rfl rfl (by decide +kernel) ⟨Nat.le_of_ble_eq_true rfl, Nat.le_of_ble_eq_true rfl⟩) rfl hl.1 rfl (Nat.le_of_ble_eq_true rfl) d_Sha256_spreadWords_31 ⟨Nat.zero_le _, Nat.zero_le _⟩ (fun H locs hn_x4 hI => ?_)
      refine lv_iload_n hx hb d_Sha256_spreadWords_34 rfl (lv_at hl 1 rfl) ?_
      refine lv_bipush (v := 18) hx hb d_Sha256_spreadWords_35 (by decide) ?_
      obtain ⟨x6, m5, hq, hf⟩ := sd_bi_e hf
      refine k_callS (As := [.int x1, .int (18 : Int32)]) (rest := [.int x4]) ZX_ok X hI (mt_Sha256_turned l hq) (va_cwS 2 hts (gd_S tw_449 tw_450 tw_7 tw_451) rfl rfl rfl (by decide +kernel) ⟨Nat.le_of_ble_eq_true rfl, Nat.le_of_ble_eq_true rfl⟩) rfl hl.1 rfl (Nat.le_of_ble_eq_true rfl) d_Sha256_spreadWords_37 ⟨Nat.zero_le _, Nat.zero_le _⟩ (fun H locs hn_x6 hI => ?_)
      refine lv_ixor hx hb d_Sha256_spreadWords_40 ?_
      refine lv_iload_n hx hb d_Sha256_spreadWords_41 rfl (lv_at hl 1 rfl) ?_
      refine lv_iconst (v := 3) hx hb d_Sha256_spreadWords_42 (by decide) ?_
      refine lv_iushr (v := (sd_usr x1 (3 : Int32))) hx hb d_Sha256_spreadWords_43 rfl ?_
      refine lv_ixor hx hb d_Sha256_spreadWords_44 ?_
      refine k_li hf (fun x7 hf => ?_)
      refine lv_istore (lv' := [(4, .int x7), (3, .int x2), (2, .int x1), (0, .ref (q 9)), (1, .int v1)]) hx hb d_Sha256_spreadWords_45 hl (by decide) rfl (fun ls hl => ?_)
      refine lv_iload_n hx hb d_Sha256_spreadWords_47 rfl (lv_at hl 1 rfl) ?_
      refine lv_bipush (v := 17) hx hb d_Sha256_spreadWords_48 (by decide) ?_
      obtain ⟨x9, m8, hq, hf⟩ := sd_bi_e hf
      refine k_callS (As := [.int x2, .int (17 : Int32)]) (rest := []) ZX_ok X hI (mt_Sha256_turned l hq) (va_cwS 2 hts (gd_S tw_449 tw_450 tw_7 tw_451) rfl rfl rfl (by decide +kernel) ⟨Nat.le_of_ble_eq_true rfl, Nat.le_of_ble_eq_true rfl⟩) rfl hl.1 rfl (Nat.le_of_ble_eq_true rfl) d_Sha256_spreadWords_50 ⟨Nat.zero_le _, Nat.zero_le _⟩ (fun H locs hn_x9 hI => ?_)
      refine lv_iload_n hx hb d_Sha256_spreadWords_53 rfl (lv_at hl 1 rfl) ?_
      refine lv_bipush (v := 19) hx hb d_Sha256_spreadWords_54 (by decide) ?_
      obtain ⟨x11, m10, hq, hf⟩ := sd_bi_e hf
      refine k_callS (As := [.int x2, .int (19 : Int32)]) (rest := [.int x9]) ZX_ok X hI (mt_Sha256_turned l hq) (va_cwS 2 hts (gd_S tw_449 tw_450 tw_7 tw_451) rfl rfl rfl (by decide +kernel) ⟨Nat.le_of_ble_eq_true rfl, Nat.le_of_ble_eq_true rfl⟩) rfl hl.1 rfl (Nat.le_of_ble_eq_true rfl) d_Sha256_spreadWords_56 ⟨Nat.zero_le _, Nat.zero_le _⟩ (fun H locs hn_x11 hI => ?_)
      refine lv_ixor hx hb d_Sha256_spreadWords_59 ?_
      refine lv_iload_n hx hb d_Sha256_spreadWords_60 rfl (lv_at hl 1 rfl) ?_
      refine lv_bipush (v := 10) hx hb d_Sha256_spreadWords_61 (by decide) ?_
      refine lv_iushr (v := (sd_usr x2 (10 : Int32))) hx hb d_Sha256_spreadWords_63 rfl ?_
      refine lv_ixor hx hb d_Sha256_spreadWords_64 ?_
      refine k_li hf (fun x12 hf => ?_)
      refine lv_istore (lv' := [(5, .int x12), (4, .int x7), (3, .int x2), (2, .int x1), (0, .ref (q 9)), (1, .int v1)]) hx hb d_Sha256_spreadWords_65 hl (by decide) rfl (fun ls hl => ?_)
      refine lv_aload_n hx hb d_Sha256_spreadWords_67 rfl (lv_at hl 4 rfl) ?_
      refine va_get (D := D) (ci := 5) (v := .ref (q 12)) (C := "ScriptDesk$Sha256") (T := T_Sha256) (N := 5) hx hb hts iw_Sha256 hown hK hI.1 9 rfl rfl 3 (by decide) (hts _ tw_103) (fun z h9 => u_same (hts _ tw_104) z h9) rfl d_Sha256_spreadWords_68 ?_
      refine lv_iload_n hx hb d_Sha256_spreadWords_71 rfl (lv_at hl 5 rfl) ?_
      refine lv_iload hx hb d_Sha256_spreadWords_72 (lv_at hl 0 rfl) ?_
      refine lv_aload_n hx hb d_Sha256_spreadWords_74 rfl (lv_at hl 4 rfl) ?_
      refine va_get (D := D) (ci := 5) (v := .ref (q 12)) (C := "ScriptDesk$Sha256") (T := T_Sha256) (N := 5) hx hb hts iw_Sha256 hown hK hI.1 9 rfl rfl 3 (by decide) (hts _ tw_103) (fun z h9 => u_same (hts _ tw_104) z h9) rfl d_Sha256_spreadWords_75 ?_
      refine lv_iload_n hx hb d_Sha256_spreadWords_78 rfl (lv_at hl 5 rfl) ?_
      refine lv_bipush (v := 7) hx hb d_Sha256_spreadWords_79 (by decide) ?_
      refine lv_isub hx hb d_Sha256_spreadWords_81 ?_
      obtain ⟨hg, hf⟩ := sd_gd_e hf
      refine k_iald hx hb hK hI 12 0 rfl rfl hg d_Sha256_spreadWords_82 ?_
      refine lv_iadd hx hb d_Sha256_spreadWords_83 ?_
      refine lv_iload hx hb d_Sha256_spreadWords_84 (lv_at hl 1 rfl) ?_
      refine lv_iadd hx hb d_Sha256_spreadWords_86 ?_
      refine lv_aload_n hx hb d_Sha256_spreadWords_87 rfl (lv_at hl 4 rfl) ?_
      refine va_get (D := D) (ci := 5) (v := .ref (q 12)) (C := "ScriptDesk$Sha256") (T := T_Sha256) (N := 5) hx hb hts iw_Sha256 hown hK hI.1 9 rfl rfl 3 (by decide) (hts _ tw_103) (fun z h9 => u_same (hts _ tw_104) z h9) rfl d_Sha256_spreadWords_88 ?_
      refine lv_iload_n hx hb d_Sha256_spreadWords_91 rfl (lv_at hl 5 rfl) ?_
      refine lv_bipush (v := 16) hx hb d_Sha256_spreadWords_92 (by decide) ?_
      refine lv_isub hx hb d_Sha256_spreadWords_94 ?_
      obtain ⟨hg, hf⟩ := sd_gd_e hf
      refine k_iald hx hb hK hI 12 0 rfl rfl hg d_Sha256_spreadWords_95 ?_
      refine lv_iadd hx hb d_Sha256_spreadWords_96 ?_
      obtain ⟨hg, hf⟩ := sd_gd_e hf
      refine k_iast (μ' := sd_st m10 12 (Int32.toNatClampNeg v1) (((x12 + (m10.1 12 (Int32.toNatClampNeg (v1 - (7 : Int32))))) + x7) + (m10.1 12 (Int32.toNatClampNeg (v1 - (16 : Int32)))))) hx hb hK hI 12 0 rfl rfl rfl hg d_Sha256_spreadWords_97 (fun H locs hI => ?_)
      obtain ⟨m13, hI, hf⟩ := k_lm hf hI
      refine lv_iinc (v := (v1 + (1 : Int32))) (lv' := [(1, .int (v1 + (1 : Int32))), (5, .int x12), (4, .int x7), (3, .int x2), (2, .int x1), (0, .ref (q 9))]) hx hb d_Sha256_spreadWords_98 hl (k := 5) rfl rfl (by decide) rfl (fun ls hl => ?_)
      refine lv_goto (tgt := 3) hx hb d_Sha256_spreadWords_101 (by decide) ?_
      exact ih ((v1 + (1 : Int32))) m13 _ _ _ hI (lv_sub hl [5, 0] rfl) hf
set_option maxHeartbeats 4000000 in
set_option maxRecDepth 100000 in
theorem mt_Sha256_spreadWords_r9 (l : Launch) {D : va_G} {q tq : Nat → Nat} {cA : ClassId} {μ : sd_Me} {ru : sd_Me} (hf : fn_Sha256_spreadWords_r9 μ = some ru) : sd_CTv l y_Sha256_spreadWords w_Sha256_spreadWords ({ frames := 1, cells := 0, slots := 0, locals := 21 }) vwCl (wdX q cA) D [(cA, .int)] (ZX tq) [.ref (q 9)] μ ru := by
  refine k_entv (cc := prog_8_method_4_code) 6 (by decide) rfl (Nat.le_of_ble_eq_true rfl) ?_
  intro p e s m below meth c A ls X hI hl
  have hl : lv_has ls 6 [(0, .ref (q 9))] := hl
  obtain ⟨hx, hb, hml, hown, hts, hK, hZ, hA, hr, hlocks⟩ := id X
  unfold fn_Sha256_spreadWords_r9 at hf
  refine lv_bipush (v := 16) hx hb d_Sha256_spreadWords_0 (by decide) ?_
  refine lv_istore_n (lv' := [(1, .int (16 : Int32)), (0, .ref (q 9))]) hx hb d_Sha256_spreadWords_2 rfl hl (by decide) rfl (fun ls hl => ?_)
  refine lp_Sha256_spreadWords_r9_L3 l X ?_ 10000 ((16 : Int32)) μ _ _ _ hI (lv_sub hl [1, 0] rfl) hf
  · intro m14 H locs ls hI hl hf
    exact k_retv X hI hf d_Sha256_spreadWords_104
set_option maxHeartbeats 4000000 in
set_option maxRecDepth 100000 in
theorem lp_Sha256_mix_r9_L70 (l : Launch) {p : Program} {e : Env} {s : State} {m : MethodId} {args : Array Value} {below : List Frame} {meth : Method} {c : Code} {A : Nat → Prop} {D : va_G} {q tq : Nat → Nat} {cA : ClassId} {ru : sd_Me} (X : sd_Cx p s m args meth c prog_8_method_3_code "ScriptDesk$Sha256" sx_tbl 14 none vwCl D [(cA, .int)] (ZX tq) A) {k213 : Int32 → Int32 → Int32 → Int32 → Int32 → Int32 → Int32 → Int32 → sd_Me → Option (sd_Me)} (hk213 : ∀ (v1 : Int32) (v2 : Int32) (v3 : Int32) (v4 : Int32) (v5 : Int32) (v6 : Int32) (v7 : Int32) (v8 : Int32) (μ : sd_Me) (H : Heap) (locs : List Loc) (ls : Array Slot), sd_CI vwCl (wdX q cA) D A s H locs μ → lv_has ls 14 [(0, .ref (q 9)), (1, .int v1), (2, .int v2), (3, .int v3), (4, .int v4), (5, .int v5), (6, .int v6), (7, .int v7), (8, .int v8)] → k213 v1 v2 v3 v4 v5 v6 v7 v8 μ = some ru → W p l e ({ frames := 2, cells := 0, slots := 0, locals := 46 }) s m args below meth c H locs 0 0 (sd_QV below vwCl (wdX q cA) D [(cA, .int)] A args s ru) (F0 m 213 ls [])) :
    ∀ (n : Nat) (v1 : Int32) (v2 : Int32) (v3 : Int32) (v4 : Int32) (v5 : Int32) (v6 : Int32) (v7 : Int32) (v8 : Int32) (v9 : Int32) (μ : sd_Me) (H : Heap) (locs : List Loc) (ls : Array Slot), sd_CI vwCl (wdX q cA) D A s H locs μ → lv_has ls 14 [(0, .ref (q 9)), (1, .int v1), (2, .int v2), (3, .int v3), (4, .int v4), (5, .int v5), (6, .int v6), (7, .int v7), (8, .int v8), (9, .int v9)] → fn_Sha256_mix_r9_L70 k213 n v1 v2 v3 v4 v5 v6 v7 v8 v9 μ = some ru → W p l e ({ frames := 2, cells := 0, slots := 0, locals := 46 }) s m args below meth c H locs 0 0 (sd_QV below vwCl (wdX q cA) D [(cA, .int)] A args s ru) (F0 m 70 ls []) := by
  obtain ⟨hx, hb, hml, hown, hts, hK, hZ, hA, hr, hlocks⟩ := id X
  intro n
  induction n with
  | zero =>
    intro v1 v2 v3 v4 v5 v6 v7 v8 v9 μ H locs ls hI hl hf
    cases hf
  | succ n ih =>
    intro v1 v2 v3 v4 v5 v6 v7 v8 v9 μ H locs ls hI hl hf
    rw [fn_Sha256_mix_r9_L70] at hf
    refine lv_iload hx hb d_Sha256_mix_70 (lv_at hl 9 rfl) ?_
    refine lv_bipush (v := 64) hx hb d_Sha256_mix_72 (by decide) ?_
    refine lv_icmp_ge (tgt := 213) hx hb d_Sha256_mix_74 (by decide) (fun hc => ?_) (fun hc => ?_)
    · have hf := sd_t hf hc
      exact hk213 (v1) (v2) (v3) (v4) (v5) (v6) (v7) (v8) μ _ _ _ hI (lv_sub hl [0, 1, 2, 3, 4, 5, 6, 7, 8] rfl) hf
    · have hf := sd_f hf hc
      refine lv_iload hx hb d_Sha256_mix_77 (lv_at hl 5 rfl) ?_
      refine lv_bipush (v := 6) hx hb d_Sha256_mix_79 (by decide) ?_
      obtain ⟨x11, m10, hq, hf⟩ := sd_bi_e hf
      refine k_callS (As := [.int v5, .int (6 : Int32)]) (rest := []) ZX_ok X hI (mt_Sha256_turned l hq) (va_cwS 2 hts (gd_S tw_449 tw_450 tw_7 tw_451) rfl rfl rfl (by decide +kernel) ⟨Nat.le_of_ble_eq_true rfl, Nat.le_of_ble_eq_true rfl⟩) rfl hl.1 rfl (Nat.le_of_ble_eq_true rfl) d_Sha256_mix_81 ⟨Nat.zero_le _, Nat.zero_le _⟩ (fun H locs hn_x11 hI => ?_)
      refine lv_iload hx hb d_Sha256_mix_84 (lv_at hl 5 rfl) ?_
      refine lv_bipush (v := 11) hx hb d_Sha256_mix_86 (by decide) ?_
      obtain ⟨x13, m12, hq, hf⟩ := sd_bi_e hf
      refine k_callS (As := [.int v5, .int (11 : Int32)]) (rest := [.int x11]) ZX_ok X hI (mt_Sha256_turned l hq) (va_cwS 2 hts (gd_S tw_449 tw_450 tw_7 tw_451) rfl rfl rfl (by decide +kernel) ⟨Nat.le_of_ble_eq_true rfl, Nat.le_of_ble_eq_true rfl⟩) rfl hl.1 rfl (Nat.le_of_ble_eq_true rfl) d_Sha256_mix_88 ⟨Nat.zero_le _, Nat.zero_le _⟩ (fun H locs hn_x13 hI => ?_)
      refine lv_ixor hx hb d_Sha256_mix_91 ?_
      refine lv_iload hx hb d_Sha256_mix_92 (lv_at hl 5 rfl) ?_
      refine lv_bipush (v := 25) hx hb d_Sha256_mix_94 (by decide) ?_
      obtain ⟨x15, m14, hq, hf⟩ := sd_bi_e hf
      refine k_callS (As := [.int v5, .int (25 : Int32)]) (rest := [.int (x11 ^^^ x13)]) ZX_ok X hI (mt_Sha256_turned l hq) (va_cwS 2 hts (gd_S tw_449 tw_450 tw_7 tw_451) rfl rfl rfl (by decide +kernel) ⟨Nat.le_of_ble_eq_true rfl, Nat.le_of_ble_eq_true rfl⟩) rfl hl.1 rfl (Nat.le_of_ble_eq_true rfl) d_Sha256_mix_96 ⟨Nat.zero_le _, Nat.zero_le _⟩ (fun H locs hn_x15 hI => ?_)
      refine lv_ixor hx hb d_Sha256_mix_99 ?_
      refine k_li hf (fun x16 hf => ?_)
      refine lv_istore (lv' := [(10, .int x16), (0, .ref (q 9)), (1, .int v1), (2, .int v2), (3, .int v3), (4, .int v4), (5, .int v5), (6, .int v6), (7, .int v7), (8, .int v8), (9, .int v9)]) hx hb d_Sha256_mix_100 hl (by decide) rfl (fun ls hl => ?_)
      refine lv_iload hx hb d_Sha256_mix_102 (lv_at hl 9 rfl) ?_
      refine lv_iload hx hb d_Sha256_mix_104 (lv_at hl 0 rfl) ?_
      refine lv_iadd hx hb d_Sha256_mix_106 ?_
      refine lv_iload hx hb d_Sha256_mix_107 (lv_at hl 6 rfl) ?_
      refine lv_iload hx hb d_Sha256_mix_109 (lv_at hl 7 rfl) ?_
      refine lv_iand hx hb d_Sha256_mix_111 ?_
      refine lv_iload hx hb d_Sha256_mix_112 (lv_at hl 6 rfl) ?_
      refine lv_iconst (v := -1) hx hb d_Sha256_mix_114 (by decide) ?_
      refine lv_ixor hx hb d_Sha256_mix_115 ?_
      refine lv_iload hx hb d_Sha256_mix_116 (lv_at hl 8 rfl) ?_
      refine lv_iand hx hb d_Sha256_mix_118 ?_
      refine lv_ixor hx hb d_Sha256_mix_119 ?_
      refine lv_iadd hx hb d_Sha256_mix_120 ?_
      refine va_gets hx hb (hZX_Z8 hZ) hI.2.2 hown (hts _ tw_452) (fun _ h9 => h9) d_Sha256_mix_121 ?_
      refine lv_iload hx hb d_Sha256_mix_124 (lv_at hl 10 rfl) ?_
      obtain ⟨hg, hf⟩ := sd_gd_e hf
      refine va_ti (v := .int (tabX8 (Int32.toNatClampNeg v9))) hx hb (hZX_T8 hZ) hI.2.2 (sd_ix_in hg) rfl d_Sha256_mix_126 ?_
      refine lv_iadd hx hb d_Sha256_mix_127 ?_
      refine lv_aload_n hx hb d_Sha256_mix_128 rfl (lv_at hl 1 rfl) ?_
      refine va_get (D := D) (ci := 5) (v := .ref (q 12)) (C := "ScriptDesk$Sha256") (T := T_Sha256) (N := 5) hx hb hts iw_Sha256 hown hK hI.1 9 rfl rfl 3 (by decide) (hts _ tw_103) (fun z h9 => u_same (hts _ tw_104) z h9) rfl d_Sha256_mix_129 ?_
      refine lv_iload hx hb d_Sha256_mix_132 (lv_at hl 10 rfl) ?_
      obtain ⟨hg, hf⟩ := sd_gd_e hf
      refine k_iald hx hb hK hI 12 0 rfl rfl hg d_Sha256_mix_134 ?_
      refine lv_iadd hx hb d_Sha256_mix_135 ?_
      refine k_li hf (fun x17 hf => ?_)
      refine lv_istore (lv' := [(11, .int x17), (10, .int x16), (0, .ref (q 9)), (1, .int v1), (2, .int v2), (3, .int v3), (4, .int v4), (5, .int v5), (6, .int v6), (7, .int v7), (8, .int v8), (9, .int v9)]) hx hb d_Sha256_mix_136 hl (by decide) rfl (fun ls hl => ?_)
      refine lv_iload_n hx hb d_Sha256_mix_138 rfl (lv_at hl 3 rfl) ?_
      refine lv_iconst (v := 2) hx hb d_Sha256_mix_139 (by decide) ?_
      obtain ⟨x19, m18, hq, hf⟩ := sd_bi_e hf
      refine k_callS (As := [.int v1, .int (2 : Int32)]) (rest := []) ZX_ok X hI (mt_Sha256_turned l hq) (va_cwS 2 hts (gd_S tw_449 tw_450 tw_7 tw_451) rfl rfl rfl (by decide +kernel) ⟨Nat.le_of_ble_eq_true rfl, Nat.le_of_ble_eq_true rfl⟩) rfl hl.1 rfl (Nat.le_of_ble_eq_true rfl) d_Sha256_mix_140 ⟨Nat.zero_le _, Nat.zero_le _⟩ (fun H locs hn_x19 hI => ?_)
      refine lv_iload_n hx hb d_Sha256_mix_143 rfl (lv_at hl 3 rfl) ?_
      refine lv_bipush (v := 13) hx hb d_Sha256_mix_144 (by decide) ?_
      obtain ⟨x21, m20, hq, hf⟩ := sd_bi_e hf
      refine k_callS (As := [.int v1, .int (13 : Int32)]) (rest := [.int x19]) ZX_ok X hI (mt_Sha256_turned l hq) (va_cwS 2 hts (gd_S tw_449 tw_450 tw_7 tw_451) rfl rfl rfl (by decide +kernel) ⟨Nat.le_of_ble_eq_true rfl, Nat.le_of_ble_eq_true rfl⟩) rfl hl.1 rfl (Nat.le_of_ble_eq_true rfl) d_Sha256_mix_146 ⟨Nat.zero_le _, Nat.zero_le _⟩ (fun H locs hn_x21 hI => ?_)
      refine lv_ixor hx hb d_Sha256_mix_149 ?_
      refine lv_iload_n hx hb d_Sha256_mix_150 rfl (lv_at hl 3 rfl) ?_
      refine lv_bipush (v := 22) hx hb d_Sha256_mix_151 (by decide) ?_
      obtain ⟨x23, m22, hq, hf⟩ := sd_bi_e hf
      refine k_callS (As := [.int v1, .int (22 : Int32)]) (rest := [.int (x19 ^^^ x21)]) ZX_ok X hI (mt_Sha256_turned l hq) (va_cwS 2 hts (gd_S tw_449 tw_450 tw_7 tw_451) rfl rfl rfl (by decide +kernel) ⟨Nat.le_of_ble_eq_true rfl, Nat.le_of_ble_eq_true rfl⟩) rfl hl.1 rfl (Nat.le_of_ble_eq_true rfl) d_Sha256_mix_153 ⟨Nat.zero_le _, Nat.zero_le _⟩ (fun H locs hn_x23 hI => ?_)
      refine lv_ixor hx hb d_Sha256_mix_156 ?_
      refine k_li hf (fun x24 hf => ?_)
      refine lv_istore (lv' := [(12, .int x24), (11, .int x17), (10, .int x16), (0, .ref (q 9)), (1, .int v1), (2, .int v2), (3, .int v3), (4, .int v4), (5, .int v5), (6, .int v6), (7, .int v7), (8, .int v8), (9, .int v9)]) hx hb d_Sha256_mix_157 hl (by decide) rfl (fun ls hl => ?_)
      refine lv_iload hx hb d_Sha256_mix_159 (lv_at hl 0 rfl) ?_
      refine lv_iload_n hx hb d_Sha256_mix_161 rfl (lv_at hl 4 rfl) ?_
      refine lv_iload_n hx hb d_Sha256_mix_162 rfl (lv_at hl 5 rfl) ?_
      refine lv_iand hx hb d_Sha256_mix_163 ?_
      refine lv_iload_n hx hb d_Sha256_mix_164 rfl (lv_at hl 4 rfl) ?_
      refine lv_iload_n hx hb d_Sha256_mix_165 rfl (lv_at hl 6 rfl) ?_
      refine lv_iand hx hb d_Sha256_mix_166 ?_
      refine lv_ixor hx hb d_Sha256_mix_167 ?_
      refine lv_iload_n hx hb d_Sha256_mix_168 rfl (lv_at hl 5 rfl) ?_
      refine lv_iload_n hx hb d_Sha256_mix_169 rfl (lv_at hl 6 rfl) ?_
      refine lv_iand hx hb d_Sha256_mix_170 ?_
      refine lv_ixor hx hb d_Sha256_mix_171 ?_
      refine lv_iadd hx hb d_Sha256_mix_172 ?_
      refine k_li hf (fun x25 hf => ?_)
      refine lv_istore (lv' := [(13, .int x25), (12, .int x24), (11, .int x17), (10, .int x16), (0, .ref (q 9)), (1, .int v1), (2, .int v2), (3, .int v3), (4, .int v4), (5, .int v5), (6, .int v6), (7, .int v7), (8, .int v8), (9, .int v9)]) hx hb d_Sha256_mix_173 hl (by decide) rfl (fun ls hl => ?_)
      refine lv_iload hx hb d_Sha256_mix_175 (lv_at hl 11 rfl) ?_
      refine lv_istore (lv' := [(8, .int v7), (13, .int x25), (12, .int x24), (11, .int x17), (10, .int x16), (0, .ref (q 9)), (1, .int v1), (2, .int v2), (3, .int v3), (4, .int v4), (5, .int v5), (6, .int v6), (7, .int v7), (9, .int v9)]) hx hb d_Sha256_mix_177 hl (by decide) rfl (fun ls hl => ?_)
      refine lv_iload hx hb d_Sha256_mix_179 (lv_at hl 11 rfl) ?_
      refine lv_istore (lv' := [(7, .int v6), (8, .int v7), (13, .int x25), (12, .int x24), (11, .int x17), (10, .int x16), (0, .ref (q 9)), (1, .int v1), (2, .int v2), (3, .int v3), (4, .int v4), (5, .int v5), (6, .int v6), (9, .int v9)]) hx hb d_Sha256_mix_181 hl (by decide) rfl (fun ls hl => ?_)
      refine lv_iload hx hb d_Sha256_mix_183 (lv_at hl 11 rfl) ?_
      refine lv_istore (lv' := [(6, .int v5), (7, .int v6), (8, .int v7), (13, .int x25), (12, .int x24), (11, .int x17), (10, .int x16), (0, .ref (q 9)), (1, .int v1), (2, .int v2), (3, .int v3), (4, .int v4), (5, .int v5), (9, .int v9)]) hx hb d_Sha256_mix_185 hl (by decide) rfl (fun ls hl => ?_)
      refine lv_iload hx hb d_Sha256_mix_187 (lv_at hl 11 rfl) ?_
      refine lv_iload hx hb d_Sha256_mix_189 (lv_at hl 5 rfl) ?_
      refine lv_iadd hx hb d_Sha256_mix_191 ?_
      refine k_li hf (fun x26 hf => ?_)
      refine lv_istore (lv' := [(5, .int x26), (6, .int v5), (7, .int v6), (8, .int v7), (13, .int x25), (12, .int x24), (11, .int x17), (10, .int x16), (0, .ref (q 9)), (1, .int v1), (2, .int v2), (3, .int v3), (4, .int v4), (9, .int v9)]) hx hb d_Sha256_mix_192 hl (by decide) rfl (fun ls hl => ?_)
      refine lv_iload_n hx hb d_Sha256_mix_194 rfl (lv_at hl 11 rfl) ?_
      refine lv_istore (lv' := [(4, .int v3), (5, .int x26), (6, .int v5), (7, .int v6), (8, .int v7), (13, .int x25), (12, .int x24), (11, .int x17), (10, .int x16), (0, .ref (q 9)), (1, .int v1), (2, .int v2), (3, .int v3), (9, .int v9)]) hx hb d_Sha256_mix_195 hl (by decide) rfl (fun ls hl => ?_)
      refine lv_iload_n hx hb d_Sha256_mix_197 rfl (lv_at hl 11 rfl) ?_
      refine lv_istore_n (lv' := [(3, .int v2), (4, .int v3), (5, .int x26), (6, .int v5), (7, .int v6), (8, .int v7), (13, .int x25), (12, .int x24), (11, .int x17), (10, .int x16), (0, .ref (q 9)), (1, .int v1), (2, .int v2), (9, .int v9)]) hx hb d_Sha256_mix_198 rfl hl (by decide) rfl (fun ls hl => ?_)
      refine lv_iload_n hx hb d_Sha256_mix_199 rfl (lv_at hl 11 rfl) ?_
      refine lv_istore_n (lv' := [(2, .int v1), (3, .int v2), (4, .int v3), (5, .int x26), (6, .int v5), (7, .int v6), (8, .int v7), (13, .int x25), (12, .int x24), (11, .int x17), (10, .int x16), (0, .ref (q 9)), (1, .int v1), (9, .int v9)]) hx hb d_Sha256_mix_200 rfl hl (by decide) rfl (fun ls hl => ?_)
      refine lv_iload hx hb d_Sha256_mix_201 (lv_at hl 9 rfl) ?_
      refine lv_iload hx hb d_Sha256_mix_203 (lv_at hl 7 rfl) ?_
      refine lv_iadd hx hb d_Sha256_mix_205 ?_
      refine k_li hf (fun x27 hf => ?_)
      refine lv_istore_n (lv' := [(1, .int x27), (2, .int v1), (3, .int v2), (4, .int v3), (5, .int x26), (6, .int v5), (7, .int v6), (8, .int v7), (13, .int x25), (12, .int x24), (11, .int x17), (10, .int x16), (0, .ref (q 9)), (9, .int v9)]) hx hb d_Sha256_mix_206 rfl hl (by decide) rfl (fun ls hl => ?_)
      refine lv_iinc (v := (v9 + (1 : Int32))) (lv' := [(9, .int (v9 + (1 : Int32))), (1, .int x27), (2, .int v1), (3, .int v2), (4, .int v3), (5, .int x26), (6, .int v5), (7, .int v6), (8, .int v7), (13, .int x25), (12, .int x24), (11, .int x17), (10, .int x16), (0, .ref (q 9))]) hx hb d_Sha256_mix_207 hl (k := 13) rfl rfl (by decide) rfl (fun ls hl => ?_)
      refine lv_goto (tgt := 70) hx hb d_Sha256_mix_210 (by decide) ?_
      exact ih (x27) (v1) (v2) (v3) (x26) (v5) (v6) (v7) ((v9 + (1 : Int32))) m22 _ _ _ hI (lv_sub hl [13, 1, 2, 3, 4, 5, 6, 7, 8, 0] rfl) hf
set_option maxHeartbeats 4000000 in
set_option maxRecDepth 100000 in
theorem mt_Sha256_mix_r9 (l : Launch) {D : va_G} {q tq : Nat → Nat} {cA : ClassId} {μ : sd_Me} {ru : sd_Me} (hf : fn_Sha256_mix_r9 μ = some ru) : sd_CTv l y_Sha256_mix w_Sha256_mix ({ frames := 2, cells := 0, slots := 0, locals := 46 }) vwCl (wdX q cA) D [(cA, .int)] (ZX tq) [.ref (q 9)] μ ru := by
  refine k_entv (cc := prog_8_method_3_code) 14 (by decide) rfl (Nat.le_of_ble_eq_true rfl) ?_
  intro p e s m below meth c A ls X hI hl
  have hl : lv_has ls 14 [(0, .ref (q 9))] := hl
  obtain ⟨hx, hb, hml, hown, hts, hK, hZ, hA, hr, hlocks⟩ := id X
  unfold fn_Sha256_mix_r9 at hf
  refine lv_aload_n hx hb d_Sha256_mix_0 rfl (lv_at hl 0 rfl) ?_
  obtain ⟨m1, hq, hf⟩ := sd_bv_e hf
  refine k_callVv (As := []) (rest := []) (C := "ScriptDesk$Sha256") (ci := 5) ZX_ok X hI (mt_Sha256_spreadWords_r9 l hq) (cwV 0 hts (gd_V tw_445 tw_447 ts_9 tw_7 tw_448) rfl rfl rfl (by decide +kernel) ⟨Nat.le_of_ble_eq_true rfl, Nat.le_of_ble_eq_true rfl⟩) 9 rfl rfl rfl hl.1 rfl (Nat.le_of_ble_eq_true rfl) d_Sha256_mix_1 ⟨Nat.zero_le _, Nat.zero_le _⟩ (fun H locs hI => ?_)
  refine lv_aload_n hx hb d_Sha256_mix_4 rfl (lv_at hl 0 rfl) ?_
  refine va_get (D := D) (ci := 5) (v := .ref (q 13)) (C := "ScriptDesk$Sha256") (T := T_Sha256) (N := 5) hx hb hts iw_Sha256 hown hK hI.1 9 rfl rfl 4 (by decide) (hts _ tw_108) (fun z h9 => u_same (hts _ tw_109) z h9) rfl d_Sha256_mix_5 ?_
  refine lv_iconst (v := 0) hx hb d_Sha256_mix_8 (by decide) ?_
  obtain ⟨hg, hf⟩ := sd_gd_e hf
  refine k_iald hx hb hK hI 13 0 rfl rfl hg d_Sha256_mix_9 ?_
  refine k_li hf (fun x2 hf => ?_)
  refine lv_istore_n (lv' := [(1, .int x2), (0, .ref (q 9))]) hx hb d_Sha256_mix_10 rfl hl (by decide) rfl (fun ls hl => ?_)
  refine lv_aload_n hx hb d_Sha256_mix_11 rfl (lv_at hl 1 rfl) ?_
  refine va_get (D := D) (ci := 5) (v := .ref (q 13)) (C := "ScriptDesk$Sha256") (T := T_Sha256) (N := 5) hx hb hts iw_Sha256 hown hK hI.1 9 rfl rfl 4 (by decide) (hts _ tw_108) (fun z h9 => u_same (hts _ tw_109) z h9) rfl d_Sha256_mix_12 ?_
  refine lv_iconst (v := 1) hx hb d_Sha256_mix_15 (by decide) ?_
  obtain ⟨hg, hf⟩ := sd_gd_e hf
  refine k_iald hx hb hK hI 13 0 rfl rfl hg d_Sha256_mix_16 ?_
  refine k_li hf (fun x3 hf => ?_)
  refine lv_istore_n (lv' := [(2, .int x3), (1, .int x2), (0, .ref (q 9))]) hx hb d_Sha256_mix_17 rfl hl (by decide) rfl (fun ls hl => ?_)
  refine lv_aload_n hx hb d_Sha256_mix_18 rfl (lv_at hl 2 rfl) ?_
  refine va_get (D := D) (ci := 5) (v := .ref (q 13)) (C := "ScriptDesk$Sha256") (T := T_Sha256) (N := 5) hx hb hts iw_Sha256 hown hK hI.1 9 rfl rfl 4 (by decide) (hts _ tw_108) (fun z h9 => u_same (hts _ tw_109) z h9) rfl d_Sha256_mix_19 ?_
  refine lv_iconst (v := 2) hx hb d_Sha256_mix_22 (by decide) ?_
  obtain ⟨hg, hf⟩ := sd_gd_e hf
  refine k_iald hx hb hK hI 13 0 rfl rfl hg d_Sha256_mix_23 ?_
  refine k_li hf (fun x4 hf => ?_)
  refine lv_istore_n (lv' := [(3, .int x4), (2, .int x3), (1, .int x2), (0, .ref (q 9))]) hx hb d_Sha256_mix_24 rfl hl (by decide) rfl (fun ls hl => ?_)
  refine lv_aload_n hx hb d_Sha256_mix_25 rfl (lv_at hl 3 rfl) ?_
  refine va_get (D := D) (ci := 5) (v := .ref (q 13)) (C := "ScriptDesk$Sha256") (T := T_Sha256) (N := 5) hx hb hts iw_Sha256 hown hK hI.1 9 rfl rfl 4 (by decide) (hts _ tw_108) (fun z h9 => u_same (hts _ tw_109) z h9) rfl d_Sha256_mix_26 ?_
  refine lv_iconst (v := 3) hx hb d_Sha256_mix_29 (by decide) ?_
  obtain ⟨hg, hf⟩ := sd_gd_e hf
  refine k_iald hx hb hK hI 13 0 rfl rfl hg d_Sha256_mix_30 ?_
  refine k_li hf (fun x5 hf => ?_)
  refine lv_istore (lv' := [(4, .int x5), (3, .int x4), (2, .int x3), (1, .int x2), (0, .ref (q 9))]) hx hb d_Sha256_mix_31 hl (by decide) rfl (fun ls hl => ?_)
  refine lv_aload_n hx hb d_Sha256_mix_33 rfl (lv_at hl 4 rfl) ?_
  refine va_get (D := D) (ci := 5) (v := .ref (q 13)) (C := "ScriptDesk$Sha256") (T := T_Sha256) (N := 5) hx hb hts iw_Sha256 hown hK hI.1 9 rfl rfl 4 (by decide) (hts _ tw_108) (fun z h9 => u_same (hts _ tw_109) z h9) rfl d_Sha256_mix_34 ?_
  refine lv_iconst (v := 4) hx hb d_Sha256_mix_37 (by decide) ?_
  obtain ⟨hg, hf⟩ := sd_gd_e hf
  refine k_iald hx hb hK hI 13 0 rfl rfl hg d_Sha256_mix_38 ?_
  refine k_li hf (fun x6 hf => ?_)
  refine lv_istore (lv' := [(5, .int x6), (4, .int x5), (3, .int x4), (2, .int x3), (1, .int x2), (0, .ref (q 9))]) hx hb d_Sha256_mix_39 hl (by decide) rfl (fun ls hl => ?_)
  refine lv_aload_n hx hb d_Sha256_mix_41 rfl (lv_at hl 5 rfl) ?_
  refine va_get (D := D) (ci := 5) (v := .ref (q 13)) (C := "ScriptDesk$Sha256") (T := T_Sha256) (N := 5) hx hb hts iw_Sha256 hown hK hI.1 9 rfl rfl 4 (by decide) (hts _ tw_108) (fun z h9 => u_same (hts _ tw_109) z h9) rfl d_Sha256_mix_42 ?_
  refine lv_iconst (v := 5) hx hb d_Sha256_mix_45 (by decide) ?_
  obtain ⟨hg, hf⟩ := sd_gd_e hf
  refine k_iald hx hb hK hI 13 0 rfl rfl hg d_Sha256_mix_46 ?_
  refine k_li hf (fun x7 hf => ?_)
  refine lv_istore (lv' := [(6, .int x7), (5, .int x6), (4, .int x5), (3, .int x4), (2, .int x3), (1, .int x2), (0, .ref (q 9))]) hx hb d_Sha256_mix_47 hl (by decide) rfl (fun ls hl => ?_)
  refine lv_aload_n hx hb d_Sha256_mix_49 rfl (lv_at hl 6 rfl) ?_
  refine va_get (D := D) (ci := 5) (v := .ref (q 13)) (C := "ScriptDesk$Sha256") (T := T_Sha256) (N := 5) hx hb hts iw_Sha256 hown hK hI.1 9 rfl rfl 4 (by decide) (hts _ tw_108) (fun z h9 => u_same (hts _ tw_109) z h9) rfl d_Sha256_mix_50 ?_
  refine lv_bipush (v := 6) hx hb d_Sha256_mix_53 (by decide) ?_
  obtain ⟨hg, hf⟩ := sd_gd_e hf
  refine k_iald hx hb hK hI 13 0 rfl rfl hg d_Sha256_mix_55 ?_
  refine k_li hf (fun x8 hf => ?_)
  refine lv_istore (lv' := [(7, .int x8), (6, .int x7), (5, .int x6), (4, .int x5), (3, .int x4), (2, .int x3), (1, .int x2), (0, .ref (q 9))]) hx hb d_Sha256_mix_56 hl (by decide) rfl (fun ls hl => ?_)
  refine lv_aload_n hx hb d_Sha256_mix_58 rfl (lv_at hl 7 rfl) ?_
  refine va_get (D := D) (ci := 5) (v := .ref (q 13)) (C := "ScriptDesk$Sha256") (T := T_Sha256) (N := 5) hx hb hts iw_Sha256 hown hK hI.1 9 rfl rfl 4 (by decide) (hts _ tw_108) (fun z h9 => u_same (hts _ tw_109) z h9) rfl d_Sha256_mix_59 ?_
  refine lv_bipush (v := 7) hx hb d_Sha256_mix_62 (by decide) ?_
  obtain ⟨hg, hf⟩ := sd_gd_e hf
  refine k_iald hx hb hK hI 13 0 rfl rfl hg d_Sha256_mix_64 ?_
  refine k_li hf (fun x9 hf => ?_)
  refine lv_istore (lv' := [(8, .int x9), (7, .int x8), (6, .int x7), (5, .int x6), (4, .int x5), (3, .int x4), (2, .int x3), (1, .int x2), (0, .ref (q 9))]) hx hb d_Sha256_mix_65 hl (by decide) rfl (fun ls hl => ?_)
  refine lv_iconst (v := 0) hx hb d_Sha256_mix_67 (by decide) ?_
  refine lv_istore (lv' := [(9, .int (0 : Int32)), (8, .int x9), (7, .int x8), (6, .int x7), (5, .int x6), (4, .int x5), (3, .int x4), (2, .int x3), (1, .int x2), (0, .ref (q 9))]) hx hb d_Sha256_mix_68 hl (by decide) rfl (fun ls hl => ?_)
  refine lp_Sha256_mix_r9_L70 l X ?_ 10000 (x2) (x3) (x4) (x5) (x6) (x7) (x8) (x9) ((0 : Int32)) m1 _ _ _ hI (lv_sub hl [9, 8, 7, 6, 5, 4, 3, 2, 1, 0] rfl) hf
  · intro x28 x29 x30 x31 x32 x33 x34 x35 m36 H locs ls hI hl hf
    refine lv_aload_n hx hb d_Sha256_mix_213 rfl (lv_at hl 0 rfl) ?_
    refine va_get (D := D) (ci := 5) (v := .ref (q 13)) (C := "ScriptDesk$Sha256") (T := T_Sha256) (N := 5) hx hb hts iw_Sha256 hown hK hI.1 9 rfl rfl 4 (by decide) (hts _ tw_108) (fun z h9 => u_same (hts _ tw_109) z h9) rfl d_Sha256_mix_214 ?_
    refine lv_iconst (v := 0) hx hb d_Sha256_mix_217 (by decide) ?_
    refine lv_dup2_11 hx hb d_Sha256_mix_218 rfl rfl ?_
    obtain ⟨hg, hf⟩ := sd_gd_e hf
    refine k_iald hx hb hK hI 13 0 rfl rfl hg d_Sha256_mix_219 ?_
    refine lv_iload_n hx hb d_Sha256_mix_220 rfl (lv_at hl 1 rfl) ?_
    refine lv_iadd hx hb d_Sha256_mix_221 ?_
    obtain ⟨hg, hf⟩ := sd_gd_e hf
    refine k_iast (μ' := sd_st m36 13 (Int32.toNatClampNeg (0 : Int32)) ((m36.1 13 (Int32.toNatClampNeg (0 : Int32))) + x28)) hx hb hK hI 13 0 rfl rfl rfl hg d_Sha256_mix_222 (fun H locs hI => ?_)
    obtain ⟨m37, hI, hf⟩ := k_lm hf hI
    refine lv_aload_n hx hb d_Sha256_mix_223 rfl (lv_at hl 0 rfl) ?_
    refine va_get (D := D) (ci := 5) (v := .ref (q 13)) (C := "ScriptDesk$Sha256") (T := T_Sha256) (N := 5) hx hb hts iw_Sha256 hown hK hI.1 9 rfl rfl 4 (by decide) (hts _ tw_108) (fun z h9 => u_same (hts _ tw_109) z h9) rfl d_Sha256_mix_224 ?_
    refine lv_iconst (v := 1) hx hb d_Sha256_mix_227 (by decide) ?_
    refine lv_dup2_11 hx hb d_Sha256_mix_228 rfl rfl ?_
    obtain ⟨hg, hf⟩ := sd_gd_e hf
    refine k_iald hx hb hK hI 13 0 rfl rfl hg d_Sha256_mix_229 ?_
    refine lv_iload_n hx hb d_Sha256_mix_230 rfl (lv_at hl 2 rfl) ?_
    refine lv_iadd hx hb d_Sha256_mix_231 ?_
    obtain ⟨hg, hf⟩ := sd_gd_e hf
    refine k_iast (μ' := sd_st m37 13 (Int32.toNatClampNeg (1 : Int32)) ((m37.1 13 (Int32.toNatClampNeg (1 : Int32))) + x29)) hx hb hK hI 13 0 rfl rfl rfl hg d_Sha256_mix_232 (fun H locs hI => ?_)
    obtain ⟨m38, hI, hf⟩ := k_lm hf hI
    refine lv_aload_n hx hb d_Sha256_mix_233 rfl (lv_at hl 0 rfl) ?_
    refine va_get (D := D) (ci := 5) (v := .ref (q 13)) (C := "ScriptDesk$Sha256") (T := T_Sha256) (N := 5) hx hb hts iw_Sha256 hown hK hI.1 9 rfl rfl 4 (by decide) (hts _ tw_108) (fun z h9 => u_same (hts _ tw_109) z h9) rfl d_Sha256_mix_234 ?_
    refine lv_iconst (v := 2) hx hb d_Sha256_mix_237 (by decide) ?_
    refine lv_dup2_11 hx hb d_Sha256_mix_238 rfl rfl ?_
    obtain ⟨hg, hf⟩ := sd_gd_e hf
    refine k_iald hx hb hK hI 13 0 rfl rfl hg d_Sha256_mix_239 ?_
    refine lv_iload_n hx hb d_Sha256_mix_240 rfl (lv_at hl 3 rfl) ?_
    refine lv_iadd hx hb d_Sha256_mix_241 ?_
    obtain ⟨hg, hf⟩ := sd_gd_e hf
    refine k_iast (μ' := sd_st m38 13 (Int32.toNatClampNeg (2 : Int32)) ((m38.1 13 (Int32.toNatClampNeg (2 : Int32))) + x30)) hx hb hK hI 13 0 rfl rfl rfl hg d_Sha256_mix_242 (fun H locs hI => ?_)
    obtain ⟨m39, hI, hf⟩ := k_lm hf hI
    refine lv_aload_n hx hb d_Sha256_mix_243 rfl (lv_at hl 0 rfl) ?_
    refine va_get (D := D) (ci := 5) (v := .ref (q 13)) (C := "ScriptDesk$Sha256") (T := T_Sha256) (N := 5) hx hb hts iw_Sha256 hown hK hI.1 9 rfl rfl 4 (by decide) (hts _ tw_108) (fun z h9 => u_same (hts _ tw_109) z h9) rfl d_Sha256_mix_244 ?_
    refine lv_iconst (v := 3) hx hb d_Sha256_mix_247 (by decide) ?_
    refine lv_dup2_11 hx hb d_Sha256_mix_248 rfl rfl ?_
    obtain ⟨hg, hf⟩ := sd_gd_e hf
    refine k_iald hx hb hK hI 13 0 rfl rfl hg d_Sha256_mix_249 ?_
    refine lv_iload hx hb d_Sha256_mix_250 (lv_at hl 4 rfl) ?_
    refine lv_iadd hx hb d_Sha256_mix_252 ?_
    obtain ⟨hg, hf⟩ := sd_gd_e hf
    refine k_iast (μ' := sd_st m39 13 (Int32.toNatClampNeg (3 : Int32)) ((m39.1 13 (Int32.toNatClampNeg (3 : Int32))) + x31)) hx hb hK hI 13 0 rfl rfl rfl hg d_Sha256_mix_253 (fun H locs hI => ?_)
    obtain ⟨m40, hI, hf⟩ := k_lm hf hI
    refine lv_aload_n hx hb d_Sha256_mix_254 rfl (lv_at hl 0 rfl) ?_
    refine va_get (D := D) (ci := 5) (v := .ref (q 13)) (C := "ScriptDesk$Sha256") (T := T_Sha256) (N := 5) hx hb hts iw_Sha256 hown hK hI.1 9 rfl rfl 4 (by decide) (hts _ tw_108) (fun z h9 => u_same (hts _ tw_109) z h9) rfl d_Sha256_mix_255 ?_
    refine lv_iconst (v := 4) hx hb d_Sha256_mix_258 (by decide) ?_
    refine lv_dup2_11 hx hb d_Sha256_mix_259 rfl rfl ?_
    obtain ⟨hg, hf⟩ := sd_gd_e hf
    refine k_iald hx hb hK hI 13 0 rfl rfl hg d_Sha256_mix_260 ?_
    refine lv_iload hx hb d_Sha256_mix_261 (lv_at hl 5 rfl) ?_
    refine lv_iadd hx hb d_Sha256_mix_263 ?_
    obtain ⟨hg, hf⟩ := sd_gd_e hf
    refine k_iast (μ' := sd_st m40 13 (Int32.toNatClampNeg (4 : Int32)) ((m40.1 13 (Int32.toNatClampNeg (4 : Int32))) + x32)) hx hb hK hI 13 0 rfl rfl rfl hg d_Sha256_mix_264 (fun H locs hI => ?_)
    obtain ⟨m41, hI, hf⟩ := k_lm hf hI
    refine lv_aload_n hx hb d_Sha256_mix_265 rfl (lv_at hl 0 rfl) ?_
    refine va_get (D := D) (ci := 5) (v := .ref (q 13)) (C := "ScriptDesk$Sha256") (T := T_Sha256) (N := 5) hx hb hts iw_Sha256 hown hK hI.1 9 rfl rfl 4 (by decide) (hts _ tw_108) (fun z h9 => u_same (hts _ tw_109) z h9) rfl d_Sha256_mix_266 ?_
    refine lv_iconst (v := 5) hx hb d_Sha256_mix_269 (by decide) ?_
    refine lv_dup2_11 hx hb d_Sha256_mix_270 rfl rfl ?_
    obtain ⟨hg, hf⟩ := sd_gd_e hf
    refine k_iald hx hb hK hI 13 0 rfl rfl hg d_Sha256_mix_271 ?_
    refine lv_iload hx hb d_Sha256_mix_272 (lv_at hl 6 rfl) ?_
    refine lv_iadd hx hb d_Sha256_mix_274 ?_
    obtain ⟨hg, hf⟩ := sd_gd_e hf
    refine k_iast (μ' := sd_st m41 13 (Int32.toNatClampNeg (5 : Int32)) ((m41.1 13 (Int32.toNatClampNeg (5 : Int32))) + x33)) hx hb hK hI 13 0 rfl rfl rfl hg d_Sha256_mix_275 (fun H locs hI => ?_)
    obtain ⟨m42, hI, hf⟩ := k_lm hf hI
    refine lv_aload_n hx hb d_Sha256_mix_276 rfl (lv_at hl 0 rfl) ?_
    refine va_get (D := D) (ci := 5) (v := .ref (q 13)) (C := "ScriptDesk$Sha256") (T := T_Sha256) (N := 5) hx hb hts iw_Sha256 hown hK hI.1 9 rfl rfl 4 (by decide) (hts _ tw_108) (fun z h9 => u_same (hts _ tw_109) z h9) rfl d_Sha256_mix_277 ?_
    refine lv_bipush (v := 6) hx hb d_Sha256_mix_280 (by decide) ?_
    refine lv_dup2_11 hx hb d_Sha256_mix_282 rfl rfl ?_
    obtain ⟨hg, hf⟩ := sd_gd_e hf
    refine k_iald hx hb hK hI 13 0 rfl rfl hg d_Sha256_mix_283 ?_
    refine lv_iload hx hb d_Sha256_mix_284 (lv_at hl 7 rfl) ?_
    refine lv_iadd hx hb d_Sha256_mix_286 ?_
    obtain ⟨hg, hf⟩ := sd_gd_e hf
    refine k_iast (μ' := sd_st m42 13 (Int32.toNatClampNeg (6 : Int32)) ((m42.1 13 (Int32.toNatClampNeg (6 : Int32))) + x34)) hx hb hK hI 13 0 rfl rfl rfl hg d_Sha256_mix_287 (fun H locs hI => ?_)
    obtain ⟨m43, hI, hf⟩ := k_lm hf hI
    refine lv_aload_n hx hb d_Sha256_mix_288 rfl (lv_at hl 0 rfl) ?_
    refine va_get (D := D) (ci := 5) (v := .ref (q 13)) (C := "ScriptDesk$Sha256") (T := T_Sha256) (N := 5) hx hb hts iw_Sha256 hown hK hI.1 9 rfl rfl 4 (by decide) (hts _ tw_108) (fun z h9 => u_same (hts _ tw_109) z h9) rfl d_Sha256_mix_289 ?_
    refine lv_bipush (v := 7) hx hb d_Sha256_mix_292 (by decide) ?_
    refine lv_dup2_11 hx hb d_Sha256_mix_294 rfl rfl ?_
    obtain ⟨hg, hf⟩ := sd_gd_e hf
    refine k_iald hx hb hK hI 13 0 rfl rfl hg d_Sha256_mix_295 ?_
    refine lv_iload hx hb d_Sha256_mix_296 (lv_at hl 8 rfl) ?_
    refine lv_iadd hx hb d_Sha256_mix_298 ?_
    obtain ⟨hg, hf⟩ := sd_gd_e hf
    refine k_iast (μ' := sd_st m43 13 (Int32.toNatClampNeg (7 : Int32)) ((m43.1 13 (Int32.toNatClampNeg (7 : Int32))) + x35)) hx hb hK hI 13 0 rfl rfl rfl hg d_Sha256_mix_299 (fun H locs hI => ?_)
    obtain ⟨m44, hI, hf⟩ := k_lm hf hI
    exact k_retv X hI hf d_Sha256_mix_300
set_option maxHeartbeats 4000000 in
set_option maxRecDepth 100000 in
theorem lp_BlockDigest_write_r9_r11_L16 (l : Launch) {p : Program} {e : Env} {s : State} {m : MethodId} {args : Array Value} {below : List Frame} {meth : Method} {c : Code} {A : Nat → Prop} {D : va_G} {q tq : Nat → Nat} {cA : ClassId} {ru : sd_Me} (X : sd_Cx p s m args meth c prog_2_method_7_code "ScriptDesk$BlockDigest" sx_tbl 5 none vwCl D [(cA, .int)] (ZX tq) A) {k46 : sd_Me → Option (sd_Me)} (hk46 : ∀ (μ : sd_Me) (H : Heap) (locs : List Loc) (ls : Array Slot), sd_CI vwCl (wdX q cA) D A s H locs μ → lv_has ls 5 [] → k46 μ = some ru → W p l e ({ frames := 1, cells := 0, slots := 0, locals := 21 }) s m args below meth c H locs 0 0 (sd_QV below vwCl (wdX q cA) D [(cA, .int)] A args s ru) (F0 m 46 ls [])) :
    ∀ (n : Nat) (v1 : Int32) (v3 : Int32) (v4 : Int32) (μ : sd_Me) (H : Heap) (locs : List Loc) (ls : Array Slot), sd_CI vwCl (wdX q cA) D A s H locs μ → lv_has ls 5 [(0, .ref (q 9)), (1, .int v1), (2, .ref (q 11)), (3, .int v3), (4, .int v4)] → fn_BlockDigest_write_r9_r11_L16 k46 n v1 v3 v4 μ = some ru → W p l e ({ frames := 1, cells := 0, slots := 0, locals := 21 }) s m args below meth c H locs 0 0 (sd_QV below vwCl (wdX q cA) D [(cA, .int)] A args s ru) (F0 m 16 ls []) := by
  obtain ⟨hx, hb, hml, hown, hts, hK, hZ, hA, hr, hlocks⟩ := id X
  intro n
  induction n with
  | zero =>
    intro v1 v3 v4 μ H locs ls hI hl hf
    cases hf
  | succ n ih =>
    intro v1 v3 v4 μ H locs ls hI hl hf
    rw [fn_BlockDigest_write_r9_r11_L16] at hf
    refine lv_iload hx hb d_BlockDigest_write_16 (lv_at hl 4 rfl) ?_
    refine lv_iconst (v := 4) hx hb d_BlockDigest_write_18 (by decide) ?_
    refine lv_icmp_ge (tgt := 46) hx hb d_BlockDigest_write_19 (by decide) (fun hc => ?_) (fun hc => ?_)
    · have hf := sd_t hf hc
      exact hk46  μ _ _ _ hI (lv_sub hl [] rfl) hf
    · have hf := sd_f hf hc
      refine lv_aload_n hx hb d_BlockDigest_write_22 rfl (lv_at hl 2 rfl) ?_
      refine lv_iload_n hx hb d_BlockDigest_write_23 rfl (lv_at hl 3 rfl) ?_
      refine lv_iload hx hb d_BlockDigest_write_24 (lv_at hl 4 rfl) ?_
      refine lv_iadd hx hb d_BlockDigest_write_26 ?_
      refine lv_iload_n hx hb d_BlockDigest_write_27 rfl (lv_at hl 1 rfl) ?_
      refine lv_aload_n hx hb d_BlockDigest_write_28 rfl (lv_at hl 0 rfl) ?_
      refine lv_iload hx hb d_BlockDigest_write_29 (lv_at hl 4 rfl) ?_
      obtain ⟨x2, m1, hq, hf⟩ := sd_bi_e hf
      refine k_callU (As := [.int v4]) (rest := [.int v1, .int (v3 + v4), .ref (q 11)]) (C := "ScriptDesk$Sha256") (ci := 5) ZX_ok X hI (mt_BlockDigest_shiftOf_r9 l hq) (va_cwU 1 hts (gd_U tw_392 tw_799 sp_4 tw_394 tw_6 tw_395) rfl rfl rfl rfl (by decide +kernel) ⟨Nat.le_of_ble_eq_true rfl, Nat.le_of_ble_eq_true rfl⟩) 9 rfl rfl rfl hl.1 rfl (Nat.le_of_ble_eq_true rfl) d_BlockDigest_write_31 ⟨Nat.zero_le _, Nat.zero_le _⟩ (fun H locs hn_x2 hI => ?_)
      refine lv_iushr (v := (sd_usr v1 x2)) hx hb d_BlockDigest_write_34 rfl ?_
      refine lv_sipush (v := 255) hx hb d_BlockDigest_write_35 (by decide) ?_
      refine lv_iand hx hb d_BlockDigest_write_38 ?_
      obtain ⟨hg, hf⟩ := sd_gd_e hf
      refine k_iast (μ' := sd_st m1 11 (Int32.toNatClampNeg (v3 + v4)) ((sd_usr v1 x2) &&& (255 : Int32))) hx hb hK hI 11 0 rfl rfl rfl hg d_BlockDigest_write_39 (fun H locs hI => ?_)
      obtain ⟨m3, hI, hf⟩ := k_lm hf hI
      refine lv_iinc (v := (v4 + (1 : Int32))) (lv' := [(4, .int (v4 + (1 : Int32))), (0, .ref (q 9)), (1, .int v1), (2, .ref (q 11)), (3, .int v3)]) hx hb d_BlockDigest_write_40 hl (k := 4) rfl rfl (by decide) rfl (fun ls hl => ?_)
      refine lv_goto (tgt := 16) hx hb d_BlockDigest_write_43 (by decide) ?_
      exact ih (v1) (v3) ((v4 + (1 : Int32))) m3 _ _ _ hI (lv_sub hl [1, 2, 3, 4, 0] rfl) hf
set_option maxHeartbeats 4000000 in
set_option maxRecDepth 100000 in
theorem mt_BlockDigest_write_r9_r11 (l : Launch) {D : va_G} {q tq : Nat → Nat} {cA : ClassId} {a1 : Int32} {a3 : Int32} {μ : sd_Me} {ru : sd_Me} (hf : fn_BlockDigest_write_r9_r11 a1 a3 μ = some ru) : sd_CTv l y_BlockDigest_write w_BlockDigest_write ({ frames := 1, cells := 0, slots := 0, locals := 21 }) vwCl (wdX q cA) D [(cA, .int)] (ZX tq) [.ref (q 9), .int a1, .ref (q 11), .int a3] μ ru := by
  refine k_entv (cc := prog_2_method_7_code) 5 (by decide) rfl (Nat.le_of_ble_eq_true rfl) ?_
  intro p e s m below meth c A ls X hI hl
  have hl : lv_has ls 5 [(0, .ref (q 9)), (1, .int a1), (2, .ref (q 11)), (3, .int a3)] := hl
  obtain ⟨hx, hb, hml, hown, hts, hK, hZ, hA, hr, hlocks⟩ := id X
  unfold fn_BlockDigest_write_r9_r11 at hf
  refine lv_iload_n hx hb d_BlockDigest_write_0 rfl (lv_at hl 3 rfl) ?_
  refine lv_if_lt (tgt := 12) hx hb d_BlockDigest_write_1 (by decide) (fun hc => ?_) (fun hc => ?_)
  · have hf := sd_t hf hc
    exact k_retv X hI hf d_BlockDigest_write_12
  · have hf := sd_f hf hc
    refine lv_iload_n hx hb d_BlockDigest_write_4 rfl (lv_at hl 3 rfl) ?_
    refine lv_aload_n hx hb d_BlockDigest_write_5 rfl (lv_at hl 2 rfl) ?_
    refine va_alen (v := 32) hx hb hK hI.1 11 0 rfl rfl (show Int32.ofNat 32 = 32 by decide) d_BlockDigest_write_6 ?_
    refine lv_iconst (v := 4) hx hb d_BlockDigest_write_7 (by decide) ?_
    refine lv_isub hx hb d_BlockDigest_write_8 ?_
    refine lv_icmp_le (tgt := 13) hx hb d_BlockDigest_write_9 (by decide) (fun hc => ?_) (fun hc => ?_)
    · have hf := sd_t hf hc
      refine lv_iconst (v := 0) hx hb d_BlockDigest_write_13 (by decide) ?_
      refine lv_istore (lv' := [(4, .int (0 : Int32)), (0, .ref (q 9)), (1, .int a1), (2, .ref (q 11)), (3, .int a3)]) hx hb d_BlockDigest_write_14 hl (by decide) rfl (fun ls hl => ?_)
      refine lp_BlockDigest_write_r9_r11_L16 l X ?_ 10000 (a1) (a3) ((0 : Int32)) μ _ _ _ hI (lv_sub hl [1, 2, 3, 4, 0] rfl) hf
      · intro m4 H locs ls hI hl hf
        exact k_retv X hI hf d_BlockDigest_write_46
    · have hf := sd_f hf hc
      exact k_retv X hI hf d_BlockDigest_write_12
set_option maxHeartbeats 4000000 in
set_option maxRecDepth 100000 in
theorem mt_Elements_push_r2_r11 (l : Launch) {D : va_G} {q tq : Nat → Nat} {cA : ClassId} {a2 : Int32} {a3 : Int32} {μ : sd_Me} {ru : sd_Me} (hf : fn_Elements_push_r2_r11 a2 a3 μ = some ru) : sd_CTv l y_Elements_push w_Elements_push ({ frames := 1, cells := 0, slots := 0, locals := 35 }) vwCl (wdX q cA) D [(cA, .int)] (ZX tq) [.ref (q 2), .ref (q 11), .int a2, .int a3] μ ru := by
  refine k_entv (cc := prog_3_method_11_code) 5 (by decide) rfl (Nat.le_of_ble_eq_true rfl) ?_
  intro p e s m below meth c A ls X hI hl
  have hl : lv_has ls 5 [(0, .ref (q 2)), (1, .ref (q 11)), (2, .int a2), (3, .int a3)] := hl
  obtain ⟨hx, hb, hml, hown, hts, hK, hZ, hA, hr, hlocks⟩ := id X
  unfold fn_Elements_push_r2_r11 at hf
  refine lv_iload_n hx hb d_Elements_push_0 rfl (lv_at hl 2 rfl) ?_
  refine lv_if_lt (tgt := 36) hx hb d_Elements_push_1 (by decide) (fun hc => ?_) (fun hc => ?_)
  · have hf := sd_t hf hc
    exact k_retv X hI hf d_Elements_push_36
  · have hf := sd_f hf hc
    refine lv_iload_n hx hb d_Elements_push_4 rfl (lv_at hl 3 rfl) ?_
    refine lv_if_lt (tgt := 36) hx hb d_Elements_push_5 (by decide) (fun hc => ?_) (fun hc => ?_)
    · have hf := sd_t hf hc
      exact k_retv X hI hf d_Elements_push_36
    · have hf := sd_f hf hc
      refine lv_iload_n hx hb d_Elements_push_8 rfl (lv_at hl 3 rfl) ?_
      refine lv_bipush (v := 120) hx hb d_Elements_push_9 (by decide) ?_
      refine lv_icmp_gt (tgt := 36) hx hb d_Elements_push_11 (by decide) (fun hc => ?_) (fun hc => ?_)
      · have hf := sd_t hf hc
        exact k_retv X hI hf d_Elements_push_36
      · have hf := sd_f hf hc
        refine lv_iload_n hx hb d_Elements_push_14 rfl (lv_at hl 3 rfl) ?_
        refine lv_aload_n hx hb d_Elements_push_15 rfl (lv_at hl 1 rfl) ?_
        refine va_alen (v := 32) hx hb hK hI.1 11 0 rfl rfl (show Int32.ofNat 32 = 32 by decide) d_Elements_push_16 ?_
        refine lv_iload_n hx hb d_Elements_push_17 rfl (lv_at hl 2 rfl) ?_
        refine lv_isub hx hb d_Elements_push_18 ?_
        refine lv_icmp_gt (tgt := 36) hx hb d_Elements_push_19 (by decide) (fun hc => ?_) (fun hc => ?_)
        · have hf := sd_t hf hc
          exact k_retv X hI hf d_Elements_push_36
        · have hf := sd_f hf hc
          refine lv_aload_n hx hb d_Elements_push_22 rfl (lv_at hl 0 rfl) ?_
          refine va_get (D := D) (ci := 1) (v := .int (μ.1 2 4)) (C := "ScriptDesk$Elements") (T := T_Elements) (N := 5) hx hb hts iw_Elements hown hK hI.1 2 rfl rfl 4 (by decide) (hts _ tw_33) (fun _ h9 => h9) rfl d_Elements_push_23 ?_
          refine lv_aload_n hx hb d_Elements_push_26 rfl (lv_at hl 0 rfl) ?_
          refine va_get (D := D) (ci := 1) (v := .int (μ.1 2 3)) (C := "ScriptDesk$Elements") (T := T_Elements) (N := 5) hx hb hts iw_Elements hown hK hI.1 2 rfl rfl 3 (by decide) (hts _ tw_32) (fun _ h9 => h9) rfl d_Elements_push_27 ?_
          refine lv_iadd hx hb d_Elements_push_30 ?_
          refine lv_bipush (v := 64) hx hb d_Elements_push_31 (by decide) ?_
          refine lv_icmp_lt (tgt := 37) hx hb d_Elements_push_33 (by decide) (fun hc => ?_) (fun hc => ?_)
          · have hf := sd_t hf hc
            refine lv_aload_n hx hb d_Elements_push_37 rfl (lv_at hl 0 rfl) ?_
            refine va_get (D := D) (ci := 1) (v := .ref (q 5)) (C := "ScriptDesk$Elements") (T := T_Elements) (N := 5) hx hb hts iw_Elements hown hK hI.1 2 rfl rfl 2 (by decide) (hts _ tw_31) (fun _ h9 => h9) rfl d_Elements_push_38 ?_
            refine lv_aload_n hx hb d_Elements_push_41 rfl (lv_at hl 0 rfl) ?_
            refine va_get (D := D) (ci := 1) (v := .int (μ.1 2 4)) (C := "ScriptDesk$Elements") (T := T_Elements) (N := 5) hx hb hts iw_Elements hown hK hI.1 2 rfl rfl 4 (by decide) (hts _ tw_33) (fun _ h9 => h9) rfl d_Elements_push_42 ?_
            obtain ⟨hg, hf⟩ := sd_gd_e hf
            refine k_iald hx hb hK hI 5 0 rfl rfl hg d_Elements_push_45 ?_
            refine k_li hf (fun x1 hf => ?_)
            refine lv_istore (lv' := [(4, .int x1), (0, .ref (q 2)), (1, .ref (q 11)), (2, .int a2), (3, .int a3)]) hx hb d_Elements_push_46 hl (by decide) rfl (fun ls hl => ?_)
            refine lv_aload_n hx hb d_Elements_push_48 rfl (lv_at hl 2 rfl) ?_
            refine lv_iload_n hx hb d_Elements_push_49 rfl (lv_at hl 3 rfl) ?_
            refine lv_aload_n hx hb d_Elements_push_50 rfl (lv_at hl 1 rfl) ?_
            refine va_get (D := D) (ci := 1) (v := .ref (q 3)) (C := "ScriptDesk$Elements") (T := T_Elements) (N := 5) hx hb hts iw_Elements hown hK hI.1 2 rfl rfl 0 (by decide) (hts _ tw_29) (fun _ h9 => h9) rfl d_Elements_push_51 ?_
            refine lv_iload hx hb d_Elements_push_54 (lv_at hl 0 rfl) ?_
            refine lv_bipush (v := 120) hx hb d_Elements_push_56 (by decide) ?_
            refine lv_imul hx hb d_Elements_push_58 ?_
            refine lv_iload_n hx hb d_Elements_push_59 rfl (lv_at hl 4 rfl) ?_
            obtain ⟨hg, hf⟩ := sd_gd_e hf
            refine k_copy (μ' := sd_mrow μ 3 (va_cpy (μ.1 11) (μ.1 3) (Int32.toNatClampNeg a2) (Int32.toNatClampNeg (x1 * (120 : Int32))) (Int32.toNatClampNeg a3))) hx hb (hml.trans hl.1.symm) hown (hts _ tw_203) (hts _ tw_205) (hts _ tw_204) (hts _ tw_10) hK hI 11 3 0 0 rfl rfl rfl rfl rfl hg (Nat.le_of_ble_eq_true rfl) (Nat.le_of_ble_eq_true rfl) d_Elements_push_60 (fun H locs hI => ?_)
            obtain ⟨m2, hI, hf⟩ := k_lm hf hI
            refine lv_aload_n hx hb d_Elements_push_63 rfl (lv_at hl 1 rfl) ?_
            refine va_get (D := D) (ci := 1) (v := .ref (q 4)) (C := "ScriptDesk$Elements") (T := T_Elements) (N := 5) hx hb hts iw_Elements hown hK hI.1 2 rfl rfl 1 (by decide) (hts _ tw_30) (fun _ h9 => h9) rfl d_Elements_push_64 ?_
            refine lv_iload hx hb d_Elements_push_67 (lv_at hl 0 rfl) ?_
            refine lv_iload_n hx hb d_Elements_push_69 rfl (lv_at hl 4 rfl) ?_
            obtain ⟨hg, hf⟩ := sd_gd_e hf
            refine k_iast (μ' := sd_st m2 4 (Int32.toNatClampNeg x1) a3) hx hb hK hI 4 0 rfl rfl rfl hg d_Elements_push_70 (fun H locs hI => ?_)
            obtain ⟨m3, hI, hf⟩ := k_lm hf hI
            refine lv_aload_n hx hb d_Elements_push_71 rfl (lv_at hl 1 rfl) ?_
            refine lv_dup hx hb d_Elements_push_72 rfl ?_
            refine va_get (D := D) (ci := 1) (v := .int (m3.1 2 4)) (C := "ScriptDesk$Elements") (T := T_Elements) (N := 5) hx hb hts iw_Elements hown hK hI.1 2 rfl rfl 4 (by decide) (hts _ tw_33) (fun _ h9 => h9) rfl d_Elements_push_73 ?_
            refine lv_iconst (v := 1) hx hb d_Elements_push_76 (by decide) ?_
            refine lv_iadd hx hb d_Elements_push_77 ?_
            refine k_put (ci := 1) (v := .int ((m3.1 2 4) + (1 : Int32))) (ty := .int) (C := "ScriptDesk$Elements") (T := T_Elements) (N := 5) (μ' := sd_st m3 2 4 ((m3.1 2 4) + (1 : Int32))) hx hb hts iw_Elements t_Elements t_Elements_ok n_Elements hown hK hI 2 rfl rfl 4 (by decide) (hts _ tw_33) (fun _ h9 => h9) rfl (by decide +kernel) rfl rfl (Nat.le_of_ble_eq_true rfl) rfl d_Elements_push_78 (fun H locs hI => ?_)
            obtain ⟨m4, hI, hf⟩ := k_lm hf hI
            exact k_retv X hI hf d_Elements_push_81
          · have hf := sd_f hf hc
            exact k_retv X hI hf d_Elements_push_36
