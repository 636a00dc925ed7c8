set_option maxHeartbeats 4000000 in
set_option maxRecDepth 100000 in
theorem lp_BlockDigest_replaceTop_r9_r2_L31 (l : Launch) {p : Program} {e : Env} {s : State} {m : MethodId} {args : Array Value} {below : List Frame} {meth : Method} {c : Code} {A : Nat → Prop} {D : va_G} {q tq : Nat → Nat} {cA : ClassId} {ru : sd_Me} (X : sd_Cx p s m args meth c prog_2_method_4_code "ScriptDesk$BlockDigest" sx_tbl 5 none vwCl D [(cA, .int)] (ZX tq) A) {k53 : sd_Me → Option (sd_Me)} (hk53 : ∀ (μ : sd_Me) (H : Heap) (locs : List Loc) (ls : Array Slot), sd_CI vwCl (wdX q cA) D A s H locs μ → lv_has ls 5 [(0, .ref (q 9)), (1, .ref (q 2))] → k53 μ = some ru → W p l e ({ frames := 3, cells := 0, slots := 0, locals := 79 }) s m args below meth c H locs 0 0 (sd_QV below vwCl (wdX q cA) D [(cA, .int)] A args s ru) (F0 m 53 ls [])) :
    ∀ (n : Nat) (v3 : Int32) (v4 : Int32) (μ : sd_Me) (H : Heap) (locs : List Loc) (ls : Array Slot), sd_CI vwCl (wdX q cA) D A s H locs μ → lv_has ls 5 [(0, .ref (q 9)), (1, .ref (q 2)), (3, .int v3), (4, .int v4)] → fn_BlockDigest_replaceTop_r9_r2_L31 k53 n v3 v4 μ = some ru → W p l e ({ frames := 3, cells := 0, slots := 0, locals := 79 }) s m args below meth c H locs 0 0 (sd_QV below vwCl (wdX q cA) D [(cA, .int)] A args s ru) (F0 m 31 ls []) := by
  obtain ⟨hx, hb, hml, hown, hts, hK, hZ, hA, hr, hlocks⟩ := id X
  intro n
  induction n with
  | zero =>
    intro v3 v4 μ H locs ls hI hl hf
    cases hf
  | succ n ih =>
    intro v3 v4 μ H locs ls hI hl hf
    rw [fn_BlockDigest_replaceTop_r9_r2_L31] at hf
    refine lv_iload hx hb d_BlockDigest_replaceTop_31 (lv_at hl 3 rfl) ?_
    refine lv_iload_n hx hb d_BlockDigest_replaceTop_33 rfl (lv_at hl 2 rfl) ?_
    refine lv_icmp_ge (tgt := 53) hx hb d_BlockDigest_replaceTop_34 (by decide) (fun hc => ?_) (fun hc => ?_)
    · have hf := sd_t hf hc
      exact hk53  μ _ _ _ hI (lv_sub hl [0, 1] rfl) hf
    · have hf := sd_f hf hc
      refine lv_aload_n hx hb d_BlockDigest_replaceTop_37 rfl (lv_at hl 0 rfl) ?_
      refine lv_iload hx hb d_BlockDigest_replaceTop_38 (lv_at hl 3 rfl) ?_
      obtain ⟨m6, hq, hf⟩ := sd_bv_e hf
      refine k_callUv (As := [.int v4]) (rest := []) (C := "ScriptDesk$Sha256") (ci := 5) ZX_ok X hI (mt_BlockDigest_readBlock_r9 l hq) (va_cwU 1 hts (gd_U tw_411 tw_800 sp_7 tw_413 tw_6 tw_414) rfl rfl rfl rfl (by decide +kernel) ⟨Nat.le_of_ble_eq_true rfl, Nat.le_of_ble_eq_true rfl⟩) 9 rfl rfl rfl hl.1 rfl (Nat.le_of_ble_eq_true rfl) d_BlockDigest_replaceTop_40 ⟨Nat.zero_le _, Nat.zero_le _⟩ (fun H locs hI => ?_)
      refine lv_aload_n hx hb d_BlockDigest_replaceTop_43 rfl (lv_at hl 0 rfl) ?_
      obtain ⟨m7, hq, hf⟩ := sd_bv_e hf
      refine k_callUv (As := []) (rest := []) (C := "ScriptDesk$Sha256") (ci := 5) ZX_ok X hI (mt_Sha256_mix_r9 l hq) (va_cwA 0 hts (gd_U tw_415 tw_417 tw_442 tw_443 tw_7 tw_444) rfl rfl rfl (hZX_D1 hZ) (by decide +kernel) ⟨Nat.le_of_ble_eq_true rfl, Nat.le_of_ble_eq_true rfl⟩) 9 rfl rfl rfl hl.1 rfl (Nat.le_of_ble_eq_true rfl) d_BlockDigest_replaceTop_44 ⟨Nat.zero_le _, Nat.zero_le _⟩ (fun H locs hI => ?_)
      refine lv_iinc (v := (v4 + (64 : Int32))) (lv' := [(4, .int (v4 + (64 : Int32))), (0, .ref (q 9)), (1, .ref (q 2)), (3, .int v3)]) hx hb d_BlockDigest_replaceTop_47 hl (k := 3) rfl rfl (by decide) rfl (fun ls hl => ?_)
      refine lv_goto (tgt := 31) hx hb d_BlockDigest_replaceTop_50 (by decide) ?_
      exact ih (v3) ((v4 + (64 : Int32))) m7 _ _ _ hI (lv_sub hl [1, 2, 3, 0] rfl) hf
set_option maxHeartbeats 4000000 in
set_option maxRecDepth 100000 in
theorem lp_BlockDigest_replaceTop_r9_r2_L56 (l : Launch) {p : Program} {e : Env} {s : State} {m : MethodId} {args : Array Value} {below : List Frame} {meth : Method} {c : Code} {A : Nat → Prop} {D : va_G} {q tq : Nat → Nat} {cA : ClassId} {ru : sd_Me} (X : sd_Cx p s m args meth c prog_2_method_4_code "ScriptDesk$BlockDigest" sx_tbl 5 none vwCl D [(cA, .int)] (ZX tq) A) {k91 : sd_Me → Option (sd_Me)} (hk91 : ∀ (μ : sd_Me) (H : Heap) (locs : List Loc) (ls : Array Slot), sd_CI vwCl (wdX q cA) D A s H locs μ → lv_has ls 5 [(0, .ref (q 9)), (1, .ref (q 2))] → k91 μ = some ru → W p l e ({ frames := 3, cells := 0, slots := 0, locals := 79 }) s m args below meth c H locs 0 0 (sd_QV below vwCl (wdX q cA) D [(cA, .int)] A args s ru) (F0 m 91 ls [])) :
    ∀ (n : Nat) (v4 : Int32) (μ : sd_Me) (H : Heap) (locs : List Loc) (ls : Array Slot), sd_CI vwCl (wdX q cA) D A s H locs μ → lv_has ls 5 [(0, .ref (q 9)), (1, .ref (q 2)), (4, .int v4)] → fn_BlockDigest_replaceTop_r9_r2_L56 k91 n v4 μ = some ru → W p l e ({ frames := 3, cells := 0, slots := 0, locals := 79 }) s m args below meth c H locs 0 0 (sd_QV below vwCl (wdX q cA) D [(cA, .int)] A args s ru) (F0 m 56 ls []) := by
  obtain ⟨hx, hb, hml, hown, hts, hK, hZ, hA, hr, hlocks⟩ := id X
  intro n
  induction n with
  | zero =>
    intro v4 μ H locs ls hI hl hf
    cases hf
  | succ n ih =>
    intro v4 μ H locs ls hI hl hf
    rw [fn_BlockDigest_replaceTop_r9_r2_L56] at hf
    refine lv_iload hx hb d_BlockDigest_replaceTop_56 (lv_at hl 2 rfl) ?_
    refine lv_aload_n hx hb d_BlockDigest_replaceTop_58 rfl (lv_at hl 0 rfl) ?_
    refine va_get (D := D) (ci := 5) (v := .ref (q 13)) (C := "ScriptDesk$Sha256") (T := T_Sha256) (N := 5) hx hb hts iw_Sha256 hown hK hI.1 9 rfl rfl 4 (by decide) (hts _ tw_105) (fun _ h9 => h9) rfl d_BlockDigest_replaceTop_59 ?_
    refine va_alen (v := 8) hx hb hK hI.1 13 0 rfl rfl (show Int32.ofNat 8 = 8 by decide) d_BlockDigest_replaceTop_62 ?_
    refine lv_icmp_ge (tgt := 91) hx hb d_BlockDigest_replaceTop_63 (by decide) (fun hc => ?_) (fun hc => ?_)
    · have hf := sd_t hf hc
      exact hk91  μ _ _ _ hI (lv_sub hl [0, 1] rfl) hf
    · have hf := sd_f hf hc
      refine lv_aload_n hx hb d_BlockDigest_replaceTop_66 rfl (lv_at hl 0 rfl) ?_
      refine lv_aload_n hx hb d_BlockDigest_replaceTop_67 rfl (lv_at hl 0 rfl) ?_
      refine va_get (D := D) (ci := 5) (v := .ref (q 13)) (C := "ScriptDesk$Sha256") (T := T_Sha256) (N := 5) hx hb hts iw_Sha256 hown hK hI.1 9 rfl rfl 4 (by decide) (hts _ tw_105) (fun _ h9 => h9) rfl d_BlockDigest_replaceTop_68 ?_
      refine lv_iload hx hb d_BlockDigest_replaceTop_71 (lv_at hl 2 rfl) ?_
      obtain ⟨hg, hf⟩ := sd_gd_e hf
      refine k_iald hx hb hK hI 13 0 rfl rfl hg d_BlockDigest_replaceTop_73 ?_
      refine lv_aload_n hx hb d_BlockDigest_replaceTop_74 rfl (lv_at hl 0 rfl) ?_
      refine va_get (D := D) (ci := 5) (v := .ref (q 11)) (C := "ScriptDesk$Sha256") (T := T_Sha256) (N := 5) hx hb hts iw_Sha256 hown hK hI.1 9 rfl rfl 1 (by decide) (hts _ tw_98) (fun _ h9 => h9) rfl d_BlockDigest_replaceTop_75 ?_
      refine lv_iconst (v := 4) hx hb d_BlockDigest_replaceTop_78 (by decide) ?_
      refine lv_iload hx hb d_BlockDigest_replaceTop_79 (lv_at hl 2 rfl) ?_
      refine lv_imul hx hb d_BlockDigest_replaceTop_81 ?_
      obtain ⟨m9, hq, hf⟩ := sd_bv_e hf
      refine k_callUv (As := [.int (μ.1 13 (Int32.toNatClampNeg v4)), .ref (q 11), .int ((4 : Int32) * v4)]) (rest := []) (C := "ScriptDesk$Sha256") (ci := 5) ZX_ok X hI (mt_BlockDigest_write_r9_r11 l hq) (va_cwU 3 hts (gd_U tw_388 tw_798 sp_5 tw_390 tw_6 tw_391) rfl rfl rfl rfl (by decide +kernel) ⟨Nat.le_of_ble_eq_true rfl, Nat.le_of_ble_eq_true rfl⟩) 9 rfl rfl rfl hl.1 rfl (Nat.le_of_ble_eq_true rfl) d_BlockDigest_replaceTop_82 ⟨Nat.zero_le _, Nat.zero_le _⟩ (fun H locs hI => ?_)
      refine lv_iinc (v := (v4 + (1 : Int32))) (lv' := [(4, .int (v4 + (1 : Int32))), (0, .ref (q 9)), (1, .ref (q 2))]) hx hb d_BlockDigest_replaceTop_85 hl (k := 2) rfl rfl (by decide) rfl (fun ls hl => ?_)
      refine lv_goto (tgt := 56) hx hb d_BlockDigest_replaceTop_88 (by decide) ?_
      exact ih ((v4 + (1 : Int32))) m9 _ _ _ hI (lv_sub hl [1, 2, 0] rfl) hf
set_option maxHeartbeats 4000000 in
set_option maxRecDepth 100000 in
theorem mt_BlockDigest_replaceTop_r9_r2 (l : Launch) {D : va_G} {q tq : Nat → Nat} {cA : ClassId} {μ : sd_Me} {ru : sd_Me} (hf : fn_BlockDigest_replaceTop_r9_r2 μ = some ru) : sd_CTv l y_BlockDigest_replaceTop w_BlockDigest_replaceTop ({ frames := 3, cells := 0, slots := 0, locals := 79 }) vwCl (wdX q cA) D [(cA, .int)] (ZX tq) [.ref (q 9), .ref (q 2)] μ ru := by
  refine k_entv (cc := prog_2_method_4_code) 5 (by decide) rfl (Nat.le_of_ble_eq_true rfl) ?_
  intro p e s m below meth c A ls X hI hl
  have hl : lv_has ls 5 [(0, .ref (q 9)), (1, .ref (q 2))] := hl
  obtain ⟨hx, hb, hml, hown, hts, hK, hZ, hA, hr, hlocks⟩ := id X
  unfold fn_BlockDigest_replaceTop_r9_r2 at hf
  refine lv_aload_n hx hb d_BlockDigest_replaceTop_0 rfl (lv_at hl 1 rfl) ?_
  refine lv_iconst (v := 0) hx hb d_BlockDigest_replaceTop_1 (by decide) ?_
  obtain ⟨x2, m1, hq, hf⟩ := sd_bi_e hf
  refine k_callV (As := [.int (0 : Int32)]) (rest := []) (C := "ScriptDesk$Elements") (ci := 1) ZX_ok X hI (mt_Elements_lengthAt_r2 l hq) (cwV 1 hts (gd_V tw_379 tw_227 tw_228 tw_2 tw_229) rfl rfl rfl (by decide +kernel) ⟨Nat.le_of_ble_eq_true rfl, Nat.le_of_ble_eq_true rfl⟩) 2 rfl rfl rfl hl.1 rfl (Nat.le_of_ble_eq_true rfl) d_BlockDigest_replaceTop_2 ⟨Nat.zero_le _, Nat.zero_le _⟩ (fun H locs hn_x2 hI => ?_)
  refine lv_istore_n (lv' := [(2, .int x2), (0, .ref (q 9)), (1, .ref (q 2))]) hx hb d_BlockDigest_replaceTop_5 rfl hl (by decide) rfl (fun ls hl => ?_)
  refine lv_iload_n hx hb d_BlockDigest_replaceTop_6 rfl (lv_at hl 0 rfl) ?_
  refine lv_if_lt (tgt := 16) hx hb d_BlockDigest_replaceTop_7 (by decide) (fun hc => ?_) (fun hc => ?_)
  · have hf := sd_t hf hc
    exact k_retv X hI hf d_BlockDigest_replaceTop_16
  · have hf := sd_f hf hc
    refine lv_iload_n hx hb d_BlockDigest_replaceTop_10 rfl (lv_at hl 0 rfl) ?_
    refine lv_bipush (v := 120) hx hb d_BlockDigest_replaceTop_11 (by decide) ?_
    refine lv_icmp_le (tgt := 17) hx hb d_BlockDigest_replaceTop_13 (by decide) (fun hc => ?_) (fun hc => ?_)
    · have hf := sd_t hf hc
      refine lv_aload_n hx hb d_BlockDigest_replaceTop_17 rfl (lv_at hl 1 rfl) ?_
      refine lv_aload_n hx hb d_BlockDigest_replaceTop_18 rfl (lv_at hl 2 rfl) ?_
      refine lv_iload_n hx hb d_BlockDigest_replaceTop_19 rfl (lv_at hl 0 rfl) ?_
      obtain ⟨x4, m3, hq, hf⟩ := sd_bi_e hf
      refine k_callU (As := [.ref (q 2), .int x2]) (rest := []) (C := "ScriptDesk$Sha256") (ci := 5) ZX_ok X hI (mt_BlockDigest_pad_r9_r2 l hq) (va_cwU 2 hts (gd_U tw_380 tw_797 sp_6 tw_382 tw_6 tw_383) rfl rfl rfl rfl (by decide +kernel) ⟨Nat.le_of_ble_eq_true rfl, Nat.le_of_ble_eq_true rfl⟩) 9 rfl rfl rfl hl.1 rfl (Nat.le_of_ble_eq_true rfl) d_BlockDigest_replaceTop_20 ⟨Nat.zero_le _, Nat.zero_le _⟩ (fun H locs hn_x4 hI => ?_)
      refine lv_istore_n (lv' := [(3, .int x4), (2, .int x2), (0, .ref (q 9)), (1, .ref (q 2))]) hx hb d_BlockDigest_replaceTop_23 rfl hl (by decide) rfl (fun ls hl => ?_)
      refine lv_aload_n hx hb d_BlockDigest_replaceTop_24 rfl (lv_at hl 2 rfl) ?_
      obtain ⟨m5, hq, hf⟩ := sd_bv_e hf
      refine k_callUv (As := []) (rest := []) (C := "ScriptDesk$Sha256") (ci := 5) ZX_ok X hI (mt_Sha256_begin_r9 l hq) (va_cwA 0 hts (gd_U tw_396 tw_398 tw_405 tw_406 tw_7 tw_407) rfl rfl rfl (hZX_D0 hZ) (by decide +kernel) ⟨Nat.le_of_ble_eq_true rfl, Nat.le_of_ble_eq_true rfl⟩) 9 rfl rfl rfl hl.1 rfl (Nat.le_of_ble_eq_true rfl) d_BlockDigest_replaceTop_25 ⟨Nat.zero_le _, Nat.zero_le _⟩ (fun H locs hI => ?_)
      refine lv_iconst (v := 0) hx hb d_BlockDigest_replaceTop_28 (by decide) ?_
      refine lv_istore (lv' := [(4, .int (0 : Int32)), (3, .int x4), (2, .int x2), (0, .ref (q 9)), (1, .ref (q 2))]) hx hb d_BlockDigest_replaceTop_29 hl (by decide) rfl (fun ls hl => ?_)
      refine lp_BlockDigest_replaceTop_r9_r2_L31 l X ?_ 10000 (x4) ((0 : Int32)) m5 _ _ _ hI (lv_sub hl [3, 4, 1, 0] rfl) hf
      · intro m8 H locs ls hI hl hf
        refine lv_iconst (v := 0) hx hb d_BlockDigest_replaceTop_53 (by decide) ?_
        refine lv_istore (lv' := [(4, .int (0 : Int32)), (0, .ref (q 9)), (1, .ref (q 2))]) hx hb d_BlockDigest_replaceTop_54 hl (by decide) rfl (fun ls hl => ?_)
        refine lp_BlockDigest_replaceTop_r9_r2_L56 l X ?_ 10000 ((0 : Int32)) m8 _ _ _ hI (lv_sub hl [1, 2, 0] rfl) hf
        · intro m10 H locs ls hI hl hf
          refine lv_aload_n hx hb d_BlockDigest_replaceTop_91 rfl (lv_at hl 1 rfl) ?_
          refine lv_iconst (v := 1) hx hb d_BlockDigest_replaceTop_92 (by decide) ?_
          obtain ⟨m11, hq, hf⟩ := sd_bv_e hf
          refine k_callVv (As := [.int (1 : Int32)]) (rest := []) (C := "ScriptDesk$Elements") (ci := 1) ZX_ok X hI (mt_Elements_drop_r2 l hq) (cwV 1 hts (gd_V tw_454 tw_235 tw_236 tw_2 tw_237) rfl rfl rfl (by decide +kernel) ⟨Nat.le_of_ble_eq_true rfl, Nat.le_of_ble_eq_true rfl⟩) 2 rfl rfl rfl hl.1 rfl (Nat.le_of_ble_eq_true rfl) d_BlockDigest_replaceTop_93 ⟨Nat.zero_le _, Nat.zero_le _⟩ (fun H locs hI => ?_)
          refine lv_aload_n hx hb d_BlockDigest_replaceTop_96 rfl (lv_at hl 1 rfl) ?_
          refine lv_aload_n hx hb d_BlockDigest_replaceTop_97 rfl (lv_at hl 0 rfl) ?_
          refine va_get (D := D) (ci := 5) (v := .ref (q 11)) (C := "ScriptDesk$Sha256") (T := T_Sha256) (N := 5) hx hb hts iw_Sha256 hown hK hI.1 9 rfl rfl 1 (by decide) (hts _ tw_98) (fun _ h9 => h9) rfl d_BlockDigest_replaceTop_98 ?_
          refine lv_iconst (v := 0) hx hb d_BlockDigest_replaceTop_101 (by decide) ?_
          refine lv_aload_n hx hb d_BlockDigest_replaceTop_102 rfl (lv_at hl 0 rfl) ?_
          refine va_get (D := D) (ci := 5) (v := .ref (q 11)) (C := "ScriptDesk$Sha256") (T := T_Sha256) (N := 5) hx hb hts iw_Sha256 hown hK hI.1 9 rfl rfl 1 (by decide) (hts _ tw_98) (fun _ h9 => h9) rfl d_BlockDigest_replaceTop_103 ?_
          refine va_alen (v := 32) hx hb hK hI.1 11 0 rfl rfl (show Int32.ofNat 32 = 32 by decide) d_BlockDigest_replaceTop_106 ?_
          obtain ⟨m12, hq, hf⟩ := sd_bv_e hf
          refine k_callVv (As := [.ref (q 11), .int (0 : Int32), .int (32 : Int32)]) (rest := []) (C := "ScriptDesk$Elements") (ci := 1) ZX_ok X hI (mt_Elements_push_r2_r11 l hq) (cwV 3 hts (gd_V tw_455 tw_200 tw_201 tw_2 tw_202) rfl rfl rfl (by decide +kernel) ⟨Nat.le_of_ble_eq_true rfl, Nat.le_of_ble_eq_true rfl⟩) 2 rfl rfl rfl hl.1 rfl (Nat.le_of_ble_eq_true rfl) d_BlockDigest_replaceTop_107 ⟨Nat.zero_le _, Nat.zero_le _⟩ (fun H locs hI => ?_)
          exact k_retv X hI hf d_BlockDigest_replaceTop_110
    · have hf := sd_f hf hc
      exact k_retv X hI hf d_BlockDigest_replaceTop_16
set_option maxHeartbeats 4000000 in
set_option maxRecDepth 100000 in
theorem jn_Desk_performDigest_r0_J58 (l : Launch) {p : Program} {e : Env} {s : State} {m : MethodId} {args : Array Value} {below : List Frame} {meth : Method} {c : Code} {A : Nat → Prop} {D : va_G} {q tq : Nat → Nat} {cA : ClassId} {ru : Int32 × sd_Me} (X : sd_Cx p s m args meth c prog_1_method_19_code "ScriptDesk" sx_tbl 2 (some .int) vwCl D [(cA, .int)] (ZX tq) A) (v1 : Int32) (μ : sd_Me) (H : Heap) (locs : List Loc) (ls : Array Slot) (hI : sd_CI vwCl (wdX q cA) D A s H locs μ) (hl : lv_has ls 2 [(0, .ref (q 0)), (1, .int v1)]) (hf : fn_Desk_performDigest_r0_J58 v1 μ = some ru) : W p l e ({ frames := 4, cells := 0, slots := 0, locals := 103 }) s m args below meth c H locs 0 0 (sd_QI below vwCl (wdX q cA) D [(cA, .int)] .int A args s ru) (F0 m 58 ls []) := by
  obtain ⟨hx, hb, hml, hown, hts, hK, hZ, hA, hr, hlocks⟩ := id X
  unfold fn_Desk_performDigest_r0_J58 at hf
  refine lv_iload_n hx hb d_Desk_performDigest_58 rfl (lv_at hl 1 rfl) ?_
  refine lv_sipush (v := 166) hx hb d_Desk_performDigest_59 (by decide) ?_
  refine lv_icmp_eq (tgt := 72) hx hb d_Desk_performDigest_62 (by decide) (fun hc => ?_) (fun hc => ?_)
  · have hf := sd_t hf hc
    refine lv_aload_n hx hb d_Desk_performDigest_72 rfl (lv_at hl 0 rfl) ?_
    refine va_get (D := D) (ci := 0) (v := .ref (q 14)) (C := "ScriptDesk") (T := T_Desk) (N := 10) hx hb hts iw_Desk hown hK hI.1 0 rfl rfl 9 (by decide) (hts _ tw_148) (fun _ h9 => h9) rfl d_Desk_performDigest_73 ?_
    refine lv_aload_n hx hb d_Desk_performDigest_76 rfl (lv_at hl 0 rfl) ?_
    refine va_get (D := D) (ci := 0) (v := .ref (q 2)) (C := "ScriptDesk") (T := T_Desk) (N := 10) hx hb hts iw_Desk hown hK hI.1 0 rfl rfl 4 (by decide) (hts _ tw_143) (fun _ h9 => h9) rfl d_Desk_performDigest_77 ?_
    obtain ⟨m1, hq, hf⟩ := sd_bv_e hf
    refine k_callUv (As := [.ref (q 2)]) (rest := []) (C := "ScriptDesk$Ripemd160") (ci := 6) ZX_ok X hI (mt_BlockDigest_replaceTop_r14_r2 l hq) (va_cwU 1 hts (gd_U tw_373 tw_375 tw_376 tw_374 tw_6 tw_378) rfl rfl rfl rfl (by decide +kernel) ⟨Nat.le_of_ble_eq_true rfl, Nat.le_of_ble_eq_true rfl⟩) 14 rfl rfl rfl hl.1 rfl (Nat.le_of_ble_eq_true rfl) d_Desk_performDigest_80 ⟨Nat.zero_le _, Nat.zero_le _⟩ (fun H locs hI => ?_)
    refine lv_iconst (v := 0) hx hb d_Desk_performDigest_83 (by decide) ?_
    exact k_reti X hI (vp_nar_int _) hf d_Desk_performDigest_84
  · have hf := sd_f hf hc
    refine lv_iload_n hx hb d_Desk_performDigest_65 rfl (lv_at hl 1 rfl) ?_
    refine lv_sipush (v := 169) hx hb d_Desk_performDigest_66 (by decide) ?_
    refine lv_icmp_ne (tgt := 83) hx hb d_Desk_performDigest_69 (by decide) (fun hc => ?_) (fun hc => ?_)
    · have hf := sd_f hf hc
      refine lv_iconst (v := 0) hx hb d_Desk_performDigest_83 (by decide) ?_
      exact k_reti X hI (vp_nar_int _) hf d_Desk_performDigest_84
    · have hf := sd_t hf hc
      refine lv_aload_n hx hb d_Desk_performDigest_72 rfl (lv_at hl 0 rfl) ?_
      refine va_get (D := D) (ci := 0) (v := .ref (q 14)) (C := "ScriptDesk") (T := T_Desk) (N := 10) hx hb hts iw_Desk hown hK hI.1 0 rfl rfl 9 (by decide) (hts _ tw_148) (fun _ h9 => h9) rfl d_Desk_performDigest_73 ?_
      refine lv_aload_n hx hb d_Desk_performDigest_76 rfl (lv_at hl 0 rfl) ?_
      refine va_get (D := D) (ci := 0) (v := .ref (q 2)) (C := "ScriptDesk") (T := T_Desk) (N := 10) hx hb hts iw_Desk hown hK hI.1 0 rfl rfl 4 (by decide) (hts _ tw_143) (fun _ h9 => h9) rfl d_Desk_performDigest_77 ?_
      obtain ⟨m2, hq, hf⟩ := sd_bv_e hf
      refine k_callUv (As := [.ref (q 2)]) (rest := []) (C := "ScriptDesk$Ripemd160") (ci := 6) ZX_ok X hI (mt_BlockDigest_replaceTop_r14_r2 l hq) (va_cwU 1 hts (gd_U tw_373 tw_375 tw_376 tw_374 tw_6 tw_378) rfl rfl rfl rfl (by decide +kernel) ⟨Nat.le_of_ble_eq_true rfl, Nat.le_of_ble_eq_true rfl⟩) 14 rfl rfl rfl hl.1 rfl (Nat.le_of_ble_eq_true rfl) d_Desk_performDigest_80 ⟨Nat.zero_le _, Nat.zero_le _⟩ (fun H locs hI => ?_)
      refine lv_iconst (v := 0) hx hb d_Desk_performDigest_83 (by decide) ?_
      exact k_reti X hI (vp_nar_int _) hf d_Desk_performDigest_84
set_option maxHeartbeats 4000000 in
set_option maxRecDepth 100000 in
theorem jn_Desk_performDigest_r0_J40 (l : Launch) {p : Program} {e : Env} {s : State} {m : MethodId} {args : Array Value} {below : List Frame} {meth : Method} {c : Code} {A : Nat → Prop} {D : va_G} {q tq : Nat → Nat} {cA : ClassId} {ru : Int32 × sd_Me} (X : sd_Cx p s m args meth c prog_1_method_19_code "ScriptDesk" sx_tbl 2 (some .int) vwCl D [(cA, .int)] (ZX tq) A) (v1 : Int32) (μ : sd_Me) (H : Heap) (locs : List Loc) (ls : Array Slot) (hI : sd_CI vwCl (wdX q cA) D A s H locs μ) (hl : lv_has ls 2 [(0, .ref (q 0)), (1, .int v1)]) (hf : fn_Desk_performDigest_r0_J40 v1 μ = some ru) : W p l e ({ frames := 4, cells := 0, slots := 0, locals := 103 }) s m args below meth c H locs 0 0 (sd_QI below vwCl (wdX q cA) D [(cA, .int)] .int A args s ru) (F0 m 40 ls []) := by
  obtain ⟨hx, hb, hml, hown, hts, hK, hZ, hA, hr, hlocks⟩ := id X
  unfold fn_Desk_performDigest_r0_J40 at hf
  refine lv_iload_n hx hb d_Desk_performDigest_40 rfl (lv_at hl 1 rfl) ?_
  refine lv_sipush (v := 170) hx hb d_Desk_performDigest_41 (by decide) ?_
  refine lv_icmp_ne (tgt := 58) hx hb d_Desk_performDigest_44 (by decide) (fun hc => ?_) (fun hc => ?_)
  · have hf := sd_f hf hc
    exact jn_Desk_performDigest_r0_J58 l X (v1) μ _ _ _ hI (lv_sub hl [0, 1] rfl) hf
  · have hf := sd_t hf hc
    refine lv_aload_n hx hb d_Desk_performDigest_47 rfl (lv_at hl 0 rfl) ?_
    refine va_get (D := D) (ci := 0) (v := .ref (q 9)) (C := "ScriptDesk") (T := T_Desk) (N := 10) hx hb hts iw_Desk hown hK hI.1 0 rfl rfl 8 (by decide) (hts _ tw_147) (fun _ h9 => h9) rfl d_Desk_performDigest_48 ?_
    refine lv_aload_n hx hb d_Desk_performDigest_51 rfl (lv_at hl 0 rfl) ?_
    refine va_get (D := D) (ci := 0) (v := .ref (q 2)) (C := "ScriptDesk") (T := T_Desk) (N := 10) hx hb hts iw_Desk hown hK hI.1 0 rfl rfl 4 (by decide) (hts _ tw_143) (fun _ h9 => h9) rfl d_Desk_performDigest_52 ?_
    obtain ⟨m3, hq, hf⟩ := sd_bv_e hf
    refine k_callUv (As := [.ref (q 2)]) (rest := []) (C := "ScriptDesk$Sha256") (ci := 5) ZX_ok X hI (mt_BlockDigest_replaceTop_r9_r2 l hq) (va_cwU 1 hts (gd_U tw_373 tw_375 tw_377 tw_374 tw_6 tw_378) rfl rfl rfl rfl (by decide +kernel) ⟨Nat.le_of_ble_eq_true rfl, Nat.le_of_ble_eq_true rfl⟩) 9 rfl rfl rfl hl.1 rfl (Nat.le_of_ble_eq_true rfl) d_Desk_performDigest_55 ⟨Nat.zero_le _, Nat.zero_le _⟩ (fun H locs hI => ?_)
    exact jn_Desk_performDigest_r0_J58 l X (v1) m3 _ _ _ hI (lv_sub hl [0, 1] rfl) hf
set_option maxHeartbeats 4000000 in
set_option maxRecDepth 100000 in
theorem mt_Desk_performDigest_r0 (l : Launch) {D : va_G} {q tq : Nat → Nat} {cA : ClassId} {a1 : Int32} {μ : sd_Me} {ru : Int32 × sd_Me} (hf : fn_Desk_performDigest_r0 a1 μ = some ru) : sd_CTi l y_Desk_performDigest w_Desk_performDigest ({ frames := 4, cells := 0, slots := 0, locals := 103 }) vwCl (wdX q cA) D [(cA, .int)] (ZX tq) .int [.ref (q 0), .int a1] μ ru := by
  refine k_enti (cc := prog_1_method_19_code) 2 (by decide) rfl (Nat.le_of_ble_eq_true rfl) ?_
  intro p e s m below meth c A ls X hI hl
  have hl : lv_has ls 2 [(0, .ref (q 0)), (1, .int a1)] := hl
  obtain ⟨hx, hb, hml, hown, hts, hK, hZ, hA, hr, hlocks⟩ := id X
  unfold fn_Desk_performDigest_r0 at hf
  refine lv_iload_n hx hb d_Desk_performDigest_0 rfl (lv_at hl 1 rfl) ?_
  refine lv_sipush (v := 167) hx hb d_Desk_performDigest_1 (by decide) ?_
  refine lv_icmp_ne (tgt := 9) hx hb d_Desk_performDigest_4 (by decide) (fun hc => ?_) (fun hc => ?_)
  · have hf := sd_f hf hc
    refine lv_aload_n hx hb d_Desk_performDigest_9 rfl (lv_at hl 0 rfl) ?_
    refine va_get (D := D) (ci := 0) (v := .ref (q 2)) (C := "ScriptDesk") (T := T_Desk) (N := 10) hx hb hts iw_Desk hown hK hI.1 0 rfl rfl 4 (by decide) (hts _ tw_143) (fun _ h9 => h9) rfl d_Desk_performDigest_10 ?_
    refine va_get (D := D) (ci := 1) (v := .int (μ.1 2 4)) (C := "ScriptDesk$Elements") (T := T_Elements) (N := 5) hx hb hts iw_Elements hown hK hI.1 2 rfl rfl 4 (by decide) (hts _ tw_36) (fun _ h9 => h9) rfl d_Desk_performDigest_13 ?_
    refine lv_iconst (v := 1) hx hb d_Desk_performDigest_16 (by decide) ?_
    refine lv_icmp_ge (tgt := 22) hx hb d_Desk_performDigest_17 (by decide) (fun hc => ?_) (fun hc => ?_)
    · have hf := sd_t hf hc
      refine lv_iload_n hx hb d_Desk_performDigest_22 rfl (lv_at hl 1 rfl) ?_
      refine lv_sipush (v := 166) hx hb d_Desk_performDigest_23 (by decide) ?_
      refine lv_icmp_eq (tgt := 40) hx hb d_Desk_performDigest_26 (by decide) (fun hc => ?_) (fun hc => ?_)
      · have hf := sd_t hf hc
        exact jn_Desk_performDigest_r0_J40 l X (a1) μ _ _ _ hI (lv_sub hl [0, 1] rfl) hf
      · have hf := sd_f hf hc
        refine lv_aload_n hx hb d_Desk_performDigest_29 rfl (lv_at hl 0 rfl) ?_
        refine va_get (D := D) (ci := 0) (v := .ref (q 9)) (C := "ScriptDesk") (T := T_Desk) (N := 10) hx hb hts iw_Desk hown hK hI.1 0 rfl rfl 8 (by decide) (hts _ tw_147) (fun _ h9 => h9) rfl d_Desk_performDigest_30 ?_
        refine lv_aload_n hx hb d_Desk_performDigest_33 rfl (lv_at hl 0 rfl) ?_
        refine va_get (D := D) (ci := 0) (v := .ref (q 2)) (C := "ScriptDesk") (T := T_Desk) (N := 10) hx hb hts iw_Desk hown hK hI.1 0 rfl rfl 4 (by decide) (hts _ tw_143) (fun _ h9 => h9) rfl d_Desk_performDigest_34 ?_
        obtain ⟨m4, hq, hf⟩ := sd_bv_e hf
        refine k_callUv (As := [.ref (q 2)]) (rest := []) (C := "ScriptDesk$Sha256") (ci := 5) ZX_ok X hI (mt_BlockDigest_replaceTop_r9_r2 l hq) (va_cwU 1 hts (gd_U tw_373 tw_375 tw_377 tw_374 tw_6 tw_378) rfl rfl rfl rfl (by decide +kernel) ⟨Nat.le_of_ble_eq_true rfl, Nat.le_of_ble_eq_true rfl⟩) 9 rfl rfl rfl hl.1 rfl (Nat.le_of_ble_eq_true rfl) d_Desk_performDigest_37 ⟨Nat.zero_le _, Nat.zero_le _⟩ (fun H locs hI => ?_)
        exact jn_Desk_performDigest_r0_J40 l X (a1) m4 _ _ _ hI (lv_sub hl [0, 1] rfl) hf
    · have hf := sd_f hf hc
      refine lv_iconst (v := 5) hx hb d_Desk_performDigest_20 (by decide) ?_
      exact k_reti X hI (vp_nar_int _) hf d_Desk_performDigest_21
  · have hf := sd_t hf hc
    refine lv_iconst (v := 4) hx hb d_Desk_performDigest_7 (by decide) ?_
    exact k_reti X hI (vp_nar_int _) hf d_Desk_performDigest_8
set_option maxHeartbeats 4000000 in
set_option maxRecDepth 100000 in
theorem jn_Numbers_operandsOf_J30 (l : Launch) {p : Program} {e : Env} {s : State} {m : MethodId} {args : Array Value} {below : List Frame} {meth : Method} {c : Code} {A : Nat → Prop} {D : va_G} {q tq : Nat → Nat} {cA : ClassId} {ru : Int32 × sd_Me} (X : sd_Cx p s m args meth c prog_6_method_3_code "ScriptDesk$Numbers" sx_tbl 1 (some .int) vwCl D [(cA, .int)] (ZX tq) A) (v0 : Int32) (μ : sd_Me) (H : Heap) (locs : List Loc) (ls : Array Slot) (hI : sd_CI vwCl (wdX q cA) D A s H locs μ) (hl : lv_has ls 1 [(0, .int v0)]) (hf : fn_Numbers_operandsOf_J30 v0 μ = some ru) : W p l e ({ frames := 0, cells := 0, slots := 0, locals := 0 }) s m args below meth c H locs 0 0 (sd_QI below vwCl (wdX q cA) D [(cA, .int)] .int A args s ru) (F0 m 30 ls []) := by
  obtain ⟨hx, hb, hml, hown, hts, hK, hZ, hA, hr, hlocks⟩ := id X
  unfold fn_Numbers_operandsOf_J30 at hf
  refine lv_iload_n hx hb d_Numbers_operandsOf_30 rfl (lv_at hl 0 rfl) ?_
  refine lv_sipush (v := 147) hx hb d_Numbers_operandsOf_31 (by decide) ?_
  refine lv_icmp_eq (tgt := 58) hx hb d_Numbers_operandsOf_34 (by decide) (fun hc => ?_) (fun hc => ?_)
  · have hf := sd_t hf hc
    refine lv_iconst (v := 2) hx hb d_Numbers_operandsOf_58 (by decide) ?_
    exact k_reti X hI (vp_nar_int _) hf d_Numbers_operandsOf_59
  · have hf := sd_f hf hc
    refine lv_iload_n hx hb d_Numbers_operandsOf_37 rfl (lv_at hl 0 rfl) ?_
    refine lv_sipush (v := 148) hx hb d_Numbers_operandsOf_38 (by decide) ?_
    refine lv_icmp_eq (tgt := 58) hx hb d_Numbers_operandsOf_41 (by decide) (fun hc => ?_) (fun hc => ?_)
    · have hf := sd_t hf hc
      refine lv_iconst (v := 2) hx hb d_Numbers_operandsOf_58 (by decide) ?_
      exact k_reti X hI (vp_nar_int _) hf d_Numbers_operandsOf_59
    · have hf := sd_f hf hc
      refine lv_iload_n hx hb d_Numbers_operandsOf_44 rfl (lv_at hl 0 rfl) ?_
      refine lv_sipush (v := 154) hx hb d_Numbers_operandsOf_45 (by decide) ?_
      refine lv_icmp_lt (tgt := 60) hx hb d_Numbers_operandsOf_48 (by decide) (fun hc => ?_) (fun hc => ?_)
      · have hf := sd_t hf hc
        refine lv_iload_n hx hb d_Numbers_operandsOf_60 rfl (lv_at hl 0 rfl) ?_
        refine lv_sipush (v := 165) hx hb d_Numbers_operandsOf_61 (by decide) ?_
        refine lv_icmp_ne (tgt := 71) hx hb d_Numbers_operandsOf_64 (by decide) (fun hc => ?_) (fun hc => ?_)
        · have hf := sd_f hf hc
          refine lv_iconst (v := 0) hx hb d_Numbers_operandsOf_71 (by decide) ?_
          exact k_reti X hI (vp_nar_int _) hf d_Numbers_operandsOf_72
        · have hf := sd_t hf hc
          refine lv_iconst (v := 3) hx hb d_Numbers_operandsOf_67 (by decide) ?_
          refine lv_goto (tgt := 72) hx hb d_Numbers_operandsOf_68 (by decide) ?_
          exact k_reti X hI (vp_nar_int _) hf d_Numbers_operandsOf_72
      · have hf := sd_f hf hc
        refine lv_iload_n hx hb d_Numbers_operandsOf_51 rfl (lv_at hl 0 rfl) ?_
        refine lv_sipush (v := 164) hx hb d_Numbers_operandsOf_52 (by decide) ?_
        refine lv_icmp_gt (tgt := 60) hx hb d_Numbers_operandsOf_55 (by decide) (fun hc => ?_) (fun hc => ?_)
        · have hf := sd_t hf hc
          refine lv_iload_n hx hb d_Numbers_operandsOf_60 rfl (lv_at hl 0 rfl) ?_
          refine lv_sipush (v := 165) hx hb d_Numbers_operandsOf_61 (by decide) ?_
          refine lv_icmp_ne (tgt := 71) hx hb d_Numbers_operandsOf_64 (by decide) (fun hc => ?_) (fun hc => ?_)
          · have hf := sd_f hf hc
            refine lv_iconst (v := 0) hx hb d_Numbers_operandsOf_71 (by decide) ?_
            exact k_reti X hI (vp_nar_int _) hf d_Numbers_operandsOf_72
          · have hf := sd_t hf hc
            refine lv_iconst (v := 3) hx hb d_Numbers_operandsOf_67 (by decide) ?_
            refine lv_goto (tgt := 72) hx hb d_Numbers_operandsOf_68 (by decide) ?_
            exact k_reti X hI (vp_nar_int _) hf d_Numbers_operandsOf_72
        · have hf := sd_f hf hc
          refine lv_iconst (v := 2) hx hb d_Numbers_operandsOf_58 (by decide) ?_
          exact k_reti X hI (vp_nar_int _) hf d_Numbers_operandsOf_59
set_option maxHeartbeats 4000000 in
set_option maxRecDepth 100000 in
theorem mt_Numbers_operandsOf (l : Launch) {D : va_G} {q tq : Nat → Nat} {cA : ClassId} {a0 : Int32} {μ : sd_Me} {ru : Int32 × sd_Me} (hf : fn_Numbers_operandsOf a0 μ = some ru) : sd_CTi l y_Numbers_operandsOf w_Numbers_operandsOf ({ frames := 0, cells := 0, slots := 0, locals := 0 }) vwCl (wdX q cA) D [(cA, .int)] (ZX tq) .int [.int a0] μ ru := by
  refine k_enti (cc := prog_6_method_3_code) 1 (by decide) rfl (Nat.le_of_ble_eq_true rfl) ?_
  intro p e s m below meth c A ls X hI hl
  have hl : lv_has ls 1 [(0, .int a0)] := hl
  obtain ⟨hx, hb, hml, hown, hts, hK, hZ, hA, hr, hlocks⟩ := id X
  unfold fn_Numbers_operandsOf at hf
  refine lv_iload_n hx hb d_Numbers_operandsOf_0 rfl (lv_at hl 0 rfl) ?_
  refine lv_sipush (v := 139) hx hb d_Numbers_operandsOf_1 (by decide) ?_
  refine lv_icmp_eq (tgt := 28) hx hb d_Numbers_operandsOf_4 (by decide) (fun hc => ?_) (fun hc => ?_)
  · have hf := sd_t hf hc
    refine lv_iconst (v := 1) hx hb d_Numbers_operandsOf_28 (by decide) ?_
    exact k_reti X hI (vp_nar_int _) hf d_Numbers_operandsOf_29
  · have hf := sd_f hf hc
    refine lv_iload_n hx hb d_Numbers_operandsOf_7 rfl (lv_at hl 0 rfl) ?_
    refine lv_sipush (v := 140) hx hb d_Numbers_operandsOf_8 (by decide) ?_
    refine lv_icmp_eq (tgt := 28) hx hb d_Numbers_operandsOf_11 (by decide) (fun hc => ?_) (fun hc => ?_)
    · have hf := sd_t hf hc
      refine lv_iconst (v := 1) hx hb d_Numbers_operandsOf_28 (by decide) ?_
      exact k_reti X hI (vp_nar_int _) hf d_Numbers_operandsOf_29
    · have hf := sd_f hf hc
      refine lv_iload_n hx hb d_Numbers_operandsOf_14 rfl (lv_at hl 0 rfl) ?_
      refine lv_sipush (v := 143) hx hb d_Numbers_operandsOf_15 (by decide) ?_
      refine lv_icmp_lt (tgt := 30) hx hb d_Numbers_operandsOf_18 (by decide) (fun hc => ?_) (fun hc => ?_)
      · have hf := sd_t hf hc
        exact jn_Numbers_operandsOf_J30 l X (a0) μ _ _ _ hI (lv_sub hl [0] rfl) hf
      · have hf := sd_f hf hc
        refine lv_iload_n hx hb d_Numbers_operandsOf_21 rfl (lv_at hl 0 rfl) ?_
        refine lv_sipush (v := 146) hx hb d_Numbers_operandsOf_22 (by decide) ?_
        refine lv_icmp_gt (tgt := 30) hx hb d_Numbers_operandsOf_25 (by decide) (fun hc => ?_) (fun hc => ?_)
        · have hf := sd_t hf hc
          exact jn_Numbers_operandsOf_J30 l X (a0) μ _ _ _ hI (lv_sub hl [0] rfl) hf
        · have hf := sd_f hf hc
          refine lv_iconst (v := 1) hx hb d_Numbers_operandsOf_28 (by decide) ?_
          exact k_reti X hI (vp_nar_int _) hf d_Numbers_operandsOf_29
set_option maxHeartbeats 4000000 in
set_option maxRecDepth 100000 in
theorem mt_Numbers_compare (l : Launch) {D : va_G} {q tq : Nat → Nat} {cA : ClassId} {a0 : Int32} {a1 : Int64} {a3 : Int64} {μ : sd_Me} {ru : Int32 × sd_Me} (hf : fn_Numbers_compare a0 a1 a3 μ = some ru) : sd_CTi l y_Numbers_compare w_Numbers_compare ({ frames := 0, cells := 0, slots := 0, locals := 0 }) vwCl (wdX q cA) D [(cA, .int)] (ZX tq) .boolean [.int a0, .long a1, .long a3] μ ru := by
  refine k_enti (cc := prog_6_method_6_code) 5 (by decide) rfl (Nat.le_of_ble_eq_true rfl) ?_
  intro p e s m below meth c A ls X hI hl
  have hl : lv_has ls 5 [(0, .int a0), (1, .long a1), (3, .long a3)] := hl
  obtain ⟨hx, hb, hml, hown, hts, hK, hZ, hA, hr, hlocks⟩ := id X
  unfold fn_Numbers_compare at hf
  refine lv_iload_n hx hb d_Numbers_compare_0 rfl (lv_at hl 0 rfl) ?_
  by_cases hc154 : a0 = (154 : Int32)
  · have hf := sd_t hf hc154
    refine k_tbl (off := 47) (tgt := 48) hx hb d_Numbers_compare_1 (by decide) (by rw [hc154]; decide) (by decide) ?_
    refine lv_lload_n hx hb d_Numbers_compare_48 rfl (lv_at hl 1 rfl) ?_
    refine lv_lconst (v := 0) hx hb d_Numbers_compare_49 (by decide) ?_
    refine W.lcmp hx hb d_Numbers_compare_50 ?_
    refine lv_if_eq (tgt := 64) hx hb d_Numbers_compare_51 (by decide) (fun hc => ?_) (fun hc => ?_)
    · have hf := sd_t hf hc
      refine lv_iconst (v := 0) hx hb d_Numbers_compare_64 (by decide) ?_
      exact k_reti X hI rfl hf d_Numbers_compare_65
    · have hf := sd_f hf hc
      refine lv_lload_n hx hb d_Numbers_compare_54 rfl (lv_at hl 2 rfl) ?_
      refine lv_lconst (v := 0) hx hb d_Numbers_compare_55 (by decide) ?_
      refine W.lcmp hx hb d_Numbers_compare_56 ?_
      refine lv_if_eq (tgt := 64) hx hb d_Numbers_compare_57 (by decide) (fun hc => ?_) (fun hc => ?_)
      · have hf := sd_t hf hc
        refine lv_iconst (v := 0) hx hb d_Numbers_compare_64 (by decide) ?_
        exact k_reti X hI rfl hf d_Numbers_compare_65
      · have hf := sd_f hf hc
        refine lv_iconst (v := 1) hx hb d_Numbers_compare_60 (by decide) ?_
        refine lv_goto (tgt := 65) hx hb d_Numbers_compare_61 (by decide) ?_
        exact k_reti X hI rfl hf d_Numbers_compare_65
  · have hf := sd_f hf hc154
    by_cases hc155 : a0 = (155 : Int32)
    · have hf := sd_t hf hc155
      refine k_tbl (off := 65) (tgt := 66) hx hb d_Numbers_compare_1 (by decide) (by rw [hc155]; decide) (by decide) ?_
      refine lv_lload_n hx hb d_Numbers_compare_66 rfl (lv_at hl 1 rfl) ?_
      refine lv_lconst (v := 0) hx hb d_Numbers_compare_67 (by decide) ?_
      refine W.lcmp hx hb d_Numbers_compare_68 ?_
      refine lv_if_ne (tgt := 78) hx hb d_Numbers_compare_69 (by decide) (fun hc => ?_) (fun hc => ?_)
      · have hf := sd_f hf hc
        refine lv_iconst (v := 1) hx hb d_Numbers_compare_78 (by decide) ?_
        refine lv_goto (tgt := 83) hx hb d_Numbers_compare_79 (by decide) ?_
        exact k_reti X hI rfl hf d_Numbers_compare_83
      · have hf := sd_t hf hc
        refine lv_lload_n hx hb d_Numbers_compare_72 rfl (lv_at hl 2 rfl) ?_
        refine lv_lconst (v := 0) hx hb d_Numbers_compare_73 (by decide) ?_
        refine W.lcmp hx hb d_Numbers_compare_74 ?_
        refine lv_if_eq (tgt := 82) hx hb d_Numbers_compare_75 (by decide) (fun hc => ?_) (fun hc => ?_)
        · have hf := sd_t hf hc
          refine lv_iconst (v := 0) hx hb d_Numbers_compare_82 (by decide) ?_
          exact k_reti X hI rfl hf d_Numbers_compare_83
        · have hf := sd_f hf hc
          refine lv_iconst (v := 1) hx hb d_Numbers_compare_78 (by decide) ?_
          refine lv_goto (tgt := 83) hx hb d_Numbers_compare_79 (by decide) ?_
          exact k_reti X hI rfl hf d_Numbers_compare_83
    · have hf := sd_f hf hc155
      by_cases hc156 : a0 = (156 : Int32)
      · have hf := sd_t hf hc156
        refine k_tbl (off := 83) (tgt := 84) hx hb d_Numbers_compare_1 (by decide) (by rw [hc156]; decide) (by decide) ?_
        refine lv_lload_n hx hb d_Numbers_compare_84 rfl (lv_at hl 1 rfl) ?_
        refine lv_lload_n hx hb d_Numbers_compare_85 rfl (lv_at hl 2 rfl) ?_
        refine W.lcmp hx hb d_Numbers_compare_86 ?_
        refine lv_if_ne (tgt := 94) hx hb d_Numbers_compare_87 (by decide) (fun hc => ?_) (fun hc => ?_)
        · have hf := sd_f hf hc
          refine lv_iconst (v := 0) hx hb d_Numbers_compare_94 (by decide) ?_
          exact k_reti X hI rfl hf d_Numbers_compare_95
        · have hf := sd_t hf hc
          refine lv_iconst (v := 1) hx hb d_Numbers_compare_90 (by decide) ?_
          refine lv_goto (tgt := 95) hx hb d_Numbers_compare_91 (by decide) ?_
          exact k_reti X hI rfl hf d_Numbers_compare_95
      · have hf := sd_f hf hc156
        by_cases hc157 : a0 = (157 : Int32)
        · have hf := sd_t hf hc157
          refine k_tbl (off := 83) (tgt := 84) hx hb d_Numbers_compare_1 (by decide) (by rw [hc157]; decide) (by decide) ?_
          refine lv_lload_n hx hb d_Numbers_compare_84 rfl (lv_at hl 1 rfl) ?_
          refine lv_lload_n hx hb d_Numbers_compare_85 rfl (lv_at hl 2 rfl) ?_
          refine W.lcmp hx hb d_Numbers_compare_86 ?_
          refine lv_if_ne (tgt := 94) hx hb d_Numbers_compare_87 (by decide) (fun hc => ?_) (fun hc => ?_)
          · have hf := sd_f hf hc
            refine lv_iconst (v := 0) hx hb d_Numbers_compare_94 (by decide) ?_
            exact k_reti X hI rfl hf d_Numbers_compare_95
          · have hf := sd_t hf hc
            refine lv_iconst (v := 1) hx hb d_Numbers_compare_90 (by decide) ?_
            refine lv_goto (tgt := 95) hx hb d_Numbers_compare_91 (by decide) ?_
            exact k_reti X hI rfl hf d_Numbers_compare_95
        · have hf := sd_f hf hc157
          by_cases hc158 : a0 = (158 : Int32)
          · have hf := sd_t hf hc158
            refine k_tbl (off := 95) (tgt := 96) hx hb d_Numbers_compare_1 (by decide) (by rw [hc158]; decide) (by decide) ?_
            refine lv_lload_n hx hb d_Numbers_compare_96 rfl (lv_at hl 1 rfl) ?_
            refine lv_lload_n hx hb d_Numbers_compare_97 rfl (lv_at hl 2 rfl) ?_
            refine W.lcmp hx hb d_Numbers_compare_98 ?_
            refine lv_if_eq (tgt := 106) hx hb d_Numbers_compare_99 (by decide) (fun hc => ?_) (fun hc => ?_)
            · have hf := sd_t hf hc
              refine lv_iconst (v := 0) hx hb d_Numbers_compare_106 (by decide) ?_
              exact k_reti X hI rfl hf d_Numbers_compare_107
            · have hf := sd_f hf hc
              refine lv_iconst (v := 1) hx hb d_Numbers_compare_102 (by decide) ?_
              refine lv_goto (tgt := 107) hx hb d_Numbers_compare_103 (by decide) ?_
              exact k_reti X hI rfl hf d_Numbers_compare_107
          · have hf := sd_f hf hc158
            by_cases hc159 : a0 = (159 : Int32)
            · have hf := sd_t hf hc159
              refine k_tbl (off := 107) (tgt := 108) hx hb d_Numbers_compare_1 (by decide) (by rw [hc159]; decide) (by decide) ?_
              refine lv_lload_n hx hb d_Numbers_compare_108 rfl (lv_at hl 1 rfl) ?_
              refine lv_lload_n hx hb d_Numbers_compare_109 rfl (lv_at hl 2 rfl) ?_
              refine W.lcmp hx hb d_Numbers_compare_110 ?_
              refine lv_if_ge (tgt := 118) hx hb d_Numbers_compare_111 (by decide) (fun hc => ?_) (fun hc => ?_)
              · have hf := sd_t hf hc
                refine lv_iconst (v := 0) hx hb d_Numbers_compare_118 (by decide) ?_
                exact k_reti X hI rfl hf d_Numbers_compare_119
              · have hf := sd_f hf hc
                refine lv_iconst (v := 1) hx hb d_Numbers_compare_114 (by decide) ?_
                refine lv_goto (tgt := 119) hx hb d_Numbers_compare_115 (by decide) ?_
                exact k_reti X hI rfl hf d_Numbers_compare_119
            · have hf := sd_f hf hc159
              by_cases hc160 : a0 = (160 : Int32)
              · have hf := sd_t hf hc160
                refine k_tbl (off := 119) (tgt := 120) hx hb d_Numbers_compare_1 (by decide) (by rw [hc160]; decide) (by decide) ?_
                refine lv_lload_n hx hb d_Numbers_compare_120 rfl (lv_at hl 1 rfl) ?_
                refine lv_lload_n hx hb d_Numbers_compare_121 rfl (lv_at hl 2 rfl) ?_
                refine W.lcmp hx hb d_Numbers_compare_122 ?_
                refine lv_if_le (tgt := 130) hx hb d_Numbers_compare_123 (by decide) (fun hc => ?_) (fun hc => ?_)
                · have hf := sd_t hf hc
                  refine lv_iconst (v := 0) hx hb d_Numbers_compare_130 (by decide) ?_
                  exact k_reti X hI rfl hf d_Numbers_compare_131
                · have hf := sd_f hf hc
                  refine lv_iconst (v := 1) hx hb d_Numbers_compare_126 (by decide) ?_
                  refine lv_goto (tgt := 131) hx hb d_Numbers_compare_127 (by decide) ?_
                  exact k_reti X hI rfl hf d_Numbers_compare_131
              · have hf := sd_f hf hc160
                by_cases hc161 : a0 = (161 : Int32)
                · have hf := sd_t hf hc161
                  refine k_tbl (off := 131) (tgt := 132) hx hb d_Numbers_compare_1 (by decide) (by rw [hc161]; decide) (by decide) ?_
                  refine lv_lload_n hx hb d_Numbers_compare_132 rfl (lv_at hl 1 rfl) ?_
                  refine lv_lload_n hx hb d_Numbers_compare_133 rfl (lv_at hl 2 rfl) ?_
                  refine W.lcmp hx hb d_Numbers_compare_134 ?_
                  refine lv_if_gt (tgt := 142) hx hb d_Numbers_compare_135 (by decide) (fun hc => ?_) (fun hc => ?_)
                  · have hf := sd_t hf hc
                    refine lv_iconst (v := 0) hx hb d_Numbers_compare_142 (by decide) ?_
                    exact k_reti X hI rfl hf d_Numbers_compare_143
                  · have hf := sd_f hf hc
                    refine lv_iconst (v := 1) hx hb d_Numbers_compare_138 (by decide) ?_
                    refine lv_goto (tgt := 143) hx hb d_Numbers_compare_139 (by decide) ?_
                    exact k_reti X hI rfl hf d_Numbers_compare_143
                · have hf := sd_f hf hc161
                  refine k_tbl (off := 143) (tgt := 144) hx hb d_Numbers_compare_1 (by decide) (k_tbld [(154 : Int32), (155 : Int32), (156 : Int32), (157 : Int32), (158 : Int32), (159 : Int32), (160 : Int32), (161 : Int32)] (by decide) (by
                      intro k hk
                      simp only [List.mem_cons, List.not_mem_nil, or_false] at hk
                      rcases hk with rfl | rfl | rfl | rfl | rfl | rfl | rfl | rfl
                      · exact hc154
                      · exact hc155
                      · exact hc156
                      · exact hc157
                      · exact hc158
                      · exact hc159
                      · exact hc160
                      · exact hc161
                      )) (by decide) ?_
                  refine lv_lload_n hx hb d_Numbers_compare_144 rfl (lv_at hl 1 rfl) ?_
                  refine lv_lload_n hx hb d_Numbers_compare_145 rfl (lv_at hl 2 rfl) ?_
                  refine W.lcmp hx hb d_Numbers_compare_146 ?_
                  refine lv_if_lt (tgt := 154) hx hb d_Numbers_compare_147 (by decide) (fun hc => ?_) (fun hc => ?_)
                  · have hf := sd_t hf hc
                    refine lv_iconst (v := 0) hx hb d_Numbers_compare_154 (by decide) ?_
                    exact k_reti X hI rfl hf d_Numbers_compare_155
                  · have hf := sd_f hf hc
                    refine lv_iconst (v := 1) hx hb d_Numbers_compare_150 (by decide) ?_
                    refine lv_goto (tgt := 155) hx hb d_Numbers_compare_151 (by decide) ?_
                    exact k_reti X hI rfl hf d_Numbers_compare_155
set_option maxHeartbeats 4000000 in
set_option maxRecDepth 100000 in
theorem mt_Numbers_ofOne (l : Launch) {D : va_G} {q tq : Nat → Nat} {cA : ClassId} {a0 : Int32} {a1 : Int64} {μ : sd_Me} {ru : Int64 × sd_Me} (hf : fn_Numbers_ofOne a0 a1 μ = some ru) : sd_CTl l y_Numbers_ofOne w_Numbers_ofOne ({ frames := 0, cells := 0, slots := 0, locals := 0 }) vwCl (wdX q cA) D [(cA, .int)] (ZX tq) [.int a0, .long a1] μ ru := by
  refine k_entl (cc := prog_6_method_5_code) 3 (by decide) rfl (Nat.le_of_ble_eq_true rfl) ?_
  intro p e s m below meth c A ls X hI hl
  have hl : lv_has ls 3 [(0, .int a0), (1, .long a1)] := hl
  obtain ⟨hx, hb, hml, hown, hts, hK, hZ, hA, hr, hlocks⟩ := id X
  unfold fn_Numbers_ofOne at hf
  refine lv_iload_n hx hb d_Numbers_ofOne_0 rfl (lv_at hl 0 rfl) ?_
  by_cases hc139 : a0 = (139 : Int32)
  · have hf := sd_t hf hc139
    refine k_tbl (off := 43) (tgt := 44) hx hb d_Numbers_ofOne_1 (by decide) (by rw [hc139]; decide) (by decide) ?_
    refine lv_lload_n hx hb d_Numbers_ofOne_44 rfl (lv_at hl 1 rfl) ?_
    refine lv_lconst (v := 1) hx hb d_Numbers_ofOne_45 (by decide) ?_
    refine lv_ladd hx hb d_Numbers_ofOne_46 ?_
    exact k_retl X hI hf d_Numbers_ofOne_47
  · have hf := sd_f hf hc139
    by_cases hc140 : a0 = (140 : Int32)
    · have hf := sd_t hf hc140
      refine k_tbl (off := 47) (tgt := 48) hx hb d_Numbers_ofOne_1 (by decide) (by rw [hc140]; decide) (by decide) ?_
      refine lv_lload_n hx hb d_Numbers_ofOne_48 rfl (lv_at hl 1 rfl) ?_
      refine lv_lconst (v := 1) hx hb d_Numbers_ofOne_49 (by decide) ?_
      refine lv_lsub hx hb d_Numbers_ofOne_50 ?_
      exact k_retl X hI hf d_Numbers_ofOne_51
    · have hf := sd_f hf hc140
      by_cases hc143 : a0 = (143 : Int32)
      · have hf := sd_t hf hc143
        refine k_tbl (off := 51) (tgt := 52) hx hb d_Numbers_ofOne_1 (by decide) (by rw [hc143]; decide) (by decide) ?_
        refine lv_lload_n hx hb d_Numbers_ofOne_52 rfl (lv_at hl 1 rfl) ?_
        refine lv_lneg hx hb d_Numbers_ofOne_53 ?_
        exact k_retl X hI hf d_Numbers_ofOne_54
      · have hf := sd_f hf hc143
        by_cases hc144 : a0 = (144 : Int32)
        · have hf := sd_t hf hc144
          refine k_tbl (off := 54) (tgt := 55) hx hb d_Numbers_ofOne_1 (by decide) (by rw [hc144]; decide) (by decide) ?_
          refine lv_lload_n hx hb d_Numbers_ofOne_55 rfl (lv_at hl 1 rfl) ?_
          refine lv_lconst (v := 0) hx hb d_Numbers_ofOne_56 (by decide) ?_
          refine W.lcmp hx hb d_Numbers_ofOne_57 ?_
          refine lv_if_ge (tgt := 66) hx hb d_Numbers_ofOne_58 (by decide) (fun hc => ?_) (fun hc => ?_)
          · have hf := sd_t hf hc
            refine lv_lload_n hx hb d_Numbers_ofOne_66 rfl (lv_at hl 1 rfl) ?_
            exact k_retl X hI hf d_Numbers_ofOne_67
          · have hf := sd_f hf hc
            refine lv_lload_n hx hb d_Numbers_ofOne_61 rfl (lv_at hl 1 rfl) ?_
            refine lv_lneg hx hb d_Numbers_ofOne_62 ?_
            refine lv_goto (tgt := 67) hx hb d_Numbers_ofOne_63 (by decide) ?_
            exact k_retl X hI hf d_Numbers_ofOne_67
        · have hf := sd_f hf hc144
          by_cases hc145 : a0 = (145 : Int32)
          · have hf := sd_t hf hc145
            refine k_tbl (off := 67) (tgt := 68) hx hb d_Numbers_ofOne_1 (by decide) (by rw [hc145]; decide) (by decide) ?_
            refine lv_lload_n hx hb d_Numbers_ofOne_68 rfl (lv_at hl 1 rfl) ?_
            refine lv_lconst (v := 0) hx hb d_Numbers_ofOne_69 (by decide) ?_
            refine W.lcmp hx hb d_Numbers_ofOne_70 ?_
            refine lv_if_ne (tgt := 78) hx hb d_Numbers_ofOne_71 (by decide) (fun hc => ?_) (fun hc => ?_)
            · have hf := sd_f hf hc
              refine lv_lconst (v := 0) hx hb d_Numbers_ofOne_78 (by decide) ?_
              exact k_retl X hI hf d_Numbers_ofOne_79
            · have hf := sd_t hf hc
              refine lv_lconst (v := 1) hx hb d_Numbers_ofOne_74 (by decide) ?_
              refine lv_goto (tgt := 79) hx hb d_Numbers_ofOne_75 (by decide) ?_
              exact k_retl X hI hf d_Numbers_ofOne_79
          · have hf := sd_f hf hc145
            refine k_tbl (off := 79) (tgt := 80) hx hb d_Numbers_ofOne_1 (by decide) (k_tbld [(139 : Int32), (140 : Int32), (143 : Int32), (144 : Int32), (145 : Int32)] (by decide) (by
                intro k hk
                simp only [List.mem_cons, List.not_mem_nil, or_false] at hk
                rcases hk with rfl | rfl | rfl | rfl | rfl
                · exact hc139
                · exact hc140
                · exact hc143
                · exact hc144
                · exact hc145
                )) (by decide) ?_
            refine lv_lload_n hx hb d_Numbers_ofOne_80 rfl (lv_at hl 1 rfl) ?_
            refine lv_lconst (v := 0) hx hb d_Numbers_ofOne_81 (by decide) ?_
            refine W.lcmp hx hb d_Numbers_ofOne_82 ?_
            refine lv_if_eq (tgt := 90) hx hb d_Numbers_ofOne_83 (by decide) (fun hc => ?_) (fun hc => ?_)
            · have hf := sd_t hf hc
              refine lv_lconst (v := 0) hx hb d_Numbers_ofOne_90 (by decide) ?_
              exact k_retl X hI hf d_Numbers_ofOne_91
            · have hf := sd_f hf hc
              refine lv_lconst (v := 1) hx hb d_Numbers_ofOne_86 (by decide) ?_
              refine lv_goto (tgt := 91) hx hb d_Numbers_ofOne_87 (by decide) ?_
              exact k_retl X hI hf d_Numbers_ofOne_91
set_option maxHeartbeats 4000000 in
set_option maxRecDepth 100000 in
theorem jn_Numbers_resultOf_r2_J71 (l : Launch) {p : Program} {e : Env} {s : State} {m : MethodId} {args : Array Value} {below : List Frame} {meth : Method} {c : Code} {A : Nat → Prop} {D : va_G} {q tq : Nat → Nat} {cA : ClassId} {ru : Int64 × sd_Me} (X : sd_Cx p s m args meth c prog_6_method_4_code "ScriptDesk$Numbers" sx_tbl 9 (some .long) vwCl D [(cA, .int)] (ZX tq) A) (v1 : Int32) (v3 : Int64) (v5 : Int64) (μ : sd_Me) (H : Heap) (locs : List Loc) (ls : Array Slot) (hI : sd_CI vwCl (wdX q cA) D A s H locs μ) (hl : lv_has ls 9 [(1, .int v1), (3, .long v3), (5, .long v5)]) (hf : fn_Numbers_resultOf_r2_J71 v1 v3 v5 μ = some ru) : W p l e ({ frames := 2, cells := 0, slots := 0, locals := 48 }) s m args below meth c H locs 0 0 (sd_QL below vwCl (wdX q cA) D [(cA, .int)] A args s ru) (F0 m 71 ls []) := by
  obtain ⟨hx, hb, hml, hown, hts, hK, hZ, hA, hr, hlocks⟩ := id X
  unfold fn_Numbers_resultOf_r2_J71 at hf
  refine lv_iload_n hx hb d_Numbers_resultOf_71 rfl (lv_at hl 0 rfl) ?_
  refine lv_sipush (v := 147) hx hb d_Numbers_resultOf_72 (by decide) ?_
  refine lv_icmp_ne (tgt := 85) hx hb d_Numbers_resultOf_75 (by decide) (fun hc => ?_) (fun hc => ?_)
  · have hf := sd_f hf hc
    refine lv_lload hx hb d_Numbers_resultOf_85 (lv_at hl 2 rfl) ?_
    refine lv_lload_n hx hb d_Numbers_resultOf_87 rfl (lv_at hl 1 rfl) ?_
    refine lv_lsub hx hb d_Numbers_resultOf_88 ?_
    exact k_retl X hI hf d_Numbers_resultOf_89
  · have hf := sd_t hf hc
    refine lv_lload hx hb d_Numbers_resultOf_78 (lv_at hl 2 rfl) ?_
    refine lv_lload_n hx hb d_Numbers_resultOf_80 rfl (lv_at hl 1 rfl) ?_
    refine lv_ladd hx hb d_Numbers_resultOf_81 ?_
    refine lv_goto (tgt := 89) hx hb d_Numbers_resultOf_82 (by decide) ?_
    exact k_retl X hI hf d_Numbers_resultOf_89
set_option maxHeartbeats 4000000 in
set_option maxRecDepth 100000 in
theorem jn_Numbers_resultOf_r2_J104 (l : Launch) {p : Program} {e : Env} {s : State} {m : MethodId} {args : Array Value} {below : List Frame} {meth : Method} {c : Code} {A : Nat → Prop} {D : va_G} {q tq : Nat → Nat} {cA : ClassId} {ru : Int64 × sd_Me} (X : sd_Cx p s m args meth c prog_6_method_4_code "ScriptDesk$Numbers" sx_tbl 9 (some .long) vwCl D [(cA, .int)] (ZX tq) A) (v1 : Int32) (v3 : Int64) (v5 : Int64) (μ : sd_Me) (H : Heap) (locs : List Loc) (ls : Array Slot) (hI : sd_CI vwCl (wdX q cA) D A s H locs μ) (hl : lv_has ls 9 [(1, .int v1), (3, .long v3), (5, .long v5)]) (hf : fn_Numbers_resultOf_r2_J104 v1 v3 v5 μ = some ru) : W p l e ({ frames := 2, cells := 0, slots := 0, locals := 48 }) s m args below meth c H locs 0 0 (sd_QL below vwCl (wdX q cA) D [(cA, .int)] A args s ru) (F0 m 104 ls []) := by
  obtain ⟨hx, hb, hml, hown, hts, hK, hZ, hA, hr, hlocks⟩ := id X
  unfold fn_Numbers_resultOf_r2_J104 at hf
  refine lv_iload_n hx hb d_Numbers_resultOf_104 rfl (lv_at hl 0 rfl) ?_
  refine lv_sipush (v := 163) hx hb d_Numbers_resultOf_105 (by decide) ?_
  refine lv_icmp_ne (tgt := 120) hx hb d_Numbers_resultOf_108 (by decide) (fun hc => ?_) (fun hc => ?_)
  · have hf := sd_f hf hc
    refine lv_lload hx hb d_Numbers_resultOf_120 (lv_at hl 2 rfl) ?_
    refine lv_lload_n hx hb d_Numbers_resultOf_122 rfl (lv_at hl 1 rfl) ?_
    refine va_mmax_long hx hb (hml.trans hl.1.symm) hown (hts _ tw_360) (hts _ tw_361) (hts _ tw_11) (hts _ tw_362) (Nat.le_of_ble_eq_true rfl) (Nat.le_of_ble_eq_true rfl) (Nat.zero_le _) (Nat.zero_le _) d_Numbers_resultOf_123 ?_
    exact k_retl X hI hf d_Numbers_resultOf_126
  · have hf := sd_t hf hc
    refine lv_lload hx hb d_Numbers_resultOf_111 (lv_at hl 2 rfl) ?_
    refine lv_lload_n hx hb d_Numbers_resultOf_113 rfl (lv_at hl 1 rfl) ?_
    refine va_mmin_long hx hb (hml.trans hl.1.symm) hown (hts _ tw_357) (hts _ tw_358) (hts _ tw_11) (hts _ tw_359) (Nat.le_of_ble_eq_true rfl) (Nat.le_of_ble_eq_true rfl) (Nat.zero_le _) (Nat.zero_le _) d_Numbers_resultOf_114 ?_
    refine lv_goto (tgt := 126) hx hb d_Numbers_resultOf_117 (by decide) ?_
    exact k_retl X hI hf d_Numbers_resultOf_126
set_option maxHeartbeats 4000000 in
set_option maxRecDepth 100000 in
theorem mt_Numbers_resultOf_r2 (l : Launch) {D : va_G} {q tq : Nat → Nat} {cA : ClassId} {a1 : Int32} {a2 : Int32} {μ : sd_Me} {ru : Int64 × sd_Me} (hf : fn_Numbers_resultOf_r2 a1 a2 μ = some ru) : sd_CTl l y_Numbers_resultOf w_Numbers_resultOf ({ frames := 2, cells := 0, slots := 0, locals := 48 }) vwCl (wdX q cA) D [(cA, .int)] (ZX tq) [.ref (q 2), .int a1, .int a2] μ ru := by
  refine k_entl (cc := prog_6_method_4_code) 9 (by decide) rfl (Nat.le_of_ble_eq_true rfl) ?_
  intro p e s m below meth c A ls X hI hl
  have hl : lv_has ls 9 [(0, .ref (q 2)), (1, .int a1), (2, .int a2)] := hl
  obtain ⟨hx, hb, hml, hown, hts, hK, hZ, hA, hr, hlocks⟩ := id X
  unfold fn_Numbers_resultOf_r2 at hf
  refine lv_aload_n hx hb d_Numbers_resultOf_0 rfl (lv_at hl 0 rfl) ?_
  refine lv_iconst (v := 0) hx hb d_Numbers_resultOf_1 (by decide) ?_
  obtain ⟨x2, m1, hq, hf⟩ := sd_bl_e hf
  refine k_callVl (As := [.int (0 : Int32)]) (rest := []) (C := "ScriptDesk$Elements") (ci := 1) ZX_ok X hI (mt_Elements_numberAt_r2 l hq) (cwV 1 hts (gd_V tw_353 tw_299 tw_300 tw_2 tw_301) rfl rfl rfl (by decide +kernel) ⟨Nat.le_of_ble_eq_true rfl, Nat.le_of_ble_eq_true rfl⟩) 2 rfl rfl rfl hl.1 rfl (Nat.le_of_ble_eq_true rfl) d_Numbers_resultOf_2 ⟨Nat.zero_le _, Nat.zero_le _⟩ (fun H locs hI => ?_)
  refine lv_lstore_n (lv' := [(3, .long x2), (0, .ref (q 2)), (1, .int a1), (2, .int a2)]) hx hb d_Numbers_resultOf_5 rfl hl (by decide) rfl (fun ls hl => ?_)
  refine lv_iload_n hx hb d_Numbers_resultOf_6 rfl (lv_at hl 3 rfl) ?_
  refine lv_iconst (v := 1) hx hb d_Numbers_resultOf_7 (by decide) ?_
  refine lv_icmp_ne (tgt := 17) hx hb d_Numbers_resultOf_8 (by decide) (fun hc => ?_) (fun hc => ?_)
  · have hf := sd_f hf hc
    refine lv_aload_n hx hb d_Numbers_resultOf_17 rfl (lv_at hl 1 rfl) ?_
    refine lv_iconst (v := 1) hx hb d_Numbers_resultOf_18 (by decide) ?_
    obtain ⟨x4, m3, hq, hf⟩ := sd_bl_e hf
    refine k_callVl (As := [.int (1 : Int32)]) (rest := []) (C := "ScriptDesk$Elements") (ci := 1) ZX_ok X hI (mt_Elements_numberAt_r2 l hq) (cwV 1 hts (gd_V tw_353 tw_299 tw_300 tw_2 tw_301) rfl rfl rfl (by decide +kernel) ⟨Nat.le_of_ble_eq_true rfl, Nat.le_of_ble_eq_true rfl⟩) 2 rfl rfl rfl hl.1 rfl (Nat.le_of_ble_eq_true rfl) d_Numbers_resultOf_19 ⟨Nat.zero_le _, Nat.zero_le _⟩ (fun H locs hI => ?_)
    refine lv_lstore (lv' := [(5, .long x4), (3, .long x2), (0, .ref (q 2)), (1, .int a1), (2, .int a2)]) hx hb d_Numbers_resultOf_22 hl (by decide) rfl (fun ls hl => ?_)
    refine lv_iload_n hx hb d_Numbers_resultOf_24 rfl (lv_at hl 4 rfl) ?_
    refine lv_iconst (v := 3) hx hb d_Numbers_resultOf_25 (by decide) ?_
    refine lv_icmp_ne (tgt := 57) hx hb d_Numbers_resultOf_26 (by decide) (fun hc => ?_) (fun hc => ?_)
    · have hf := sd_f hf hc
      refine lv_iload_n hx hb d_Numbers_resultOf_57 rfl (lv_at hl 3 rfl) ?_
      refine lv_sipush (v := 147) hx hb d_Numbers_resultOf_58 (by decide) ?_
      refine lv_icmp_eq (tgt := 71) hx hb d_Numbers_resultOf_61 (by decide) (fun hc => ?_) (fun hc => ?_)
      · have hf := sd_t hf hc
        exact jn_Numbers_resultOf_r2_J71 l X (a1) (x2) (x4) m3 _ _ _ hI (lv_sub hl [3, 1, 0] rfl) hf
      · have hf := sd_f hf hc
        refine lv_iload_n hx hb d_Numbers_resultOf_64 rfl (lv_at hl 3 rfl) ?_
        refine lv_sipush (v := 148) hx hb d_Numbers_resultOf_65 (by decide) ?_
        refine lv_icmp_ne (tgt := 90) hx hb d_Numbers_resultOf_68 (by decide) (fun hc => ?_) (fun hc => ?_)
        · have hf := sd_f hf hc
          refine lv_iload_n hx hb d_Numbers_resultOf_90 rfl (lv_at hl 3 rfl) ?_
          refine lv_sipush (v := 163) hx hb d_Numbers_resultOf_91 (by decide) ?_
          refine lv_icmp_eq (tgt := 104) hx hb d_Numbers_resultOf_94 (by decide) (fun hc => ?_) (fun hc => ?_)
          · have hf := sd_t hf hc
            exact jn_Numbers_resultOf_r2_J104 l X (a1) (x2) (x4) m3 _ _ _ hI (lv_sub hl [3, 1, 0] rfl) hf
          · have hf := sd_f hf hc
            refine lv_iload_n hx hb d_Numbers_resultOf_97 rfl (lv_at hl 3 rfl) ?_
            refine lv_sipush (v := 164) hx hb d_Numbers_resultOf_98 (by decide) ?_
            refine lv_icmp_ne (tgt := 127) hx hb d_Numbers_resultOf_101 (by decide) (fun hc => ?_) (fun hc => ?_)
            · have hf := sd_f hf hc
              refine lv_iload_n hx hb d_Numbers_resultOf_127 rfl (lv_at hl 3 rfl) ?_
              refine lv_lload hx hb d_Numbers_resultOf_128 (lv_at hl 0 rfl) ?_
              refine lv_lload_n hx hb d_Numbers_resultOf_130 rfl (lv_at hl 1 rfl) ?_
              obtain ⟨x6, m5, hq, hf⟩ := sd_bi_e hf
              refine k_callS (As := [.int a1, .long x4, .long x2]) (rest := []) ZX_ok X hI (mt_Numbers_compare l hq) (va_cwS 3 hts (gd_S tw_363 tw_364 tw_13 tw_365) rfl rfl rfl (by decide +kernel) ⟨Nat.le_of_ble_eq_true rfl, Nat.le_of_ble_eq_true rfl⟩) rfl hl.1 rfl (Nat.le_of_ble_eq_true rfl) d_Numbers_resultOf_131 ⟨Nat.zero_le _, Nat.zero_le _⟩ (fun H locs hn_x6 hI => ?_)
              refine lv_if_eq (tgt := 141) hx hb d_Numbers_resultOf_134 (by decide) (fun hc => ?_) (fun hc => ?_)
              · have hf := sd_t hf hc
                refine lv_lconst (v := 0) hx hb d_Numbers_resultOf_141 (by decide) ?_
                exact k_retl X hI hf d_Numbers_resultOf_142
              · have hf := sd_f hf hc
                refine lv_lconst (v := 1) hx hb d_Numbers_resultOf_137 (by decide) ?_
                refine lv_goto (tgt := 142) hx hb d_Numbers_resultOf_138 (by decide) ?_
                exact k_retl X hI hf d_Numbers_resultOf_142
            · have hf := sd_t hf hc
              exact jn_Numbers_resultOf_r2_J104 l X (a1) (x2) (x4) m3 _ _ _ hI (lv_sub hl [3, 1, 0] rfl) hf
        · have hf := sd_t hf hc
          exact jn_Numbers_resultOf_r2_J71 l X (a1) (x2) (x4) m3 _ _ _ hI (lv_sub hl [3, 1, 0] rfl) hf
    · have hf := sd_t hf hc
      refine lv_aload_n hx hb d_Numbers_resultOf_29 rfl (lv_at hl 2 rfl) ?_
      refine lv_iconst (v := 2) hx hb d_Numbers_resultOf_30 (by decide) ?_
      obtain ⟨x8, m7, hq, hf⟩ := sd_bl_e hf
      refine k_callVl (As := [.int (2 : Int32)]) (rest := []) (C := "ScriptDesk$Elements") (ci := 1) ZX_ok X hI (mt_Elements_numberAt_r2 l hq) (cwV 1 hts (gd_V tw_353 tw_299 tw_300 tw_2 tw_301) rfl rfl rfl (by decide +kernel) ⟨Nat.le_of_ble_eq_true rfl, Nat.le_of_ble_eq_true rfl⟩) 2 rfl rfl rfl hl.1 rfl (Nat.le_of_ble_eq_true rfl) d_Numbers_resultOf_31 ⟨Nat.zero_le _, Nat.zero_le _⟩ (fun H locs hI => ?_)
      refine lv_lstore (lv' := [(7, .long x8), (5, .long x4), (3, .long x2), (0, .ref (q 2)), (1, .int a1), (2, .int a2)]) hx hb d_Numbers_resultOf_34 hl (by decide) rfl (fun ls hl => ?_)
      refine lv_lload hx hb d_Numbers_resultOf_36 (lv_at hl 1 rfl) ?_
      refine lv_lload hx hb d_Numbers_resultOf_38 (lv_at hl 0 rfl) ?_
      refine W.lcmp hx hb d_Numbers_resultOf_40 ?_
      refine lv_if_gt (tgt := 55) hx hb d_Numbers_resultOf_41 (by decide) (fun hc => ?_) (fun hc => ?_)
      · have hf := sd_t hf hc
        refine lv_lconst (v := 0) hx hb d_Numbers_resultOf_55 (by decide) ?_
        exact k_retl X hI hf d_Numbers_resultOf_56
      · have hf := sd_f hf hc
        refine lv_lload hx hb d_Numbers_resultOf_44 (lv_at hl 0 rfl) ?_
        refine lv_lload_n hx hb d_Numbers_resultOf_46 rfl (lv_at hl 2 rfl) ?_
        refine W.lcmp hx hb d_Numbers_resultOf_47 ?_
        refine lv_if_ge (tgt := 55) hx hb d_Numbers_resultOf_48 (by decide) (fun hc => ?_) (fun hc => ?_)
        · have hf := sd_t hf hc
          refine lv_lconst (v := 0) hx hb d_Numbers_resultOf_55 (by decide) ?_
          exact k_retl X hI hf d_Numbers_resultOf_56
        · have hf := sd_f hf hc
          refine lv_lconst (v := 1) hx hb d_Numbers_resultOf_51 (by decide) ?_
          refine lv_goto (tgt := 56) hx hb d_Numbers_resultOf_52 (by decide) ?_
          exact k_retl X hI hf d_Numbers_resultOf_56
  · have hf := sd_t hf hc
    refine lv_iload_n hx hb d_Numbers_resultOf_11 rfl (lv_at hl 2 rfl) ?_
    refine lv_lload_n hx hb d_Numbers_resultOf_12 rfl (lv_at hl 0 rfl) ?_
    obtain ⟨x10, m9, hq, hf⟩ := sd_bl_e hf
    refine k_callSl (As := [.int a1, .long x2]) (rest := []) ZX_ok X hI (mt_Numbers_ofOne l hq) (va_cwS 2 hts (gd_S tw_354 tw_355 tw_13 tw_356) rfl rfl rfl (by decide +kernel) ⟨Nat.le_of_ble_eq_true rfl, Nat.le_of_ble_eq_true rfl⟩) rfl hl.1 rfl (Nat.le_of_ble_eq_true rfl) d_Numbers_resultOf_13 ⟨Nat.zero_le _, Nat.zero_le _⟩ (fun H locs hI => ?_)
    exact k_retl X hI hf d_Numbers_resultOf_16
set_option maxHeartbeats 4000000 in
set_option maxRecDepth 100000 in
theorem lp_Numbers_perform_r2_L13 (l : Launch) {p : Program} {e : Env} {s : State} {m : MethodId} {args : Array Value} {below : List Frame} {meth : Method} {c : Code} {A : Nat → Prop} {D : va_G} {q tq : Nat → Nat} {cA : ClassId} {ru : Int32 × sd_Me} (X : sd_Cx p s m args meth c prog_6_method_2_code "ScriptDesk$Numbers" sx_tbl 5 (some .int) vwCl D [(cA, .int)] (ZX tq) A) {k39 : Int32 → Int32 → sd_Me → Option (Int32 × sd_Me)} (hk39 : ∀ (v1 : Int32) (v2 : Int32) (μ : sd_Me) (H : Heap) (locs : List Loc) (ls : Array Slot), sd_CI vwCl (wdX q cA) D A s H locs μ → lv_has ls 5 [(0, .ref (q 2)), (1, .int v1), (2, .int v2)] → k39 v1 v2 μ = some ru → W p l e ({ frames := 3, cells := 0, slots := 0, locals := 76 }) s m args below meth c H locs 0 0 (sd_QI below vwCl (wdX q cA) D [(cA, .int)] .int A args s ru) (F0 m 39 ls [])) :
    ∀ (n : Nat) (v1 : Int32) (v2 : Int32) (v3 : Int32) (μ : sd_Me) (H : Heap) (locs : List Loc) (ls : Array Slot), sd_CI vwCl (wdX q cA) D A s H locs μ → lv_has ls 5 [(0, .ref (q 2)), (1, .int v1), (2, .int v2), (3, .int v3)] → fn_Numbers_perform_r2_L13 k39 n v1 v2 v3 μ = some ru → W p l e ({ frames := 3, cells := 0, slots := 0, locals := 76 }) s m args below meth c H locs 0 0 (sd_QI below vwCl (wdX q cA) D [(cA, .int)] .int A args s ru) (F0 m 13 ls []) := by
  obtain ⟨hx, hb, hml, hown, hts, hK, hZ, hA, hr, hlocks⟩ := id X
  intro n
  induction n with
  | zero =>
    intro v1 v2 v3 μ H locs ls hI hl hf
    cases hf
  | succ n ih =>
    intro v1 v2 v3 μ H locs ls hI hl hf
    rw [fn_Numbers_perform_r2_L13] at hf
    refine lv_iload_n hx hb d_Numbers_perform_13 rfl (lv_at hl 3 rfl) ?_
    refine lv_iload_n hx hb d_Numbers_perform_14 rfl (lv_at hl 2 rfl) ?_
    refine lv_icmp_ge (tgt := 39) hx hb d_Numbers_perform_15 (by decide) (fun hc => ?_) (fun hc => ?_)
    · have hf := sd_t hf hc
      exact hk39 (v1) (v2) μ _ _ _ hI (lv_sub hl [0, 1, 2] rfl) hf
    · have hf := sd_f hf hc
      refine lv_aload_n hx hb d_Numbers_perform_18 rfl (lv_at hl 0 rfl) ?_
      refine lv_iload_n hx hb d_Numbers_perform_19 rfl (lv_at hl 3 rfl) ?_
      obtain ⟨x4, m3, hq, hf⟩ := sd_bi_e hf
      refine k_callV (As := [.int v3]) (rest := []) (C := "ScriptDesk$Elements") (ci := 1) ZX_ok X hI (mt_Elements_faultOfNumber_r2 l hq) (cwV 1 hts (gd_V tw_349 tw_295 tw_296 tw_2 tw_297) rfl rfl rfl (by decide +kernel) ⟨Nat.le_of_ble_eq_true rfl, Nat.le_of_ble_eq_true rfl⟩) 2 rfl rfl rfl hl.1 rfl (Nat.le_of_ble_eq_true rfl) d_Numbers_perform_20 ⟨Nat.zero_le _, Nat.zero_le _⟩ (fun H locs hn_x4 hI => ?_)
      refine lv_istore (lv' := [(4, .int x4), (0, .ref (q 2)), (1, .int v1), (2, .int v2), (3, .int v3)]) hx hb d_Numbers_perform_23 hl (by decide) rfl (fun ls hl => ?_)
      refine lv_iload hx hb d_Numbers_perform_25 (lv_at hl 0 rfl) ?_
      refine lv_if_eq (tgt := 33) hx hb d_Numbers_perform_27 (by decide) (fun hc => ?_) (fun hc => ?_)
      · have hf := sd_t hf hc
        refine lv_iinc (v := (v3 + (1 : Int32))) (lv' := [(3, .int (v3 + (1 : Int32))), (4, .int x4), (0, .ref (q 2)), (1, .int v1), (2, .int v2)]) hx hb d_Numbers_perform_33 hl (k := 4) rfl rfl (by decide) rfl (fun ls hl => ?_)
        refine lv_goto (tgt := 13) hx hb d_Numbers_perform_36 (by decide) ?_
        exact ih (v1) (v2) ((v3 + (1 : Int32))) m3 _ _ _ hI (lv_sub hl [2, 3, 4, 0] rfl) hf
      · have hf := sd_f hf hc
        refine lv_iload hx hb d_Numbers_perform_30 (lv_at hl 0 rfl) ?_
        exact k_reti X hI (vp_nar_int _) hf d_Numbers_perform_32
set_option maxHeartbeats 4000000 in
set_option maxRecDepth 100000 in
theorem mt_Numbers_perform_r2 (l : Launch) {D : va_G} {q tq : Nat → Nat} {cA : ClassId} {a1 : Int32} {μ : sd_Me} {ru : Int32 × sd_Me} (hf : fn_Numbers_perform_r2 a1 μ = some ru) : sd_CTi l y_Numbers_perform w_Numbers_perform ({ frames := 3, cells := 0, slots := 0, locals := 76 }) vwCl (wdX q cA) D [(cA, .int)] (ZX tq) .int [.ref (q 2), .int a1] μ ru := by
  refine k_enti (cc := prog_6_method_2_code) 5 (by decide) rfl (Nat.le_of_ble_eq_true rfl) ?_
  intro p e s m below meth c A ls X hI hl
  have hl : lv_has ls 5 [(0, .ref (q 2)), (1, .int a1)] := hl
  obtain ⟨hx, hb, hml, hown, hts, hK, hZ, hA, hr, hlocks⟩ := id X
  unfold fn_Numbers_perform_r2 at hf
  refine lv_iload_n hx hb d_Numbers_perform_0 rfl (lv_at hl 1 rfl) ?_
  obtain ⟨x2, m1, hq, hf⟩ := sd_bi_e hf
  refine k_callS (As := [.int a1]) (rest := []) ZX_ok X hI (mt_Numbers_operandsOf l hq) (va_cwS 1 hts (gd_S tw_346 tw_347 tw_13 tw_348) rfl rfl rfl (by decide +kernel) ⟨Nat.le_of_ble_eq_true rfl, Nat.le_of_ble_eq_true rfl⟩) rfl hl.1 rfl (Nat.le_of_ble_eq_true rfl) d_Numbers_perform_1 ⟨Nat.zero_le _, Nat.zero_le _⟩ (fun H locs hn_x2 hI => ?_)
  refine lv_istore_n (lv' := [(2, .int x2), (0, .ref (q 2)), (1, .int a1)]) hx hb d_Numbers_perform_4 rfl hl (by decide) rfl (fun ls hl => ?_)
  refine lv_iload_n hx hb d_Numbers_perform_5 rfl (lv_at hl 0 rfl) ?_
  refine lv_if_ne (tgt := 11) hx hb d_Numbers_perform_6 (by decide) (fun hc => ?_) (fun hc => ?_)
  · have hf := sd_f hf hc
    refine lv_iconst (v := 0) hx hb d_Numbers_perform_11 (by decide) ?_
    refine lv_istore_n (lv' := [(3, .int (0 : Int32)), (2, .int x2), (0, .ref (q 2)), (1, .int a1)]) hx hb d_Numbers_perform_12 rfl hl (by decide) rfl (fun ls hl => ?_)
    refine lp_Numbers_perform_r2_L13 l X ?_ 10000 (a1) (x2) ((0 : Int32)) m1 _ _ _ hI (lv_sub hl [2, 3, 1, 0] rfl) hf
    · intro x5 x6 m7 H locs ls hI hl hf
      refine lv_aload_n hx hb d_Numbers_perform_39 rfl (lv_at hl 0 rfl) ?_
      refine lv_iload_n hx hb d_Numbers_perform_40 rfl (lv_at hl 1 rfl) ?_
      refine lv_iload_n hx hb d_Numbers_perform_41 rfl (lv_at hl 2 rfl) ?_
      obtain ⟨x9, m8, hq, hf⟩ := sd_bl_e hf
      refine k_callSl (As := [.ref (q 2), .int x5, .int x6]) (rest := []) ZX_ok X hI (mt_Numbers_resultOf_r2 l hq) (va_cwS 3 hts (gd_S tw_350 tw_351 tw_13 tw_352) rfl rfl rfl (by decide +kernel) ⟨Nat.le_of_ble_eq_true rfl, Nat.le_of_ble_eq_true rfl⟩) rfl hl.1 rfl (Nat.le_of_ble_eq_true rfl) d_Numbers_perform_42 ⟨Nat.zero_le _, Nat.zero_le _⟩ (fun H locs hI => ?_)
      refine lv_lstore_n (lv' := [(3, .long x9), (0, .ref (q 2)), (1, .int x5), (2, .int x6)]) hx hb d_Numbers_perform_45 rfl hl (by decide) rfl (fun ls hl => ?_)
      refine lv_aload_n hx hb d_Numbers_perform_46 rfl (lv_at hl 1 rfl) ?_
      refine lv_iload_n hx hb d_Numbers_perform_47 rfl (lv_at hl 3 rfl) ?_
      obtain ⟨m10, hq, hf⟩ := sd_bv_e hf
      refine k_callVv (As := [.int x6]) (rest := []) (C := "ScriptDesk$Elements") (ci := 1) ZX_ok X hI (mt_Elements_drop_r2 l hq) (cwV 1 hts (gd_V tw_366 tw_235 tw_236 tw_2 tw_237) rfl rfl rfl (by decide +kernel) ⟨Nat.le_of_ble_eq_true rfl, Nat.le_of_ble_eq_true rfl⟩) 2 rfl rfl rfl hl.1 rfl (Nat.le_of_ble_eq_true rfl) d_Numbers_perform_48 ⟨Nat.zero_le _, Nat.zero_le _⟩ (fun H locs hI => ?_)
      refine lv_aload_n hx hb d_Numbers_perform_51 rfl (lv_at hl 1 rfl) ?_
      refine lv_lload_n hx hb d_Numbers_perform_52 rfl (lv_at hl 0 rfl) ?_
      obtain ⟨m11, hq, hf⟩ := sd_bv_e hf
      refine k_callVv (As := [.long x9]) (rest := []) (C := "ScriptDesk$Elements") (ci := 1) ZX_ok X hI (mt_Elements_pushNumber_r2 l hq) (cwV 1 hts (gd_V tw_367 tw_262 tw_263 tw_2 tw_264) rfl rfl rfl (by decide +kernel) ⟨Nat.le_of_ble_eq_true rfl, Nat.le_of_ble_eq_true rfl⟩) 2 rfl rfl rfl hl.1 rfl (Nat.le_of_ble_eq_true rfl) d_Numbers_perform_53 ⟨Nat.zero_le _, Nat.zero_le _⟩ (fun H locs hI => ?_)
      refine lv_iload_n hx hb d_Numbers_perform_56 rfl (lv_at hl 2 rfl) ?_
      refine lv_sipush (v := 157) hx hb d_Numbers_perform_57 (by decide) ?_
      refine lv_icmp_ne (tgt := 70) hx hb d_Numbers_perform_60 (by decide) (fun hc => ?_) (fun hc => ?_)
      · have hf := sd_f hf hc
        refine lv_iconst (v := 0) hx hb d_Numbers_perform_70 (by decide) ?_
        exact k_reti X hI (vp_nar_int _) hf d_Numbers_perform_71
      · have hf := sd_t hf hc
        refine lv_aload_n hx hb d_Numbers_perform_63 rfl (lv_at hl 1 rfl) ?_
        obtain ⟨x13, m12, hq, hf⟩ := sd_bi_e hf
        refine k_callV (As := []) (rest := []) (C := "ScriptDesk$Elements") (ci := 1) ZX_ok X hI (mt_Elements_takeTrue_r2 l hq) (cwV 0 hts (gd_V tw_368 tw_271 tw_272 tw_2 tw_273) rfl rfl rfl (by decide +kernel) ⟨Nat.le_of_ble_eq_true rfl, Nat.le_of_ble_eq_true rfl⟩) 2 rfl rfl rfl hl.1 rfl (Nat.le_of_ble_eq_true rfl) d_Numbers_perform_64 ⟨Nat.zero_le _, Nat.zero_le _⟩ (fun H locs hn_x13 hI => ?_)
        refine lv_goto (tgt := 71) hx hb d_Numbers_perform_67 (by decide) ?_
        exact k_reti X hI (vp_nar_int _) hf d_Numbers_perform_71
  · have hf := sd_t hf hc
    refine lv_iconst (v := 4) hx hb d_Numbers_perform_9 (by decide) ?_
    exact k_reti X hI (vp_nar_int _) hf d_Numbers_perform_10
set_option maxHeartbeats 4000000 in
set_option maxRecDepth 100000 in
theorem mt_Elements_push_r2_r3 (l : Launch) {D : va_G} {q tq : Nat → Nat} {cA : ClassId} {a2 : Int32} {a3 : Int32} {μ : sd_Me} {ru : sd_Me} (hf : fn_Elements_push_r2_r3 a2 a3 μ = some ru) : sd_CTv l y_Elements_push w_Elements_push ({ frames := 1, cells := 0, slots := 0, locals := 35 }) vwCl (wdX q cA) D [(cA, .int)] (ZX tq) [.ref (q 2), .ref (q 3), .int a2, .int a3] μ ru := by
  refine k_entv (cc := prog_3_method_11_code) 5 (by decide) rfl (Nat.le_of_ble_eq_true rfl) ?_
  intro p e s m below meth c A ls X hI hl
  have hl : lv_has ls 5 [(0, .ref (q 2)), (1, .ref (q 3)), (2, .int a2), (3, .int a3)] := hl
  obtain ⟨hx, hb, hml, hown, hts, hK, hZ, hA, hr, hlocks⟩ := id X
  unfold fn_Elements_push_r2_r3 at hf
  refine lv_iload_n hx hb d_Elements_push_0 rfl (lv_at hl 2 rfl) ?_
  refine lv_if_lt (tgt := 36) hx hb d_Elements_push_1 (by decide) (fun hc => ?_) (fun hc => ?_)
  · have hf := sd_t hf hc
    exact k_retv X hI hf d_Elements_push_36
  · have hf := sd_f hf hc
    refine lv_iload_n hx hb d_Elements_push_4 rfl (lv_at hl 3 rfl) ?_
    refine lv_if_lt (tgt := 36) hx hb d_Elements_push_5 (by decide) (fun hc => ?_) (fun hc => ?_)
    · have hf := sd_t hf hc
      exact k_retv X hI hf d_Elements_push_36
    · have hf := sd_f hf hc
      refine lv_iload_n hx hb d_Elements_push_8 rfl (lv_at hl 3 rfl) ?_
      refine lv_bipush (v := 120) hx hb d_Elements_push_9 (by decide) ?_
      refine lv_icmp_gt (tgt := 36) hx hb d_Elements_push_11 (by decide) (fun hc => ?_) (fun hc => ?_)
      · have hf := sd_t hf hc
        exact k_retv X hI hf d_Elements_push_36
      · have hf := sd_f hf hc
        refine lv_iload_n hx hb d_Elements_push_14 rfl (lv_at hl 3 rfl) ?_
        refine lv_aload_n hx hb d_Elements_push_15 rfl (lv_at hl 1 rfl) ?_
        refine va_alen (v := 7680) hx hb hK hI.1 3 0 rfl rfl (show Int32.ofNat 7680 = 7680 by decide) d_Elements_push_16 ?_
        refine lv_iload_n hx hb d_Elements_push_17 rfl (lv_at hl 2 rfl) ?_
        refine lv_isub hx hb d_Elements_push_18 ?_
        refine lv_icmp_gt (tgt := 36) hx hb d_Elements_push_19 (by decide) (fun hc => ?_) (fun hc => ?_)
        · have hf := sd_t hf hc
          exact k_retv X hI hf d_Elements_push_36
        · have hf := sd_f hf hc
          refine lv_aload_n hx hb d_Elements_push_22 rfl (lv_at hl 0 rfl) ?_
          refine va_get (D := D) (ci := 1) (v := .int (μ.1 2 4)) (C := "ScriptDesk$Elements") (T := T_Elements) (N := 5) hx hb hts iw_Elements hown hK hI.1 2 rfl rfl 4 (by decide) (hts _ tw_33) (fun _ h9 => h9) rfl d_Elements_push_23 ?_
          refine lv_aload_n hx hb d_Elements_push_26 rfl (lv_at hl 0 rfl) ?_
          refine va_get (D := D) (ci := 1) (v := .int (μ.1 2 3)) (C := "ScriptDesk$Elements") (T := T_Elements) (N := 5) hx hb hts iw_Elements hown hK hI.1 2 rfl rfl 3 (by decide) (hts _ tw_32) (fun _ h9 => h9) rfl d_Elements_push_27 ?_
          refine lv_iadd hx hb d_Elements_push_30 ?_
          refine lv_bipush (v := 64) hx hb d_Elements_push_31 (by decide) ?_
          refine lv_icmp_lt (tgt := 37) hx hb d_Elements_push_33 (by decide) (fun hc => ?_) (fun hc => ?_)
          · have hf := sd_t hf hc
            refine lv_aload_n hx hb d_Elements_push_37 rfl (lv_at hl 0 rfl) ?_
            refine va_get (D := D) (ci := 1) (v := .ref (q 5)) (C := "ScriptDesk$Elements") (T := T_Elements) (N := 5) hx hb hts iw_Elements hown hK hI.1 2 rfl rfl 2 (by decide) (hts _ tw_31) (fun _ h9 => h9) rfl d_Elements_push_38 ?_
            refine lv_aload_n hx hb d_Elements_push_41 rfl (lv_at hl 0 rfl) ?_
            refine va_get (D := D) (ci := 1) (v := .int (μ.1 2 4)) (C := "ScriptDesk$Elements") (T := T_Elements) (N := 5) hx hb hts iw_Elements hown hK hI.1 2 rfl rfl 4 (by decide) (hts _ tw_33) (fun _ h9 => h9) rfl d_Elements_push_42 ?_
            obtain ⟨hg, hf⟩ := sd_gd_e hf
            refine k_iald hx hb hK hI 5 0 rfl rfl hg d_Elements_push_45 ?_
            refine k_li hf (fun x1 hf => ?_)
            refine lv_istore (lv' := [(4, .int x1), (0, .ref (q 2)), (1, .ref (q 3)), (2, .int a2), (3, .int a3)]) hx hb d_Elements_push_46 hl (by decide) rfl (fun ls hl => ?_)
            refine lv_aload_n hx hb d_Elements_push_48 rfl (lv_at hl 2 rfl) ?_
            refine lv_iload_n hx hb d_Elements_push_49 rfl (lv_at hl 3 rfl) ?_
            refine lv_aload_n hx hb d_Elements_push_50 rfl (lv_at hl 1 rfl) ?_
            refine va_get (D := D) (ci := 1) (v := .ref (q 3)) (C := "ScriptDesk$Elements") (T := T_Elements) (N := 5) hx hb hts iw_Elements hown hK hI.1 2 rfl rfl 0 (by decide) (hts _ tw_29) (fun _ h9 => h9) rfl d_Elements_push_51 ?_
            refine lv_iload hx hb d_Elements_push_54 (lv_at hl 0 rfl) ?_
            refine lv_bipush (v := 120) hx hb d_Elements_push_56 (by decide) ?_
            refine lv_imul hx hb d_Elements_push_58 ?_
            refine lv_iload_n hx hb d_Elements_push_59 rfl (lv_at hl 4 rfl) ?_
            obtain ⟨hg, hf⟩ := sd_gd_e hf
            refine k_copy (μ' := sd_mrow μ 3 (va_cpy (μ.1 3) (μ.1 3) (Int32.toNatClampNeg a2) (Int32.toNatClampNeg (x1 * (120 : Int32))) (Int32.toNatClampNeg a3))) hx hb (hml.trans hl.1.symm) hown (hts _ tw_203) (hts _ tw_205) (hts _ tw_204) (hts _ tw_10) hK hI 3 3 0 0 rfl rfl rfl rfl rfl hg (Nat.le_of_ble_eq_true rfl) (Nat.le_of_ble_eq_true rfl) d_Elements_push_60 (fun H locs hI => ?_)
            obtain ⟨m2, hI, hf⟩ := k_lm hf hI
            refine lv_aload_n hx hb d_Elements_push_63 rfl (lv_at hl 1 rfl) ?_
            refine va_get (D := D) (ci := 1) (v := .ref (q 4)) (C := "ScriptDesk$Elements") (T := T_Elements) (N := 5) hx hb hts iw_Elements hown hK hI.1 2 rfl rfl 1 (by decide) (hts _ tw_30) (fun _ h9 => h9) rfl d_Elements_push_64 ?_
            refine lv_iload hx hb d_Elements_push_67 (lv_at hl 0 rfl) ?_
            refine lv_iload_n hx hb d_Elements_push_69 rfl (lv_at hl 4 rfl) ?_
            obtain ⟨hg, hf⟩ := sd_gd_e hf
            refine k_iast (μ' := sd_st m2 4 (Int32.toNatClampNeg x1) a3) hx hb hK hI 4 0 rfl rfl rfl hg d_Elements_push_70 (fun H locs hI => ?_)
            obtain ⟨m3, hI, hf⟩ := k_lm hf hI
            refine lv_aload_n hx hb d_Elements_push_71 rfl (lv_at hl 1 rfl) ?_
            refine lv_dup hx hb d_Elements_push_72 rfl ?_
            refine va_get (D := D) (ci := 1) (v := .int (m3.1 2 4)) (C := "ScriptDesk$Elements") (T := T_Elements) (N := 5) hx hb hts iw_Elements hown hK hI.1 2 rfl rfl 4 (by decide) (hts _ tw_33) (fun _ h9 => h9) rfl d_Elements_push_73 ?_
            refine lv_iconst (v := 1) hx hb d_Elements_push_76 (by decide) ?_
            refine lv_iadd hx hb d_Elements_push_77 ?_
            refine k_put (ci := 1) (v := .int ((m3.1 2 4) + (1 : Int32))) (ty := .int) (C := "ScriptDesk$Elements") (T := T_Elements) (N := 5) (μ' := sd_st m3 2 4 ((m3.1 2 4) + (1 : Int32))) hx hb hts iw_Elements t_Elements t_Elements_ok n_Elements hown hK hI 2 rfl rfl 4 (by decide) (hts _ tw_33) (fun _ h9 => h9) rfl (by decide +kernel) rfl rfl (Nat.le_of_ble_eq_true rfl) rfl d_Elements_push_78 (fun H locs hI => ?_)
            obtain ⟨m4, hI, hf⟩ := k_lm hf hI
            exact k_retv X hI hf d_Elements_push_81
          · have hf := sd_f hf hc
            exact k_retv X hI hf d_Elements_push_36
set_option maxHeartbeats 4000000 in
set_option maxRecDepth 100000 in
theorem mt_Elements_pushCopy_r2 (l : Launch) {D : va_G} {q tq : Nat → Nat} {cA : ClassId} {a1 : Int32} {μ : sd_Me} {ru : sd_Me} (hf : fn_Elements_pushCopy_r2 a1 μ = some ru) : sd_CTv l y_Elements_pushCopy w_Elements_pushCopy ({ frames := 2, cells := 0, slots := 0, locals := 59 }) vwCl (wdX q cA) D [(cA, .int)] (ZX tq) [.ref (q 2), .int a1] μ ru := by
  refine k_entv (cc := prog_3_method_12_code) 3 (by decide) rfl (Nat.le_of_ble_eq_true rfl) ?_
  intro p e s m below meth c A ls X hI hl
  have hl : lv_has ls 3 [(0, .ref (q 2)), (1, .int a1)] := hl
  obtain ⟨hx, hb, hml, hown, hts, hK, hZ, hA, hr, hlocks⟩ := id X
  unfold fn_Elements_pushCopy_r2 at hf
  refine lv_aload_n hx hb d_Elements_pushCopy_0 rfl (lv_at hl 0 rfl) ?_
  refine lv_iload_n hx hb d_Elements_pushCopy_1 rfl (lv_at hl 1 rfl) ?_
  obtain ⟨x2, m1, hq, hf⟩ := sd_bi_e hf
  refine k_callV (As := [.int a1]) (rest := []) (C := "ScriptDesk$Elements") (ci := 1) ZX_ok X hI (mt_Elements_lengthAt_r2 l hq) (cwV 1 hts (gd_V tw_226 tw_227 tw_228 tw_2 tw_229) rfl rfl rfl (by decide +kernel) ⟨Nat.le_of_ble_eq_true rfl, Nat.le_of_ble_eq_true rfl⟩) 2 rfl rfl rfl hl.1 rfl (Nat.le_of_ble_eq_true rfl) d_Elements_pushCopy_2 ⟨Nat.zero_le _, Nat.zero_le _⟩ (fun H locs hn_x2 hI => ?_)
  refine lv_istore_n (lv' := [(2, .int x2), (0, .ref (q 2)), (1, .int a1)]) hx hb d_Elements_pushCopy_5 rfl hl (by decide) rfl (fun ls hl => ?_)
  refine lv_iload_n hx hb d_Elements_pushCopy_6 rfl (lv_at hl 0 rfl) ?_
  refine lv_if_lt (tgt := 35) hx hb d_Elements_pushCopy_7 (by decide) (fun hc => ?_) (fun hc => ?_)
  · have hf := sd_t hf hc
    exact k_retv X hI hf d_Elements_pushCopy_35
  · have hf := sd_f hf hc
    refine lv_aload_n hx hb d_Elements_pushCopy_10 rfl (lv_at hl 1 rfl) ?_
    refine lv_aload_n hx hb d_Elements_pushCopy_11 rfl (lv_at hl 1 rfl) ?_
    refine va_get (D := D) (ci := 1) (v := .ref (q 3)) (C := "ScriptDesk$Elements") (T := T_Elements) (N := 5) hx hb hts iw_Elements hown hK hI.1 2 rfl rfl 0 (by decide) (hts _ tw_29) (fun _ h9 => h9) rfl d_Elements_pushCopy_12 ?_
    refine lv_aload_n hx hb d_Elements_pushCopy_15 rfl (lv_at hl 1 rfl) ?_
    refine va_get (D := D) (ci := 1) (v := .ref (q 5)) (C := "ScriptDesk$Elements") (T := T_Elements) (N := 5) hx hb hts iw_Elements hown hK hI.1 2 rfl rfl 2 (by decide) (hts _ tw_31) (fun _ h9 => h9) rfl d_Elements_pushCopy_16 ?_
    refine lv_aload_n hx hb d_Elements_pushCopy_19 rfl (lv_at hl 1 rfl) ?_
    refine va_get (D := D) (ci := 1) (v := .int (m1.1 2 4)) (C := "ScriptDesk$Elements") (T := T_Elements) (N := 5) hx hb hts iw_Elements hown hK hI.1 2 rfl rfl 4 (by decide) (hts _ tw_33) (fun _ h9 => h9) rfl d_Elements_pushCopy_20 ?_
    refine lv_iconst (v := 1) hx hb d_Elements_pushCopy_23 (by decide) ?_
    refine lv_isub hx hb d_Elements_pushCopy_24 ?_
    refine lv_iload_n hx hb d_Elements_pushCopy_25 rfl (lv_at hl 2 rfl) ?_
    refine lv_isub hx hb d_Elements_pushCopy_26 ?_
    obtain ⟨hg, hf⟩ := sd_gd_e hf
    refine k_iald hx hb hK hI 5 0 rfl rfl hg d_Elements_pushCopy_27 ?_
    refine lv_bipush (v := 120) hx hb d_Elements_pushCopy_28 (by decide) ?_
    refine lv_imul hx hb d_Elements_pushCopy_30 ?_
    refine lv_iload_n hx hb d_Elements_pushCopy_31 rfl (lv_at hl 0 rfl) ?_
    obtain ⟨m3, hq, hf⟩ := sd_bv_e hf
    refine k_callVv (As := [.ref (q 3), .int ((m1.1 5 (Int32.toNatClampNeg (((m1.1 2 4) - (1 : Int32)) - a1))) * (120 : Int32)), .int x2]) (rest := []) (C := "ScriptDesk$Elements") (ci := 1) ZX_ok X hI (mt_Elements_push_r2_r3 l hq) (cwV 3 hts (gd_V tw_312 tw_200 tw_201 tw_2 tw_202) rfl rfl rfl (by decide +kernel) ⟨Nat.le_of_ble_eq_true rfl, Nat.le_of_ble_eq_true rfl⟩) 2 rfl rfl rfl hl.1 rfl (Nat.le_of_ble_eq_true rfl) d_Elements_pushCopy_32 ⟨Nat.zero_le _, Nat.zero_le _⟩ (fun H locs hI => ?_)
    exact k_retv X hI hf d_Elements_pushCopy_35
set_option maxHeartbeats 4000000 in
set_option maxRecDepth 100000 in
theorem lp_Elements_lift_r2_L34 (l : Launch) {p : Program} {e : Env} {s : State} {m : MethodId} {args : Array Value} {below : List Frame} {meth : Method} {c : Code} {A : Nat → Prop} {D : va_G} {q tq : Nat → Nat} {cA : ClassId} {ru : sd_Me} (X : sd_Cx p s m args meth c prog_3_method_16_code "ScriptDesk$Elements" sx_tbl 5 none vwCl D [(cA, .int)] (ZX tq) A) {k62 : Int32 → Int32 → sd_Me → Option (sd_Me)} (hk62 : ∀ (v2 : Int32) (v3 : Int32) (μ : sd_Me) (H : Heap) (locs : List Loc) (ls : Array Slot), sd_CI vwCl (wdX q cA) D A s H locs μ → lv_has ls 5 [(0, .ref (q 2)), (2, .int v2), (3, .int v3)] → k62 v2 v3 μ = some ru → W p l e ({ frames := 0, cells := 0, slots := 0, locals := 0 }) s m args below meth c H locs 0 0 (sd_QV below vwCl (wdX q cA) D [(cA, .int)] A args s ru) (F0 m 62 ls [])) :
    ∀ (n : Nat) (v2 : Int32) (v3 : Int32) (v4 : Int32) (μ : sd_Me) (H : Heap) (locs : List Loc) (ls : Array Slot), sd_CI vwCl (wdX q cA) D A s H locs μ → lv_has ls 5 [(0, .ref (q 2)), (2, .int v2), (3, .int v3), (4, .int v4)] → fn_Elements_lift_r2_L34 k62 n v2 v3 v4 μ = some ru → W p l e ({ frames := 0, cells := 0, slots := 0, locals := 0 }) s m args below meth c H locs 0 0 (sd_QV below vwCl (wdX q cA) D [(cA, .int)] A args s ru) (F0 m 34 ls []) := by
  obtain ⟨hx, hb, hml, hown, hts, hK, hZ, hA, hr, hlocks⟩ := id X
  intro n
  induction n with
  | zero =>
    intro v2 v3 v4 μ H locs ls hI hl hf
    cases hf
  | succ n ih =>
    intro v2 v3 v4 μ H locs ls hI hl hf
    rw [fn_Elements_lift_r2_L34] at hf
    refine lv_iload hx hb d_Elements_lift_34 (lv_at hl 3 rfl) ?_
    refine lv_iload_n hx hb d_Elements_lift_36 rfl (lv_at hl 1 rfl) ?_
    refine lv_icmp_ge (tgt := 62) hx hb d_Elements_lift_37 (by decide) (fun hc => ?_) (fun hc => ?_)
    · have hf := sd_t hf hc
      exact hk62 (v2) (v3) μ _ _ _ hI (lv_sub hl [0, 1, 2] rfl) hf
    · have hf := sd_f hf hc
      refine lv_aload_n hx hb d_Elements_lift_40 rfl (lv_at hl 0 rfl) ?_
      refine va_get (D := D) (ci := 1) (v := .ref (q 5)) (C := "ScriptDesk$Elements") (T := T_Elements) (N := 5) hx hb hts iw_Elements hown hK hI.1 2 rfl rfl 2 (by decide) (hts _ tw_31) (fun _ h9 => h9) rfl d_Elements_lift_41 ?_
      refine lv_iload hx hb d_Elements_lift_44 (lv_at hl 3 rfl) ?_
      refine lv_aload_n hx hb d_Elements_lift_46 rfl (lv_at hl 0 rfl) ?_
      refine va_get (D := D) (ci := 1) (v := .ref (q 5)) (C := "ScriptDesk$Elements") (T := T_Elements) (N := 5) hx hb hts iw_Elements hown hK hI.1 2 rfl rfl 2 (by decide) (hts _ tw_31) (fun _ h9 => h9) rfl d_Elements_lift_47 ?_
      refine lv_iload hx hb d_Elements_lift_50 (lv_at hl 3 rfl) ?_
      refine lv_iconst (v := 1) hx hb d_Elements_lift_52 (by decide) ?_
      refine lv_iadd hx hb d_Elements_lift_53 ?_
      obtain ⟨hg, hf⟩ := sd_gd_e hf
      refine k_iald hx hb hK hI 5 0 rfl rfl hg d_Elements_lift_54 ?_
      obtain ⟨hg, hf⟩ := sd_gd_e hf
      refine k_iast (μ' := sd_st μ 5 (Int32.toNatClampNeg v4) (μ.1 5 (Int32.toNatClampNeg (v4 + (1 : Int32))))) hx hb hK hI 5 0 rfl rfl rfl hg d_Elements_lift_55 (fun H locs hI => ?_)
      obtain ⟨m4, hI, hf⟩ := k_lm hf hI
      refine lv_iinc (v := (v4 + (1 : Int32))) (lv' := [(4, .int (v4 + (1 : Int32))), (0, .ref (q 2)), (2, .int v2), (3, .int v3)]) hx hb d_Elements_lift_56 hl (k := 3) rfl rfl (by decide) rfl (fun ls hl => ?_)
      refine lv_goto (tgt := 34) hx hb d_Elements_lift_59 (by decide) ?_
      exact ih (v2) (v3) ((v4 + (1 : Int32))) m4 _ _ _ hI (lv_sub hl [1, 2, 3, 0] rfl) hf
set_option maxHeartbeats 4000000 in
set_option maxRecDepth 100000 in
theorem mt_Elements_lift_r2 (l : Launch) {D : va_G} {q tq : Nat → Nat} {cA : ClassId} {a1 : Int32} {μ : sd_Me} {ru : sd_Me} (hf : fn_Elements_lift_r2 a1 μ = some ru) : sd_CTv l y_Elements_lift w_Elements_lift ({ frames := 0, cells := 0, slots := 0, locals := 0 }) vwCl (wdX q cA) D [(cA, .int)] (ZX tq) [.ref (q 2), .int a1] μ ru := by
  refine k_entv (cc := prog_3_method_16_code) 5 (by decide) rfl (Nat.le_of_ble_eq_true rfl) ?_
  intro p e s m below meth c A ls X hI hl
  have hl : lv_has ls 5 [(0, .ref (q 2)), (1, .int a1)] := hl
  obtain ⟨hx, hb, hml, hown, hts, hK, hZ, hA, hr, hlocks⟩ := id X
  unfold fn_Elements_lift_r2 at hf
  refine lv_iload_n hx hb d_Elements_lift_0 rfl (lv_at hl 1 rfl) ?_
  refine lv_if_lt (tgt := 12) hx hb d_Elements_lift_1 (by decide) (fun hc => ?_) (fun hc => ?_)
  · have hf := sd_t hf hc
    exact k_retv X hI hf d_Elements_lift_12
  · have hf := sd_f hf hc
    refine lv_iload_n hx hb d_Elements_lift_4 rfl (lv_at hl 1 rfl) ?_
    refine lv_aload_n hx hb d_Elements_lift_5 rfl (lv_at hl 0 rfl) ?_
    refine va_get (D := D) (ci := 1) (v := .int (μ.1 2 4)) (C := "ScriptDesk$Elements") (T := T_Elements) (N := 5) hx hb hts iw_Elements hown hK hI.1 2 rfl rfl 4 (by decide) (hts _ tw_33) (fun _ h9 => h9) rfl d_Elements_lift_6 ?_
    refine lv_icmp_lt (tgt := 13) hx hb d_Elements_lift_9 (by decide) (fun hc => ?_) (fun hc => ?_)
    · have hf := sd_t hf hc
      refine lv_aload_n hx hb d_Elements_lift_13 rfl (lv_at hl 0 rfl) ?_
      refine va_get (D := D) (ci := 1) (v := .int (μ.1 2 4)) (C := "ScriptDesk$Elements") (T := T_Elements) (N := 5) hx hb hts iw_Elements hown hK hI.1 2 rfl rfl 4 (by decide) (hts _ tw_33) (fun _ h9 => h9) rfl d_Elements_lift_14 ?_
      refine lv_iconst (v := 1) hx hb d_Elements_lift_17 (by decide) ?_
      refine lv_isub hx hb d_Elements_lift_18 ?_
      refine k_li hf (fun x1 hf => ?_)
      refine lv_istore_n (lv' := [(2, .int x1), (0, .ref (q 2)), (1, .int a1)]) hx hb d_Elements_lift_19 rfl hl (by decide) rfl (fun ls hl => ?_)
      refine lv_aload_n hx hb d_Elements_lift_20 rfl (lv_at hl 1 rfl) ?_
      refine va_get (D := D) (ci := 1) (v := .ref (q 5)) (C := "ScriptDesk$Elements") (T := T_Elements) (N := 5) hx hb hts iw_Elements hown hK hI.1 2 rfl rfl 2 (by decide) (hts _ tw_31) (fun _ h9 => h9) rfl d_Elements_lift_21 ?_
      refine lv_iload_n hx hb d_Elements_lift_24 rfl (lv_at hl 0 rfl) ?_
      refine lv_iload_n hx hb d_Elements_lift_25 rfl (lv_at hl 2 rfl) ?_
      refine lv_isub hx hb d_Elements_lift_26 ?_
      obtain ⟨hg, hf⟩ := sd_gd_e hf
      refine k_iald hx hb hK hI 5 0 rfl rfl hg d_Elements_lift_27 ?_
      refine k_li hf (fun x2 hf => ?_)
      refine lv_istore_n (lv' := [(3, .int x2), (2, .int x1), (0, .ref (q 2)), (1, .int a1)]) hx hb d_Elements_lift_28 rfl hl (by decide) rfl (fun ls hl => ?_)
      refine lv_iload_n hx hb d_Elements_lift_29 rfl (lv_at hl 1 rfl) ?_
      refine lv_iload_n hx hb d_Elements_lift_30 rfl (lv_at hl 3 rfl) ?_
      refine lv_isub hx hb d_Elements_lift_31 ?_
      refine k_li hf (fun x3 hf => ?_)
      refine lv_istore (lv' := [(4, .int x3), (3, .int x2), (2, .int x1), (0, .ref (q 2)), (1, .int a1)]) hx hb d_Elements_lift_32 hl (by decide) rfl (fun ls hl => ?_)
      refine lp_Elements_lift_r2_L34 l X ?_ 10000 (x1) (x2) (x3) μ _ _ _ hI (lv_sub hl [3, 2, 1, 0] rfl) hf
      · intro x5 x6 m7 H locs ls hI hl hf
        refine lv_aload_n hx hb d_Elements_lift_62 rfl (lv_at hl 0 rfl) ?_
        refine va_get (D := D) (ci := 1) (v := .ref (q 5)) (C := "ScriptDesk$Elements") (T := T_Elements) (N := 5) hx hb hts iw_Elements hown hK hI.1 2 rfl rfl 2 (by decide) (hts _ tw_31) (fun _ h9 => h9) rfl d_Elements_lift_63 ?_
        refine lv_iload_n hx hb d_Elements_lift_66 rfl (lv_at hl 1 rfl) ?_
        refine lv_iload_n hx hb d_Elements_lift_67 rfl (lv_at hl 2 rfl) ?_
        obtain ⟨hg, hf⟩ := sd_gd_e hf
        refine k_iast (μ' := sd_st m7 5 (Int32.toNatClampNeg x5) x6) hx hb hK hI 5 0 rfl rfl rfl hg d_Elements_lift_68 (fun H locs hI => ?_)
        obtain ⟨m8, hI, hf⟩ := k_lm hf hI
        exact k_retv X hI hf d_Elements_lift_69
    · have hf := sd_f hf hc
      exact k_retv X hI hf d_Elements_lift_12
