set_option maxHeartbeats 4000000 in
set_option maxRecDepth 100000 in
theorem lp_BlockDigest_readBlock_r14_L35 (l : Launch) {p : Program} {e : Env} {s : State} {m : MethodId} {args : Array Value} {below : List Frame} {meth : Method} {c : Code} {A : Nat → Prop} {D : va_G} {q tq : Nat → Nat} {cA : ClassId} {ru : sd_Me} (X : sd_Cx p s m args meth c prog_2_method_6_code "ScriptDesk$BlockDigest" sx_tbl 5 none vwCl D [(cA, .int)] (ZX tq) A) {k70 : Int32 → Int32 → Int32 → sd_Me → Option (sd_Me)} (hk70 : ∀ (v1 : Int32) (v2 : Int32) (v3 : Int32) (μ : sd_Me) (H : Heap) (locs : List Loc) (ls : Array Slot), sd_CI vwCl (wdX q cA) D A s H locs μ → lv_has ls 5 [(0, .ref (q 14)), (1, .int v1), (2, .int v2), (3, .int v3)] → k70 v1 v2 v3 μ = some ru → W p l e ({ frames := 1, cells := 0, slots := 0, locals := 21 }) s m args below meth c H locs 0 0 (sd_QV below vwCl (wdX q cA) D [(cA, .int)] A args s ru) (F0 m 70 ls [])) :
    ∀ (n : Nat) (v1 : Int32) (v2 : Int32) (v3 : Int32) (v4 : Int32) (μ : sd_Me) (H : Heap) (locs : List Loc) (ls : Array Slot), sd_CI vwCl (wdX q cA) D A s H locs μ → lv_has ls 5 [(0, .ref (q 14)), (1, .int v1), (2, .int v2), (3, .int v3), (4, .int v4)] → fn_BlockDigest_readBlock_r14_L35 k70 n v1 v2 v3 v4 μ = some ru → W p l e ({ frames := 1, cells := 0, slots := 0, locals := 21 }) s m args below meth c H locs 0 0 (sd_QV below vwCl (wdX q cA) D [(cA, .int)] A args s ru) (F0 m 35 ls []) := by
  obtain ⟨hx, hb, hml, hown, hts, hK, hZ, hA, hr, hlocks⟩ := id X
  intro n
  induction n with
  | zero =>
    intro v1 v2 v3 v4 μ H locs ls hI hl hf
    cases hf
  | succ n ih =>
    intro v1 v2 v3 v4 μ H locs ls hI hl hf
    rw [fn_BlockDigest_readBlock_r14_L35] at hf
    refine lv_iload hx hb d_BlockDigest_readBlock_35 (lv_at hl 4 rfl) ?_
    refine lv_iconst (v := 4) hx hb d_BlockDigest_readBlock_37 (by decide) ?_
    refine lv_icmp_ge (tgt := 70) hx hb d_BlockDigest_readBlock_38 (by decide) (fun hc => ?_) (fun hc => ?_)
    · have hf := sd_t hf hc
      exact hk70 (v1) (v2) (v3) μ _ _ _ hI (lv_sub hl [0, 1, 2, 3] rfl) hf
    · have hf := sd_f hf hc
      refine lv_iload_n hx hb d_BlockDigest_readBlock_41 rfl (lv_at hl 3 rfl) ?_
      refine lv_aload_n hx hb d_BlockDigest_readBlock_42 rfl (lv_at hl 0 rfl) ?_
      refine va_get (D := D) (ci := 6) (v := .ref (q 15)) (C := "ScriptDesk$Ripemd160") (T := T_Ripemd160) (N := 7) hx hb hts iw_Ripemd160 hown hK hI.1 14 rfl rfl 0 (by decide) (hts _ tw_97) (fun _ h9 => h9) rfl d_BlockDigest_readBlock_43 ?_
      refine lv_iload_n hx hb d_BlockDigest_readBlock_46 rfl (lv_at hl 1 rfl) ?_
      refine lv_iconst (v := 4) hx hb d_BlockDigest_readBlock_47 (by decide) ?_
      refine lv_iload_n hx hb d_BlockDigest_readBlock_48 rfl (lv_at hl 2 rfl) ?_
      refine lv_imul hx hb d_BlockDigest_readBlock_49 ?_
      refine lv_iadd hx hb d_BlockDigest_readBlock_50 ?_
      refine lv_iload hx hb d_BlockDigest_readBlock_51 (lv_at hl 4 rfl) ?_
      refine lv_iadd hx hb d_BlockDigest_readBlock_53 ?_
      obtain ⟨hg, hf⟩ := sd_gd_e hf
      refine k_iald hx hb hK hI 15 0 rfl rfl hg d_BlockDigest_readBlock_54 ?_
      refine lv_aload_n hx hb d_BlockDigest_readBlock_55 rfl (lv_at hl 0 rfl) ?_
      refine lv_iload hx hb d_BlockDigest_readBlock_56 (lv_at hl 4 rfl) ?_
      obtain ⟨x2, m1, hq, hf⟩ := sd_bi_e hf
      refine k_callU (As := [.int v4]) (rest := [.int (μ.1 15 (Int32.toNatClampNeg ((v1 + ((4 : Int32) * v2)) + v4))), .int v3]) (C := "ScriptDesk$Ripemd160") (ci := 6) ZX_ok X hI (mt_BlockDigest_shiftOf_r14 l hq) (va_cwU 1 hts (gd_U tw_392 tw_799 sp_0 tw_394 tw_6 tw_395) rfl rfl rfl rfl (by decide +kernel) ⟨Nat.le_of_ble_eq_true rfl, Nat.le_of_ble_eq_true rfl⟩) 14 rfl rfl rfl hl.1 rfl (Nat.le_of_ble_eq_true rfl) d_BlockDigest_readBlock_58 ⟨Nat.zero_le _, Nat.zero_le _⟩ (fun H locs hn_x2 hI => ?_)
      refine lv_ishl hx hb d_BlockDigest_readBlock_61 ?_
      refine lv_ior hx hb d_BlockDigest_readBlock_62 ?_
      refine k_li hf (fun x3 hf => ?_)
      refine lv_istore_n (lv' := [(3, .int x3), (0, .ref (q 14)), (1, .int v1), (2, .int v2), (4, .int v4)]) hx hb d_BlockDigest_readBlock_63 rfl hl (by decide) rfl (fun ls hl => ?_)
      refine lv_iinc (v := (v4 + (1 : Int32))) (lv' := [(4, .int (v4 + (1 : Int32))), (3, .int x3), (0, .ref (q 14)), (1, .int v1), (2, .int v2)]) hx hb d_BlockDigest_readBlock_64 hl (k := 4) rfl rfl (by decide) rfl (fun ls hl => ?_)
      refine lv_goto (tgt := 35) hx hb d_BlockDigest_readBlock_67 (by decide) ?_
      exact ih (v1) (v2) (x3) ((v4 + (1 : Int32))) m1 _ _ _ hI (lv_sub hl [2, 3, 4, 1, 0] rfl) hf
set_option maxHeartbeats 4000000 in
set_option maxRecDepth 100000 in
theorem lp_BlockDigest_readBlock_r14_L24 (l : Launch) {p : Program} {e : Env} {s : State} {m : MethodId} {args : Array Value} {below : List Frame} {meth : Method} {c : Code} {A : Nat → Prop} {D : va_G} {q tq : Nat → Nat} {cA : ClassId} {ru : sd_Me} (X : sd_Cx p s m args meth c prog_2_method_6_code "ScriptDesk$BlockDigest" sx_tbl 5 none vwCl D [(cA, .int)] (ZX tq) A) {k83 : sd_Me → Option (sd_Me)} (hk83 : ∀ (μ : sd_Me) (H : Heap) (locs : List Loc) (ls : Array Slot), sd_CI vwCl (wdX q cA) D A s H locs μ → lv_has ls 5 [] → k83 μ = some ru → W p l e ({ frames := 1, cells := 0, slots := 0, locals := 21 }) s m args below meth c H locs 0 0 (sd_QV below vwCl (wdX q cA) D [(cA, .int)] A args s ru) (F0 m 83 ls [])) :
    ∀ (n : Nat) (v1 : Int32) (v2 : Int32) (μ : sd_Me) (H : Heap) (locs : List Loc) (ls : Array Slot), sd_CI vwCl (wdX q cA) D A s H locs μ → lv_has ls 5 [(0, .ref (q 14)), (1, .int v1), (2, .int v2)] → fn_BlockDigest_readBlock_r14_L24 k83 n v1 v2 μ = some ru → W p l e ({ frames := 1, cells := 0, slots := 0, locals := 21 }) s m args below meth c H locs 0 0 (sd_QV below vwCl (wdX q cA) D [(cA, .int)] A args s ru) (F0 m 24 ls []) := by
  obtain ⟨hx, hb, hml, hown, hts, hK, hZ, hA, hr, hlocks⟩ := id X
  intro n
  induction n with
  | zero =>
    intro v1 v2 μ H locs ls hI hl hf
    cases hf
  | succ n ih =>
    intro v1 v2 μ H locs ls hI hl hf
    rw [fn_BlockDigest_readBlock_r14_L24] at hf
    refine lv_iload_n hx hb d_BlockDigest_readBlock_24 rfl (lv_at hl 2 rfl) ?_
    refine lv_bipush (v := 16) hx hb d_BlockDigest_readBlock_25 (by decide) ?_
    refine lv_icmp_ge (tgt := 83) hx hb d_BlockDigest_readBlock_27 (by decide) (fun hc => ?_) (fun hc => ?_)
    · have hf := sd_t hf hc
      exact hk83  μ _ _ _ hI (lv_sub hl [] rfl) hf
    · have hf := sd_f hf hc
      refine lv_iconst (v := 0) hx hb d_BlockDigest_readBlock_30 (by decide) ?_
      refine lv_istore_n (lv' := [(3, .int (0 : Int32)), (0, .ref (q 14)), (1, .int v1), (2, .int v2)]) hx hb d_BlockDigest_readBlock_31 rfl hl (by decide) rfl (fun ls hl => ?_)
      refine lv_iconst (v := 0) hx hb d_BlockDigest_readBlock_32 (by decide) ?_
      refine lv_istore (lv' := [(4, .int (0 : Int32)), (3, .int (0 : Int32)), (0, .ref (q 14)), (1, .int v1), (2, .int v2)]) hx hb d_BlockDigest_readBlock_33 hl (by decide) rfl (fun ls hl => ?_)
      refine lp_BlockDigest_readBlock_r14_L35 l X ?_ 10000 (v1) (v2) ((0 : Int32)) ((0 : Int32)) μ _ _ _ hI (lv_sub hl [2, 3, 4, 1, 0] rfl) hf
      · intro x4 x5 x6 m7 H locs ls hI hl hf
        refine lv_aload_n hx hb d_BlockDigest_readBlock_70 rfl (lv_at hl 0 rfl) ?_
        refine va_get (D := D) (ci := 6) (v := .ref (q 17)) (C := "ScriptDesk$Ripemd160") (T := T_Ripemd160) (N := 7) hx hb hts iw_Ripemd160 hown hK hI.1 14 rfl rfl 3 (by decide) (hts _ tw_100) (fun _ h9 => h9) rfl d_BlockDigest_readBlock_71 ?_
        refine lv_iload_n hx hb d_BlockDigest_readBlock_74 rfl (lv_at hl 2 rfl) ?_
        refine lv_iload_n hx hb d_BlockDigest_readBlock_75 rfl (lv_at hl 3 rfl) ?_
        obtain ⟨hg, hf⟩ := sd_gd_e hf
        refine k_iast (μ' := sd_st m7 17 (Int32.toNatClampNeg x5) x6) hx hb hK hI 17 0 rfl rfl rfl hg d_BlockDigest_readBlock_76 (fun H locs hI => ?_)
        obtain ⟨m8, hI, hf⟩ := k_lm hf hI
        refine lv_iinc (v := (x5 + (1 : Int32))) (lv' := [(2, .int (x5 + (1 : Int32))), (0, .ref (q 14)), (1, .int x4), (3, .int x6)]) hx hb d_BlockDigest_readBlock_77 hl (k := 2) rfl rfl (by decide) rfl (fun ls hl => ?_)
        refine lv_goto (tgt := 24) hx hb d_BlockDigest_readBlock_80 (by decide) ?_
        exact ih (x4) ((x5 + (1 : Int32))) m8 _ _ _ hI (lv_sub hl [1, 2, 0] rfl) hf
set_option maxHeartbeats 4000000 in
set_option maxRecDepth 100000 in
theorem mt_BlockDigest_readBlock_r14 (l : Launch) {D : va_G} {q tq : Nat → Nat} {cA : ClassId} {a1 : Int32} {μ : sd_Me} {ru : sd_Me} (hf : fn_BlockDigest_readBlock_r14 a1 μ = some ru) : sd_CTv l y_BlockDigest_readBlock w_BlockDigest_readBlock ({ frames := 1, cells := 0, slots := 0, locals := 21 }) vwCl (wdX q cA) D [(cA, .int)] (ZX tq) [.ref (q 14), .int a1] μ ru := by
  refine k_entv (cc := prog_2_method_6_code) 5 (by decide) rfl (Nat.le_of_ble_eq_true rfl) ?_
  intro p e s m below meth c A ls X hI hl
  have hl : lv_has ls 5 [(0, .ref (q 14)), (1, .int a1)] := hl
  obtain ⟨hx, hb, hml, hown, hts, hK, hZ, hA, hr, hlocks⟩ := id X
  unfold fn_BlockDigest_readBlock_r14 at hf
  refine lv_iload_n hx hb d_BlockDigest_readBlock_0 rfl (lv_at hl 1 rfl) ?_
  refine lv_if_lt (tgt := 21) hx hb d_BlockDigest_readBlock_1 (by decide) (fun hc => ?_) (fun hc => ?_)
  · have hf := sd_t hf hc
    exact k_retv X hI hf d_BlockDigest_readBlock_21
  · have hf := sd_f hf hc
    refine lv_iload_n hx hb d_BlockDigest_readBlock_4 rfl (lv_at hl 1 rfl) ?_
    refine lv_sipush (v := 128) hx hb d_BlockDigest_readBlock_5 (by decide) ?_
    refine lv_icmp_gt (tgt := 21) hx hb d_BlockDigest_readBlock_8 (by decide) (fun hc => ?_) (fun hc => ?_)
    · have hf := sd_t hf hc
      exact k_retv X hI hf d_BlockDigest_readBlock_21
    · have hf := sd_f hf hc
      refine lv_aload_n hx hb d_BlockDigest_readBlock_11 rfl (lv_at hl 0 rfl) ?_
      refine va_get (D := D) (ci := 6) (v := .ref (q 17)) (C := "ScriptDesk$Ripemd160") (T := T_Ripemd160) (N := 7) hx hb hts iw_Ripemd160 hown hK hI.1 14 rfl rfl 3 (by decide) (hts _ tw_100) (fun _ h9 => h9) rfl d_BlockDigest_readBlock_12 ?_
      refine va_alen (v := 16) hx hb hK hI.1 17 0 rfl rfl (show Int32.ofNat 16 = 16 by decide) d_BlockDigest_readBlock_15 ?_
      refine lv_bipush (v := 16) hx hb d_BlockDigest_readBlock_16 (by decide) ?_
      refine lv_icmp_ge (tgt := 22) hx hb d_BlockDigest_readBlock_18 (by decide) (fun hc => ?_) (fun hc => ?_)
      · have hf := sd_t hf hc
        refine lv_iconst (v := 0) hx hb d_BlockDigest_readBlock_22 (by decide) ?_
        refine lv_istore_n (lv' := [(2, .int (0 : Int32)), (0, .ref (q 14)), (1, .int a1)]) hx hb d_BlockDigest_readBlock_23 rfl hl (by decide) rfl (fun ls hl => ?_)
        refine lp_BlockDigest_readBlock_r14_L24 l X ?_ 10000 (a1) ((0 : Int32)) μ _ _ _ hI (lv_sub hl [1, 2, 0] rfl) hf
        · intro m9 H locs ls hI hl hf
          exact k_retv X hI hf d_BlockDigest_readBlock_83
      · have hf := sd_f hf hc
        exact k_retv X hI hf d_BlockDigest_readBlock_21
set_option maxHeartbeats 4000000 in
set_option maxRecDepth 100000 in
theorem mt_Ripemd160_blend (l : Launch) {D : va_G} {q tq : Nat → Nat} {cA : ClassId} {a0 : Int32} {a1 : Int32} {a2 : Int32} {a3 : Int32} {μ : sd_Me} {ru : Int32 × sd_Me} (hf : fn_Ripemd160_blend a0 a1 a2 a3 μ = some ru) : sd_CTi l y_Ripemd160_blend w_Ripemd160_blend ({ frames := 0, cells := 0, slots := 0, locals := 0 }) vwCl (wdX q cA) D [(cA, .int)] (ZX tq) .int [.int a0, .int a1, .int a2, .int a3] μ ru := by
  refine k_enti (cc := prog_7_method_5_code) 4 (by decide) rfl (Nat.le_of_ble_eq_true rfl) ?_
  intro p e s m below meth c A ls X hI hl
  have hl : lv_has ls 4 [(0, .int a0), (1, .int a1), (2, .int a2), (3, .int a3)] := hl
  obtain ⟨hx, hb, hml, hown, hts, hK, hZ, hA, hr, hlocks⟩ := id X
  unfold fn_Ripemd160_blend at hf
  refine lv_iload_n hx hb d_Ripemd160_blend_0 rfl (lv_at hl 0 rfl) ?_
  by_cases hc0 : a0 = (0 : Int32)
  · have hf := sd_t hf hc0
    refine k_tbl (off := 31) (tgt := 32) hx hb d_Ripemd160_blend_1 (by decide) (by rw [hc0]; decide) (by decide) ?_
    refine lv_iload_n hx hb d_Ripemd160_blend_32 rfl (lv_at hl 1 rfl) ?_
    refine lv_iload_n hx hb d_Ripemd160_blend_33 rfl (lv_at hl 2 rfl) ?_
    refine lv_ixor hx hb d_Ripemd160_blend_34 ?_
    refine lv_iload_n hx hb d_Ripemd160_blend_35 rfl (lv_at hl 3 rfl) ?_
    refine lv_ixor hx hb d_Ripemd160_blend_36 ?_
    exact k_reti X hI (vp_nar_int _) hf d_Ripemd160_blend_37
  · have hf := sd_f hf hc0
    by_cases hc1 : a0 = (1 : Int32)
    · have hf := sd_t hf hc1
      refine k_tbl (off := 37) (tgt := 38) hx hb d_Ripemd160_blend_1 (by decide) (by rw [hc1]; decide) (by decide) ?_
      refine lv_iload_n hx hb d_Ripemd160_blend_38 rfl (lv_at hl 1 rfl) ?_
      refine lv_iload_n hx hb d_Ripemd160_blend_39 rfl (lv_at hl 2 rfl) ?_
      refine lv_iand hx hb d_Ripemd160_blend_40 ?_
      refine lv_iload_n hx hb d_Ripemd160_blend_41 rfl (lv_at hl 1 rfl) ?_
      refine lv_iconst (v := -1) hx hb d_Ripemd160_blend_42 (by decide) ?_
      refine lv_ixor hx hb d_Ripemd160_blend_43 ?_
      refine lv_iload_n hx hb d_Ripemd160_blend_44 rfl (lv_at hl 3 rfl) ?_
      refine lv_iand hx hb d_Ripemd160_blend_45 ?_
      refine lv_ior hx hb d_Ripemd160_blend_46 ?_
      exact k_reti X hI (vp_nar_int _) hf d_Ripemd160_blend_47
    · have hf := sd_f hf hc1
      by_cases hc2 : a0 = (2 : Int32)
      · have hf := sd_t hf hc2
        refine k_tbl (off := 47) (tgt := 48) hx hb d_Ripemd160_blend_1 (by decide) (by rw [hc2]; decide) (by decide) ?_
        refine lv_iload_n hx hb d_Ripemd160_blend_48 rfl (lv_at hl 1 rfl) ?_
        refine lv_iload_n hx hb d_Ripemd160_blend_49 rfl (lv_at hl 2 rfl) ?_
        refine lv_iconst (v := -1) hx hb d_Ripemd160_blend_50 (by decide) ?_
        refine lv_ixor hx hb d_Ripemd160_blend_51 ?_
        refine lv_ior hx hb d_Ripemd160_blend_52 ?_
        refine lv_iload_n hx hb d_Ripemd160_blend_53 rfl (lv_at hl 3 rfl) ?_
        refine lv_ixor hx hb d_Ripemd160_blend_54 ?_
        exact k_reti X hI (vp_nar_int _) hf d_Ripemd160_blend_55
      · have hf := sd_f hf hc2
        by_cases hc3 : a0 = (3 : Int32)
        · have hf := sd_t hf hc3
          refine k_tbl (off := 55) (tgt := 56) hx hb d_Ripemd160_blend_1 (by decide) (by rw [hc3]; decide) (by decide) ?_
          refine lv_iload_n hx hb d_Ripemd160_blend_56 rfl (lv_at hl 1 rfl) ?_
          refine lv_iload_n hx hb d_Ripemd160_blend_57 rfl (lv_at hl 3 rfl) ?_
          refine lv_iand hx hb d_Ripemd160_blend_58 ?_
          refine lv_iload_n hx hb d_Ripemd160_blend_59 rfl (lv_at hl 2 rfl) ?_
          refine lv_iload_n hx hb d_Ripemd160_blend_60 rfl (lv_at hl 3 rfl) ?_
          refine lv_iconst (v := -1) hx hb d_Ripemd160_blend_61 (by decide) ?_
          refine lv_ixor hx hb d_Ripemd160_blend_62 ?_
          refine lv_iand hx hb d_Ripemd160_blend_63 ?_
          refine lv_ior hx hb d_Ripemd160_blend_64 ?_
          exact k_reti X hI (vp_nar_int _) hf d_Ripemd160_blend_65
        · have hf := sd_f hf hc3
          refine k_tbl (off := 65) (tgt := 66) hx hb d_Ripemd160_blend_1 (by decide) (k_tbld [(0 : Int32), (1 : Int32), (2 : Int32), (3 : Int32)] (by decide) (by
              intro k hk
              simp only [List.mem_cons, List.not_mem_nil, or_false] at hk
              rcases hk with rfl | rfl | rfl | rfl
              · exact hc0
              · exact hc1
              · exact hc2
              · exact hc3
              )) (by decide) ?_
          refine lv_iload_n hx hb d_Ripemd160_blend_66 rfl (lv_at hl 1 rfl) ?_
          refine lv_iload_n hx hb d_Ripemd160_blend_67 rfl (lv_at hl 2 rfl) ?_
          refine lv_iload_n hx hb d_Ripemd160_blend_68 rfl (lv_at hl 3 rfl) ?_
          refine lv_iconst (v := -1) hx hb d_Ripemd160_blend_69 (by decide) ?_
          refine lv_ixor hx hb d_Ripemd160_blend_70 ?_
          refine lv_ior hx hb d_Ripemd160_blend_71 ?_
          refine lv_ixor hx hb d_Ripemd160_blend_72 ?_
          exact k_reti X hI (vp_nar_int _) hf d_Ripemd160_blend_73
set_option maxHeartbeats 4000000 in
set_option maxRecDepth 100000 in
theorem mt_Ripemd160_turned (l : Launch) {D : va_G} {q tq : Nat → Nat} {cA : ClassId} {a0 : Int32} {a1 : Int32} {μ : sd_Me} {ru : Int32 × sd_Me} (hf : fn_Ripemd160_turned a0 a1 μ = some ru) : sd_CTi l y_Ripemd160_turned w_Ripemd160_turned ({ frames := 0, cells := 0, slots := 0, locals := 0 }) vwCl (wdX q cA) D [(cA, .int)] (ZX tq) .int [.int a0, .int a1] μ ru := by
  refine k_enti (cc := prog_7_method_6_code) 2 (by decide) rfl (Nat.le_of_ble_eq_true rfl) ?_
  intro p e s m below meth c A ls X hI hl
  have hl : lv_has ls 2 [(0, .int a0), (1, .int a1)] := hl
  obtain ⟨hx, hb, hml, hown, hts, hK, hZ, hA, hr, hlocks⟩ := id X
  unfold fn_Ripemd160_turned at hf
  refine lv_iload_n hx hb d_Ripemd160_turned_0 rfl (lv_at hl 0 rfl) ?_
  refine lv_iload_n hx hb d_Ripemd160_turned_1 rfl (lv_at hl 1 rfl) ?_
  refine lv_ishl hx hb d_Ripemd160_turned_2 ?_
  refine lv_iload_n hx hb d_Ripemd160_turned_3 rfl (lv_at hl 0 rfl) ?_
  refine lv_bipush (v := 32) hx hb d_Ripemd160_turned_4 (by decide) ?_
  refine lv_iload_n hx hb d_Ripemd160_turned_6 rfl (lv_at hl 1 rfl) ?_
  refine lv_isub hx hb d_Ripemd160_turned_7 ?_
  refine lv_iushr (v := (sd_usr a0 ((32 : Int32) - a1))) hx hb d_Ripemd160_turned_8 rfl ?_
  refine lv_ior hx hb d_Ripemd160_turned_9 ?_
  exact k_reti X hI (vp_nar_int _) hf d_Ripemd160_turned_10
set_option maxHeartbeats 4000000 in
set_option maxRecDepth 100000 in
theorem mt_Ripemd160_step_r19 (l : Launch) {D : va_G} {q tq : Nat → Nat} {cA : ClassId} {a1 : Int32} {a2 : Int32} {a3 : Int32} {μ : sd_Me} {ru : sd_Me} (hf : fn_Ripemd160_step_r19 a1 a2 a3 μ = some ru) : sd_CTv l y_Ripemd160_step w_Ripemd160_step ({ frames := 1, cells := 0, slots := 0, locals := 23 }) vwCl (wdX q cA) D [(cA, .int)] (ZX tq) [.ref (q 19), .int a1, .int a2, .int a3] μ ru := by
  refine k_entv (cc := prog_7_method_4_code) 6 (by decide) rfl (Nat.le_of_ble_eq_true rfl) ?_
  intro p e s m below meth c A ls X hI hl
  have hl : lv_has ls 6 [(0, .ref (q 19)), (1, .int a1), (2, .int a2), (3, .int a3)] := hl
  obtain ⟨hx, hb, hml, hown, hts, hK, hZ, hA, hr, hlocks⟩ := id X
  unfold fn_Ripemd160_step_r19 at hf
  refine lv_aload_n hx hb d_Ripemd160_step_0 rfl (lv_at hl 0 rfl) ?_
  refine lv_iconst (v := 0) hx hb d_Ripemd160_step_1 (by decide) ?_
  obtain ⟨hg, hf⟩ := sd_gd_e hf
  refine k_iald hx hb hK hI 19 0 rfl rfl hg d_Ripemd160_step_2 ?_
  refine lv_iload_n hx hb d_Ripemd160_step_3 rfl (lv_at hl 1 rfl) ?_
  refine lv_aload_n hx hb d_Ripemd160_step_4 rfl (lv_at hl 0 rfl) ?_
  refine lv_iconst (v := 1) hx hb d_Ripemd160_step_5 (by decide) ?_
  obtain ⟨hg, hf⟩ := sd_gd_e hf
  refine k_iald hx hb hK hI 19 0 rfl rfl hg d_Ripemd160_step_6 ?_
  refine lv_aload_n hx hb d_Ripemd160_step_7 rfl (lv_at hl 0 rfl) ?_
  refine lv_iconst (v := 2) hx hb d_Ripemd160_step_8 (by decide) ?_
  obtain ⟨hg, hf⟩ := sd_gd_e hf
  refine k_iald hx hb hK hI 19 0 rfl rfl hg d_Ripemd160_step_9 ?_
  refine lv_aload_n hx hb d_Ripemd160_step_10 rfl (lv_at hl 0 rfl) ?_
  refine lv_iconst (v := 3) hx hb d_Ripemd160_step_11 (by decide) ?_
  obtain ⟨hg, hf⟩ := sd_gd_e hf
  refine k_iald hx hb hK hI 19 0 rfl rfl hg d_Ripemd160_step_12 ?_
  obtain ⟨x2, m1, hq, hf⟩ := sd_bi_e hf
  refine k_callS (As := [.int a1, .int (μ.1 19 (Int32.toNatClampNeg (1 : Int32))), .int (μ.1 19 (Int32.toNatClampNeg (2 : Int32))), .int (μ.1 19 (Int32.toNatClampNeg (3 : Int32)))]) (rest := [.int (μ.1 19 (Int32.toNatClampNeg (0 : Int32)))]) ZX_ok X hI (mt_Ripemd160_blend l hq) (va_cwS 4 hts (gd_S tw_430 tw_431 tw_8 tw_432) rfl rfl rfl (by decide +kernel) ⟨Nat.le_of_ble_eq_true rfl, Nat.le_of_ble_eq_true rfl⟩) rfl hl.1 rfl (Nat.le_of_ble_eq_true rfl) d_Ripemd160_step_13 ⟨Nat.zero_le _, Nat.zero_le _⟩ (fun H locs hn_x2 hI => ?_)
  refine lv_iadd hx hb d_Ripemd160_step_16 ?_
  refine lv_iload_n hx hb d_Ripemd160_step_17 rfl (lv_at hl 2 rfl) ?_
  refine lv_iadd hx hb d_Ripemd160_step_18 ?_
  refine k_li hf (fun x3 hf => ?_)
  refine lv_istore (lv' := [(4, .int x3), (0, .ref (q 19)), (1, .int a1), (2, .int a2), (3, .int a3)]) hx hb d_Ripemd160_step_19 hl (by decide) rfl (fun ls hl => ?_)
  refine lv_iload hx hb d_Ripemd160_step_21 (lv_at hl 0 rfl) ?_
  refine lv_iload_n hx hb d_Ripemd160_step_23 rfl (lv_at hl 4 rfl) ?_
  obtain ⟨x5, m4, hq, hf⟩ := sd_bi_e hf
  refine k_callS (As := [.int x3, .int a3]) (rest := []) ZX_ok X hI (mt_Ripemd160_turned l hq) (va_cwS 2 hts (gd_S tw_433 tw_434 tw_8 tw_435) rfl rfl rfl (by decide +kernel) ⟨Nat.le_of_ble_eq_true rfl, Nat.le_of_ble_eq_true rfl⟩) rfl hl.1 rfl (Nat.le_of_ble_eq_true rfl) d_Ripemd160_step_24 ⟨Nat.zero_le _, Nat.zero_le _⟩ (fun H locs hn_x5 hI => ?_)
  refine lv_aload_n hx hb d_Ripemd160_step_27 rfl (lv_at hl 1 rfl) ?_
  refine lv_iconst (v := 4) hx hb d_Ripemd160_step_28 (by decide) ?_
  obtain ⟨hg, hf⟩ := sd_gd_e hf
  refine k_iald hx hb hK hI 19 0 rfl rfl hg d_Ripemd160_step_29 ?_
  refine lv_iadd hx hb d_Ripemd160_step_30 ?_
  refine k_li hf (fun x6 hf => ?_)
  refine lv_istore (lv' := [(5, .int x6), (4, .int x3), (0, .ref (q 19)), (1, .int a1), (2, .int a2), (3, .int a3)]) hx hb d_Ripemd160_step_31 hl (by decide) rfl (fun ls hl => ?_)
  refine lv_aload_n hx hb d_Ripemd160_step_33 rfl (lv_at hl 2 rfl) ?_
  refine lv_iconst (v := 0) hx hb d_Ripemd160_step_34 (by decide) ?_
  refine lv_aload_n hx hb d_Ripemd160_step_35 rfl (lv_at hl 2 rfl) ?_
  refine lv_iconst (v := 4) hx hb d_Ripemd160_step_36 (by decide) ?_
  obtain ⟨hg, hf⟩ := sd_gd_e hf
  refine k_iald hx hb hK hI 19 0 rfl rfl hg d_Ripemd160_step_37 ?_
  obtain ⟨hg, hf⟩ := sd_gd_e hf
  refine k_iast (μ' := sd_st m4 19 (Int32.toNatClampNeg (0 : Int32)) (m4.1 19 (Int32.toNatClampNeg (4 : Int32)))) hx hb hK hI 19 0 rfl rfl rfl hg d_Ripemd160_step_38 (fun H locs hI => ?_)
  obtain ⟨m7, hI, hf⟩ := k_lm hf hI
  refine lv_aload_n hx hb d_Ripemd160_step_39 rfl (lv_at hl 2 rfl) ?_
  refine lv_iconst (v := 4) hx hb d_Ripemd160_step_40 (by decide) ?_
  refine lv_aload_n hx hb d_Ripemd160_step_41 rfl (lv_at hl 2 rfl) ?_
  refine lv_iconst (v := 3) hx hb d_Ripemd160_step_42 (by decide) ?_
  obtain ⟨hg, hf⟩ := sd_gd_e hf
  refine k_iald hx hb hK hI 19 0 rfl rfl hg d_Ripemd160_step_43 ?_
  obtain ⟨hg, hf⟩ := sd_gd_e hf
  refine k_iast (μ' := sd_st m7 19 (Int32.toNatClampNeg (4 : Int32)) (m7.1 19 (Int32.toNatClampNeg (3 : Int32)))) hx hb hK hI 19 0 rfl rfl rfl hg d_Ripemd160_step_44 (fun H locs hI => ?_)
  obtain ⟨m8, hI, hf⟩ := k_lm hf hI
  refine lv_aload_n hx hb d_Ripemd160_step_45 rfl (lv_at hl 2 rfl) ?_
  refine lv_iconst (v := 3) hx hb d_Ripemd160_step_46 (by decide) ?_
  refine lv_aload_n hx hb d_Ripemd160_step_47 rfl (lv_at hl 2 rfl) ?_
  refine lv_iconst (v := 2) hx hb d_Ripemd160_step_48 (by decide) ?_
  obtain ⟨hg, hf⟩ := sd_gd_e hf
  refine k_iald hx hb hK hI 19 0 rfl rfl hg d_Ripemd160_step_49 ?_
  refine lv_bipush (v := 10) hx hb d_Ripemd160_step_50 (by decide) ?_
  obtain ⟨x10, m9, hq, hf⟩ := sd_bi_e hf
  refine k_callS (As := [.int (m8.1 19 (Int32.toNatClampNeg (2 : Int32))), .int (10 : Int32)]) (rest := [.int (3 : Int32), .ref (q 19)]) ZX_ok X hI (mt_Ripemd160_turned l hq) (va_cwS 2 hts (gd_S tw_433 tw_434 tw_8 tw_435) rfl rfl rfl (by decide +kernel) ⟨Nat.le_of_ble_eq_true rfl, Nat.le_of_ble_eq_true rfl⟩) rfl hl.1 rfl (Nat.le_of_ble_eq_true rfl) d_Ripemd160_step_52 ⟨Nat.zero_le _, Nat.zero_le _⟩ (fun H locs hn_x10 hI => ?_)
  obtain ⟨hg, hf⟩ := sd_gd_e hf
  refine k_iast (μ' := sd_st m9 19 (Int32.toNatClampNeg (3 : Int32)) x10) hx hb hK hI 19 0 rfl rfl rfl hg d_Ripemd160_step_55 (fun H locs hI => ?_)
  obtain ⟨m11, hI, hf⟩ := k_lm hf hI
  refine lv_aload_n hx hb d_Ripemd160_step_56 rfl (lv_at hl 2 rfl) ?_
  refine lv_iconst (v := 2) hx hb d_Ripemd160_step_57 (by decide) ?_
  refine lv_aload_n hx hb d_Ripemd160_step_58 rfl (lv_at hl 2 rfl) ?_
  refine lv_iconst (v := 1) hx hb d_Ripemd160_step_59 (by decide) ?_
  obtain ⟨hg, hf⟩ := sd_gd_e hf
  refine k_iald hx hb hK hI 19 0 rfl rfl hg d_Ripemd160_step_60 ?_
  obtain ⟨hg, hf⟩ := sd_gd_e hf
  refine k_iast (μ' := sd_st m11 19 (Int32.toNatClampNeg (2 : Int32)) (m11.1 19 (Int32.toNatClampNeg (1 : Int32)))) hx hb hK hI 19 0 rfl rfl rfl hg d_Ripemd160_step_61 (fun H locs hI => ?_)
  obtain ⟨m12, hI, hf⟩ := k_lm hf hI
  refine lv_aload_n hx hb d_Ripemd160_step_62 rfl (lv_at hl 2 rfl) ?_
  refine lv_iconst (v := 1) hx hb d_Ripemd160_step_63 (by decide) ?_
  refine lv_iload hx hb d_Ripemd160_step_64 (lv_at hl 0 rfl) ?_
  obtain ⟨hg, hf⟩ := sd_gd_e hf
  refine k_iast (μ' := sd_st m12 19 (Int32.toNatClampNeg (1 : Int32)) x6) hx hb hK hI 19 0 rfl rfl rfl hg d_Ripemd160_step_66 (fun H locs hI => ?_)
  obtain ⟨m13, hI, hf⟩ := k_lm hf hI
  exact k_retv X hI hf d_Ripemd160_step_67
set_option maxHeartbeats 4000000 in
set_option maxRecDepth 100000 in
theorem mt_Ripemd160_step_r20 (l : Launch) {D : va_G} {q tq : Nat → Nat} {cA : ClassId} {a1 : Int32} {a2 : Int32} {a3 : Int32} {μ : sd_Me} {ru : sd_Me} (hf : fn_Ripemd160_step_r20 a1 a2 a3 μ = some ru) : sd_CTv l y_Ripemd160_step w_Ripemd160_step ({ frames := 1, cells := 0, slots := 0, locals := 23 }) vwCl (wdX q cA) D [(cA, .int)] (ZX tq) [.ref (q 20), .int a1, .int a2, .int a3] μ ru := by
  refine k_entv (cc := prog_7_method_4_code) 6 (by decide) rfl (Nat.le_of_ble_eq_true rfl) ?_
  intro p e s m below meth c A ls X hI hl
  have hl : lv_has ls 6 [(0, .ref (q 20)), (1, .int a1), (2, .int a2), (3, .int a3)] := hl
  obtain ⟨hx, hb, hml, hown, hts, hK, hZ, hA, hr, hlocks⟩ := id X
  unfold fn_Ripemd160_step_r20 at hf
  refine lv_aload_n hx hb d_Ripemd160_step_0 rfl (lv_at hl 0 rfl) ?_
  refine lv_iconst (v := 0) hx hb d_Ripemd160_step_1 (by decide) ?_
  obtain ⟨hg, hf⟩ := sd_gd_e hf
  refine k_iald hx hb hK hI 20 0 rfl rfl hg d_Ripemd160_step_2 ?_
  refine lv_iload_n hx hb d_Ripemd160_step_3 rfl (lv_at hl 1 rfl) ?_
  refine lv_aload_n hx hb d_Ripemd160_step_4 rfl (lv_at hl 0 rfl) ?_
  refine lv_iconst (v := 1) hx hb d_Ripemd160_step_5 (by decide) ?_
  obtain ⟨hg, hf⟩ := sd_gd_e hf
  refine k_iald hx hb hK hI 20 0 rfl rfl hg d_Ripemd160_step_6 ?_
  refine lv_aload_n hx hb d_Ripemd160_step_7 rfl (lv_at hl 0 rfl) ?_
  refine lv_iconst (v := 2) hx hb d_Ripemd160_step_8 (by decide) ?_
  obtain ⟨hg, hf⟩ := sd_gd_e hf
  refine k_iald hx hb hK hI 20 0 rfl rfl hg d_Ripemd160_step_9 ?_
  refine lv_aload_n hx hb d_Ripemd160_step_10 rfl (lv_at hl 0 rfl) ?_
  refine lv_iconst (v := 3) hx hb d_Ripemd160_step_11 (by decide) ?_
  obtain ⟨hg, hf⟩ := sd_gd_e hf
  refine k_iald hx hb hK hI 20 0 rfl rfl hg d_Ripemd160_step_12 ?_
  obtain ⟨x2, m1, hq, hf⟩ := sd_bi_e hf
  refine k_callS (As := [.int a1, .int (μ.1 20 (Int32.toNatClampNeg (1 : Int32))), .int (μ.1 20 (Int32.toNatClampNeg (2 : Int32))), .int (μ.1 20 (Int32.toNatClampNeg (3 : Int32)))]) (rest := [.int (μ.1 20 (Int32.toNatClampNeg (0 : Int32)))]) ZX_ok X hI (mt_Ripemd160_blend l hq) (va_cwS 4 hts (gd_S tw_430 tw_431 tw_8 tw_432) rfl rfl rfl (by decide +kernel) ⟨Nat.le_of_ble_eq_true rfl, Nat.le_of_ble_eq_true rfl⟩) rfl hl.1 rfl (Nat.le_of_ble_eq_true rfl) d_Ripemd160_step_13 ⟨Nat.zero_le _, Nat.zero_le _⟩ (fun H locs hn_x2 hI => ?_)
  refine lv_iadd hx hb d_Ripemd160_step_16 ?_
  refine lv_iload_n hx hb d_Ripemd160_step_17 rfl (lv_at hl 2 rfl) ?_
  refine lv_iadd hx hb d_Ripemd160_step_18 ?_
  refine k_li hf (fun x3 hf => ?_)
  refine lv_istore (lv' := [(4, .int x3), (0, .ref (q 20)), (1, .int a1), (2, .int a2), (3, .int a3)]) hx hb d_Ripemd160_step_19 hl (by decide) rfl (fun ls hl => ?_)
  refine lv_iload hx hb d_Ripemd160_step_21 (lv_at hl 0 rfl) ?_
  refine lv_iload_n hx hb d_Ripemd160_step_23 rfl (lv_at hl 4 rfl) ?_
  obtain ⟨x5, m4, hq, hf⟩ := sd_bi_e hf
  refine k_callS (As := [.int x3, .int a3]) (rest := []) ZX_ok X hI (mt_Ripemd160_turned l hq) (va_cwS 2 hts (gd_S tw_433 tw_434 tw_8 tw_435) rfl rfl rfl (by decide +kernel) ⟨Nat.le_of_ble_eq_true rfl, Nat.le_of_ble_eq_true rfl⟩) rfl hl.1 rfl (Nat.le_of_ble_eq_true rfl) d_Ripemd160_step_24 ⟨Nat.zero_le _, Nat.zero_le _⟩ (fun H locs hn_x5 hI => ?_)
  refine lv_aload_n hx hb d_Ripemd160_step_27 rfl (lv_at hl 1 rfl) ?_
  refine lv_iconst (v := 4) hx hb d_Ripemd160_step_28 (by decide) ?_
  obtain ⟨hg, hf⟩ := sd_gd_e hf
  refine k_iald hx hb hK hI 20 0 rfl rfl hg d_Ripemd160_step_29 ?_
  refine lv_iadd hx hb d_Ripemd160_step_30 ?_
  refine k_li hf (fun x6 hf => ?_)
  refine lv_istore (lv' := [(5, .int x6), (4, .int x3), (0, .ref (q 20)), (1, .int a1), (2, .int a2), (3, .int a3)]) hx hb d_Ripemd160_step_31 hl (by decide) rfl (fun ls hl => ?_)
  refine lv_aload_n hx hb d_Ripemd160_step_33 rfl (lv_at hl 2 rfl) ?_
  refine lv_iconst (v := 0) hx hb d_Ripemd160_step_34 (by decide) ?_
  refine lv_aload_n hx hb d_Ripemd160_step_35 rfl (lv_at hl 2 rfl) ?_
  refine lv_iconst (v := 4) hx hb d_Ripemd160_step_36 (by decide) ?_
  obtain ⟨hg, hf⟩ := sd_gd_e hf
  refine k_iald hx hb hK hI 20 0 rfl rfl hg d_Ripemd160_step_37 ?_
  obtain ⟨hg, hf⟩ := sd_gd_e hf
  refine k_iast (μ' := sd_st m4 20 (Int32.toNatClampNeg (0 : Int32)) (m4.1 20 (Int32.toNatClampNeg (4 : Int32)))) hx hb hK hI 20 0 rfl rfl rfl hg d_Ripemd160_step_38 (fun H locs hI => ?_)
  obtain ⟨m7, hI, hf⟩ := k_lm hf hI
  refine lv_aload_n hx hb d_Ripemd160_step_39 rfl (lv_at hl 2 rfl) ?_
  refine lv_iconst (v := 4) hx hb d_Ripemd160_step_40 (by decide) ?_
  refine lv_aload_n hx hb d_Ripemd160_step_41 rfl (lv_at hl 2 rfl) ?_
  refine lv_iconst (v := 3) hx hb d_Ripemd160_step_42 (by decide) ?_
  obtain ⟨hg, hf⟩ := sd_gd_e hf
  refine k_iald hx hb hK hI 20 0 rfl rfl hg d_Ripemd160_step_43 ?_
  obtain ⟨hg, hf⟩ := sd_gd_e hf
  refine k_iast (μ' := sd_st m7 20 (Int32.toNatClampNeg (4 : Int32)) (m7.1 20 (Int32.toNatClampNeg (3 : Int32)))) hx hb hK hI 20 0 rfl rfl rfl hg d_Ripemd160_step_44 (fun H locs hI => ?_)
  obtain ⟨m8, hI, hf⟩ := k_lm hf hI
  refine lv_aload_n hx hb d_Ripemd160_step_45 rfl (lv_at hl 2 rfl) ?_
  refine lv_iconst (v := 3) hx hb d_Ripemd160_step_46 (by decide) ?_
  refine lv_aload_n hx hb d_Ripemd160_step_47 rfl (lv_at hl 2 rfl) ?_
  refine lv_iconst (v := 2) hx hb d_Ripemd160_step_48 (by decide) ?_
  obtain ⟨hg, hf⟩ := sd_gd_e hf
  refine k_iald hx hb hK hI 20 0 rfl rfl hg d_Ripemd160_step_49 ?_
  refine lv_bipush (v := 10) hx hb d_Ripemd160_step_50 (by decide) ?_
  obtain ⟨x10, m9, hq, hf⟩ := sd_bi_e hf
  refine k_callS (As := [.int (m8.1 20 (Int32.toNatClampNeg (2 : Int32))), .int (10 : Int32)]) (rest := [.int (3 : Int32), .ref (q 20)]) ZX_ok X hI (mt_Ripemd160_turned l hq) (va_cwS 2 hts (gd_S tw_433 tw_434 tw_8 tw_435) rfl rfl rfl (by decide +kernel) ⟨Nat.le_of_ble_eq_true rfl, Nat.le_of_ble_eq_true rfl⟩) rfl hl.1 rfl (Nat.le_of_ble_eq_true rfl) d_Ripemd160_step_52 ⟨Nat.zero_le _, Nat.zero_le _⟩ (fun H locs hn_x10 hI => ?_)
  obtain ⟨hg, hf⟩ := sd_gd_e hf
  refine k_iast (μ' := sd_st m9 20 (Int32.toNatClampNeg (3 : Int32)) x10) hx hb hK hI 20 0 rfl rfl rfl hg d_Ripemd160_step_55 (fun H locs hI => ?_)
  obtain ⟨m11, hI, hf⟩ := k_lm hf hI
  refine lv_aload_n hx hb d_Ripemd160_step_56 rfl (lv_at hl 2 rfl) ?_
  refine lv_iconst (v := 2) hx hb d_Ripemd160_step_57 (by decide) ?_
  refine lv_aload_n hx hb d_Ripemd160_step_58 rfl (lv_at hl 2 rfl) ?_
  refine lv_iconst (v := 1) hx hb d_Ripemd160_step_59 (by decide) ?_
  obtain ⟨hg, hf⟩ := sd_gd_e hf
  refine k_iald hx hb hK hI 20 0 rfl rfl hg d_Ripemd160_step_60 ?_
  obtain ⟨hg, hf⟩ := sd_gd_e hf
  refine k_iast (μ' := sd_st m11 20 (Int32.toNatClampNeg (2 : Int32)) (m11.1 20 (Int32.toNatClampNeg (1 : Int32)))) hx hb hK hI 20 0 rfl rfl rfl hg d_Ripemd160_step_61 (fun H locs hI => ?_)
  obtain ⟨m12, hI, hf⟩ := k_lm hf hI
  refine lv_aload_n hx hb d_Ripemd160_step_62 rfl (lv_at hl 2 rfl) ?_
  refine lv_iconst (v := 1) hx hb d_Ripemd160_step_63 (by decide) ?_
  refine lv_iload hx hb d_Ripemd160_step_64 (lv_at hl 0 rfl) ?_
  obtain ⟨hg, hf⟩ := sd_gd_e hf
  refine k_iast (μ' := sd_st m12 20 (Int32.toNatClampNeg (1 : Int32)) x6) hx hb hK hI 20 0 rfl rfl rfl hg d_Ripemd160_step_66 (fun H locs hI => ?_)
  obtain ⟨m13, hI, hf⟩ := k_lm hf hI
  exact k_retv X hI hf d_Ripemd160_step_67
set_option maxHeartbeats 4000000 in
set_option maxRecDepth 100000 in
theorem lp_Ripemd160_mix_r14_L30 (l : Launch) {p : Program} {e : Env} {s : State} {m : MethodId} {args : Array Value} {below : List Frame} {meth : Method} {c : Code} {A : Nat → Prop} {D : va_G} {q tq : Nat → Nat} {cA : ClassId} {ru : sd_Me} (X : sd_Cx p s m args meth c prog_7_method_3_code "ScriptDesk$Ripemd160" sx_tbl 3 none vwCl D [(cA, .int)] (ZX tq) A) {k107 : sd_Me → Option (sd_Me)} (hk107 : ∀ (μ : sd_Me) (H : Heap) (locs : List Loc) (ls : Array Slot), sd_CI vwCl (wdX q cA) D A s H locs μ → lv_has ls 3 [(0, .ref (q 14))] → k107 μ = some ru → W p l e ({ frames := 2, cells := 0, slots := 0, locals := 48 }) s m args below meth c H locs 0 0 (sd_QV below vwCl (wdX q cA) D [(cA, .int)] A args s ru) (F0 m 107 ls [])) :
    ∀ (n : Nat) (v1 : Int32) (μ : sd_Me) (H : Heap) (locs : List Loc) (ls : Array Slot), sd_CI vwCl (wdX q cA) D A s H locs μ → lv_has ls 3 [(0, .ref (q 14)), (1, .int v1)] → fn_Ripemd160_mix_r14_L30 k107 n v1 μ = some ru → W p l e ({ frames := 2, cells := 0, slots := 0, locals := 48 }) s m args below meth c H locs 0 0 (sd_QV below vwCl (wdX q cA) D [(cA, .int)] A args s ru) (F0 m 30 ls []) := by
  obtain ⟨hx, hb, hml, hown, hts, hK, hZ, hA, hr, hlocks⟩ := id X
  intro n
  induction n with
  | zero =>
    intro v1 μ H locs ls hI hl hf
    cases hf
  | succ n ih =>
    intro v1 μ H locs ls hI hl hf
    rw [fn_Ripemd160_mix_r14_L30] at hf
    refine lv_iload_n hx hb d_Ripemd160_mix_30 rfl (lv_at hl 1 rfl) ?_
    refine lv_bipush (v := 80) hx hb d_Ripemd160_mix_31 (by decide) ?_
    refine lv_icmp_ge (tgt := 107) hx hb d_Ripemd160_mix_33 (by decide) (fun hc => ?_) (fun hc => ?_)
    · have hf := sd_t hf hc
      exact hk107  μ _ _ _ hI (lv_sub hl [0] rfl) hf
    · have hf := sd_f hf hc
      refine lv_iload_n hx hb d_Ripemd160_mix_36 rfl (lv_at hl 1 rfl) ?_
      refine lv_bipush (v := 16) hx hb d_Ripemd160_mix_37 (by decide) ?_
      refine lv_idiv hx hb d_Ripemd160_mix_39 (by decide) ?_
      refine k_li hf (fun x3 hf => ?_)
      refine lv_istore_n (lv' := [(2, .int x3), (0, .ref (q 14)), (1, .int v1)]) hx hb d_Ripemd160_mix_40 rfl hl (by decide) rfl (fun ls hl => ?_)
      refine lv_aload_n hx hb d_Ripemd160_mix_41 rfl (lv_at hl 1 rfl) ?_
      refine va_get (D := D) (ci := 6) (v := .ref (q 19)) (C := "ScriptDesk$Ripemd160") (T := T_Ripemd160) (N := 7) hx hb hts iw_Ripemd160 hown hK hI.1 14 rfl rfl 5 (by decide) (hts _ tw_127) (fun _ h9 => h9) rfl d_Ripemd160_mix_42 ?_
      refine lv_iload_n hx hb d_Ripemd160_mix_45 rfl (lv_at hl 0 rfl) ?_
      refine lv_aload_n hx hb d_Ripemd160_mix_46 rfl (lv_at hl 1 rfl) ?_
      refine va_get (D := D) (ci := 6) (v := .ref (q 17)) (C := "ScriptDesk$Ripemd160") (T := T_Ripemd160) (N := 7) hx hb hts iw_Ripemd160 hown hK hI.1 14 rfl rfl 3 (by decide) (hts _ tw_101) (fun z h9 => u_same (hts _ tw_102) z h9) rfl d_Ripemd160_mix_47 ?_
      refine va_gets hx hb (hZX_Z2 hZ) hI.2.2 hown (hts _ tw_421) (fun _ h9 => h9) d_Ripemd160_mix_50 ?_
      refine lv_iload_n hx hb d_Ripemd160_mix_53 rfl (lv_at hl 2 rfl) ?_
      obtain ⟨hg, hf⟩ := sd_gd_e hf
      refine va_ti (v := .int (tabX2 (Int32.toNatClampNeg v1))) hx hb (hZX_T2 hZ) hI.2.2 (sd_ix_in hg) rfl d_Ripemd160_mix_54 ?_
      obtain ⟨hg, hf⟩ := sd_gd_e hf
      refine k_iald hx hb hK hI 17 0 rfl rfl hg d_Ripemd160_mix_55 ?_
      refine va_gets hx hb (hZX_Z3 hZ) hI.2.2 hown (hts _ tw_423) (fun _ h9 => h9) d_Ripemd160_mix_56 ?_
      refine lv_iload_n hx hb d_Ripemd160_mix_59 rfl (lv_at hl 0 rfl) ?_
      obtain ⟨hg, hf⟩ := sd_gd_e hf
      refine va_ti (v := .int (tabX3 (Int32.toNatClampNeg x3))) hx hb (hZX_T3 hZ) hI.2.2 (sd_ix_in hg) rfl d_Ripemd160_mix_60 ?_
      refine lv_iadd hx hb d_Ripemd160_mix_61 ?_
      refine va_gets hx hb (hZX_Z4 hZ) hI.2.2 hown (hts _ tw_425) (fun _ h9 => h9) d_Ripemd160_mix_62 ?_
      refine lv_iload_n hx hb d_Ripemd160_mix_65 rfl (lv_at hl 2 rfl) ?_
      obtain ⟨hg, hf⟩ := sd_gd_e hf
      refine va_ti (v := .int (tabX4 (Int32.toNatClampNeg v1))) hx hb (hZX_T4 hZ) hI.2.2 (sd_ix_in hg) rfl d_Ripemd160_mix_66 ?_
      obtain ⟨m4, hq, hf⟩ := sd_bv_e hf
      refine k_callSv (As := [.ref (q 19), .int x3, .int ((μ.1 17 (Int32.toNatClampNeg (tabX2 (Int32.toNatClampNeg v1)))) + (tabX3 (Int32.toNatClampNeg x3))), .int (tabX4 (Int32.toNatClampNeg v1))]) (rest := []) ZX_ok X hI (mt_Ripemd160_step_r19 l hq) (va_cwS 4 hts (gd_S tw_427 tw_428 tw_8 tw_429) rfl rfl rfl (by decide +kernel) ⟨Nat.le_of_ble_eq_true rfl, Nat.le_of_ble_eq_true rfl⟩) rfl hl.1 rfl (Nat.le_of_ble_eq_true rfl) d_Ripemd160_mix_67 ⟨Nat.zero_le _, Nat.zero_le _⟩ (fun H locs hI => ?_)
      refine lv_aload_n hx hb d_Ripemd160_mix_70 rfl (lv_at hl 1 rfl) ?_
      refine va_get (D := D) (ci := 6) (v := .ref (q 20)) (C := "ScriptDesk$Ripemd160") (T := T_Ripemd160) (N := 7) hx hb hts iw_Ripemd160 hown hK hI.1 14 rfl rfl 6 (by decide) (hts _ tw_128) (fun _ h9 => h9) rfl d_Ripemd160_mix_71 ?_
      refine lv_iconst (v := 4) hx hb d_Ripemd160_mix_74 (by decide) ?_
      refine lv_iload_n hx hb d_Ripemd160_mix_75 rfl (lv_at hl 0 rfl) ?_
      refine lv_isub hx hb d_Ripemd160_mix_76 ?_
      refine lv_aload_n hx hb d_Ripemd160_mix_77 rfl (lv_at hl 1 rfl) ?_
      refine va_get (D := D) (ci := 6) (v := .ref (q 17)) (C := "ScriptDesk$Ripemd160") (T := T_Ripemd160) (N := 7) hx hb hts iw_Ripemd160 hown hK hI.1 14 rfl rfl 3 (by decide) (hts _ tw_101) (fun z h9 => u_same (hts _ tw_102) z h9) rfl d_Ripemd160_mix_78 ?_
      refine va_gets hx hb (hZX_Z5 hZ) hI.2.2 hown (hts _ tw_436) (fun _ h9 => h9) d_Ripemd160_mix_81 ?_
      refine lv_iload_n hx hb d_Ripemd160_mix_84 rfl (lv_at hl 2 rfl) ?_
      obtain ⟨hg, hf⟩ := sd_gd_e hf
      refine va_ti (v := .int (tabX5 (Int32.toNatClampNeg v1))) hx hb (hZX_T5 hZ) hI.2.2 (sd_ix_in hg) rfl d_Ripemd160_mix_85 ?_
      obtain ⟨hg, hf⟩ := sd_gd_e hf
      refine k_iald hx hb hK hI 17 0 rfl rfl hg d_Ripemd160_mix_86 ?_
      refine va_gets hx hb (hZX_Z6 hZ) hI.2.2 hown (hts _ tw_438) (fun _ h9 => h9) d_Ripemd160_mix_87 ?_
      refine lv_iload_n hx hb d_Ripemd160_mix_90 rfl (lv_at hl 0 rfl) ?_
      obtain ⟨hg, hf⟩ := sd_gd_e hf
      refine va_ti (v := .int (tabX6 (Int32.toNatClampNeg x3))) hx hb (hZX_T6 hZ) hI.2.2 (sd_ix_in hg) rfl d_Ripemd160_mix_91 ?_
      refine lv_iadd hx hb d_Ripemd160_mix_92 ?_
      refine va_gets hx hb (hZX_Z7 hZ) hI.2.2 hown (hts _ tw_440) (fun _ h9 => h9) d_Ripemd160_mix_93 ?_
      refine lv_iload_n hx hb d_Ripemd160_mix_96 rfl (lv_at hl 2 rfl) ?_
      obtain ⟨hg, hf⟩ := sd_gd_e hf
      refine va_ti (v := .int (tabX7 (Int32.toNatClampNeg v1))) hx hb (hZX_T7 hZ) hI.2.2 (sd_ix_in hg) rfl d_Ripemd160_mix_97 ?_
      obtain ⟨m5, hq, hf⟩ := sd_bv_e hf
      refine k_callSv (As := [.ref (q 20), .int ((4 : Int32) - x3), .int ((m4.1 17 (Int32.toNatClampNeg (tabX5 (Int32.toNatClampNeg v1)))) + (tabX6 (Int32.toNatClampNeg x3))), .int (tabX7 (Int32.toNatClampNeg v1))]) (rest := []) ZX_ok X hI (mt_Ripemd160_step_r20 l hq) (va_cwS 4 hts (gd_S tw_427 tw_428 tw_8 tw_429) rfl rfl rfl (by decide +kernel) ⟨Nat.le_of_ble_eq_true rfl, Nat.le_of_ble_eq_true rfl⟩) rfl hl.1 rfl (Nat.le_of_ble_eq_true rfl) d_Ripemd160_mix_98 ⟨Nat.zero_le _, Nat.zero_le _⟩ (fun H locs hI => ?_)
      refine lv_iinc (v := (v1 + (1 : Int32))) (lv' := [(1, .int (v1 + (1 : Int32))), (2, .int x3), (0, .ref (q 14))]) hx hb d_Ripemd160_mix_101 hl (k := 2) rfl rfl (by decide) rfl (fun ls hl => ?_)
      refine lv_goto (tgt := 30) hx hb d_Ripemd160_mix_104 (by decide) ?_
      exact ih ((v1 + (1 : Int32))) m5 _ _ _ hI (lv_sub hl [2, 0] rfl) hf
set_option maxHeartbeats 4000000 in
set_option maxRecDepth 100000 in
theorem mt_Ripemd160_mix_r14 (l : Launch) {D : va_G} {q tq : Nat → Nat} {cA : ClassId} {μ : sd_Me} {ru : sd_Me} (hf : fn_Ripemd160_mix_r14 μ = some ru) : sd_CTv l y_Ripemd160_mix w_Ripemd160_mix ({ frames := 2, cells := 0, slots := 0, locals := 48 }) vwCl (wdX q cA) D [(cA, .int)] (ZX tq) [.ref (q 14)] μ ru := by
  refine k_entv (cc := prog_7_method_3_code) 3 (by decide) rfl (Nat.le_of_ble_eq_true rfl) ?_
  intro p e s m below meth c A ls X hI hl
  have hl : lv_has ls 3 [(0, .ref (q 14))] := hl
  obtain ⟨hx, hb, hml, hown, hts, hK, hZ, hA, hr, hlocks⟩ := id X
  unfold fn_Ripemd160_mix_r14 at hf
  refine lv_aload_n hx hb d_Ripemd160_mix_0 rfl (lv_at hl 0 rfl) ?_
  refine va_get (D := D) (ci := 6) (v := .ref (q 18)) (C := "ScriptDesk$Ripemd160") (T := T_Ripemd160) (N := 7) hx hb hts iw_Ripemd160 hown hK hI.1 14 rfl rfl 4 (by decide) (hts _ tw_106) (fun z h9 => u_same (hts _ tw_107) z h9) rfl d_Ripemd160_mix_1 ?_
  refine lv_iconst (v := 0) hx hb d_Ripemd160_mix_4 (by decide) ?_
  refine lv_aload_n hx hb d_Ripemd160_mix_5 rfl (lv_at hl 0 rfl) ?_
  refine va_get (D := D) (ci := 6) (v := .ref (q 19)) (C := "ScriptDesk$Ripemd160") (T := T_Ripemd160) (N := 7) hx hb hts iw_Ripemd160 hown hK hI.1 14 rfl rfl 5 (by decide) (hts _ tw_127) (fun _ h9 => h9) rfl d_Ripemd160_mix_6 ?_
  refine lv_iconst (v := 0) hx hb d_Ripemd160_mix_9 (by decide) ?_
  refine lv_iconst (v := 5) hx hb d_Ripemd160_mix_10 (by decide) ?_
  obtain ⟨hg, hf⟩ := sd_gd_e hf
  refine k_copy (μ' := sd_mrow μ 19 (va_cpy (μ.1 18) (μ.1 19) (Int32.toNatClampNeg (0 : Int32)) (Int32.toNatClampNeg (0 : Int32)) (Int32.toNatClampNeg (5 : Int32)))) hx hb (hml.trans hl.1.symm) hown (hts _ tw_404) (hts _ tw_205) (hts _ tw_204) (hts _ tw_10) hK hI 18 19 0 0 rfl rfl rfl rfl rfl hg (Nat.le_of_ble_eq_true rfl) (Nat.le_of_ble_eq_true rfl) d_Ripemd160_mix_11 (fun H locs hI => ?_)
  obtain ⟨m1, hI, hf⟩ := k_lm hf hI
  refine lv_aload_n hx hb d_Ripemd160_mix_14 rfl (lv_at hl 0 rfl) ?_
  refine va_get (D := D) (ci := 6) (v := .ref (q 18)) (C := "ScriptDesk$Ripemd160") (T := T_Ripemd160) (N := 7) hx hb hts iw_Ripemd160 hown hK hI.1 14 rfl rfl 4 (by decide) (hts _ tw_106) (fun z h9 => u_same (hts _ tw_107) z h9) rfl d_Ripemd160_mix_15 ?_
  refine lv_iconst (v := 0) hx hb d_Ripemd160_mix_18 (by decide) ?_
  refine lv_aload_n hx hb d_Ripemd160_mix_19 rfl (lv_at hl 0 rfl) ?_
  refine va_get (D := D) (ci := 6) (v := .ref (q 20)) (C := "ScriptDesk$Ripemd160") (T := T_Ripemd160) (N := 7) hx hb hts iw_Ripemd160 hown hK hI.1 14 rfl rfl 6 (by decide) (hts _ tw_128) (fun _ h9 => h9) rfl d_Ripemd160_mix_20 ?_
  refine lv_iconst (v := 0) hx hb d_Ripemd160_mix_23 (by decide) ?_
  refine lv_iconst (v := 5) hx hb d_Ripemd160_mix_24 (by decide) ?_
  obtain ⟨hg, hf⟩ := sd_gd_e hf
  refine k_copy (μ' := sd_mrow m1 20 (va_cpy (m1.1 18) (m1.1 20) (Int32.toNatClampNeg (0 : Int32)) (Int32.toNatClampNeg (0 : Int32)) (Int32.toNatClampNeg (5 : Int32)))) hx hb (hml.trans hl.1.symm) hown (hts _ tw_404) (hts _ tw_205) (hts _ tw_204) (hts _ tw_10) hK hI 18 20 0 0 rfl rfl rfl rfl rfl hg (Nat.le_of_ble_eq_true rfl) (Nat.le_of_ble_eq_true rfl) d_Ripemd160_mix_25 (fun H locs hI => ?_)
  obtain ⟨m2, hI, hf⟩ := k_lm hf hI
  refine lv_iconst (v := 0) hx hb d_Ripemd160_mix_28 (by decide) ?_
  refine lv_istore_n (lv' := [(1, .int (0 : Int32)), (0, .ref (q 14))]) hx hb d_Ripemd160_mix_29 rfl hl (by decide) rfl (fun ls hl => ?_)
  refine lp_Ripemd160_mix_r14_L30 l X ?_ 10000 ((0 : Int32)) m2 _ _ _ hI (lv_sub hl [1, 0] rfl) hf
  · intro m6 H locs ls hI hl hf
    refine lv_aload_n hx hb d_Ripemd160_mix_107 rfl (lv_at hl 0 rfl) ?_
    refine va_get (D := D) (ci := 6) (v := .ref (q 18)) (C := "ScriptDesk$Ripemd160") (T := T_Ripemd160) (N := 7) hx hb hts iw_Ripemd160 hown hK hI.1 14 rfl rfl 4 (by decide) (hts _ tw_106) (fun z h9 => u_same (hts _ tw_107) z h9) rfl d_Ripemd160_mix_108 ?_
    refine lv_iconst (v := 1) hx hb d_Ripemd160_mix_111 (by decide) ?_
    obtain ⟨hg, hf⟩ := sd_gd_e hf
    refine k_iald hx hb hK hI 18 0 rfl rfl hg d_Ripemd160_mix_112 ?_
    refine lv_aload_n hx hb d_Ripemd160_mix_113 rfl (lv_at hl 0 rfl) ?_
    refine va_get (D := D) (ci := 6) (v := .ref (q 19)) (C := "ScriptDesk$Ripemd160") (T := T_Ripemd160) (N := 7) hx hb hts iw_Ripemd160 hown hK hI.1 14 rfl rfl 5 (by decide) (hts _ tw_127) (fun _ h9 => h9) rfl d_Ripemd160_mix_114 ?_
    refine lv_iconst (v := 2) hx hb d_Ripemd160_mix_117 (by decide) ?_
    obtain ⟨hg, hf⟩ := sd_gd_e hf
    refine k_iald hx hb hK hI 19 0 rfl rfl hg d_Ripemd160_mix_118 ?_
    refine lv_iadd hx hb d_Ripemd160_mix_119 ?_
    refine lv_aload_n hx hb d_Ripemd160_mix_120 rfl (lv_at hl 0 rfl) ?_
    refine va_get (D := D) (ci := 6) (v := .ref (q 20)) (C := "ScriptDesk$Ripemd160") (T := T_Ripemd160) (N := 7) hx hb hts iw_Ripemd160 hown hK hI.1 14 rfl rfl 6 (by decide) (hts _ tw_128) (fun _ h9 => h9) rfl d_Ripemd160_mix_121 ?_
    refine lv_iconst (v := 3) hx hb d_Ripemd160_mix_124 (by decide) ?_
    obtain ⟨hg, hf⟩ := sd_gd_e hf
    refine k_iald hx hb hK hI 20 0 rfl rfl hg d_Ripemd160_mix_125 ?_
    refine lv_iadd hx hb d_Ripemd160_mix_126 ?_
    refine k_li hf (fun x7 hf => ?_)
    refine lv_istore_n (lv' := [(1, .int x7), (0, .ref (q 14))]) hx hb d_Ripemd160_mix_127 rfl hl (by decide) rfl (fun ls hl => ?_)
    refine lv_aload_n hx hb d_Ripemd160_mix_128 rfl (lv_at hl 1 rfl) ?_
    refine va_get (D := D) (ci := 6) (v := .ref (q 18)) (C := "ScriptDesk$Ripemd160") (T := T_Ripemd160) (N := 7) hx hb hts iw_Ripemd160 hown hK hI.1 14 rfl rfl 4 (by decide) (hts _ tw_106) (fun z h9 => u_same (hts _ tw_107) z h9) rfl d_Ripemd160_mix_129 ?_
    refine lv_iconst (v := 1) hx hb d_Ripemd160_mix_132 (by decide) ?_
    refine lv_aload_n hx hb d_Ripemd160_mix_133 rfl (lv_at hl 1 rfl) ?_
    refine va_get (D := D) (ci := 6) (v := .ref (q 18)) (C := "ScriptDesk$Ripemd160") (T := T_Ripemd160) (N := 7) hx hb hts iw_Ripemd160 hown hK hI.1 14 rfl rfl 4 (by decide) (hts _ tw_106) (fun z h9 => u_same (hts _ tw_107) z h9) rfl d_Ripemd160_mix_134 ?_
    refine lv_iconst (v := 2) hx hb d_Ripemd160_mix_137 (by decide) ?_
    obtain ⟨hg, hf⟩ := sd_gd_e hf
    refine k_iald hx hb hK hI 18 0 rfl rfl hg d_Ripemd160_mix_138 ?_
    refine lv_aload_n hx hb d_Ripemd160_mix_139 rfl (lv_at hl 1 rfl) ?_
    refine va_get (D := D) (ci := 6) (v := .ref (q 19)) (C := "ScriptDesk$Ripemd160") (T := T_Ripemd160) (N := 7) hx hb hts iw_Ripemd160 hown hK hI.1 14 rfl rfl 5 (by decide) (hts _ tw_127) (fun _ h9 => h9) rfl d_Ripemd160_mix_140 ?_
    refine lv_iconst (v := 3) hx hb d_Ripemd160_mix_143 (by decide) ?_
    obtain ⟨hg, hf⟩ := sd_gd_e hf
    refine k_iald hx hb hK hI 19 0 rfl rfl hg d_Ripemd160_mix_144 ?_
    refine lv_iadd hx hb d_Ripemd160_mix_145 ?_
    refine lv_aload_n hx hb d_Ripemd160_mix_146 rfl (lv_at hl 1 rfl) ?_
    refine va_get (D := D) (ci := 6) (v := .ref (q 20)) (C := "ScriptDesk$Ripemd160") (T := T_Ripemd160) (N := 7) hx hb hts iw_Ripemd160 hown hK hI.1 14 rfl rfl 6 (by decide) (hts _ tw_128) (fun _ h9 => h9) rfl d_Ripemd160_mix_147 ?_
    refine lv_iconst (v := 4) hx hb d_Ripemd160_mix_150 (by decide) ?_
    obtain ⟨hg, hf⟩ := sd_gd_e hf
    refine k_iald hx hb hK hI 20 0 rfl rfl hg d_Ripemd160_mix_151 ?_
    refine lv_iadd hx hb d_Ripemd160_mix_152 ?_
    obtain ⟨hg, hf⟩ := sd_gd_e hf
    refine k_iast (μ' := sd_st m6 18 (Int32.toNatClampNeg (1 : Int32)) (((m6.1 18 (Int32.toNatClampNeg (2 : Int32))) + (m6.1 19 (Int32.toNatClampNeg (3 : Int32)))) + (m6.1 20 (Int32.toNatClampNeg (4 : Int32))))) hx hb hK hI 18 0 rfl rfl rfl hg d_Ripemd160_mix_153 (fun H locs hI => ?_)
    obtain ⟨m8, hI, hf⟩ := k_lm hf hI
    refine lv_aload_n hx hb d_Ripemd160_mix_154 rfl (lv_at hl 1 rfl) ?_
    refine va_get (D := D) (ci := 6) (v := .ref (q 18)) (C := "ScriptDesk$Ripemd160") (T := T_Ripemd160) (N := 7) hx hb hts iw_Ripemd160 hown hK hI.1 14 rfl rfl 4 (by decide) (hts _ tw_106) (fun z h9 => u_same (hts _ tw_107) z h9) rfl d_Ripemd160_mix_155 ?_
    refine lv_iconst (v := 2) hx hb d_Ripemd160_mix_158 (by decide) ?_
    refine lv_aload_n hx hb d_Ripemd160_mix_159 rfl (lv_at hl 1 rfl) ?_
    refine va_get (D := D) (ci := 6) (v := .ref (q 18)) (C := "ScriptDesk$Ripemd160") (T := T_Ripemd160) (N := 7) hx hb hts iw_Ripemd160 hown hK hI.1 14 rfl rfl 4 (by decide) (hts _ tw_106) (fun z h9 => u_same (hts _ tw_107) z h9) rfl d_Ripemd160_mix_160 ?_
    refine lv_iconst (v := 3) hx hb d_Ripemd160_mix_163 (by decide) ?_
    obtain ⟨hg, hf⟩ := sd_gd_e hf
    refine k_iald hx hb hK hI 18 0 rfl rfl hg d_Ripemd160_mix_164 ?_
    refine lv_aload_n hx hb d_Ripemd160_mix_165 rfl (lv_at hl 1 rfl) ?_
    refine va_get (D := D) (ci := 6) (v := .ref (q 19)) (C := "ScriptDesk$Ripemd160") (T := T_Ripemd160) (N := 7) hx hb hts iw_Ripemd160 hown hK hI.1 14 rfl rfl 5 (by decide) (hts _ tw_127) (fun _ h9 => h9) rfl d_Ripemd160_mix_166 ?_
    refine lv_iconst (v := 4) hx hb d_Ripemd160_mix_169 (by decide) ?_
    obtain ⟨hg, hf⟩ := sd_gd_e hf
    refine k_iald hx hb hK hI 19 0 rfl rfl hg d_Ripemd160_mix_170 ?_
    refine lv_iadd hx hb d_Ripemd160_mix_171 ?_
    refine lv_aload_n hx hb d_Ripemd160_mix_172 rfl (lv_at hl 1 rfl) ?_
    refine va_get (D := D) (ci := 6) (v := .ref (q 20)) (C := "ScriptDesk$Ripemd160") (T := T_Ripemd160) (N := 7) hx hb hts iw_Ripemd160 hown hK hI.1 14 rfl rfl 6 (by decide) (hts _ tw_128) (fun _ h9 => h9) rfl d_Ripemd160_mix_173 ?_
    refine lv_iconst (v := 0) hx hb d_Ripemd160_mix_176 (by decide) ?_
    obtain ⟨hg, hf⟩ := sd_gd_e hf
    refine k_iald hx hb hK hI 20 0 rfl rfl hg d_Ripemd160_mix_177 ?_
    refine lv_iadd hx hb d_Ripemd160_mix_178 ?_
    obtain ⟨hg, hf⟩ := sd_gd_e hf
    refine k_iast (μ' := sd_st m8 18 (Int32.toNatClampNeg (2 : Int32)) (((m8.1 18 (Int32.toNatClampNeg (3 : Int32))) + (m8.1 19 (Int32.toNatClampNeg (4 : Int32)))) + (m8.1 20 (Int32.toNatClampNeg (0 : Int32))))) hx hb hK hI 18 0 rfl rfl rfl hg d_Ripemd160_mix_179 (fun H locs hI => ?_)
    obtain ⟨m9, hI, hf⟩ := k_lm hf hI
    refine lv_aload_n hx hb d_Ripemd160_mix_180 rfl (lv_at hl 1 rfl) ?_
    refine va_get (D := D) (ci := 6) (v := .ref (q 18)) (C := "ScriptDesk$Ripemd160") (T := T_Ripemd160) (N := 7) hx hb hts iw_Ripemd160 hown hK hI.1 14 rfl rfl 4 (by decide) (hts _ tw_106) (fun z h9 => u_same (hts _ tw_107) z h9) rfl d_Ripemd160_mix_181 ?_
    refine lv_iconst (v := 3) hx hb d_Ripemd160_mix_184 (by decide) ?_
    refine lv_aload_n hx hb d_Ripemd160_mix_185 rfl (lv_at hl 1 rfl) ?_
    refine va_get (D := D) (ci := 6) (v := .ref (q 18)) (C := "ScriptDesk$Ripemd160") (T := T_Ripemd160) (N := 7) hx hb hts iw_Ripemd160 hown hK hI.1 14 rfl rfl 4 (by decide) (hts _ tw_106) (fun z h9 => u_same (hts _ tw_107) z h9) rfl d_Ripemd160_mix_186 ?_
    refine lv_iconst (v := 4) hx hb d_Ripemd160_mix_189 (by decide) ?_
    obtain ⟨hg, hf⟩ := sd_gd_e hf
    refine k_iald hx hb hK hI 18 0 rfl rfl hg d_Ripemd160_mix_190 ?_
    refine lv_aload_n hx hb d_Ripemd160_mix_191 rfl (lv_at hl 1 rfl) ?_
    refine va_get (D := D) (ci := 6) (v := .ref (q 19)) (C := "ScriptDesk$Ripemd160") (T := T_Ripemd160) (N := 7) hx hb hts iw_Ripemd160 hown hK hI.1 14 rfl rfl 5 (by decide) (hts _ tw_127) (fun _ h9 => h9) rfl d_Ripemd160_mix_192 ?_
    refine lv_iconst (v := 0) hx hb d_Ripemd160_mix_195 (by decide) ?_
    obtain ⟨hg, hf⟩ := sd_gd_e hf
    refine k_iald hx hb hK hI 19 0 rfl rfl hg d_Ripemd160_mix_196 ?_
    refine lv_iadd hx hb d_Ripemd160_mix_197 ?_
    refine lv_aload_n hx hb d_Ripemd160_mix_198 rfl (lv_at hl 1 rfl) ?_
    refine va_get (D := D) (ci := 6) (v := .ref (q 20)) (C := "ScriptDesk$Ripemd160") (T := T_Ripemd160) (N := 7) hx hb hts iw_Ripemd160 hown hK hI.1 14 rfl rfl 6 (by decide) (hts _ tw_128) (fun _ h9 => h9) rfl d_Ripemd160_mix_199 ?_
    refine lv_iconst (v := 1) hx hb d_Ripemd160_mix_202 (by decide) ?_
    obtain ⟨hg, hf⟩ := sd_gd_e hf
    refine k_iald hx hb hK hI 20 0 rfl rfl hg d_Ripemd160_mix_203 ?_
    refine lv_iadd hx hb d_Ripemd160_mix_204 ?_
    obtain ⟨hg, hf⟩ := sd_gd_e hf
    refine k_iast (μ' := sd_st m9 18 (Int32.toNatClampNeg (3 : Int32)) (((m9.1 18 (Int32.toNatClampNeg (4 : Int32))) + (m9.1 19 (Int32.toNatClampNeg (0 : Int32)))) + (m9.1 20 (Int32.toNatClampNeg (1 : Int32))))) hx hb hK hI 18 0 rfl rfl rfl hg d_Ripemd160_mix_205 (fun H locs hI => ?_)
    obtain ⟨m10, hI, hf⟩ := k_lm hf hI
    refine lv_aload_n hx hb d_Ripemd160_mix_206 rfl (lv_at hl 1 rfl) ?_
    refine va_get (D := D) (ci := 6) (v := .ref (q 18)) (C := "ScriptDesk$Ripemd160") (T := T_Ripemd160) (N := 7) hx hb hts iw_Ripemd160 hown hK hI.1 14 rfl rfl 4 (by decide) (hts _ tw_106) (fun z h9 => u_same (hts _ tw_107) z h9) rfl d_Ripemd160_mix_207 ?_
    refine lv_iconst (v := 4) hx hb d_Ripemd160_mix_210 (by decide) ?_
    refine lv_aload_n hx hb d_Ripemd160_mix_211 rfl (lv_at hl 1 rfl) ?_
    refine va_get (D := D) (ci := 6) (v := .ref (q 18)) (C := "ScriptDesk$Ripemd160") (T := T_Ripemd160) (N := 7) hx hb hts iw_Ripemd160 hown hK hI.1 14 rfl rfl 4 (by decide) (hts _ tw_106) (fun z h9 => u_same (hts _ tw_107) z h9) rfl d_Ripemd160_mix_212 ?_
    refine lv_iconst (v := 0) hx hb d_Ripemd160_mix_215 (by decide) ?_
    obtain ⟨hg, hf⟩ := sd_gd_e hf
    refine k_iald hx hb hK hI 18 0 rfl rfl hg d_Ripemd160_mix_216 ?_
    refine lv_aload_n hx hb d_Ripemd160_mix_217 rfl (lv_at hl 1 rfl) ?_
    refine va_get (D := D) (ci := 6) (v := .ref (q 19)) (C := "ScriptDesk$Ripemd160") (T := T_Ripemd160) (N := 7) hx hb hts iw_Ripemd160 hown hK hI.1 14 rfl rfl 5 (by decide) (hts _ tw_127) (fun _ h9 => h9) rfl d_Ripemd160_mix_218 ?_
    refine lv_iconst (v := 1) hx hb d_Ripemd160_mix_221 (by decide) ?_
    obtain ⟨hg, hf⟩ := sd_gd_e hf
    refine k_iald hx hb hK hI 19 0 rfl rfl hg d_Ripemd160_mix_222 ?_
    refine lv_iadd hx hb d_Ripemd160_mix_223 ?_
    refine lv_aload_n hx hb d_Ripemd160_mix_224 rfl (lv_at hl 1 rfl) ?_
    refine va_get (D := D) (ci := 6) (v := .ref (q 20)) (C := "ScriptDesk$Ripemd160") (T := T_Ripemd160) (N := 7) hx hb hts iw_Ripemd160 hown hK hI.1 14 rfl rfl 6 (by decide) (hts _ tw_128) (fun _ h9 => h9) rfl d_Ripemd160_mix_225 ?_
    refine lv_iconst (v := 2) hx hb d_Ripemd160_mix_228 (by decide) ?_
    obtain ⟨hg, hf⟩ := sd_gd_e hf
    refine k_iald hx hb hK hI 20 0 rfl rfl hg d_Ripemd160_mix_229 ?_
    refine lv_iadd hx hb d_Ripemd160_mix_230 ?_
    obtain ⟨hg, hf⟩ := sd_gd_e hf
    refine k_iast (μ' := sd_st m10 18 (Int32.toNatClampNeg (4 : Int32)) (((m10.1 18 (Int32.toNatClampNeg (0 : Int32))) + (m10.1 19 (Int32.toNatClampNeg (1 : Int32)))) + (m10.1 20 (Int32.toNatClampNeg (2 : Int32))))) hx hb hK hI 18 0 rfl rfl rfl hg d_Ripemd160_mix_231 (fun H locs hI => ?_)
    obtain ⟨m11, hI, hf⟩ := k_lm hf hI
    refine lv_aload_n hx hb d_Ripemd160_mix_232 rfl (lv_at hl 1 rfl) ?_
    refine va_get (D := D) (ci := 6) (v := .ref (q 18)) (C := "ScriptDesk$Ripemd160") (T := T_Ripemd160) (N := 7) hx hb hts iw_Ripemd160 hown hK hI.1 14 rfl rfl 4 (by decide) (hts _ tw_106) (fun z h9 => u_same (hts _ tw_107) z h9) rfl d_Ripemd160_mix_233 ?_
    refine lv_iconst (v := 0) hx hb d_Ripemd160_mix_236 (by decide) ?_
    refine lv_iload_n hx hb d_Ripemd160_mix_237 rfl (lv_at hl 0 rfl) ?_
    obtain ⟨hg, hf⟩ := sd_gd_e hf
    refine k_iast (μ' := sd_st m11 18 (Int32.toNatClampNeg (0 : Int32)) x7) hx hb hK hI 18 0 rfl rfl rfl hg d_Ripemd160_mix_238 (fun H locs hI => ?_)
    obtain ⟨m12, hI, hf⟩ := k_lm hf hI
    exact k_retv X hI hf d_Ripemd160_mix_239
set_option maxHeartbeats 4000000 in
set_option maxRecDepth 100000 in
theorem lp_BlockDigest_write_r14_r16_L16 (l : Launch) {p : Program} {e : Env} {s : State} {m : MethodId} {args : Array Value} {below : List Frame} {meth : Method} {c : Code} {A : Nat → Prop} {D : va_G} {q tq : Nat → Nat} {cA : ClassId} {ru : sd_Me} (X : sd_Cx p s m args meth c prog_2_method_7_code "ScriptDesk$BlockDigest" sx_tbl 5 none vwCl D [(cA, .int)] (ZX tq) A) {k46 : sd_Me → Option (sd_Me)} (hk46 : ∀ (μ : sd_Me) (H : Heap) (locs : List Loc) (ls : Array Slot), sd_CI vwCl (wdX q cA) D A s H locs μ → lv_has ls 5 [] → k46 μ = some ru → W p l e ({ frames := 1, cells := 0, slots := 0, locals := 21 }) s m args below meth c H locs 0 0 (sd_QV below vwCl (wdX q cA) D [(cA, .int)] A args s ru) (F0 m 46 ls [])) :
    ∀ (n : Nat) (v1 : Int32) (v3 : Int32) (v4 : Int32) (μ : sd_Me) (H : Heap) (locs : List Loc) (ls : Array Slot), sd_CI vwCl (wdX q cA) D A s H locs μ → lv_has ls 5 [(0, .ref (q 14)), (1, .int v1), (2, .ref (q 16)), (3, .int v3), (4, .int v4)] → fn_BlockDigest_write_r14_r16_L16 k46 n v1 v3 v4 μ = some ru → W p l e ({ frames := 1, cells := 0, slots := 0, locals := 21 }) s m args below meth c H locs 0 0 (sd_QV below vwCl (wdX q cA) D [(cA, .int)] A args s ru) (F0 m 16 ls []) := by
  obtain ⟨hx, hb, hml, hown, hts, hK, hZ, hA, hr, hlocks⟩ := id X
  intro n
  induction n with
  | zero =>
    intro v1 v3 v4 μ H locs ls hI hl hf
    cases hf
  | succ n ih =>
    intro v1 v3 v4 μ H locs ls hI hl hf
    rw [fn_BlockDigest_write_r14_r16_L16] at hf
    refine lv_iload hx hb d_BlockDigest_write_16 (lv_at hl 4 rfl) ?_
    refine lv_iconst (v := 4) hx hb d_BlockDigest_write_18 (by decide) ?_
    refine lv_icmp_ge (tgt := 46) hx hb d_BlockDigest_write_19 (by decide) (fun hc => ?_) (fun hc => ?_)
    · have hf := sd_t hf hc
      exact hk46  μ _ _ _ hI (lv_sub hl [] rfl) hf
    · have hf := sd_f hf hc
      refine lv_aload_n hx hb d_BlockDigest_write_22 rfl (lv_at hl 2 rfl) ?_
      refine lv_iload_n hx hb d_BlockDigest_write_23 rfl (lv_at hl 3 rfl) ?_
      refine lv_iload hx hb d_BlockDigest_write_24 (lv_at hl 4 rfl) ?_
      refine lv_iadd hx hb d_BlockDigest_write_26 ?_
      refine lv_iload_n hx hb d_BlockDigest_write_27 rfl (lv_at hl 1 rfl) ?_
      refine lv_aload_n hx hb d_BlockDigest_write_28 rfl (lv_at hl 0 rfl) ?_
      refine lv_iload hx hb d_BlockDigest_write_29 (lv_at hl 4 rfl) ?_
      obtain ⟨x2, m1, hq, hf⟩ := sd_bi_e hf
      refine k_callU (As := [.int v4]) (rest := [.int v1, .int (v3 + v4), .ref (q 16)]) (C := "ScriptDesk$Ripemd160") (ci := 6) ZX_ok X hI (mt_BlockDigest_shiftOf_r14 l hq) (va_cwU 1 hts (gd_U tw_392 tw_799 sp_0 tw_394 tw_6 tw_395) rfl rfl rfl rfl (by decide +kernel) ⟨Nat.le_of_ble_eq_true rfl, Nat.le_of_ble_eq_true rfl⟩) 14 rfl rfl rfl hl.1 rfl (Nat.le_of_ble_eq_true rfl) d_BlockDigest_write_31 ⟨Nat.zero_le _, Nat.zero_le _⟩ (fun H locs hn_x2 hI => ?_)
      refine lv_iushr (v := (sd_usr v1 x2)) hx hb d_BlockDigest_write_34 rfl ?_
      refine lv_sipush (v := 255) hx hb d_BlockDigest_write_35 (by decide) ?_
      refine lv_iand hx hb d_BlockDigest_write_38 ?_
      obtain ⟨hg, hf⟩ := sd_gd_e hf
      refine k_iast (μ' := sd_st m1 16 (Int32.toNatClampNeg (v3 + v4)) ((sd_usr v1 x2) &&& (255 : Int32))) hx hb hK hI 16 0 rfl rfl rfl hg d_BlockDigest_write_39 (fun H locs hI => ?_)
      obtain ⟨m3, hI, hf⟩ := k_lm hf hI
      refine lv_iinc (v := (v4 + (1 : Int32))) (lv' := [(4, .int (v4 + (1 : Int32))), (0, .ref (q 14)), (1, .int v1), (2, .ref (q 16)), (3, .int v3)]) hx hb d_BlockDigest_write_40 hl (k := 4) rfl rfl (by decide) rfl (fun ls hl => ?_)
      refine lv_goto (tgt := 16) hx hb d_BlockDigest_write_43 (by decide) ?_
      exact ih (v1) (v3) ((v4 + (1 : Int32))) m3 _ _ _ hI (lv_sub hl [1, 2, 3, 4, 0] rfl) hf
set_option maxHeartbeats 4000000 in
set_option maxRecDepth 100000 in
theorem mt_BlockDigest_write_r14_r16 (l : Launch) {D : va_G} {q tq : Nat → Nat} {cA : ClassId} {a1 : Int32} {a3 : Int32} {μ : sd_Me} {ru : sd_Me} (hf : fn_BlockDigest_write_r14_r16 a1 a3 μ = some ru) : sd_CTv l y_BlockDigest_write w_BlockDigest_write ({ frames := 1, cells := 0, slots := 0, locals := 21 }) vwCl (wdX q cA) D [(cA, .int)] (ZX tq) [.ref (q 14), .int a1, .ref (q 16), .int a3] μ ru := by
  refine k_entv (cc := prog_2_method_7_code) 5 (by decide) rfl (Nat.le_of_ble_eq_true rfl) ?_
  intro p e s m below meth c A ls X hI hl
  have hl : lv_has ls 5 [(0, .ref (q 14)), (1, .int a1), (2, .ref (q 16)), (3, .int a3)] := hl
  obtain ⟨hx, hb, hml, hown, hts, hK, hZ, hA, hr, hlocks⟩ := id X
  unfold fn_BlockDigest_write_r14_r16 at hf
  refine lv_iload_n hx hb d_BlockDigest_write_0 rfl (lv_at hl 3 rfl) ?_
  refine lv_if_lt (tgt := 12) hx hb d_BlockDigest_write_1 (by decide) (fun hc => ?_) (fun hc => ?_)
  · have hf := sd_t hf hc
    exact k_retv X hI hf d_BlockDigest_write_12
  · have hf := sd_f hf hc
    refine lv_iload_n hx hb d_BlockDigest_write_4 rfl (lv_at hl 3 rfl) ?_
    refine lv_aload_n hx hb d_BlockDigest_write_5 rfl (lv_at hl 2 rfl) ?_
    refine va_alen (v := 20) hx hb hK hI.1 16 0 rfl rfl (show Int32.ofNat 20 = 20 by decide) d_BlockDigest_write_6 ?_
    refine lv_iconst (v := 4) hx hb d_BlockDigest_write_7 (by decide) ?_
    refine lv_isub hx hb d_BlockDigest_write_8 ?_
    refine lv_icmp_le (tgt := 13) hx hb d_BlockDigest_write_9 (by decide) (fun hc => ?_) (fun hc => ?_)
    · have hf := sd_t hf hc
      refine lv_iconst (v := 0) hx hb d_BlockDigest_write_13 (by decide) ?_
      refine lv_istore (lv' := [(4, .int (0 : Int32)), (0, .ref (q 14)), (1, .int a1), (2, .ref (q 16)), (3, .int a3)]) hx hb d_BlockDigest_write_14 hl (by decide) rfl (fun ls hl => ?_)
      refine lp_BlockDigest_write_r14_r16_L16 l X ?_ 10000 (a1) (a3) ((0 : Int32)) μ _ _ _ hI (lv_sub hl [1, 2, 3, 4, 0] rfl) hf
      · intro m4 H locs ls hI hl hf
        exact k_retv X hI hf d_BlockDigest_write_46
    · have hf := sd_f hf hc
      exact k_retv X hI hf d_BlockDigest_write_12
set_option maxHeartbeats 4000000 in
set_option maxRecDepth 100000 in
theorem mt_Elements_push_r2_r16 (l : Launch) {D : va_G} {q tq : Nat → Nat} {cA : ClassId} {a2 : Int32} {a3 : Int32} {μ : sd_Me} {ru : sd_Me} (hf : fn_Elements_push_r2_r16 a2 a3 μ = some ru) : sd_CTv l y_Elements_push w_Elements_push ({ frames := 1, cells := 0, slots := 0, locals := 35 }) vwCl (wdX q cA) D [(cA, .int)] (ZX tq) [.ref (q 2), .ref (q 16), .int a2, .int a3] μ ru := by
  refine k_entv (cc := prog_3_method_11_code) 5 (by decide) rfl (Nat.le_of_ble_eq_true rfl) ?_
  intro p e s m below meth c A ls X hI hl
  have hl : lv_has ls 5 [(0, .ref (q 2)), (1, .ref (q 16)), (2, .int a2), (3, .int a3)] := hl
  obtain ⟨hx, hb, hml, hown, hts, hK, hZ, hA, hr, hlocks⟩ := id X
  unfold fn_Elements_push_r2_r16 at hf
  refine lv_iload_n hx hb d_Elements_push_0 rfl (lv_at hl 2 rfl) ?_
  refine lv_if_lt (tgt := 36) hx hb d_Elements_push_1 (by decide) (fun hc => ?_) (fun hc => ?_)
  · have hf := sd_t hf hc
    exact k_retv X hI hf d_Elements_push_36
  · have hf := sd_f hf hc
    refine lv_iload_n hx hb d_Elements_push_4 rfl (lv_at hl 3 rfl) ?_
    refine lv_if_lt (tgt := 36) hx hb d_Elements_push_5 (by decide) (fun hc => ?_) (fun hc => ?_)
    · have hf := sd_t hf hc
      exact k_retv X hI hf d_Elements_push_36
    · have hf := sd_f hf hc
      refine lv_iload_n hx hb d_Elements_push_8 rfl (lv_at hl 3 rfl) ?_
      refine lv_bipush (v := 120) hx hb d_Elements_push_9 (by decide) ?_
      refine lv_icmp_gt (tgt := 36) hx hb d_Elements_push_11 (by decide) (fun hc => ?_) (fun hc => ?_)
      · have hf := sd_t hf hc
        exact k_retv X hI hf d_Elements_push_36
      · have hf := sd_f hf hc
        refine lv_iload_n hx hb d_Elements_push_14 rfl (lv_at hl 3 rfl) ?_
        refine lv_aload_n hx hb d_Elements_push_15 rfl (lv_at hl 1 rfl) ?_
        refine va_alen (v := 20) hx hb hK hI.1 16 0 rfl rfl (show Int32.ofNat 20 = 20 by decide) d_Elements_push_16 ?_
        refine lv_iload_n hx hb d_Elements_push_17 rfl (lv_at hl 2 rfl) ?_
        refine lv_isub hx hb d_Elements_push_18 ?_
        refine lv_icmp_gt (tgt := 36) hx hb d_Elements_push_19 (by decide) (fun hc => ?_) (fun hc => ?_)
        · have hf := sd_t hf hc
          exact k_retv X hI hf d_Elements_push_36
        · have hf := sd_f hf hc
          refine lv_aload_n hx hb d_Elements_push_22 rfl (lv_at hl 0 rfl) ?_
          refine va_get (D := D) (ci := 1) (v := .int (μ.1 2 4)) (C := "ScriptDesk$Elements") (T := T_Elements) (N := 5) hx hb hts iw_Elements hown hK hI.1 2 rfl rfl 4 (by decide) (hts _ tw_33) (fun _ h9 => h9) rfl d_Elements_push_23 ?_
          refine lv_aload_n hx hb d_Elements_push_26 rfl (lv_at hl 0 rfl) ?_
          refine va_get (D := D) (ci := 1) (v := .int (μ.1 2 3)) (C := "ScriptDesk$Elements") (T := T_Elements) (N := 5) hx hb hts iw_Elements hown hK hI.1 2 rfl rfl 3 (by decide) (hts _ tw_32) (fun _ h9 => h9) rfl d_Elements_push_27 ?_
          refine lv_iadd hx hb d_Elements_push_30 ?_
          refine lv_bipush (v := 64) hx hb d_Elements_push_31 (by decide) ?_
          refine lv_icmp_lt (tgt := 37) hx hb d_Elements_push_33 (by decide) (fun hc => ?_) (fun hc => ?_)
          · have hf := sd_t hf hc
            refine lv_aload_n hx hb d_Elements_push_37 rfl (lv_at hl 0 rfl) ?_
            refine va_get (D := D) (ci := 1) (v := .ref (q 5)) (C := "ScriptDesk$Elements") (T := T_Elements) (N := 5) hx hb hts iw_Elements hown hK hI.1 2 rfl rfl 2 (by decide) (hts _ tw_31) (fun _ h9 => h9) rfl d_Elements_push_38 ?_
            refine lv_aload_n hx hb d_Elements_push_41 rfl (lv_at hl 0 rfl) ?_
            refine va_get (D := D) (ci := 1) (v := .int (μ.1 2 4)) (C := "ScriptDesk$Elements") (T := T_Elements) (N := 5) hx hb hts iw_Elements hown hK hI.1 2 rfl rfl 4 (by decide) (hts _ tw_33) (fun _ h9 => h9) rfl d_Elements_push_42 ?_
            obtain ⟨hg, hf⟩ := sd_gd_e hf
            refine k_iald hx hb hK hI 5 0 rfl rfl hg d_Elements_push_45 ?_
            refine k_li hf (fun x1 hf => ?_)
            refine lv_istore (lv' := [(4, .int x1), (0, .ref (q 2)), (1, .ref (q 16)), (2, .int a2), (3, .int a3)]) hx hb d_Elements_push_46 hl (by decide) rfl (fun ls hl => ?_)
            refine lv_aload_n hx hb d_Elements_push_48 rfl (lv_at hl 2 rfl) ?_
            refine lv_iload_n hx hb d_Elements_push_49 rfl (lv_at hl 3 rfl) ?_
            refine lv_aload_n hx hb d_Elements_push_50 rfl (lv_at hl 1 rfl) ?_
            refine va_get (D := D) (ci := 1) (v := .ref (q 3)) (C := "ScriptDesk$Elements") (T := T_Elements) (N := 5) hx hb hts iw_Elements hown hK hI.1 2 rfl rfl 0 (by decide) (hts _ tw_29) (fun _ h9 => h9) rfl d_Elements_push_51 ?_
            refine lv_iload hx hb d_Elements_push_54 (lv_at hl 0 rfl) ?_
            refine lv_bipush (v := 120) hx hb d_Elements_push_56 (by decide) ?_
            refine lv_imul hx hb d_Elements_push_58 ?_
            refine lv_iload_n hx hb d_Elements_push_59 rfl (lv_at hl 4 rfl) ?_
            obtain ⟨hg, hf⟩ := sd_gd_e hf
            refine k_copy (μ' := sd_mrow μ 3 (va_cpy (μ.1 16) (μ.1 3) (Int32.toNatClampNeg a2) (Int32.toNatClampNeg (x1 * (120 : Int32))) (Int32.toNatClampNeg a3))) hx hb (hml.trans hl.1.symm) hown (hts _ tw_203) (hts _ tw_205) (hts _ tw_204) (hts _ tw_10) hK hI 16 3 0 0 rfl rfl rfl rfl rfl hg (Nat.le_of_ble_eq_true rfl) (Nat.le_of_ble_eq_true rfl) d_Elements_push_60 (fun H locs hI => ?_)
            obtain ⟨m2, hI, hf⟩ := k_lm hf hI
            refine lv_aload_n hx hb d_Elements_push_63 rfl (lv_at hl 1 rfl) ?_
            refine va_get (D := D) (ci := 1) (v := .ref (q 4)) (C := "ScriptDesk$Elements") (T := T_Elements) (N := 5) hx hb hts iw_Elements hown hK hI.1 2 rfl rfl 1 (by decide) (hts _ tw_30) (fun _ h9 => h9) rfl d_Elements_push_64 ?_
            refine lv_iload hx hb d_Elements_push_67 (lv_at hl 0 rfl) ?_
            refine lv_iload_n hx hb d_Elements_push_69 rfl (lv_at hl 4 rfl) ?_
            obtain ⟨hg, hf⟩ := sd_gd_e hf
            refine k_iast (μ' := sd_st m2 4 (Int32.toNatClampNeg x1) a3) hx hb hK hI 4 0 rfl rfl rfl hg d_Elements_push_70 (fun H locs hI => ?_)
            obtain ⟨m3, hI, hf⟩ := k_lm hf hI
            refine lv_aload_n hx hb d_Elements_push_71 rfl (lv_at hl 1 rfl) ?_
            refine lv_dup hx hb d_Elements_push_72 rfl ?_
            refine va_get (D := D) (ci := 1) (v := .int (m3.1 2 4)) (C := "ScriptDesk$Elements") (T := T_Elements) (N := 5) hx hb hts iw_Elements hown hK hI.1 2 rfl rfl 4 (by decide) (hts _ tw_33) (fun _ h9 => h9) rfl d_Elements_push_73 ?_
            refine lv_iconst (v := 1) hx hb d_Elements_push_76 (by decide) ?_
            refine lv_iadd hx hb d_Elements_push_77 ?_
            refine k_put (ci := 1) (v := .int ((m3.1 2 4) + (1 : Int32))) (ty := .int) (C := "ScriptDesk$Elements") (T := T_Elements) (N := 5) (μ' := sd_st m3 2 4 ((m3.1 2 4) + (1 : Int32))) hx hb hts iw_Elements t_Elements t_Elements_ok n_Elements hown hK hI 2 rfl rfl 4 (by decide) (hts _ tw_33) (fun _ h9 => h9) rfl (by decide +kernel) rfl rfl (Nat.le_of_ble_eq_true rfl) rfl d_Elements_push_78 (fun H locs hI => ?_)
            obtain ⟨m4, hI, hf⟩ := k_lm hf hI
            exact k_retv X hI hf d_Elements_push_81
          · have hf := sd_f hf hc
            exact k_retv X hI hf d_Elements_push_36
set_option maxHeartbeats 4000000 in
set_option maxRecDepth 100000 in
theorem lp_BlockDigest_replaceTop_r14_r2_L31 (l : Launch) {p : Program} {e : Env} {s : State} {m : MethodId} {args : Array Value} {below : List Frame} {meth : Method} {c : Code} {A : Nat → Prop} {D : va_G} {q tq : Nat → Nat} {cA : ClassId} {ru : sd_Me} (X : sd_Cx p s m args meth c prog_2_method_4_code "ScriptDesk$BlockDigest" sx_tbl 5 none vwCl D [(cA, .int)] (ZX tq) A) {k53 : sd_Me → Option (sd_Me)} (hk53 : ∀ (μ : sd_Me) (H : Heap) (locs : List Loc) (ls : Array Slot), sd_CI vwCl (wdX q cA) D A s H locs μ → lv_has ls 5 [(0, .ref (q 14)), (1, .ref (q 2))] → k53 μ = some ru → W p l e ({ frames := 3, cells := 0, slots := 0, locals := 70 }) s m args below meth c H locs 0 0 (sd_QV below vwCl (wdX q cA) D [(cA, .int)] A args s ru) (F0 m 53 ls [])) :
    ∀ (n : Nat) (v3 : Int32) (v4 : Int32) (μ : sd_Me) (H : Heap) (locs : List Loc) (ls : Array Slot), sd_CI vwCl (wdX q cA) D A s H locs μ → lv_has ls 5 [(0, .ref (q 14)), (1, .ref (q 2)), (3, .int v3), (4, .int v4)] → fn_BlockDigest_replaceTop_r14_r2_L31 k53 n v3 v4 μ = some ru → W p l e ({ frames := 3, cells := 0, slots := 0, locals := 70 }) s m args below meth c H locs 0 0 (sd_QV below vwCl (wdX q cA) D [(cA, .int)] A args s ru) (F0 m 31 ls []) := by
  obtain ⟨hx, hb, hml, hown, hts, hK, hZ, hA, hr, hlocks⟩ := id X
  intro n
  induction n with
  | zero =>
    intro v3 v4 μ H locs ls hI hl hf
    cases hf
  | succ n ih =>
    intro v3 v4 μ H locs ls hI hl hf
    rw [fn_BlockDigest_replaceTop_r14_r2_L31] at hf
    refine lv_iload hx hb d_BlockDigest_replaceTop_31 (lv_at hl 3 rfl) ?_
    refine lv_iload_n hx hb d_BlockDigest_replaceTop_33 rfl (lv_at hl 2 rfl) ?_
    refine lv_icmp_ge (tgt := 53) hx hb d_BlockDigest_replaceTop_34 (by decide) (fun hc => ?_) (fun hc => ?_)
    · have hf := sd_t hf hc
      exact hk53  μ _ _ _ hI (lv_sub hl [0, 1] rfl) hf
    · have hf := sd_f hf hc
      refine lv_aload_n hx hb d_BlockDigest_replaceTop_37 rfl (lv_at hl 0 rfl) ?_
      refine lv_iload hx hb d_BlockDigest_replaceTop_38 (lv_at hl 3 rfl) ?_
      obtain ⟨m6, hq, hf⟩ := sd_bv_e hf
      refine k_callUv (As := [.int v4]) (rest := []) (C := "ScriptDesk$Ripemd160") (ci := 6) ZX_ok X hI (mt_BlockDigest_readBlock_r14 l hq) (va_cwU 1 hts (gd_U tw_411 tw_800 sp_3 tw_413 tw_6 tw_414) rfl rfl rfl rfl (by decide +kernel) ⟨Nat.le_of_ble_eq_true rfl, Nat.le_of_ble_eq_true rfl⟩) 14 rfl rfl rfl hl.1 rfl (Nat.le_of_ble_eq_true rfl) d_BlockDigest_replaceTop_40 ⟨Nat.zero_le _, Nat.zero_le _⟩ (fun H locs hI => ?_)
      refine lv_aload_n hx hb d_BlockDigest_replaceTop_43 rfl (lv_at hl 0 rfl) ?_
      obtain ⟨m7, hq, hf⟩ := sd_bv_e hf
      refine k_callUv (As := []) (rest := []) (C := "ScriptDesk$Ripemd160") (ci := 6) ZX_ok X hI (mt_Ripemd160_mix_r14 l hq) (va_cwA 0 hts (gd_U tw_415 tw_417 tw_418 tw_419 tw_8 tw_420) rfl rfl rfl (hZX_D1 hZ) (by decide +kernel) ⟨Nat.le_of_ble_eq_true rfl, Nat.le_of_ble_eq_true rfl⟩) 14 rfl rfl rfl hl.1 rfl (Nat.le_of_ble_eq_true rfl) d_BlockDigest_replaceTop_44 ⟨Nat.zero_le _, Nat.zero_le _⟩ (fun H locs hI => ?_)
      refine lv_iinc (v := (v4 + (64 : Int32))) (lv' := [(4, .int (v4 + (64 : Int32))), (0, .ref (q 14)), (1, .ref (q 2)), (3, .int v3)]) hx hb d_BlockDigest_replaceTop_47 hl (k := 3) rfl rfl (by decide) rfl (fun ls hl => ?_)
      refine lv_goto (tgt := 31) hx hb d_BlockDigest_replaceTop_50 (by decide) ?_
      exact ih (v3) ((v4 + (64 : Int32))) m7 _ _ _ hI (lv_sub hl [1, 2, 3, 0] rfl) hf
set_option maxHeartbeats 4000000 in
set_option maxRecDepth 100000 in
theorem lp_BlockDigest_replaceTop_r14_r2_L56 (l : Launch) {p : Program} {e : Env} {s : State} {m : MethodId} {args : Array Value} {below : List Frame} {meth : Method} {c : Code} {A : Nat → Prop} {D : va_G} {q tq : Nat → Nat} {cA : ClassId} {ru : sd_Me} (X : sd_Cx p s m args meth c prog_2_method_4_code "ScriptDesk$BlockDigest" sx_tbl 5 none vwCl D [(cA, .int)] (ZX tq) A) {k91 : sd_Me → Option (sd_Me)} (hk91 : ∀ (μ : sd_Me) (H : Heap) (locs : List Loc) (ls : Array Slot), sd_CI vwCl (wdX q cA) D A s H locs μ → lv_has ls 5 [(0, .ref (q 14)), (1, .ref (q 2))] → k91 μ = some ru → W p l e ({ frames := 3, cells := 0, slots := 0, locals := 70 }) s m args below meth c H locs 0 0 (sd_QV below vwCl (wdX q cA) D [(cA, .int)] A args s ru) (F0 m 91 ls [])) :
    ∀ (n : Nat) (v4 : Int32) (μ : sd_Me) (H : Heap) (locs : List Loc) (ls : Array Slot), sd_CI vwCl (wdX q cA) D A s H locs μ → lv_has ls 5 [(0, .ref (q 14)), (1, .ref (q 2)), (4, .int v4)] → fn_BlockDigest_replaceTop_r14_r2_L56 k91 n v4 μ = some ru → W p l e ({ frames := 3, cells := 0, slots := 0, locals := 70 }) s m args below meth c H locs 0 0 (sd_QV below vwCl (wdX q cA) D [(cA, .int)] A args s ru) (F0 m 56 ls []) := by
  obtain ⟨hx, hb, hml, hown, hts, hK, hZ, hA, hr, hlocks⟩ := id X
  intro n
  induction n with
  | zero =>
    intro v4 μ H locs ls hI hl hf
    cases hf
  | succ n ih =>
    intro v4 μ H locs ls hI hl hf
    rw [fn_BlockDigest_replaceTop_r14_r2_L56] at hf
    refine lv_iload hx hb d_BlockDigest_replaceTop_56 (lv_at hl 2 rfl) ?_
    refine lv_aload_n hx hb d_BlockDigest_replaceTop_58 rfl (lv_at hl 0 rfl) ?_
    refine va_get (D := D) (ci := 6) (v := .ref (q 18)) (C := "ScriptDesk$Ripemd160") (T := T_Ripemd160) (N := 7) hx hb hts iw_Ripemd160 hown hK hI.1 14 rfl rfl 4 (by decide) (hts _ tw_105) (fun _ h9 => h9) rfl d_BlockDigest_replaceTop_59 ?_
    refine va_alen (v := 5) hx hb hK hI.1 18 0 rfl rfl (show Int32.ofNat 5 = 5 by decide) d_BlockDigest_replaceTop_62 ?_
    refine lv_icmp_ge (tgt := 91) hx hb d_BlockDigest_replaceTop_63 (by decide) (fun hc => ?_) (fun hc => ?_)
    · have hf := sd_t hf hc
      exact hk91  μ _ _ _ hI (lv_sub hl [0, 1] rfl) hf
    · have hf := sd_f hf hc
      refine lv_aload_n hx hb d_BlockDigest_replaceTop_66 rfl (lv_at hl 0 rfl) ?_
      refine lv_aload_n hx hb d_BlockDigest_replaceTop_67 rfl (lv_at hl 0 rfl) ?_
      refine va_get (D := D) (ci := 6) (v := .ref (q 18)) (C := "ScriptDesk$Ripemd160") (T := T_Ripemd160) (N := 7) hx hb hts iw_Ripemd160 hown hK hI.1 14 rfl rfl 4 (by decide) (hts _ tw_105) (fun _ h9 => h9) rfl d_BlockDigest_replaceTop_68 ?_
      refine lv_iload hx hb d_BlockDigest_replaceTop_71 (lv_at hl 2 rfl) ?_
      obtain ⟨hg, hf⟩ := sd_gd_e hf
      refine k_iald hx hb hK hI 18 0 rfl rfl hg d_BlockDigest_replaceTop_73 ?_
      refine lv_aload_n hx hb d_BlockDigest_replaceTop_74 rfl (lv_at hl 0 rfl) ?_
      refine va_get (D := D) (ci := 6) (v := .ref (q 16)) (C := "ScriptDesk$Ripemd160") (T := T_Ripemd160) (N := 7) hx hb hts iw_Ripemd160 hown hK hI.1 14 rfl rfl 1 (by decide) (hts _ tw_98) (fun _ h9 => h9) rfl d_BlockDigest_replaceTop_75 ?_
      refine lv_iconst (v := 4) hx hb d_BlockDigest_replaceTop_78 (by decide) ?_
      refine lv_iload hx hb d_BlockDigest_replaceTop_79 (lv_at hl 2 rfl) ?_
      refine lv_imul hx hb d_BlockDigest_replaceTop_81 ?_
      obtain ⟨m9, hq, hf⟩ := sd_bv_e hf
      refine k_callUv (As := [.int (μ.1 18 (Int32.toNatClampNeg v4)), .ref (q 16), .int ((4 : Int32) * v4)]) (rest := []) (C := "ScriptDesk$Ripemd160") (ci := 6) ZX_ok X hI (mt_BlockDigest_write_r14_r16 l hq) (va_cwU 3 hts (gd_U tw_388 tw_798 sp_1 tw_390 tw_6 tw_391) rfl rfl rfl rfl (by decide +kernel) ⟨Nat.le_of_ble_eq_true rfl, Nat.le_of_ble_eq_true rfl⟩) 14 rfl rfl rfl hl.1 rfl (Nat.le_of_ble_eq_true rfl) d_BlockDigest_replaceTop_82 ⟨Nat.zero_le _, Nat.zero_le _⟩ (fun H locs hI => ?_)
      refine lv_iinc (v := (v4 + (1 : Int32))) (lv' := [(4, .int (v4 + (1 : Int32))), (0, .ref (q 14)), (1, .ref (q 2))]) hx hb d_BlockDigest_replaceTop_85 hl (k := 2) rfl rfl (by decide) rfl (fun ls hl => ?_)
      refine lv_goto (tgt := 56) hx hb d_BlockDigest_replaceTop_88 (by decide) ?_
      exact ih ((v4 + (1 : Int32))) m9 _ _ _ hI (lv_sub hl [1, 2, 0] rfl) hf
set_option maxHeartbeats 4000000 in
set_option maxRecDepth 100000 in
theorem mt_BlockDigest_replaceTop_r14_r2 (l : Launch) {D : va_G} {q tq : Nat → Nat} {cA : ClassId} {μ : sd_Me} {ru : sd_Me} (hf : fn_BlockDigest_replaceTop_r14_r2 μ = some ru) : sd_CTv l y_BlockDigest_replaceTop w_BlockDigest_replaceTop ({ frames := 3, cells := 0, slots := 0, locals := 70 }) vwCl (wdX q cA) D [(cA, .int)] (ZX tq) [.ref (q 14), .ref (q 2)] μ ru := by
  refine k_entv (cc := prog_2_method_4_code) 5 (by decide) rfl (Nat.le_of_ble_eq_true rfl) ?_
  intro p e s m below meth c A ls X hI hl
  have hl : lv_has ls 5 [(0, .ref (q 14)), (1, .ref (q 2))] := hl
  obtain ⟨hx, hb, hml, hown, hts, hK, hZ, hA, hr, hlocks⟩ := id X
  unfold fn_BlockDigest_replaceTop_r14_r2 at hf
  refine lv_aload_n hx hb d_BlockDigest_replaceTop_0 rfl (lv_at hl 1 rfl) ?_
  refine lv_iconst (v := 0) hx hb d_BlockDigest_replaceTop_1 (by decide) ?_
  obtain ⟨x2, m1, hq, hf⟩ := sd_bi_e hf
  refine k_callV (As := [.int (0 : Int32)]) (rest := []) (C := "ScriptDesk$Elements") (ci := 1) ZX_ok X hI (mt_Elements_lengthAt_r2 l hq) (cwV 1 hts (gd_V tw_379 tw_227 tw_228 tw_2 tw_229) rfl rfl rfl (by decide +kernel) ⟨Nat.le_of_ble_eq_true rfl, Nat.le_of_ble_eq_true rfl⟩) 2 rfl rfl rfl hl.1 rfl (Nat.le_of_ble_eq_true rfl) d_BlockDigest_replaceTop_2 ⟨Nat.zero_le _, Nat.zero_le _⟩ (fun H locs hn_x2 hI => ?_)
  refine lv_istore_n (lv' := [(2, .int x2), (0, .ref (q 14)), (1, .ref (q 2))]) hx hb d_BlockDigest_replaceTop_5 rfl hl (by decide) rfl (fun ls hl => ?_)
  refine lv_iload_n hx hb d_BlockDigest_replaceTop_6 rfl (lv_at hl 0 rfl) ?_
  refine lv_if_lt (tgt := 16) hx hb d_BlockDigest_replaceTop_7 (by decide) (fun hc => ?_) (fun hc => ?_)
  · have hf := sd_t hf hc
    exact k_retv X hI hf d_BlockDigest_replaceTop_16
  · have hf := sd_f hf hc
    refine lv_iload_n hx hb d_BlockDigest_replaceTop_10 rfl (lv_at hl 0 rfl) ?_
    refine lv_bipush (v := 120) hx hb d_BlockDigest_replaceTop_11 (by decide) ?_
    refine lv_icmp_le (tgt := 17) hx hb d_BlockDigest_replaceTop_13 (by decide) (fun hc => ?_) (fun hc => ?_)
    · have hf := sd_t hf hc
      refine lv_aload_n hx hb d_BlockDigest_replaceTop_17 rfl (lv_at hl 1 rfl) ?_
      refine lv_aload_n hx hb d_BlockDigest_replaceTop_18 rfl (lv_at hl 2 rfl) ?_
      refine lv_iload_n hx hb d_BlockDigest_replaceTop_19 rfl (lv_at hl 0 rfl) ?_
      obtain ⟨x4, m3, hq, hf⟩ := sd_bi_e hf
      refine k_callU (As := [.ref (q 2), .int x2]) (rest := []) (C := "ScriptDesk$Ripemd160") (ci := 6) ZX_ok X hI (mt_BlockDigest_pad_r14_r2 l hq) (va_cwU 2 hts (gd_U tw_380 tw_797 sp_2 tw_382 tw_6 tw_383) rfl rfl rfl rfl (by decide +kernel) ⟨Nat.le_of_ble_eq_true rfl, Nat.le_of_ble_eq_true rfl⟩) 14 rfl rfl rfl hl.1 rfl (Nat.le_of_ble_eq_true rfl) d_BlockDigest_replaceTop_20 ⟨Nat.zero_le _, Nat.zero_le _⟩ (fun H locs hn_x4 hI => ?_)
      refine lv_istore_n (lv' := [(3, .int x4), (2, .int x2), (0, .ref (q 14)), (1, .ref (q 2))]) hx hb d_BlockDigest_replaceTop_23 rfl hl (by decide) rfl (fun ls hl => ?_)
      refine lv_aload_n hx hb d_BlockDigest_replaceTop_24 rfl (lv_at hl 2 rfl) ?_
      obtain ⟨m5, hq, hf⟩ := sd_bv_e hf
      refine k_callUv (As := []) (rest := []) (C := "ScriptDesk$Ripemd160") (ci := 6) ZX_ok X hI (mt_Ripemd160_begin_r14 l hq) (va_cwA 0 hts (gd_U tw_396 tw_398 tw_399 tw_400 tw_8 tw_401) rfl rfl rfl (hZX_D0 hZ) (by decide +kernel) ⟨Nat.le_of_ble_eq_true rfl, Nat.le_of_ble_eq_true rfl⟩) 14 rfl rfl rfl hl.1 rfl (Nat.le_of_ble_eq_true rfl) d_BlockDigest_replaceTop_25 ⟨Nat.zero_le _, Nat.zero_le _⟩ (fun H locs hI => ?_)
      refine lv_iconst (v := 0) hx hb d_BlockDigest_replaceTop_28 (by decide) ?_
      refine lv_istore (lv' := [(4, .int (0 : Int32)), (3, .int x4), (2, .int x2), (0, .ref (q 14)), (1, .ref (q 2))]) hx hb d_BlockDigest_replaceTop_29 hl (by decide) rfl (fun ls hl => ?_)
      refine lp_BlockDigest_replaceTop_r14_r2_L31 l X ?_ 10000 (x4) ((0 : Int32)) m5 _ _ _ hI (lv_sub hl [3, 4, 1, 0] rfl) hf
      · intro m8 H locs ls hI hl hf
        refine lv_iconst (v := 0) hx hb d_BlockDigest_replaceTop_53 (by decide) ?_
        refine lv_istore (lv' := [(4, .int (0 : Int32)), (0, .ref (q 14)), (1, .ref (q 2))]) hx hb d_BlockDigest_replaceTop_54 hl (by decide) rfl (fun ls hl => ?_)
        refine lp_BlockDigest_replaceTop_r14_r2_L56 l X ?_ 10000 ((0 : Int32)) m8 _ _ _ hI (lv_sub hl [1, 2, 0] rfl) hf
        · intro m10 H locs ls hI hl hf
          refine lv_aload_n hx hb d_BlockDigest_replaceTop_91 rfl (lv_at hl 1 rfl) ?_
          refine lv_iconst (v := 1) hx hb d_BlockDigest_replaceTop_92 (by decide) ?_
          obtain ⟨m11, hq, hf⟩ := sd_bv_e hf
          refine k_callVv (As := [.int (1 : Int32)]) (rest := []) (C := "ScriptDesk$Elements") (ci := 1) ZX_ok X hI (mt_Elements_drop_r2 l hq) (cwV 1 hts (gd_V tw_454 tw_235 tw_236 tw_2 tw_237) rfl rfl rfl (by decide +kernel) ⟨Nat.le_of_ble_eq_true rfl, Nat.le_of_ble_eq_true rfl⟩) 2 rfl rfl rfl hl.1 rfl (Nat.le_of_ble_eq_true rfl) d_BlockDigest_replaceTop_93 ⟨Nat.zero_le _, Nat.zero_le _⟩ (fun H locs hI => ?_)
          refine lv_aload_n hx hb d_BlockDigest_replaceTop_96 rfl (lv_at hl 1 rfl) ?_
          refine lv_aload_n hx hb d_BlockDigest_replaceTop_97 rfl (lv_at hl 0 rfl) ?_
          refine va_get (D := D) (ci := 6) (v := .ref (q 16)) (C := "ScriptDesk$Ripemd160") (T := T_Ripemd160) (N := 7) hx hb hts iw_Ripemd160 hown hK hI.1 14 rfl rfl 1 (by decide) (hts _ tw_98) (fun _ h9 => h9) rfl d_BlockDigest_replaceTop_98 ?_
          refine lv_iconst (v := 0) hx hb d_BlockDigest_replaceTop_101 (by decide) ?_
          refine lv_aload_n hx hb d_BlockDigest_replaceTop_102 rfl (lv_at hl 0 rfl) ?_
          refine va_get (D := D) (ci := 6) (v := .ref (q 16)) (C := "ScriptDesk$Ripemd160") (T := T_Ripemd160) (N := 7) hx hb hts iw_Ripemd160 hown hK hI.1 14 rfl rfl 1 (by decide) (hts _ tw_98) (fun _ h9 => h9) rfl d_BlockDigest_replaceTop_103 ?_
          refine va_alen (v := 20) hx hb hK hI.1 16 0 rfl rfl (show Int32.ofNat 20 = 20 by decide) d_BlockDigest_replaceTop_106 ?_
          obtain ⟨m12, hq, hf⟩ := sd_bv_e hf
          refine k_callVv (As := [.ref (q 16), .int (0 : Int32), .int (20 : Int32)]) (rest := []) (C := "ScriptDesk$Elements") (ci := 1) ZX_ok X hI (mt_Elements_push_r2_r16 l hq) (cwV 3 hts (gd_V tw_455 tw_200 tw_201 tw_2 tw_202) rfl rfl rfl (by decide +kernel) ⟨Nat.le_of_ble_eq_true rfl, Nat.le_of_ble_eq_true rfl⟩) 2 rfl rfl rfl hl.1 rfl (Nat.le_of_ble_eq_true rfl) d_BlockDigest_replaceTop_107 ⟨Nat.zero_le _, Nat.zero_le _⟩ (fun H locs hI => ?_)
          exact k_retv X hI hf d_BlockDigest_replaceTop_110
    · have hf := sd_f hf hc
      exact k_retv X hI hf d_BlockDigest_replaceTop_16
set_option maxHeartbeats 4000000 in
set_option maxRecDepth 100000 in
theorem lp_Arrays_fill_r10_L5 (l : Launch) {p : Program} {e : Env} {s : State} {m : MethodId} {args : Array Value} {below : List Frame} {meth : Method} {c : Code} {A : Nat → Prop} {D : va_G} {q tq : Nat → Nat} {cA : ClassId} {ru : sd_Me} (X : sd_Cx p s m args meth c prog_15_method_103_code "java/util/Arrays" sx_tbl 4 none vwCl D [(cA, .int)] (ZX tq) A) {k20 : sd_Me → Option (sd_Me)} (hk20 : ∀ (μ : sd_Me) (H : Heap) (locs : List Loc) (ls : Array Slot), sd_CI vwCl (wdX q cA) D A s H locs μ → lv_has ls 4 [] → k20 μ = some ru → W p l e ({ frames := 0, cells := 0, slots := 0, locals := 0 }) s m args below meth c H locs 0 0 (sd_QV below vwCl (wdX q cA) D [(cA, .int)] A args s ru) (F0 m 20 ls [])) :
    ∀ (n : Nat) (v1 : Int32) (v2 : Int32) (v3 : Int32) (μ : sd_Me) (H : Heap) (locs : List Loc) (ls : Array Slot), sd_CI vwCl (wdX q cA) D A s H locs μ → lv_has ls 4 [(0, .ref (q 10)), (1, .int v1), (2, .int v2), (3, .int v3)] → fn_Arrays_fill_r10_L5 k20 n v1 v2 v3 μ = some ru → W p l e ({ frames := 0, cells := 0, slots := 0, locals := 0 }) s m args below meth c H locs 0 0 (sd_QV below vwCl (wdX q cA) D [(cA, .int)] A args s ru) (F0 m 5 ls []) := by
  obtain ⟨hx, hb, hml, hown, hts, hK, hZ, hA, hr, hlocks⟩ := id X
  intro n
  induction n with
  | zero =>
    intro v1 v2 v3 μ H locs ls hI hl hf
    cases hf
  | succ n ih =>
    intro v1 v2 v3 μ H locs ls hI hl hf
    rw [fn_Arrays_fill_r10_L5] at hf
    refine lv_iload_n hx hb d_Arrays_fill_5 rfl (lv_at hl 2 rfl) ?_
    refine lv_iload_n hx hb d_Arrays_fill_6 rfl (lv_at hl 3 rfl) ?_
    refine lv_icmp_ge (tgt := 20) hx hb d_Arrays_fill_7 (by decide) (fun hc => ?_) (fun hc => ?_)
    · have hf := sd_t hf hc
      exact hk20  μ _ _ _ hI (lv_sub hl [] rfl) hf
    · have hf := sd_f hf hc
      refine lv_aload_n hx hb d_Arrays_fill_10 rfl (lv_at hl 0 rfl) ?_
      refine lv_iload_n hx hb d_Arrays_fill_11 rfl (lv_at hl 2 rfl) ?_
      refine lv_iload_n hx hb d_Arrays_fill_12 rfl (lv_at hl 1 rfl) ?_
      obtain ⟨hg, hf⟩ := sd_gd_e hf
      refine k_iast (μ' := sd_st μ 10 (Int32.toNatClampNeg v2) v1) hx hb hK hI 10 0 rfl rfl rfl hg d_Arrays_fill_13 (fun H locs hI => ?_)
      obtain ⟨m1, hI, hf⟩ := k_lm hf hI
      refine lv_iinc (v := (v2 + (1 : Int32))) (lv' := [(2, .int (v2 + (1 : Int32))), (0, .ref (q 10)), (1, .int v1), (3, .int v3)]) hx hb d_Arrays_fill_14 hl (k := 2) rfl rfl (by decide) rfl (fun ls hl => ?_)
      refine lv_goto (tgt := 5) hx hb d_Arrays_fill_17 (by decide) ?_
      exact ih (v1) ((v2 + (1 : Int32))) (v3) m1 _ _ _ hI (lv_sub hl [1, 2, 0, 3] rfl) hf
set_option maxHeartbeats 4000000 in
set_option maxRecDepth 100000 in
theorem mt_Arrays_fill_r10 (l : Launch) {D : va_G} {q tq : Nat → Nat} {cA : ClassId} {a1 : Int32} {μ : sd_Me} {ru : sd_Me} (hf : fn_Arrays_fill_r10 a1 μ = some ru) : sd_CTv l y_Arrays_fill w_Arrays_fill ({ frames := 0, cells := 0, slots := 0, locals := 0 }) vwCl (wdX q cA) D [(cA, .int)] (ZX tq) [.ref (q 10), .int a1] μ ru := by
  refine k_entv (cc := prog_15_method_103_code) 4 (by decide) rfl (Nat.le_of_ble_eq_true rfl) ?_
  intro p e s m below meth c A ls X hI hl
  have hl : lv_has ls 4 [(0, .ref (q 10)), (1, .int a1)] := hl
  obtain ⟨hx, hb, hml, hown, hts, hK, hZ, hA, hr, hlocks⟩ := id X
  unfold fn_Arrays_fill_r10 at hf
  refine lv_iconst (v := 0) hx hb d_Arrays_fill_0 (by decide) ?_
  refine lv_istore_n (lv' := [(2, .int (0 : Int32)), (0, .ref (q 10)), (1, .int a1)]) hx hb d_Arrays_fill_1 rfl hl (by decide) rfl (fun ls hl => ?_)
  refine lv_aload_n hx hb d_Arrays_fill_2 rfl (lv_at hl 1 rfl) ?_
  refine va_alen (v := 192) hx hb hK hI.1 10 0 rfl rfl (show Int32.ofNat 192 = 192 by decide) d_Arrays_fill_3 ?_
  refine lv_istore_n (lv' := [(3, .int (192 : Int32)), (2, .int (0 : Int32)), (0, .ref (q 10)), (1, .int a1)]) hx hb d_Arrays_fill_4 rfl hl (by decide) rfl (fun ls hl => ?_)
  refine lp_Arrays_fill_r10_L5 l X ?_ 10000 (a1) ((0 : Int32)) ((192 : Int32)) μ _ _ _ hI (lv_sub hl [2, 3, 1, 0] rfl) hf
  · intro m2 H locs ls hI hl hf
    exact k_retv X hI hf d_Arrays_fill_20
set_option maxHeartbeats 4000000 in
set_option maxRecDepth 100000 in
theorem mt_BlockDigest_shiftOf_r9 (l : Launch) {D : va_G} {q tq : Nat → Nat} {cA : ClassId} {a1 : Int32} {μ : sd_Me} {ru : Int32 × sd_Me} (hf : fn_BlockDigest_shiftOf_r9 a1 μ = some ru) : sd_CTi l y_BlockDigest_shiftOf w_BlockDigest_shiftOf ({ frames := 0, cells := 0, slots := 0, locals := 0 }) vwCl (wdX q cA) D [(cA, .int)] (ZX tq) .int [.ref (q 9), .int a1] μ ru := by
  refine k_enti (cc := prog_2_method_8_code) 2 (by decide) rfl (Nat.le_of_ble_eq_true rfl) ?_
  intro p e s m below meth c A ls X hI hl
  have hl : lv_has ls 2 [(0, .ref (q 9)), (1, .int a1)] := hl
  obtain ⟨hx, hb, hml, hown, hts, hK, hZ, hA, hr, hlocks⟩ := id X
  unfold fn_BlockDigest_shiftOf_r9 at hf
  refine lv_aload_n hx hb d_BlockDigest_shiftOf_0 rfl (lv_at hl 0 rfl) ?_
  refine va_get (D := D) (ci := 5) (v := .int (μ.1 9 2)) (C := "ScriptDesk$Sha256") (T := T_Sha256) (N := 5) hx hb hts iw_Sha256 hown hK hI.1 9 rfl rfl 2 (by decide) (hts _ tw_99) (fun _ h9 => h9) rfl d_BlockDigest_shiftOf_1 ?_
  refine lv_if_eq (tgt := 17) hx hb d_BlockDigest_shiftOf_4 (by decide) (fun hc => ?_) (fun hc => ?_)
  · have hf := sd_t hf hc
    refine lv_bipush (v := 8) hx hb d_BlockDigest_shiftOf_17 (by decide) ?_
    refine lv_iload_n hx hb d_BlockDigest_shiftOf_19 rfl (lv_at hl 1 rfl) ?_
    refine lv_imul hx hb d_BlockDigest_shiftOf_20 ?_
    exact k_reti X hI (vp_nar_int _) hf d_BlockDigest_shiftOf_21
  · have hf := sd_f hf hc
    refine lv_bipush (v := 24) hx hb d_BlockDigest_shiftOf_7 (by decide) ?_
    refine lv_bipush (v := 8) hx hb d_BlockDigest_shiftOf_9 (by decide) ?_
    refine lv_iload_n hx hb d_BlockDigest_shiftOf_11 rfl (lv_at hl 1 rfl) ?_
    refine lv_imul hx hb d_BlockDigest_shiftOf_12 ?_
    refine lv_isub hx hb d_BlockDigest_shiftOf_13 ?_
    refine lv_goto (tgt := 21) hx hb d_BlockDigest_shiftOf_14 (by decide) ?_
    exact k_reti X hI (vp_nar_int _) hf d_BlockDigest_shiftOf_21
