set_option maxHeartbeats 4000000 in
set_option maxRecDepth 100000 in
theorem lp_Signatures_allFit_r8_r2_L6 (l : Launch) {p : Program} {e : Env} {s : State} {m : MethodId} {args : Array Value} {below : List Frame} {meth : Method} {c : Code} {A : Nat → Prop} {D : va_G} {q tq : Nat → Nat} {cA : ClassId} {ru : Int32 × sd_Me} (X : sd_Cx p s m args meth c prog_9_method_6_code "ScriptDesk$Signatures" sx_tbl 6 (some .boolean) vwCl D [(cA, .int)] (ZX tq) A) {k56 : Int32 → Int32 → sd_Me → Option (Int32 × sd_Me)} (hk56 : ∀ (v3 : Int32) (v4 : Int32) (μ : sd_Me) (H : Heap) (locs : List Loc) (ls : Array Slot), sd_CI vwCl (wdX q cA) D A s H locs μ → lv_has ls 6 [(3, .int v3), (4, .int v4)] → k56 v3 v4 μ = some ru → W p l e ({ frames := 2, cells := 0, slots := 0, locals := 54 }) s m args below meth c H locs 0 0 (sd_QI below vwCl (wdX q cA) D [(cA, .int)] .boolean A args s ru) (F0 m 56 ls [])) :
    ∀ (n : Nat) (v2 : Int32) (v3 : Int32) (v4 : Int32) (v5 : Int32) (μ : sd_Me) (H : Heap) (locs : List Loc) (ls : Array Slot), sd_CI vwCl (wdX q cA) D A s H locs μ → lv_has ls 6 [(0, .ref (q 8)), (1, .ref (q 2)), (2, .int v2), (3, .int v3), (4, .int v4), (5, .int v5)] → fn_Signatures_allFit_r8_r2_L6 k56 n v2 v3 v4 v5 μ = some ru → W p l e ({ frames := 2, cells := 0, slots := 0, locals := 54 }) s m args below meth c H locs 0 0 (sd_QI below vwCl (wdX q cA) D [(cA, .int)] .boolean A args s ru) (F0 m 6 ls []) := by
  obtain ⟨hx, hb, hml, hown, hts, hK, hZ, hA, hr, hlocks⟩ := id X
  intro n
  induction n with
  | zero =>
    intro v2 v3 v4 v5 μ H locs ls hI hl hf
    cases hf
  | succ n ih =>
    intro v2 v3 v4 v5 μ H locs ls hI hl hf
    rw [fn_Signatures_allFit_r8_r2_L6] at hf
    refine lv_iload hx hb d_Signatures_allFit_6 (lv_at hl 5 rfl) ?_
    refine lv_iload_n hx hb d_Signatures_allFit_8 rfl (lv_at hl 2 rfl) ?_
    refine lv_icmp_ge (tgt := 56) hx hb d_Signatures_allFit_9 (by decide) (fun hc => ?_) (fun hc => ?_)
    · have hf := sd_t hf hc
      exact hk56 (v3) (v4) μ _ _ _ hI (lv_sub hl [3, 4] rfl) hf
    · have hf := sd_f hf hc
      refine lv_iload hx hb d_Signatures_allFit_12 (lv_at hl 4 rfl) ?_
      refine lv_iload_n hx hb d_Signatures_allFit_14 rfl (lv_at hl 3 rfl) ?_
      refine lv_icmp_ge (tgt := 56) hx hb d_Signatures_allFit_15 (by decide) (fun hc => ?_) (fun hc => ?_)
      · have hf := sd_t hf hc
        exact hk56 (v3) (v4) μ _ _ _ hI (lv_sub hl [3, 4] rfl) hf
      · have hf := sd_f hf hc
        refine lv_iload_n hx hb d_Signatures_allFit_18 rfl (lv_at hl 3 rfl) ?_
        refine lv_iload hx hb d_Signatures_allFit_19 (lv_at hl 4 rfl) ?_
        refine lv_isub hx hb d_Signatures_allFit_21 ?_
        refine lv_iload_n hx hb d_Signatures_allFit_22 rfl (lv_at hl 2 rfl) ?_
        refine lv_iload hx hb d_Signatures_allFit_23 (lv_at hl 5 rfl) ?_
        refine lv_isub hx hb d_Signatures_allFit_25 ?_
        refine lv_icmp_gt (tgt := 56) hx hb d_Signatures_allFit_26 (by decide) (fun hc => ?_) (fun hc => ?_)
        · have hf := sd_t hf hc
          exact hk56 (v3) (v4) μ _ _ _ hI (lv_sub hl [3, 4] rfl) hf
        · have hf := sd_f hf hc
          refine lv_aload_n hx hb d_Signatures_allFit_29 rfl (lv_at hl 0 rfl) ?_
          refine lv_aload_n hx hb d_Signatures_allFit_30 rfl (lv_at hl 1 rfl) ?_
          refine lv_iload_n hx hb d_Signatures_allFit_31 rfl (lv_at hl 2 rfl) ?_
          refine lv_iconst (v := 2) hx hb d_Signatures_allFit_32 (by decide) ?_
          refine lv_iadd hx hb d_Signatures_allFit_33 ?_
          refine lv_iload hx hb d_Signatures_allFit_34 (lv_at hl 4 rfl) ?_
          refine lv_iadd hx hb d_Signatures_allFit_36 ?_
          refine lv_iconst (v := 1) hx hb d_Signatures_allFit_37 (by decide) ?_
          refine lv_iload hx hb d_Signatures_allFit_38 (lv_at hl 5 rfl) ?_
          refine lv_iadd hx hb d_Signatures_allFit_40 ?_
          obtain ⟨x2, m1, hq, hf⟩ := sd_bi_e hf
          refine k_callV (As := [.ref (q 2), .int ((v2 + (2 : Int32)) + v4), .int ((1 : Int32) + v5)]) (rest := []) (C := "ScriptDesk$Signatures") (ci := 4) ZX_ok X hI (mt_Signatures_fits_r8_r2 l hq) (cwV 3 hts (gd_V tw_464 tw_466 ts_11 tw_5 tw_467) rfl rfl rfl (by decide +kernel) ⟨Nat.le_of_ble_eq_true rfl, Nat.le_of_ble_eq_true rfl⟩) 8 rfl rfl rfl hl.1 rfl (Nat.le_of_ble_eq_true rfl) d_Signatures_allFit_41 ⟨Nat.zero_le _, Nat.zero_le _⟩ (fun H locs hn_x2 hI => ?_)
          refine lv_if_eq (tgt := 50) hx hb d_Signatures_allFit_44 (by decide) (fun hc => ?_) (fun hc => ?_)
          · have hf := sd_t hf hc
            refine lv_iinc (v := (v5 + (1 : Int32))) (lv' := [(5, .int (v5 + (1 : Int32))), (0, .ref (q 8)), (1, .ref (q 2)), (2, .int v2), (3, .int v3), (4, .int v4)]) hx hb d_Signatures_allFit_50 hl (k := 5) rfl rfl (by decide) rfl (fun ls hl => ?_)
            refine lv_goto (tgt := 6) hx hb d_Signatures_allFit_53 (by decide) ?_
            exact ih (v2) (v3) (v4) ((v5 + (1 : Int32))) m1 _ _ _ hI (lv_sub hl [1, 2, 3, 4, 5, 0] rfl) hf
          · have hf := sd_f hf hc
            refine lv_iinc (v := (v4 + (1 : Int32))) (lv' := [(4, .int (v4 + (1 : Int32))), (0, .ref (q 8)), (1, .ref (q 2)), (2, .int v2), (3, .int v3), (5, .int v5)]) hx hb d_Signatures_allFit_47 hl (k := 4) rfl rfl (by decide) rfl (fun ls hl => ?_)
            refine lv_iinc (v := (v5 + (1 : Int32))) (lv' := [(5, .int (v5 + (1 : Int32))), (4, .int (v4 + (1 : Int32))), (0, .ref (q 8)), (1, .ref (q 2)), (2, .int v2), (3, .int v3)]) hx hb d_Signatures_allFit_50 hl (k := 5) rfl rfl (by decide) rfl (fun ls hl => ?_)
            refine lv_goto (tgt := 6) hx hb d_Signatures_allFit_53 (by decide) ?_
            exact ih (v2) (v3) ((v4 + (1 : Int32))) ((v5 + (1 : Int32))) m1 _ _ _ hI (lv_sub hl [2, 3, 4, 5, 1, 0] rfl) hf
set_option maxHeartbeats 4000000 in
set_option maxRecDepth 100000 in
theorem mt_Signatures_allFit_r8_r2 (l : Launch) {D : va_G} {q tq : Nat → Nat} {cA : ClassId} {a2 : Int32} {a3 : Int32} {μ : sd_Me} {ru : Int32 × sd_Me} (hf : fn_Signatures_allFit_r8_r2 a2 a3 μ = some ru) : sd_CTi l y_Signatures_allFit w_Signatures_allFit ({ frames := 2, cells := 0, slots := 0, locals := 54 }) vwCl (wdX q cA) D [(cA, .int)] (ZX tq) .boolean [.ref (q 8), .ref (q 2), .int a2, .int a3] μ ru := by
  refine k_enti (cc := prog_9_method_6_code) 6 (by decide) rfl (Nat.le_of_ble_eq_true rfl) ?_
  intro p e s m below meth c A ls X hI hl
  have hl : lv_has ls 6 [(0, .ref (q 8)), (1, .ref (q 2)), (2, .int a2), (3, .int a3)] := hl
  obtain ⟨hx, hb, hml, hown, hts, hK, hZ, hA, hr, hlocks⟩ := id X
  unfold fn_Signatures_allFit_r8_r2 at hf
  refine lv_iconst (v := 0) hx hb d_Signatures_allFit_0 (by decide) ?_
  refine lv_istore (lv' := [(4, .int (0 : Int32)), (0, .ref (q 8)), (1, .ref (q 2)), (2, .int a2), (3, .int a3)]) hx hb d_Signatures_allFit_1 hl (by decide) rfl (fun ls hl => ?_)
  refine lv_iconst (v := 0) hx hb d_Signatures_allFit_3 (by decide) ?_
  refine lv_istore (lv' := [(5, .int (0 : Int32)), (4, .int (0 : Int32)), (0, .ref (q 8)), (1, .ref (q 2)), (2, .int a2), (3, .int a3)]) hx hb d_Signatures_allFit_4 hl (by decide) rfl (fun ls hl => ?_)
  refine lp_Signatures_allFit_r8_r2_L6 l X ?_ 10000 (a2) (a3) ((0 : Int32)) ((0 : Int32)) μ _ _ _ hI (lv_sub hl [2, 3, 4, 5, 1, 0] rfl) hf
  · intro x3 x4 m5 H locs ls hI hl hf
    refine lv_iload hx hb d_Signatures_allFit_56 (lv_at hl 1 rfl) ?_
    refine lv_iload_n hx hb d_Signatures_allFit_58 rfl (lv_at hl 0 rfl) ?_
    refine lv_icmp_ne (tgt := 66) hx hb d_Signatures_allFit_59 (by decide) (fun hc => ?_) (fun hc => ?_)
    · have hf := sd_f hf hc
      refine lv_iconst (v := 0) hx hb d_Signatures_allFit_66 (by decide) ?_
      exact k_reti X hI rfl hf d_Signatures_allFit_67
    · have hf := sd_t hf hc
      refine lv_iconst (v := 1) hx hb d_Signatures_allFit_62 (by decide) ?_
      refine lv_goto (tgt := 67) hx hb d_Signatures_allFit_63 (by decide) ?_
      exact k_reti X hI rfl hf d_Signatures_allFit_67
set_option maxHeartbeats 4000000 in
set_option maxRecDepth 100000 in
theorem lp_Elements_pushNumber_r2_L48 (l : Launch) {p : Program} {e : Env} {s : State} {m : MethodId} {args : Array Value} {below : List Frame} {meth : Method} {c : Code} {A : Nat → Prop} {D : va_G} {q tq : Nat → Nat} {cA : ClassId} {ru : sd_Me} (X : sd_Cx p s m args meth c prog_3_method_14_code "ScriptDesk$Elements" sx_tbl 8 none vwCl D [(cA, .int)] (ZX tq) A) {k92 : Int64 → Int32 → Int32 → Int32 → sd_Me → Option (sd_Me)} (hk92 : ∀ (v1 : Int64) (v3 : Int32) (v4 : Int32) (v7 : Int32) (μ : sd_Me) (H : Heap) (locs : List Loc) (ls : Array Slot), sd_CI vwCl (wdX q cA) D A s H locs μ → lv_has ls 8 [(0, .ref (q 2)), (1, .long v1), (3, .int v3), (4, .int v4), (7, .int v7)] → k92 v1 v3 v4 v7 μ = some ru → W p l e ({ frames := 0, cells := 0, slots := 0, locals := 0 }) s m args below meth c H locs 0 0 (sd_QV below vwCl (wdX q cA) D [(cA, .int)] A args s ru) (F0 m 92 ls [])) :
    ∀ (n : Nat) (v1 : Int64) (v3 : Int32) (v4 : Int32) (v5 : Int64) (v7 : Int32) (μ : sd_Me) (H : Heap) (locs : List Loc) (ls : Array Slot), sd_CI vwCl (wdX q cA) D A s H locs μ → lv_has ls 8 [(0, .ref (q 2)), (1, .long v1), (3, .int v3), (4, .int v4), (5, .long v5), (7, .int v7)] → fn_Elements_pushNumber_r2_L48 k92 n v1 v3 v4 v5 v7 μ = some ru → W p l e ({ frames := 0, cells := 0, slots := 0, locals := 0 }) s m args below meth c H locs 0 0 (sd_QV below vwCl (wdX q cA) D [(cA, .int)] A args s ru) (F0 m 48 ls []) := by
  obtain ⟨hx, hb, hml, hown, hts, hK, hZ, hA, hr, hlocks⟩ := id X
  intro n
  induction n with
  | zero =>
    intro v1 v3 v4 v5 v7 μ H locs ls hI hl hf
    cases hf
  | succ n ih =>
    intro v1 v3 v4 v5 v7 μ H locs ls hI hl hf
    rw [fn_Elements_pushNumber_r2_L48] at hf
    refine lv_iload hx hb d_Elements_pushNumber_48 (lv_at hl 5 rfl) ?_
    refine lv_bipush (v := 8) hx hb d_Elements_pushNumber_50 (by decide) ?_
    refine lv_icmp_ge (tgt := 92) hx hb d_Elements_pushNumber_52 (by decide) (fun hc => ?_) (fun hc => ?_)
    · have hf := sd_t hf hc
      exact hk92 (v1) (v3) (v4) (v7) μ _ _ _ hI (lv_sub hl [0, 1, 2, 3, 5] rfl) hf
    · have hf := sd_f hf hc
      refine lv_lload hx hb d_Elements_pushNumber_55 (lv_at hl 4 rfl) ?_
      refine lv_lconst (v := 0) hx hb d_Elements_pushNumber_57 (by decide) ?_
      refine W.lcmp hx hb d_Elements_pushNumber_58 ?_
      refine lv_if_le (tgt := 92) hx hb d_Elements_pushNumber_59 (by decide) (fun hc => ?_) (fun hc => ?_)
      · have hf := sd_t hf hc
        exact hk92 (v1) (v3) (v4) (v7) μ _ _ _ hI (lv_sub hl [0, 1, 2, 3, 5] rfl) hf
      · have hf := sd_f hf hc
        refine lv_aload_n hx hb d_Elements_pushNumber_62 rfl (lv_at hl 0 rfl) ?_
        refine va_get (D := D) (ci := 1) (v := .ref (q 3)) (C := "ScriptDesk$Elements") (T := T_Elements) (N := 5) hx hb hts iw_Elements hown hK hI.1 2 rfl rfl 0 (by decide) (hts _ tw_29) (fun _ h9 => h9) rfl d_Elements_pushNumber_63 ?_
        refine lv_iload hx hb d_Elements_pushNumber_66 (lv_at hl 3 rfl) ?_
        refine lv_iload hx hb d_Elements_pushNumber_68 (lv_at hl 5 rfl) ?_
        refine lv_iadd hx hb d_Elements_pushNumber_70 ?_
        refine lv_lload hx hb d_Elements_pushNumber_71 (lv_at hl 4 rfl) ?_
        refine lv_ldc2 (v := 255) hx hb hown (hts _ tw_265) d_Elements_pushNumber_73 ?_
        refine lv_land hx hb d_Elements_pushNumber_76 ?_
        refine lv_l2i (v := (Int64.toInt32 (v5 &&& (255 : Int64)))) hx hb d_Elements_pushNumber_77 rfl ?_
        obtain ⟨hg, hf⟩ := sd_gd_e hf
        refine k_iast (μ' := sd_st μ 3 (Int32.toNatClampNeg (v4 + v7)) (Int64.toInt32 (v5 &&& (255 : Int64)))) hx hb hK hI 3 0 rfl rfl rfl hg d_Elements_pushNumber_78 (fun H locs hI => ?_)
        obtain ⟨m3, hI, hf⟩ := k_lm hf hI
        refine lv_lload hx hb d_Elements_pushNumber_79 (lv_at hl 4 rfl) ?_
        refine lv_bipush (v := 8) hx hb d_Elements_pushNumber_81 (by decide) ?_
        refine lv_lshr (v := (sd_lsr v5 (8 : Int32))) hx hb d_Elements_pushNumber_83 rfl ?_
        refine k_ll hf (fun x4 hf => ?_)
        refine lv_lstore (lv' := [(5, .long x4), (0, .ref (q 2)), (1, .long v1), (3, .int v3), (4, .int v4), (7, .int v7)]) hx hb d_Elements_pushNumber_84 hl (by decide) rfl (fun ls hl => ?_)
        refine lv_iinc (v := (v7 + (1 : Int32))) (lv' := [(7, .int (v7 + (1 : Int32))), (5, .long x4), (0, .ref (q 2)), (1, .long v1), (3, .int v3), (4, .int v4)]) hx hb d_Elements_pushNumber_86 hl (k := 5) rfl rfl (by decide) rfl (fun ls hl => ?_)
        refine lv_goto (tgt := 48) hx hb d_Elements_pushNumber_89 (by decide) ?_
        exact ih (v1) (v3) (v4) (x4) ((v7 + (1 : Int32))) m3 _ _ _ hI (lv_sub hl [2, 3, 4, 5, 1, 0] rfl) hf
set_option maxHeartbeats 4000000 in
set_option maxRecDepth 100000 in
theorem jn_Elements_pushNumber_r2_J158 (l : Launch) {p : Program} {e : Env} {s : State} {m : MethodId} {args : Array Value} {below : List Frame} {meth : Method} {c : Code} {A : Nat → Prop} {D : va_G} {q tq : Nat → Nat} {cA : ClassId} {ru : sd_Me} (X : sd_Cx p s m args meth c prog_3_method_14_code "ScriptDesk$Elements" sx_tbl 8 none vwCl D [(cA, .int)] (ZX tq) A) (v3 : Int32) (v7 : Int32) (μ : sd_Me) (H : Heap) (locs : List Loc) (ls : Array Slot) (hI : sd_CI vwCl (wdX q cA) D A s H locs μ) (hl : lv_has ls 8 [(0, .ref (q 2)), (3, .int v3), (7, .int v7)]) (hf : fn_Elements_pushNumber_r2_J158 v3 v7 μ = some ru) : W p l e ({ frames := 0, cells := 0, slots := 0, locals := 0 }) s m args below meth c H locs 0 0 (sd_QV below vwCl (wdX q cA) D [(cA, .int)] A args s ru) (F0 m 158 ls []) := by
  obtain ⟨hx, hb, hml, hown, hts, hK, hZ, hA, hr, hlocks⟩ := id X
  unfold fn_Elements_pushNumber_r2_J158 at hf
  refine lv_aload_n hx hb d_Elements_pushNumber_158 rfl (lv_at hl 0 rfl) ?_
  refine va_get (D := D) (ci := 1) (v := .ref (q 4)) (C := "ScriptDesk$Elements") (T := T_Elements) (N := 5) hx hb hts iw_Elements hown hK hI.1 2 rfl rfl 1 (by decide) (hts _ tw_30) (fun _ h9 => h9) rfl d_Elements_pushNumber_159 ?_
  refine lv_iload_n hx hb d_Elements_pushNumber_162 rfl (lv_at hl 1 rfl) ?_
  refine lv_iload hx hb d_Elements_pushNumber_163 (lv_at hl 2 rfl) ?_
  obtain ⟨hg, hf⟩ := sd_gd_e hf
  refine k_iast (μ' := sd_st μ 4 (Int32.toNatClampNeg v3) v7) hx hb hK hI 4 0 rfl rfl rfl hg d_Elements_pushNumber_165 (fun H locs hI => ?_)
  obtain ⟨m10, hI, hf⟩ := k_lm hf hI
  refine lv_aload_n hx hb d_Elements_pushNumber_166 rfl (lv_at hl 0 rfl) ?_
  refine lv_dup hx hb d_Elements_pushNumber_167 rfl ?_
  refine va_get (D := D) (ci := 1) (v := .int (m10.1 2 4)) (C := "ScriptDesk$Elements") (T := T_Elements) (N := 5) hx hb hts iw_Elements hown hK hI.1 2 rfl rfl 4 (by decide) (hts _ tw_33) (fun _ h9 => h9) rfl d_Elements_pushNumber_168 ?_
  refine lv_iconst (v := 1) hx hb d_Elements_pushNumber_171 (by decide) ?_
  refine lv_iadd hx hb d_Elements_pushNumber_172 ?_
  refine k_put (ci := 1) (v := .int ((m10.1 2 4) + (1 : Int32))) (ty := .int) (C := "ScriptDesk$Elements") (T := T_Elements) (N := 5) (μ' := sd_st m10 2 4 ((m10.1 2 4) + (1 : Int32))) hx hb hts iw_Elements t_Elements t_Elements_ok n_Elements hown hK hI 2 rfl rfl 4 (by decide) (hts _ tw_33) (fun _ h9 => h9) rfl (by decide +kernel) rfl rfl (Nat.le_of_ble_eq_true rfl) rfl d_Elements_pushNumber_173 (fun H locs hI => ?_)
  obtain ⟨m11, hI, hf⟩ := k_lm hf hI
  exact k_retv X hI hf d_Elements_pushNumber_176
set_option maxHeartbeats 4000000 in
set_option maxRecDepth 100000 in
theorem jn_Elements_pushNumber_r2_J129 (l : Launch) {p : Program} {e : Env} {s : State} {m : MethodId} {args : Array Value} {below : List Frame} {meth : Method} {c : Code} {A : Nat → Prop} {D : va_G} {q tq : Nat → Nat} {cA : ClassId} {ru : sd_Me} (X : sd_Cx p s m args meth c prog_3_method_14_code "ScriptDesk$Elements" sx_tbl 8 none vwCl D [(cA, .int)] (ZX tq) A) (v1 : Int64) (v3 : Int32) (v4 : Int32) (v7 : Int32) (μ : sd_Me) (H : Heap) (locs : List Loc) (ls : Array Slot) (hI : sd_CI vwCl (wdX q cA) D A s H locs μ) (hl : lv_has ls 8 [(0, .ref (q 2)), (1, .long v1), (3, .int v3), (4, .int v4), (7, .int v7)]) (hf : fn_Elements_pushNumber_r2_J129 v1 v3 v4 v7 μ = some ru) : W p l e ({ frames := 0, cells := 0, slots := 0, locals := 0 }) s m args below meth c H locs 0 0 (sd_QV below vwCl (wdX q cA) D [(cA, .int)] A args s ru) (F0 m 129 ls []) := by
  obtain ⟨hx, hb, hml, hown, hts, hK, hZ, hA, hr, hlocks⟩ := id X
  unfold fn_Elements_pushNumber_r2_J129 at hf
  refine lv_lload_n hx hb d_Elements_pushNumber_129 rfl (lv_at hl 1 rfl) ?_
  refine lv_lconst (v := 0) hx hb d_Elements_pushNumber_130 (by decide) ?_
  refine W.lcmp hx hb d_Elements_pushNumber_131 ?_
  refine lv_if_ge (tgt := 158) hx hb d_Elements_pushNumber_132 (by decide) (fun hc => ?_) (fun hc => ?_)
  · have hf := sd_t hf hc
    exact jn_Elements_pushNumber_r2_J158 l X (v3) (v7) μ _ _ _ hI (lv_sub hl [0, 2, 4] rfl) hf
  · have hf := sd_f hf hc
    refine lv_iload hx hb d_Elements_pushNumber_135 (lv_at hl 4 rfl) ?_
    refine lv_if_le (tgt := 158) hx hb d_Elements_pushNumber_137 (by decide) (fun hc => ?_) (fun hc => ?_)
    · have hf := sd_t hf hc
      exact jn_Elements_pushNumber_r2_J158 l X (v3) (v7) μ _ _ _ hI (lv_sub hl [0, 2, 4] rfl) hf
    · have hf := sd_f hf hc
      refine lv_aload_n hx hb d_Elements_pushNumber_140 rfl (lv_at hl 0 rfl) ?_
      refine va_get (D := D) (ci := 1) (v := .ref (q 3)) (C := "ScriptDesk$Elements") (T := T_Elements) (N := 5) hx hb hts iw_Elements hown hK hI.1 2 rfl rfl 0 (by decide) (hts _ tw_29) (fun _ h9 => h9) rfl d_Elements_pushNumber_141 ?_
      refine lv_iload hx hb d_Elements_pushNumber_144 (lv_at hl 3 rfl) ?_
      refine lv_iload hx hb d_Elements_pushNumber_146 (lv_at hl 4 rfl) ?_
      refine lv_iadd hx hb d_Elements_pushNumber_148 ?_
      refine lv_iconst (v := 1) hx hb d_Elements_pushNumber_149 (by decide) ?_
      refine lv_isub hx hb d_Elements_pushNumber_150 ?_
      refine lv_dup2_11 hx hb d_Elements_pushNumber_151 rfl rfl ?_
      obtain ⟨hg, hf⟩ := sd_gd_e hf
      refine k_iald hx hb hK hI 3 0 rfl rfl hg d_Elements_pushNumber_152 ?_
      refine lv_sipush (v := 128) hx hb d_Elements_pushNumber_153 (by decide) ?_
      refine lv_ior hx hb d_Elements_pushNumber_156 ?_
      obtain ⟨hg, hf⟩ := sd_gd_e hf
      refine k_iast (μ' := sd_st μ 3 (Int32.toNatClampNeg ((v4 + v7) - (1 : Int32))) ((μ.1 3 (Int32.toNatClampNeg ((v4 + v7) - (1 : Int32)))) ||| (128 : Int32))) hx hb hK hI 3 0 rfl rfl rfl hg d_Elements_pushNumber_157 (fun H locs hI => ?_)
      obtain ⟨m12, hI, hf⟩ := k_lm hf hI
      exact jn_Elements_pushNumber_r2_J158 l X (v3) (v7) m12 _ _ _ hI (lv_sub hl [0, 2, 4] rfl) hf
set_option maxHeartbeats 4000000 in
set_option maxRecDepth 100000 in
theorem jn_Elements_pushNumber_r2_J92 (l : Launch) {p : Program} {e : Env} {s : State} {m : MethodId} {args : Array Value} {below : List Frame} {meth : Method} {c : Code} {A : Nat → Prop} {D : va_G} {q tq : Nat → Nat} {cA : ClassId} {ru : sd_Me} (X : sd_Cx p s m args meth c prog_3_method_14_code "ScriptDesk$Elements" sx_tbl 8 none vwCl D [(cA, .int)] (ZX tq) A) (v1 : Int64) (v3 : Int32) (v4 : Int32) (v7 : Int32) (μ : sd_Me) (H : Heap) (locs : List Loc) (ls : Array Slot) (hI : sd_CI vwCl (wdX q cA) D A s H locs μ) (hl : lv_has ls 8 [(0, .ref (q 2)), (1, .long v1), (3, .int v3), (4, .int v4), (7, .int v7)]) (hf : fn_Elements_pushNumber_r2_J92 v1 v3 v4 v7 μ = some ru) : W p l e ({ frames := 0, cells := 0, slots := 0, locals := 0 }) s m args below meth c H locs 0 0 (sd_QV below vwCl (wdX q cA) D [(cA, .int)] A args s ru) (F0 m 92 ls []) := by
  obtain ⟨hx, hb, hml, hown, hts, hK, hZ, hA, hr, hlocks⟩ := id X
  unfold fn_Elements_pushNumber_r2_J92 at hf
  refine lv_iload hx hb d_Elements_pushNumber_92 (lv_at hl 4 rfl) ?_
  refine lv_if_le (tgt := 129) hx hb d_Elements_pushNumber_94 (by decide) (fun hc => ?_) (fun hc => ?_)
  · have hf := sd_t hf hc
    exact jn_Elements_pushNumber_r2_J129 l X (v1) (v3) (v4) (v7) μ _ _ _ hI (lv_sub hl [0, 1, 2, 3, 4] rfl) hf
  · have hf := sd_f hf hc
    refine lv_aload_n hx hb d_Elements_pushNumber_97 rfl (lv_at hl 0 rfl) ?_
    refine va_get (D := D) (ci := 1) (v := .ref (q 3)) (C := "ScriptDesk$Elements") (T := T_Elements) (N := 5) hx hb hts iw_Elements hown hK hI.1 2 rfl rfl 0 (by decide) (hts _ tw_29) (fun _ h9 => h9) rfl d_Elements_pushNumber_98 ?_
    refine lv_iload hx hb d_Elements_pushNumber_101 (lv_at hl 3 rfl) ?_
    refine lv_iload hx hb d_Elements_pushNumber_103 (lv_at hl 4 rfl) ?_
    refine lv_iadd hx hb d_Elements_pushNumber_105 ?_
    refine lv_iconst (v := 1) hx hb d_Elements_pushNumber_106 (by decide) ?_
    refine lv_isub hx hb d_Elements_pushNumber_107 ?_
    obtain ⟨hg, hf⟩ := sd_gd_e hf
    refine k_iald hx hb hK hI 3 0 rfl rfl hg d_Elements_pushNumber_108 ?_
    refine lv_sipush (v := 128) hx hb d_Elements_pushNumber_109 (by decide) ?_
    refine lv_icmp_lt (tgt := 129) hx hb d_Elements_pushNumber_112 (by decide) (fun hc => ?_) (fun hc => ?_)
    · have hf := sd_t hf hc
      exact jn_Elements_pushNumber_r2_J129 l X (v1) (v3) (v4) (v7) μ _ _ _ hI (lv_sub hl [0, 1, 2, 3, 4] rfl) hf
    · have hf := sd_f hf hc
      refine lv_aload_n hx hb d_Elements_pushNumber_115 rfl (lv_at hl 0 rfl) ?_
      refine va_get (D := D) (ci := 1) (v := .ref (q 3)) (C := "ScriptDesk$Elements") (T := T_Elements) (N := 5) hx hb hts iw_Elements hown hK hI.1 2 rfl rfl 0 (by decide) (hts _ tw_29) (fun _ h9 => h9) rfl d_Elements_pushNumber_116 ?_
      refine lv_iload hx hb d_Elements_pushNumber_119 (lv_at hl 3 rfl) ?_
      refine lv_iload hx hb d_Elements_pushNumber_121 (lv_at hl 4 rfl) ?_
      refine lv_iadd hx hb d_Elements_pushNumber_123 ?_
      refine lv_iconst (v := 0) hx hb d_Elements_pushNumber_124 (by decide) ?_
      obtain ⟨hg, hf⟩ := sd_gd_e hf
      refine k_iast (μ' := sd_st μ 3 (Int32.toNatClampNeg (v4 + v7)) (0 : Int32)) hx hb hK hI 3 0 rfl rfl rfl hg d_Elements_pushNumber_125 (fun H locs hI => ?_)
      obtain ⟨m13, hI, hf⟩ := k_lm hf hI
      refine lv_iinc (v := (v7 + (1 : Int32))) (lv' := [(7, .int (v7 + (1 : Int32))), (0, .ref (q 2)), (1, .long v1), (3, .int v3), (4, .int v4)]) hx hb d_Elements_pushNumber_126 hl (k := 4) rfl rfl (by decide) rfl (fun ls hl => ?_)
      exact jn_Elements_pushNumber_r2_J129 l X (v1) (v3) (v4) ((v7 + (1 : Int32))) m13 _ _ _ hI (lv_sub hl [1, 2, 3, 4, 0] rfl) hf
set_option maxHeartbeats 4000000 in
set_option maxRecDepth 100000 in
theorem jn_Elements_pushNumber_r2_J43 (l : Launch) {p : Program} {e : Env} {s : State} {m : MethodId} {args : Array Value} {below : List Frame} {meth : Method} {c : Code} {A : Nat → Prop} {D : va_G} {q tq : Nat → Nat} {cA : ClassId} {ru : sd_Me} (X : sd_Cx p s m args meth c prog_3_method_14_code "ScriptDesk$Elements" sx_tbl 8 none vwCl D [(cA, .int)] (ZX tq) A) (v1 : Int64) (v3 : Int32) (v4 : Int32) (s0 : Int64) (μ : sd_Me) (H : Heap) (locs : List Loc) (ls : Array Slot) (hI : sd_CI vwCl (wdX q cA) D A s H locs μ) (hl : lv_has ls 8 [(0, .ref (q 2)), (1, .long v1), (3, .int v3), (4, .int v4)]) (hf : fn_Elements_pushNumber_r2_J43 v1 v3 v4 s0 μ = some ru) : W p l e ({ frames := 0, cells := 0, slots := 0, locals := 0 }) s m args below meth c H locs 0 0 (sd_QV below vwCl (wdX q cA) D [(cA, .int)] A args s ru) (F0 m 43 ls [.long s0]) := by
  obtain ⟨hx, hb, hml, hown, hts, hK, hZ, hA, hr, hlocks⟩ := id X
  unfold fn_Elements_pushNumber_r2_J43 at hf
  refine lv_lstore (lv' := [(5, .long s0), (0, .ref (q 2)), (1, .long v1), (3, .int v3), (4, .int v4)]) hx hb d_Elements_pushNumber_43 hl (by decide) rfl (fun ls hl => ?_)
  refine lv_iconst (v := 0) hx hb d_Elements_pushNumber_45 (by decide) ?_
  refine lv_istore (lv' := [(7, .int (0 : Int32)), (5, .long s0), (0, .ref (q 2)), (1, .long v1), (3, .int v3), (4, .int v4)]) hx hb d_Elements_pushNumber_46 hl (by decide) rfl (fun ls hl => ?_)
  refine lp_Elements_pushNumber_r2_L48 l X ?_ 10000 (v1) (v3) (v4) (s0) ((0 : Int32)) μ _ _ _ hI (lv_sub hl [2, 3, 4, 5, 1, 0] rfl) hf
  · intro x5 x6 x7 x8 m9 H locs ls hI hl hf
    exact jn_Elements_pushNumber_r2_J92 l X (x5) (x6) (x7) (x8) m9 _ _ _ hI (lv_sub hl [0, 1, 2, 3, 4] rfl) hf
set_option maxHeartbeats 4000000 in
set_option maxRecDepth 100000 in
theorem mt_Elements_pushNumber_r2 (l : Launch) {D : va_G} {q tq : Nat → Nat} {cA : ClassId} {a1 : Int64} {μ : sd_Me} {ru : sd_Me} (hf : fn_Elements_pushNumber_r2 a1 μ = some ru) : sd_CTv l y_Elements_pushNumber w_Elements_pushNumber ({ frames := 0, cells := 0, slots := 0, locals := 0 }) vwCl (wdX q cA) D [(cA, .int)] (ZX tq) [.ref (q 2), .long a1] μ ru := by
  refine k_entv (cc := prog_3_method_14_code) 8 (by decide) rfl (Nat.le_of_ble_eq_true rfl) ?_
  intro p e s m below meth c A ls X hI hl
  have hl : lv_has ls 8 [(0, .ref (q 2)), (1, .long a1)] := hl
  obtain ⟨hx, hb, hml, hown, hts, hK, hZ, hA, hr, hlocks⟩ := id X
  unfold fn_Elements_pushNumber_r2 at hf
  refine lv_aload_n hx hb d_Elements_pushNumber_0 rfl (lv_at hl 0 rfl) ?_
  refine va_get (D := D) (ci := 1) (v := .int (μ.1 2 4)) (C := "ScriptDesk$Elements") (T := T_Elements) (N := 5) hx hb hts iw_Elements hown hK hI.1 2 rfl rfl 4 (by decide) (hts _ tw_33) (fun _ h9 => h9) rfl d_Elements_pushNumber_1 ?_
  refine lv_aload_n hx hb d_Elements_pushNumber_4 rfl (lv_at hl 0 rfl) ?_
  refine va_get (D := D) (ci := 1) (v := .int (μ.1 2 3)) (C := "ScriptDesk$Elements") (T := T_Elements) (N := 5) hx hb hts iw_Elements hown hK hI.1 2 rfl rfl 3 (by decide) (hts _ tw_32) (fun _ h9 => h9) rfl d_Elements_pushNumber_5 ?_
  refine lv_iadd hx hb d_Elements_pushNumber_8 ?_
  refine lv_bipush (v := 64) hx hb d_Elements_pushNumber_9 (by decide) ?_
  refine lv_icmp_lt (tgt := 15) hx hb d_Elements_pushNumber_11 (by decide) (fun hc => ?_) (fun hc => ?_)
  · have hf := sd_t hf hc
    refine lv_aload_n hx hb d_Elements_pushNumber_15 rfl (lv_at hl 0 rfl) ?_
    refine va_get (D := D) (ci := 1) (v := .ref (q 5)) (C := "ScriptDesk$Elements") (T := T_Elements) (N := 5) hx hb hts iw_Elements hown hK hI.1 2 rfl rfl 2 (by decide) (hts _ tw_31) (fun _ h9 => h9) rfl d_Elements_pushNumber_16 ?_
    refine lv_aload_n hx hb d_Elements_pushNumber_19 rfl (lv_at hl 0 rfl) ?_
    refine va_get (D := D) (ci := 1) (v := .int (μ.1 2 4)) (C := "ScriptDesk$Elements") (T := T_Elements) (N := 5) hx hb hts iw_Elements hown hK hI.1 2 rfl rfl 4 (by decide) (hts _ tw_33) (fun _ h9 => h9) rfl d_Elements_pushNumber_20 ?_
    obtain ⟨hg, hf⟩ := sd_gd_e hf
    refine k_iald hx hb hK hI 5 0 rfl rfl hg d_Elements_pushNumber_23 ?_
    refine k_li hf (fun x1 hf => ?_)
    refine lv_istore_n (lv' := [(3, .int x1), (0, .ref (q 2)), (1, .long a1)]) hx hb d_Elements_pushNumber_24 rfl hl (by decide) rfl (fun ls hl => ?_)
    refine lv_iload_n hx hb d_Elements_pushNumber_25 rfl (lv_at hl 0 rfl) ?_
    refine lv_bipush (v := 120) hx hb d_Elements_pushNumber_26 (by decide) ?_
    refine lv_imul hx hb d_Elements_pushNumber_28 ?_
    refine k_li hf (fun x2 hf => ?_)
    refine lv_istore (lv' := [(4, .int x2), (3, .int x1), (0, .ref (q 2)), (1, .long a1)]) hx hb d_Elements_pushNumber_29 hl (by decide) rfl (fun ls hl => ?_)
    refine lv_lload_n hx hb d_Elements_pushNumber_31 rfl (lv_at hl 3 rfl) ?_
    refine lv_lconst (v := 0) hx hb d_Elements_pushNumber_32 (by decide) ?_
    refine W.lcmp hx hb d_Elements_pushNumber_33 ?_
    refine lv_if_ge (tgt := 42) hx hb d_Elements_pushNumber_34 (by decide) (fun hc => ?_) (fun hc => ?_)
    · have hf := sd_t hf hc
      refine lv_lload_n hx hb d_Elements_pushNumber_42 rfl (lv_at hl 3 rfl) ?_
      exact jn_Elements_pushNumber_r2_J43 l X (a1) (x1) (x2) (a1) μ _ _ _ hI (lv_sub hl [2, 3, 1, 0] rfl) hf
    · have hf := sd_f hf hc
      refine lv_lload_n hx hb d_Elements_pushNumber_37 rfl (lv_at hl 3 rfl) ?_
      refine lv_lneg hx hb d_Elements_pushNumber_38 ?_
      refine lv_goto (tgt := 43) hx hb d_Elements_pushNumber_39 (by decide) ?_
      exact jn_Elements_pushNumber_r2_J43 l X (a1) (x1) (x2) ((-a1)) μ _ _ _ hI (lv_sub hl [2, 3, 1, 0] rfl) hf
  · have hf := sd_f hf hc
    exact k_retv X hI hf d_Elements_pushNumber_14
set_option maxHeartbeats 4000000 in
set_option maxRecDepth 100000 in
theorem mt_Elements_replaceByTruth_r2 (l : Launch) {D : va_G} {q tq : Nat → Nat} {cA : ClassId} {a1 : Int32} {a2 : Int32} {μ : sd_Me} {ru : sd_Me} (hf : fn_Elements_replaceByTruth_r2 a1 a2 μ = some ru) : sd_CTv l y_Elements_replaceByTruth w_Elements_replaceByTruth ({ frames := 2, cells := 0, slots := 0, locals := 44 }) vwCl (wdX q cA) D [(cA, .int)] (ZX tq) [.ref (q 2), .int a1, .int a2] μ ru := by
  refine k_entv (cc := prog_3_method_15_code) 3 (by decide) rfl (Nat.le_of_ble_eq_true rfl) ?_
  intro p e s m below meth c A ls X hI hl
  have hl : lv_has ls 3 [(0, .ref (q 2)), (1, .int a1), (2, .int a2)] := hl
  obtain ⟨hx, hb, hml, hown, hts, hK, hZ, hA, hr, hlocks⟩ := id X
  unfold fn_Elements_replaceByTruth_r2 at hf
  refine lv_aload_n hx hb d_Elements_replaceByTruth_0 rfl (lv_at hl 0 rfl) ?_
  refine lv_iload_n hx hb d_Elements_replaceByTruth_1 rfl (lv_at hl 1 rfl) ?_
  obtain ⟨m1, hq, hf⟩ := sd_bv_e hf
  refine k_callVv (As := [.int a1]) (rest := []) (C := "ScriptDesk$Elements") (ci := 1) ZX_ok X hI (mt_Elements_drop_r2 l hq) (cwV 1 hts (gd_V tw_275 tw_235 tw_236 tw_2 tw_237) rfl rfl rfl (by decide +kernel) ⟨Nat.le_of_ble_eq_true rfl, Nat.le_of_ble_eq_true rfl⟩) 2 rfl rfl rfl hl.1 rfl (Nat.le_of_ble_eq_true rfl) d_Elements_replaceByTruth_2 ⟨Nat.zero_le _, Nat.zero_le _⟩ (fun H locs hI => ?_)
  refine lv_aload_n hx hb d_Elements_replaceByTruth_5 rfl (lv_at hl 0 rfl) ?_
  refine lv_iload_n hx hb d_Elements_replaceByTruth_6 rfl (lv_at hl 2 rfl) ?_
  refine lv_if_eq (tgt := 14) hx hb d_Elements_replaceByTruth_7 (by decide) (fun hc => ?_) (fun hc => ?_)
  · have hf := sd_t hf hc
    refine lv_lconst (v := 0) hx hb d_Elements_replaceByTruth_14 (by decide) ?_
    obtain ⟨m2, hq, hf⟩ := sd_bv_e hf
    refine k_callVv (As := [.long (0 : Int64)]) (rest := []) (C := "ScriptDesk$Elements") (ci := 1) ZX_ok X hI (mt_Elements_pushNumber_r2 l hq) (cwV 1 hts (gd_V tw_329 tw_262 tw_263 tw_2 tw_264) rfl rfl rfl (by decide +kernel) ⟨Nat.le_of_ble_eq_true rfl, Nat.le_of_ble_eq_true rfl⟩) 2 rfl rfl rfl hl.1 rfl (Nat.le_of_ble_eq_true rfl) d_Elements_replaceByTruth_15 ⟨Nat.zero_le _, Nat.zero_le _⟩ (fun H locs hI => ?_)
    exact k_retv X hI hf d_Elements_replaceByTruth_18
  · have hf := sd_f hf hc
    refine lv_lconst (v := 1) hx hb d_Elements_replaceByTruth_10 (by decide) ?_
    refine lv_goto (tgt := 15) hx hb d_Elements_replaceByTruth_11 (by decide) ?_
    obtain ⟨m3, hq, hf⟩ := sd_bv_e hf
    refine k_callVv (As := [.long (1 : Int64)]) (rest := []) (C := "ScriptDesk$Elements") (ci := 1) ZX_ok X hI (mt_Elements_pushNumber_r2 l hq) (cwV 1 hts (gd_V tw_329 tw_262 tw_263 tw_2 tw_264) rfl rfl rfl (by decide +kernel) ⟨Nat.le_of_ble_eq_true rfl, Nat.le_of_ble_eq_true rfl⟩) 2 rfl rfl rfl hl.1 rfl (Nat.le_of_ble_eq_true rfl) d_Elements_replaceByTruth_15 ⟨Nat.zero_le _, Nat.zero_le _⟩ (fun H locs hI => ?_)
    exact k_retv X hI hf d_Elements_replaceByTruth_18
set_option maxHeartbeats 4000000 in
set_option maxRecDepth 100000 in
theorem mt_Signatures_askMany_r8_r2_r6 (l : Launch) {D : va_G} {q tq : Nat → Nat} {cA : ClassId} {μ : sd_Me} {ru : Int32 × sd_Me} (hf : fn_Signatures_askMany_r8_r2_r6 μ = some ru) : sd_CTi l y_Signatures_askMany w_Signatures_askMany ({ frames := 3, cells := 0, slots := 0, locals := 79 }) vwCl (wdX q cA) D [(cA, .int)] (ZX tq) .int [.ref (q 8), .ref (q 2), .ref (q 6)] μ ru := by
  refine k_enti (cc := prog_9_method_4_code) 8 (by decide) rfl (Nat.le_of_ble_eq_true rfl) ?_
  intro p e s m below meth c A ls X hI hl
  have hl : lv_has ls 8 [(0, .ref (q 8)), (1, .ref (q 2)), (2, .ref (q 6))] := hl
  obtain ⟨hx, hb, hml, hown, hts, hK, hZ, hA, hr, hlocks⟩ := id X
  unfold fn_Signatures_askMany_r8_r2_r6 at hf
  refine lv_aload_n hx hb d_Signatures_askMany_0 rfl (lv_at hl 1 rfl) ?_
  refine lv_iconst (v := 0) hx hb d_Signatures_askMany_1 (by decide) ?_
  refine lv_bipush (v := 8) hx hb d_Signatures_askMany_2 (by decide) ?_
  obtain ⟨x2, m1, hq, hf⟩ := sd_bi_e hf
  refine k_callS (As := [.ref (q 2), .int (0 : Int32), .int (8 : Int32)]) (rest := []) ZX_ok X hI (mt_Signatures_faultOfAmount_r2 l hq) (va_cwS 3 hts (gd_S tw_476 tw_477 tw_5 tw_478) rfl rfl rfl (by decide +kernel) ⟨Nat.le_of_ble_eq_true rfl, Nat.le_of_ble_eq_true rfl⟩) rfl hl.1 rfl (Nat.le_of_ble_eq_true rfl) d_Signatures_askMany_4 ⟨Nat.zero_le _, Nat.zero_le _⟩ (fun H locs hn_x2 hI => ?_)
  refine lv_istore_n (lv' := [(3, .int x2), (0, .ref (q 8)), (1, .ref (q 2)), (2, .ref (q 6))]) hx hb d_Signatures_askMany_7 rfl hl (by decide) rfl (fun ls hl => ?_)
  refine lv_iload_n hx hb d_Signatures_askMany_8 rfl (lv_at hl 0 rfl) ?_
  refine lv_if_eq (tgt := 14) hx hb d_Signatures_askMany_9 (by decide) (fun hc => ?_) (fun hc => ?_)
  · have hf := sd_t hf hc
    refine lv_aload_n hx hb d_Signatures_askMany_14 rfl (lv_at hl 2 rfl) ?_
    refine lv_iconst (v := 0) hx hb d_Signatures_askMany_15 (by decide) ?_
    obtain ⟨x4, m3, hq, hf⟩ := sd_bl_e hf
    refine k_callVl (As := [.int (0 : Int32)]) (rest := []) (C := "ScriptDesk$Elements") (ci := 1) ZX_ok X hI (mt_Elements_numberAt_r2 l hq) (cwV 1 hts (gd_V tw_480 tw_299 tw_300 tw_2 tw_301) rfl rfl rfl (by decide +kernel) ⟨Nat.le_of_ble_eq_true rfl, Nat.le_of_ble_eq_true rfl⟩) 2 rfl rfl rfl hl.1 rfl (Nat.le_of_ble_eq_true rfl) d_Signatures_askMany_16 ⟨Nat.zero_le _, Nat.zero_le _⟩ (fun H locs hI => ?_)
    refine lv_l2i (v := (Int64.toInt32 x4)) hx hb d_Signatures_askMany_19 rfl ?_
    refine k_li hf (fun x5 hf => ?_)
    refine lv_istore (lv' := [(4, .int x5), (3, .int x2), (0, .ref (q 8)), (1, .ref (q 2)), (2, .ref (q 6))]) hx hb d_Signatures_askMany_20 hl (by decide) rfl (fun ls hl => ?_)
    refine lv_aload_n hx hb d_Signatures_askMany_22 rfl (lv_at hl 4 rfl) ?_
    refine lv_iload hx hb d_Signatures_askMany_23 (lv_at hl 0 rfl) ?_
    obtain ⟨x7, m6, hq, hf⟩ := sd_bi_e hf
    refine k_callV (As := [.int x5]) (rest := []) (C := "ScriptDesk$Tally") (ci := 2) ZX_ok X hI (mt_Tally_passesLimit_r6 l hq) (cwV 1 hts (gd_V tw_481 tw_211 tw_212 tw_3 tw_213) rfl rfl rfl (by decide +kernel) ⟨Nat.le_of_ble_eq_true rfl, Nat.le_of_ble_eq_true rfl⟩) 6 rfl rfl rfl hl.1 rfl (Nat.le_of_ble_eq_true rfl) d_Signatures_askMany_25 ⟨Nat.zero_le _, Nat.zero_le _⟩ (fun H locs hn_x7 hI => ?_)
    refine lv_if_eq (tgt := 33) hx hb d_Signatures_askMany_28 (by decide) (fun hc => ?_) (fun hc => ?_)
    · have hf := sd_t hf hc
      refine lv_aload_n hx hb d_Signatures_askMany_33 rfl (lv_at hl 3 rfl) ?_
      refine lv_iload hx hb d_Signatures_askMany_34 (lv_at hl 0 rfl) ?_
      refine lv_iconst (v := 1) hx hb d_Signatures_askMany_36 (by decide) ?_
      refine lv_iadd hx hb d_Signatures_askMany_37 ?_
      refine lv_iload hx hb d_Signatures_askMany_38 (lv_at hl 0 rfl) ?_
      obtain ⟨x9, m8, hq, hf⟩ := sd_bi_e hf
      refine k_callS (As := [.ref (q 2), .int (x5 + (1 : Int32)), .int x5]) (rest := []) ZX_ok X hI (mt_Signatures_faultOfAmount_r2 l hq) (va_cwS 3 hts (gd_S tw_476 tw_477 tw_5 tw_478) rfl rfl rfl (by decide +kernel) ⟨Nat.le_of_ble_eq_true rfl, Nat.le_of_ble_eq_true rfl⟩) rfl hl.1 rfl (Nat.le_of_ble_eq_true rfl) d_Signatures_askMany_40 ⟨Nat.zero_le _, Nat.zero_le _⟩ (fun H locs hn_x9 hI => ?_)
      refine lv_istore_n (lv' := [(3, .int x9), (4, .int x5), (0, .ref (q 8)), (1, .ref (q 2)), (2, .ref (q 6))]) hx hb d_Signatures_askMany_43 rfl hl (by decide) rfl (fun ls hl => ?_)
      refine lv_iload_n hx hb d_Signatures_askMany_44 rfl (lv_at hl 0 rfl) ?_
      refine lv_if_eq (tgt := 50) hx hb d_Signatures_askMany_45 (by decide) (fun hc => ?_) (fun hc => ?_)
      · have hf := sd_t hf hc
        refine lv_aload_n hx hb d_Signatures_askMany_50 rfl (lv_at hl 3 rfl) ?_
        refine lv_iload hx hb d_Signatures_askMany_51 (lv_at hl 1 rfl) ?_
        refine lv_iconst (v := 1) hx hb d_Signatures_askMany_53 (by decide) ?_
        refine lv_iadd hx hb d_Signatures_askMany_54 ?_
        obtain ⟨x11, m10, hq, hf⟩ := sd_bl_e hf
        refine k_callVl (As := [.int (x5 + (1 : Int32))]) (rest := []) (C := "ScriptDesk$Elements") (ci := 1) ZX_ok X hI (mt_Elements_numberAt_r2 l hq) (cwV 1 hts (gd_V tw_480 tw_299 tw_300 tw_2 tw_301) rfl rfl rfl (by decide +kernel) ⟨Nat.le_of_ble_eq_true rfl, Nat.le_of_ble_eq_true rfl⟩) 2 rfl rfl rfl hl.1 rfl (Nat.le_of_ble_eq_true rfl) d_Signatures_askMany_55 ⟨Nat.zero_le _, Nat.zero_le _⟩ (fun H locs hI => ?_)
        refine lv_l2i (v := (Int64.toInt32 x11)) hx hb d_Signatures_askMany_58 rfl ?_
        refine k_li hf (fun x12 hf => ?_)
        refine lv_istore (lv' := [(5, .int x12), (3, .int x9), (4, .int x5), (0, .ref (q 8)), (1, .ref (q 2)), (2, .ref (q 6))]) hx hb d_Signatures_askMany_59 hl (by decide) rfl (fun ls hl => ?_)
        refine lv_iload hx hb d_Signatures_askMany_61 (lv_at hl 2 rfl) ?_
        refine lv_iload hx hb d_Signatures_askMany_63 (lv_at hl 0 rfl) ?_
        refine lv_iadd hx hb d_Signatures_askMany_65 ?_
        refine lv_iconst (v := 3) hx hb d_Signatures_askMany_66 (by decide) ?_
        refine lv_iadd hx hb d_Signatures_askMany_67 ?_
        refine k_li hf (fun x13 hf => ?_)
        refine lv_istore (lv' := [(6, .int x13), (5, .int x12), (3, .int x9), (4, .int x5), (0, .ref (q 8)), (1, .ref (q 2)), (2, .ref (q 6))]) hx hb d_Signatures_askMany_68 hl (by decide) rfl (fun ls hl => ?_)
        refine lv_aload_n hx hb d_Signatures_askMany_70 rfl (lv_at hl 5 rfl) ?_
        refine va_get (D := D) (ci := 1) (v := .int (m10.1 2 4)) (C := "ScriptDesk$Elements") (T := T_Elements) (N := 5) hx hb hts iw_Elements hown hK hI.1 2 rfl rfl 4 (by decide) (hts _ tw_35) (fun _ h9 => h9) rfl d_Signatures_askMany_71 ?_
        refine lv_iload hx hb d_Signatures_askMany_74 (lv_at hl 0 rfl) ?_
        refine lv_icmp_ge (tgt := 81) hx hb d_Signatures_askMany_76 (by decide) (fun hc => ?_) (fun hc => ?_)
        · have hf := sd_t hf hc
          refine lv_aload_n hx hb d_Signatures_askMany_81 rfl (lv_at hl 4 rfl) ?_
          refine lv_aload_n hx hb d_Signatures_askMany_82 rfl (lv_at hl 5 rfl) ?_
          refine lv_iload hx hb d_Signatures_askMany_83 (lv_at hl 3 rfl) ?_
          refine lv_iload hx hb d_Signatures_askMany_85 (lv_at hl 1 rfl) ?_
          obtain ⟨x15, m14, hq, hf⟩ := sd_bi_e hf
          refine k_callV (As := [.ref (q 2), .int x5, .int x12]) (rest := []) (C := "ScriptDesk$Signatures") (ci := 4) ZX_ok X hI (mt_Signatures_allFit_r8_r2 l hq) (cwV 3 hts (gd_V tw_482 tw_484 ts_13 tw_5 tw_485) rfl rfl rfl (by decide +kernel) ⟨Nat.le_of_ble_eq_true rfl, Nat.le_of_ble_eq_true rfl⟩) 8 rfl rfl rfl hl.1 rfl (Nat.le_of_ble_eq_true rfl) d_Signatures_askMany_87 ⟨Nat.zero_le _, Nat.zero_le _⟩ (fun H locs hn_x15 hI => ?_)
          refine lv_istore (lv' := [(7, .int x15), (6, .int x13), (5, .int x12), (3, .int x9), (4, .int x5), (0, .ref (q 8)), (1, .ref (q 2)), (2, .ref (q 6))]) hx hb d_Signatures_askMany_90 hl (by decide) rfl (fun ls hl => ?_)
          refine lv_aload_n hx hb d_Signatures_askMany_92 rfl (lv_at hl 6 rfl) ?_
          refine lv_iload hx hb d_Signatures_askMany_93 (lv_at hl 1 rfl) ?_
          refine lv_iload hx hb d_Signatures_askMany_95 (lv_at hl 0 rfl) ?_
          obtain ⟨m16, hq, hf⟩ := sd_bv_e hf
          refine k_callVv (As := [.int x13, .int x15]) (rest := []) (C := "ScriptDesk$Elements") (ci := 1) ZX_ok X hI (mt_Elements_replaceByTruth_r2 l hq) (cwV 2 hts (gd_V tw_471 tw_326 tw_327 tw_2 tw_328) rfl rfl rfl (by decide +kernel) ⟨Nat.le_of_ble_eq_true rfl, Nat.le_of_ble_eq_true rfl⟩) 2 rfl rfl rfl hl.1 rfl (Nat.le_of_ble_eq_true rfl) d_Signatures_askMany_97 ⟨Nat.zero_le _, Nat.zero_le _⟩ (fun H locs hI => ?_)
          refine lv_iconst (v := 0) hx hb d_Signatures_askMany_100 (by decide) ?_
          exact k_reti X hI (vp_nar_int _) hf d_Signatures_askMany_101
        · have hf := sd_f hf hc
          refine lv_iconst (v := 5) hx hb d_Signatures_askMany_79 (by decide) ?_
          exact k_reti X hI (vp_nar_int _) hf d_Signatures_askMany_80
      · have hf := sd_f hf hc
        refine lv_iload_n hx hb d_Signatures_askMany_48 rfl (lv_at hl 0 rfl) ?_
        exact k_reti X hI (vp_nar_int _) hf d_Signatures_askMany_49
    · have hf := sd_f hf hc
      refine lv_iconst (v := 3) hx hb d_Signatures_askMany_31 (by decide) ?_
      exact k_reti X hI (vp_nar_int _) hf d_Signatures_askMany_32
  · have hf := sd_f hf hc
    refine lv_iload_n hx hb d_Signatures_askMany_12 rfl (lv_at hl 0 rfl) ?_
    exact k_reti X hI (vp_nar_int _) hf d_Signatures_askMany_13
set_option maxHeartbeats 4000000 in
set_option maxRecDepth 100000 in
theorem mt_Elements_takeTrue_r2 (l : Launch) {D : va_G} {q tq : Nat → Nat} {cA : ClassId} {μ : sd_Me} {ru : Int32 × sd_Me} (hf : fn_Elements_takeTrue_r2 μ = some ru) : sd_CTi l y_Elements_takeTrue w_Elements_takeTrue ({ frames := 2, cells := 0, slots := 0, locals := 45 }) vwCl (wdX q cA) D [(cA, .int)] (ZX tq) .int [.ref (q 2)] μ ru := by
  refine k_enti (cc := prog_3_method_19_code) 1 (by decide) rfl (Nat.le_of_ble_eq_true rfl) ?_
  intro p e s m below meth c A ls X hI hl
  have hl : lv_has ls 1 [(0, .ref (q 2))] := hl
  obtain ⟨hx, hb, hml, hown, hts, hK, hZ, hA, hr, hlocks⟩ := id X
  unfold fn_Elements_takeTrue_r2 at hf
  refine lv_aload_n hx hb d_Elements_takeTrue_0 rfl (lv_at hl 0 rfl) ?_
  refine va_get (D := D) (ci := 1) (v := .int (μ.1 2 4)) (C := "ScriptDesk$Elements") (T := T_Elements) (N := 5) hx hb hts iw_Elements hown hK hI.1 2 rfl rfl 4 (by decide) (hts _ tw_33) (fun _ h9 => h9) rfl d_Elements_takeTrue_1 ?_
  refine lv_iconst (v := 1) hx hb d_Elements_takeTrue_4 (by decide) ?_
  refine lv_icmp_ge (tgt := 10) hx hb d_Elements_takeTrue_5 (by decide) (fun hc => ?_) (fun hc => ?_)
  · have hf := sd_t hf hc
    refine lv_aload_n hx hb d_Elements_takeTrue_10 rfl (lv_at hl 0 rfl) ?_
    obtain ⟨x2, m1, hq, hf⟩ := sd_bi_e hf
    refine k_callV (As := []) (rest := []) (C := "ScriptDesk$Elements") (ci := 1) ZX_ok X hI (mt_Elements_topHolds_r2 l hq) (cwV 0 hts (gd_V tw_274 tw_223 tw_224 tw_2 tw_225) rfl rfl rfl (by decide +kernel) ⟨Nat.le_of_ble_eq_true rfl, Nat.le_of_ble_eq_true rfl⟩) 2 rfl rfl rfl hl.1 rfl (Nat.le_of_ble_eq_true rfl) d_Elements_takeTrue_11 ⟨Nat.zero_le _, Nat.zero_le _⟩ (fun H locs hn_x2 hI => ?_)
    refine lv_if_ne (tgt := 20) hx hb d_Elements_takeTrue_14 (by decide) (fun hc => ?_) (fun hc => ?_)
    · have hf := sd_f hf hc
      refine lv_aload_n hx hb d_Elements_takeTrue_20 rfl (lv_at hl 0 rfl) ?_
      refine lv_iconst (v := 1) hx hb d_Elements_takeTrue_21 (by decide) ?_
      obtain ⟨m3, hq, hf⟩ := sd_bv_e hf
      refine k_callVv (As := [.int (1 : Int32)]) (rest := []) (C := "ScriptDesk$Elements") (ci := 1) ZX_ok X hI (mt_Elements_drop_r2 l hq) (cwV 1 hts (gd_V tw_275 tw_235 tw_236 tw_2 tw_237) rfl rfl rfl (by decide +kernel) ⟨Nat.le_of_ble_eq_true rfl, Nat.le_of_ble_eq_true rfl⟩) 2 rfl rfl rfl hl.1 rfl (Nat.le_of_ble_eq_true rfl) d_Elements_takeTrue_22 ⟨Nat.zero_le _, Nat.zero_le _⟩ (fun H locs hI => ?_)
      refine lv_iconst (v := 0) hx hb d_Elements_takeTrue_25 (by decide) ?_
      exact k_reti X hI (vp_nar_int _) hf d_Elements_takeTrue_26
    · have hf := sd_t hf hc
      refine lv_bipush (v := 8) hx hb d_Elements_takeTrue_17 (by decide) ?_
      exact k_reti X hI (vp_nar_int _) hf d_Elements_takeTrue_19
  · have hf := sd_f hf hc
    refine lv_iconst (v := 5) hx hb d_Elements_takeTrue_8 (by decide) ?_
    exact k_reti X hI (vp_nar_int _) hf d_Elements_takeTrue_9
set_option maxHeartbeats 4000000 in
set_option maxRecDepth 100000 in
theorem mt_Signatures_askOne_r8_r2 (l : Launch) {D : va_G} {q tq : Nat → Nat} {cA : ClassId} {μ : sd_Me} {ru : Int32 × sd_Me} (hf : fn_Signatures_askOne_r8_r2 μ = some ru) : sd_CTi l y_Signatures_askOne w_Signatures_askOne ({ frames := 3, cells := 0, slots := 0, locals := 66 }) vwCl (wdX q cA) D [(cA, .int)] (ZX tq) .int [.ref (q 8), .ref (q 2)] μ ru := by
  refine k_enti (cc := prog_9_method_3_code) 3 (by decide) rfl (Nat.le_of_ble_eq_true rfl) ?_
  intro p e s m below meth c A ls X hI hl
  have hl : lv_has ls 3 [(0, .ref (q 8)), (1, .ref (q 2))] := hl
  obtain ⟨hx, hb, hml, hown, hts, hK, hZ, hA, hr, hlocks⟩ := id X
  unfold fn_Signatures_askOne_r8_r2 at hf
  refine lv_aload_n hx hb d_Signatures_askOne_0 rfl (lv_at hl 1 rfl) ?_
  refine va_get (D := D) (ci := 1) (v := .int (μ.1 2 4)) (C := "ScriptDesk$Elements") (T := T_Elements) (N := 5) hx hb hts iw_Elements hown hK hI.1 2 rfl rfl 4 (by decide) (hts _ tw_35) (fun _ h9 => h9) rfl d_Signatures_askOne_1 ?_
  refine lv_iconst (v := 2) hx hb d_Signatures_askOne_4 (by decide) ?_
  refine lv_icmp_ge (tgt := 10) hx hb d_Signatures_askOne_5 (by decide) (fun hc => ?_) (fun hc => ?_)
  · have hf := sd_t hf hc
    refine lv_aload_n hx hb d_Signatures_askOne_10 rfl (lv_at hl 0 rfl) ?_
    refine lv_aload_n hx hb d_Signatures_askOne_11 rfl (lv_at hl 1 rfl) ?_
    refine lv_iconst (v := 1) hx hb d_Signatures_askOne_12 (by decide) ?_
    refine lv_iconst (v := 0) hx hb d_Signatures_askOne_13 (by decide) ?_
    obtain ⟨x2, m1, hq, hf⟩ := sd_bi_e hf
    refine k_callV (As := [.ref (q 2), .int (1 : Int32), .int (0 : Int32)]) (rest := []) (C := "ScriptDesk$Signatures") (ci := 4) ZX_ok X hI (mt_Signatures_fits_r8_r2 l hq) (cwV 3 hts (gd_V tw_464 tw_466 ts_11 tw_5 tw_467) rfl rfl rfl (by decide +kernel) ⟨Nat.le_of_ble_eq_true rfl, Nat.le_of_ble_eq_true rfl⟩) 8 rfl rfl rfl hl.1 rfl (Nat.le_of_ble_eq_true rfl) d_Signatures_askOne_14 ⟨Nat.zero_le _, Nat.zero_le _⟩ (fun H locs hn_x2 hI => ?_)
    refine lv_istore_n (lv' := [(2, .int x2), (0, .ref (q 8)), (1, .ref (q 2))]) hx hb d_Signatures_askOne_17 rfl hl (by decide) rfl (fun ls hl => ?_)
    refine lv_aload_n hx hb d_Signatures_askOne_18 rfl (lv_at hl 2 rfl) ?_
    refine lv_iconst (v := 2) hx hb d_Signatures_askOne_19 (by decide) ?_
    refine lv_iload_n hx hb d_Signatures_askOne_20 rfl (lv_at hl 0 rfl) ?_
    obtain ⟨m3, hq, hf⟩ := sd_bv_e hf
    refine k_callVv (As := [.int (2 : Int32), .int x2]) (rest := []) (C := "ScriptDesk$Elements") (ci := 1) ZX_ok X hI (mt_Elements_replaceByTruth_r2 l hq) (cwV 2 hts (gd_V tw_471 tw_326 tw_327 tw_2 tw_328) rfl rfl rfl (by decide +kernel) ⟨Nat.le_of_ble_eq_true rfl, Nat.le_of_ble_eq_true rfl⟩) 2 rfl rfl rfl hl.1 rfl (Nat.le_of_ble_eq_true rfl) d_Signatures_askOne_21 ⟨Nat.zero_le _, Nat.zero_le _⟩ (fun H locs hI => ?_)
    refine lv_iconst (v := 0) hx hb d_Signatures_askOne_24 (by decide) ?_
    exact k_reti X hI (vp_nar_int _) hf d_Signatures_askOne_25
  · have hf := sd_f hf hc
    refine lv_iconst (v := 5) hx hb d_Signatures_askOne_8 (by decide) ?_
    exact k_reti X hI (vp_nar_int _) hf d_Signatures_askOne_9
set_option maxHeartbeats 4000000 in
set_option maxRecDepth 100000 in
theorem jn_Signatures_perform_r8_r2_r6_J58 (l : Launch) {p : Program} {e : Env} {s : State} {m : MethodId} {args : Array Value} {below : List Frame} {meth : Method} {c : Code} {A : Nat → Prop} {D : va_G} {q tq : Nat → Nat} {cA : ClassId} {ru : Int32 × sd_Me} (X : sd_Cx p s m args meth c prog_9_method_2_code "ScriptDesk$Signatures" sx_tbl 6 (some .int) vwCl D [(cA, .int)] (ZX tq) A) (v4 : Int32) (s0 : Int32) (μ : sd_Me) (H : Heap) (locs : List Loc) (ls : Array Slot) (hI : sd_CI vwCl (wdX q cA) D A s H locs μ) (hl : lv_has ls 6 [(1, .ref (q 2)), (4, .int v4)]) (hf : fn_Signatures_perform_r8_r2_r6_J58 v4 s0 μ = some ru) : W p l e ({ frames := 4, cells := 0, slots := 0, locals := 106 }) s m args below meth c H locs 0 0 (sd_QI below vwCl (wdX q cA) D [(cA, .int)] .int A args s ru) (F0 m 58 ls [.int s0]) := by
  obtain ⟨hx, hb, hml, hown, hts, hK, hZ, hA, hr, hlocks⟩ := id X
  unfold fn_Signatures_perform_r8_r2_r6_J58 at hf
  refine lv_istore (lv' := [(5, .int s0), (1, .ref (q 2)), (4, .int v4)]) hx hb d_Signatures_perform_58 hl (by decide) rfl (fun ls hl => ?_)
  refine lv_iload hx hb d_Signatures_perform_60 (lv_at hl 2 rfl) ?_
  refine lv_if_ne (tgt := 77) hx hb d_Signatures_perform_62 (by decide) (fun hc => ?_) (fun hc => ?_)
  · have hf := sd_f hf hc
    refine lv_iload hx hb d_Signatures_perform_77 (lv_at hl 2 rfl) ?_
    exact k_reti X hI (vp_nar_int _) hf d_Signatures_perform_79
  · have hf := sd_t hf hc
    refine lv_iload hx hb d_Signatures_perform_65 (lv_at hl 0 rfl) ?_
    refine lv_if_eq (tgt := 77) hx hb d_Signatures_perform_67 (by decide) (fun hc => ?_) (fun hc => ?_)
    · have hf := sd_t hf hc
      refine lv_iload hx hb d_Signatures_perform_77 (lv_at hl 2 rfl) ?_
      exact k_reti X hI (vp_nar_int _) hf d_Signatures_perform_79
    · have hf := sd_f hf hc
      refine lv_aload_n hx hb d_Signatures_perform_70 rfl (lv_at hl 1 rfl) ?_
      obtain ⟨x4, m3, hq, hf⟩ := sd_bi_e hf
      refine k_callV (As := []) (rest := []) (C := "ScriptDesk$Elements") (ci := 1) ZX_ok X hI (mt_Elements_takeTrue_r2 l hq) (cwV 0 hts (gd_V tw_486 tw_271 tw_272 tw_2 tw_273) rfl rfl rfl (by decide +kernel) ⟨Nat.le_of_ble_eq_true rfl, Nat.le_of_ble_eq_true rfl⟩) 2 rfl rfl rfl hl.1 rfl (Nat.le_of_ble_eq_true rfl) d_Signatures_perform_71 ⟨Nat.zero_le _, Nat.zero_le _⟩ (fun H locs hn_x4 hI => ?_)
      refine lv_goto (tgt := 79) hx hb d_Signatures_perform_74 (by decide) ?_
      exact k_reti X hI (vp_nar_int _) hf d_Signatures_perform_79
set_option maxHeartbeats 4000000 in
set_option maxRecDepth 100000 in
theorem jn_Signatures_perform_r8_r2_r6_J53 (l : Launch) {p : Program} {e : Env} {s : State} {m : MethodId} {args : Array Value} {below : List Frame} {meth : Method} {c : Code} {A : Nat → Prop} {D : va_G} {q tq : Nat → Nat} {cA : ClassId} {ru : Int32 × sd_Me} (X : sd_Cx p s m args meth c prog_9_method_2_code "ScriptDesk$Signatures" sx_tbl 6 (some .int) vwCl D [(cA, .int)] (ZX tq) A) (v4 : Int32) (μ : sd_Me) (H : Heap) (locs : List Loc) (ls : Array Slot) (hI : sd_CI vwCl (wdX q cA) D A s H locs μ) (hl : lv_has ls 6 [(1, .ref (q 2)), (4, .int v4)]) (hf : fn_Signatures_perform_r8_r2_r6_J53 v4 μ = some ru) : W p l e ({ frames := 4, cells := 0, slots := 0, locals := 106 }) s m args below meth c H locs 0 0 (sd_QI below vwCl (wdX q cA) D [(cA, .int)] .int A args s ru) (F0 m 53 ls []) := by
  obtain ⟨hx, hb, hml, hown, hts, hK, hZ, hA, hr, hlocks⟩ := id X
  unfold fn_Signatures_perform_r8_r2_r6_J53 at hf
  refine lv_iconst (v := 1) hx hb d_Signatures_perform_53 (by decide) ?_
  refine lv_goto (tgt := 58) hx hb d_Signatures_perform_54 (by decide) ?_
  exact jn_Signatures_perform_r8_r2_r6_J58 l X (v4) ((1 : Int32)) μ _ _ _ hI (lv_sub hl [0, 1] rfl) hf
set_option maxHeartbeats 4000000 in
set_option maxRecDepth 100000 in
theorem jn_Signatures_perform_r8_r2_r6_J37 (l : Launch) {p : Program} {e : Env} {s : State} {m : MethodId} {args : Array Value} {below : List Frame} {meth : Method} {c : Code} {A : Nat → Prop} {D : va_G} {q tq : Nat → Nat} {cA : ClassId} {ru : Int32 × sd_Me} (X : sd_Cx p s m args meth c prog_9_method_2_code "ScriptDesk$Signatures" sx_tbl 6 (some .int) vwCl D [(cA, .int)] (ZX tq) A) (v3 : Int32) (s0 : Int32) (μ : sd_Me) (H : Heap) (locs : List Loc) (ls : Array Slot) (hI : sd_CI vwCl (wdX q cA) D A s H locs μ) (hl : lv_has ls 6 [(1, .ref (q 2)), (3, .int v3)]) (hf : fn_Signatures_perform_r8_r2_r6_J37 v3 s0 μ = some ru) : W p l e ({ frames := 4, cells := 0, slots := 0, locals := 106 }) s m args below meth c H locs 0 0 (sd_QI below vwCl (wdX q cA) D [(cA, .int)] .int A args s ru) (F0 m 37 ls [.int s0]) := by
  obtain ⟨hx, hb, hml, hown, hts, hK, hZ, hA, hr, hlocks⟩ := id X
  unfold fn_Signatures_perform_r8_r2_r6_J37 at hf
  refine lv_istore (lv' := [(4, .int s0), (1, .ref (q 2)), (3, .int v3)]) hx hb d_Signatures_perform_37 hl (by decide) rfl (fun ls hl => ?_)
  refine lv_iload_n hx hb d_Signatures_perform_39 rfl (lv_at hl 2 rfl) ?_
  refine lv_sipush (v := 173) hx hb d_Signatures_perform_40 (by decide) ?_
  refine lv_icmp_eq (tgt := 53) hx hb d_Signatures_perform_43 (by decide) (fun hc => ?_) (fun hc => ?_)
  · have hf := sd_t hf hc
    exact jn_Signatures_perform_r8_r2_r6_J53 l X (s0) μ _ _ _ hI (lv_sub hl [1, 0] rfl) hf
  · have hf := sd_f hf hc
    refine lv_iload_n hx hb d_Signatures_perform_46 rfl (lv_at hl 2 rfl) ?_
    refine lv_sipush (v := 175) hx hb d_Signatures_perform_47 (by decide) ?_
    refine lv_icmp_ne (tgt := 57) hx hb d_Signatures_perform_50 (by decide) (fun hc => ?_) (fun hc => ?_)
    · have hf := sd_f hf hc
      refine lv_iconst (v := 0) hx hb d_Signatures_perform_57 (by decide) ?_
      exact jn_Signatures_perform_r8_r2_r6_J58 l X (s0) ((0 : Int32)) μ _ _ _ hI (lv_sub hl [1, 0] rfl) hf
    · have hf := sd_t hf hc
      exact jn_Signatures_perform_r8_r2_r6_J53 l X (s0) μ _ _ _ hI (lv_sub hl [1, 0] rfl) hf
set_option maxHeartbeats 4000000 in
set_option maxRecDepth 100000 in
theorem mt_Signatures_perform_r8_r2_r6 (l : Launch) {D : va_G} {q tq : Nat → Nat} {cA : ClassId} {a3 : Int32} {μ : sd_Me} {ru : Int32 × sd_Me} (hf : fn_Signatures_perform_r8_r2_r6 a3 μ = some ru) : sd_CTi l y_Signatures_perform w_Signatures_perform ({ frames := 4, cells := 0, slots := 0, locals := 106 }) vwCl (wdX q cA) D [(cA, .int)] (ZX tq) .int [.ref (q 8), .ref (q 2), .ref (q 6), .int a3] μ ru := by
  refine k_enti (cc := prog_9_method_2_code) 6 (by decide) rfl (Nat.le_of_ble_eq_true rfl) ?_
  intro p e s m below meth c A ls X hI hl
  have hl : lv_has ls 6 [(0, .ref (q 8)), (1, .ref (q 2)), (2, .ref (q 6)), (3, .int a3)] := hl
  obtain ⟨hx, hb, hml, hown, hts, hK, hZ, hA, hr, hlocks⟩ := id X
  unfold fn_Signatures_perform_r8_r2_r6 at hf
  refine lv_iload_n hx hb d_Signatures_perform_0 rfl (lv_at hl 3 rfl) ?_
  refine lv_sipush (v := 172) hx hb d_Signatures_perform_1 (by decide) ?_
  refine lv_icmp_lt (tgt := 14) hx hb d_Signatures_perform_4 (by decide) (fun hc => ?_) (fun hc => ?_)
  · have hf := sd_t hf hc
    refine lv_iconst (v := 4) hx hb d_Signatures_perform_14 (by decide) ?_
    exact k_reti X hI (vp_nar_int _) hf d_Signatures_perform_15
  · have hf := sd_f hf hc
    refine lv_iload_n hx hb d_Signatures_perform_7 rfl (lv_at hl 3 rfl) ?_
    refine lv_sipush (v := 175) hx hb d_Signatures_perform_8 (by decide) ?_
    refine lv_icmp_le (tgt := 16) hx hb d_Signatures_perform_11 (by decide) (fun hc => ?_) (fun hc => ?_)
    · have hf := sd_t hf hc
      refine lv_iload_n hx hb d_Signatures_perform_16 rfl (lv_at hl 3 rfl) ?_
      refine lv_sipush (v := 173) hx hb d_Signatures_perform_17 (by decide) ?_
      refine lv_icmp_gt (tgt := 31) hx hb d_Signatures_perform_20 (by decide) (fun hc => ?_) (fun hc => ?_)
      · have hf := sd_t hf hc
        refine lv_aload_n hx hb d_Signatures_perform_31 rfl (lv_at hl 0 rfl) ?_
        refine lv_aload_n hx hb d_Signatures_perform_32 rfl (lv_at hl 1 rfl) ?_
        refine lv_aload_n hx hb d_Signatures_perform_33 rfl (lv_at hl 2 rfl) ?_
        obtain ⟨x2, m1, hq, hf⟩ := sd_bi_e hf
        refine k_callV (As := [.ref (q 2), .ref (q 6)]) (rest := []) (C := "ScriptDesk$Signatures") (ci := 4) ZX_ok X hI (mt_Signatures_askMany_r8_r2_r6 l hq) (cwV 2 hts (gd_V tw_472 tw_474 ts_12 tw_5 tw_475) rfl rfl rfl (by decide +kernel) ⟨Nat.le_of_ble_eq_true rfl, Nat.le_of_ble_eq_true rfl⟩) 8 rfl rfl rfl hl.1 rfl (Nat.le_of_ble_eq_true rfl) d_Signatures_perform_34 ⟨Nat.zero_le _, Nat.zero_le _⟩ (fun H locs hn_x2 hI => ?_)
        exact jn_Signatures_perform_r8_r2_r6_J37 l X (a3) (x2) m1 _ _ _ hI (lv_sub hl [1, 3] rfl) hf
      · have hf := sd_f hf hc
        refine lv_aload_n hx hb d_Signatures_perform_23 rfl (lv_at hl 0 rfl) ?_
        refine lv_aload_n hx hb d_Signatures_perform_24 rfl (lv_at hl 1 rfl) ?_
        obtain ⟨x6, m5, hq, hf⟩ := sd_bi_e hf
        refine k_callV (As := [.ref (q 2)]) (rest := []) (C := "ScriptDesk$Signatures") (ci := 4) ZX_ok X hI (mt_Signatures_askOne_r8_r2 l hq) (cwV 1 hts (gd_V tw_460 tw_462 ts_10 tw_5 tw_463) rfl rfl rfl (by decide +kernel) ⟨Nat.le_of_ble_eq_true rfl, Nat.le_of_ble_eq_true rfl⟩) 8 rfl rfl rfl hl.1 rfl (Nat.le_of_ble_eq_true rfl) d_Signatures_perform_25 ⟨Nat.zero_le _, Nat.zero_le _⟩ (fun H locs hn_x6 hI => ?_)
        refine lv_goto (tgt := 37) hx hb d_Signatures_perform_28 (by decide) ?_
        exact jn_Signatures_perform_r8_r2_r6_J37 l X (a3) (x6) m5 _ _ _ hI (lv_sub hl [1, 3] rfl) hf
    · have hf := sd_f hf hc
      refine lv_iconst (v := 4) hx hb d_Signatures_perform_14 (by decide) ?_
      exact k_reti X hI (vp_nar_int _) hf d_Signatures_perform_15
set_option maxHeartbeats 4000000 in
set_option maxRecDepth 100000 in
theorem lp_Arrays_fill_r15_L5 (l : Launch) {p : Program} {e : Env} {s : State} {m : MethodId} {args : Array Value} {below : List Frame} {meth : Method} {c : Code} {A : Nat → Prop} {D : va_G} {q tq : Nat → Nat} {cA : ClassId} {ru : sd_Me} (X : sd_Cx p s m args meth c prog_15_method_103_code "java/util/Arrays" sx_tbl 4 none vwCl D [(cA, .int)] (ZX tq) A) {k20 : sd_Me → Option (sd_Me)} (hk20 : ∀ (μ : sd_Me) (H : Heap) (locs : List Loc) (ls : Array Slot), sd_CI vwCl (wdX q cA) D A s H locs μ → lv_has ls 4 [] → k20 μ = some ru → W p l e ({ frames := 0, cells := 0, slots := 0, locals := 0 }) s m args below meth c H locs 0 0 (sd_QV below vwCl (wdX q cA) D [(cA, .int)] A args s ru) (F0 m 20 ls [])) :
    ∀ (n : Nat) (v1 : Int32) (v2 : Int32) (v3 : Int32) (μ : sd_Me) (H : Heap) (locs : List Loc) (ls : Array Slot), sd_CI vwCl (wdX q cA) D A s H locs μ → lv_has ls 4 [(0, .ref (q 15)), (1, .int v1), (2, .int v2), (3, .int v3)] → fn_Arrays_fill_r15_L5 k20 n v1 v2 v3 μ = some ru → W p l e ({ frames := 0, cells := 0, slots := 0, locals := 0 }) s m args below meth c H locs 0 0 (sd_QV below vwCl (wdX q cA) D [(cA, .int)] A args s ru) (F0 m 5 ls []) := by
  obtain ⟨hx, hb, hml, hown, hts, hK, hZ, hA, hr, hlocks⟩ := id X
  intro n
  induction n with
  | zero =>
    intro v1 v2 v3 μ H locs ls hI hl hf
    cases hf
  | succ n ih =>
    intro v1 v2 v3 μ H locs ls hI hl hf
    rw [fn_Arrays_fill_r15_L5] at hf
    refine lv_iload_n hx hb d_Arrays_fill_5 rfl (lv_at hl 2 rfl) ?_
    refine lv_iload_n hx hb d_Arrays_fill_6 rfl (lv_at hl 3 rfl) ?_
    refine lv_icmp_ge (tgt := 20) hx hb d_Arrays_fill_7 (by decide) (fun hc => ?_) (fun hc => ?_)
    · have hf := sd_t hf hc
      exact hk20  μ _ _ _ hI (lv_sub hl [] rfl) hf
    · have hf := sd_f hf hc
      refine lv_aload_n hx hb d_Arrays_fill_10 rfl (lv_at hl 0 rfl) ?_
      refine lv_iload_n hx hb d_Arrays_fill_11 rfl (lv_at hl 2 rfl) ?_
      refine lv_iload_n hx hb d_Arrays_fill_12 rfl (lv_at hl 1 rfl) ?_
      obtain ⟨hg, hf⟩ := sd_gd_e hf
      refine k_iast (μ' := sd_st μ 15 (Int32.toNatClampNeg v2) v1) hx hb hK hI 15 0 rfl rfl rfl hg d_Arrays_fill_13 (fun H locs hI => ?_)
      obtain ⟨m1, hI, hf⟩ := k_lm hf hI
      refine lv_iinc (v := (v2 + (1 : Int32))) (lv' := [(2, .int (v2 + (1 : Int32))), (0, .ref (q 15)), (1, .int v1), (3, .int v3)]) hx hb d_Arrays_fill_14 hl (k := 2) rfl rfl (by decide) rfl (fun ls hl => ?_)
      refine lv_goto (tgt := 5) hx hb d_Arrays_fill_17 (by decide) ?_
      exact ih (v1) ((v2 + (1 : Int32))) (v3) m1 _ _ _ hI (lv_sub hl [1, 2, 0, 3] rfl) hf
set_option maxHeartbeats 4000000 in
set_option maxRecDepth 100000 in
theorem mt_Arrays_fill_r15 (l : Launch) {D : va_G} {q tq : Nat → Nat} {cA : ClassId} {a1 : Int32} {μ : sd_Me} {ru : sd_Me} (hf : fn_Arrays_fill_r15 a1 μ = some ru) : sd_CTv l y_Arrays_fill w_Arrays_fill ({ frames := 0, cells := 0, slots := 0, locals := 0 }) vwCl (wdX q cA) D [(cA, .int)] (ZX tq) [.ref (q 15), .int a1] μ ru := by
  refine k_entv (cc := prog_15_method_103_code) 4 (by decide) rfl (Nat.le_of_ble_eq_true rfl) ?_
  intro p e s m below meth c A ls X hI hl
  have hl : lv_has ls 4 [(0, .ref (q 15)), (1, .int a1)] := hl
  obtain ⟨hx, hb, hml, hown, hts, hK, hZ, hA, hr, hlocks⟩ := id X
  unfold fn_Arrays_fill_r15 at hf
  refine lv_iconst (v := 0) hx hb d_Arrays_fill_0 (by decide) ?_
  refine lv_istore_n (lv' := [(2, .int (0 : Int32)), (0, .ref (q 15)), (1, .int a1)]) hx hb d_Arrays_fill_1 rfl hl (by decide) rfl (fun ls hl => ?_)
  refine lv_aload_n hx hb d_Arrays_fill_2 rfl (lv_at hl 1 rfl) ?_
  refine va_alen (v := 192) hx hb hK hI.1 15 0 rfl rfl (show Int32.ofNat 192 = 192 by decide) d_Arrays_fill_3 ?_
  refine lv_istore_n (lv' := [(3, .int (192 : Int32)), (2, .int (0 : Int32)), (0, .ref (q 15)), (1, .int a1)]) hx hb d_Arrays_fill_4 rfl hl (by decide) rfl (fun ls hl => ?_)
  refine lp_Arrays_fill_r15_L5 l X ?_ 10000 (a1) ((0 : Int32)) ((192 : Int32)) μ _ _ _ hI (lv_sub hl [2, 3, 1, 0] rfl) hf
  · intro m2 H locs ls hI hl hf
    exact k_retv X hI hf d_Arrays_fill_20
set_option maxHeartbeats 4000000 in
set_option maxRecDepth 100000 in
theorem mt_BlockDigest_shiftOf_r14 (l : Launch) {D : va_G} {q tq : Nat → Nat} {cA : ClassId} {a1 : Int32} {μ : sd_Me} {ru : Int32 × sd_Me} (hf : fn_BlockDigest_shiftOf_r14 a1 μ = some ru) : sd_CTi l y_BlockDigest_shiftOf w_BlockDigest_shiftOf ({ frames := 0, cells := 0, slots := 0, locals := 0 }) vwCl (wdX q cA) D [(cA, .int)] (ZX tq) .int [.ref (q 14), .int a1] μ ru := by
  refine k_enti (cc := prog_2_method_8_code) 2 (by decide) rfl (Nat.le_of_ble_eq_true rfl) ?_
  intro p e s m below meth c A ls X hI hl
  have hl : lv_has ls 2 [(0, .ref (q 14)), (1, .int a1)] := hl
  obtain ⟨hx, hb, hml, hown, hts, hK, hZ, hA, hr, hlocks⟩ := id X
  unfold fn_BlockDigest_shiftOf_r14 at hf
  refine lv_aload_n hx hb d_BlockDigest_shiftOf_0 rfl (lv_at hl 0 rfl) ?_
  refine va_get (D := D) (ci := 6) (v := .int (μ.1 14 2)) (C := "ScriptDesk$Ripemd160") (T := T_Ripemd160) (N := 7) hx hb hts iw_Ripemd160 hown hK hI.1 14 rfl rfl 2 (by decide) (hts _ tw_99) (fun _ h9 => h9) rfl d_BlockDigest_shiftOf_1 ?_
  refine lv_if_eq (tgt := 17) hx hb d_BlockDigest_shiftOf_4 (by decide) (fun hc => ?_) (fun hc => ?_)
  · have hf := sd_t hf hc
    refine lv_bipush (v := 8) hx hb d_BlockDigest_shiftOf_17 (by decide) ?_
    refine lv_iload_n hx hb d_BlockDigest_shiftOf_19 rfl (lv_at hl 1 rfl) ?_
    refine lv_imul hx hb d_BlockDigest_shiftOf_20 ?_
    exact k_reti X hI (vp_nar_int _) hf d_BlockDigest_shiftOf_21
  · have hf := sd_f hf hc
    refine lv_bipush (v := 24) hx hb d_BlockDigest_shiftOf_7 (by decide) ?_
    refine lv_bipush (v := 8) hx hb d_BlockDigest_shiftOf_9 (by decide) ?_
    refine lv_iload_n hx hb d_BlockDigest_shiftOf_11 rfl (lv_at hl 1 rfl) ?_
    refine lv_imul hx hb d_BlockDigest_shiftOf_12 ?_
    refine lv_isub hx hb d_BlockDigest_shiftOf_13 ?_
    refine lv_goto (tgt := 21) hx hb d_BlockDigest_shiftOf_14 (by decide) ?_
    exact k_reti X hI (vp_nar_int _) hf d_BlockDigest_shiftOf_21
set_option maxHeartbeats 4000000 in
set_option maxRecDepth 100000 in
theorem lp_BlockDigest_write_r14_r15_L16 (l : Launch) {p : Program} {e : Env} {s : State} {m : MethodId} {args : Array Value} {below : List Frame} {meth : Method} {c : Code} {A : Nat → Prop} {D : va_G} {q tq : Nat → Nat} {cA : ClassId} {ru : sd_Me} (X : sd_Cx p s m args meth c prog_2_method_7_code "ScriptDesk$BlockDigest" sx_tbl 5 none vwCl D [(cA, .int)] (ZX tq) A) {k46 : sd_Me → Option (sd_Me)} (hk46 : ∀ (μ : sd_Me) (H : Heap) (locs : List Loc) (ls : Array Slot), sd_CI vwCl (wdX q cA) D A s H locs μ → lv_has ls 5 [] → k46 μ = some ru → W p l e ({ frames := 1, cells := 0, slots := 0, locals := 21 }) s m args below meth c H locs 0 0 (sd_QV below vwCl (wdX q cA) D [(cA, .int)] A args s ru) (F0 m 46 ls [])) :
    ∀ (n : Nat) (v1 : Int32) (v3 : Int32) (v4 : Int32) (μ : sd_Me) (H : Heap) (locs : List Loc) (ls : Array Slot), sd_CI vwCl (wdX q cA) D A s H locs μ → lv_has ls 5 [(0, .ref (q 14)), (1, .int v1), (2, .ref (q 15)), (3, .int v3), (4, .int v4)] → fn_BlockDigest_write_r14_r15_L16 k46 n v1 v3 v4 μ = some ru → W p l e ({ frames := 1, cells := 0, slots := 0, locals := 21 }) s m args below meth c H locs 0 0 (sd_QV below vwCl (wdX q cA) D [(cA, .int)] A args s ru) (F0 m 16 ls []) := by
  obtain ⟨hx, hb, hml, hown, hts, hK, hZ, hA, hr, hlocks⟩ := id X
  intro n
  induction n with
  | zero =>
    intro v1 v3 v4 μ H locs ls hI hl hf
    cases hf
  | succ n ih =>
    intro v1 v3 v4 μ H locs ls hI hl hf
    rw [fn_BlockDigest_write_r14_r15_L16] at hf
    refine lv_iload hx hb d_BlockDigest_write_16 (lv_at hl 4 rfl) ?_
    refine lv_iconst (v := 4) hx hb d_BlockDigest_write_18 (by decide) ?_
    refine lv_icmp_ge (tgt := 46) hx hb d_BlockDigest_write_19 (by decide) (fun hc => ?_) (fun hc => ?_)
    · have hf := sd_t hf hc
      exact hk46  μ _ _ _ hI (lv_sub hl [] rfl) hf
    · have hf := sd_f hf hc
      refine lv_aload_n hx hb d_BlockDigest_write_22 rfl (lv_at hl 2 rfl) ?_
      refine lv_iload_n hx hb d_BlockDigest_write_23 rfl (lv_at hl 3 rfl) ?_
      refine lv_iload hx hb d_BlockDigest_write_24 (lv_at hl 4 rfl) ?_
      refine lv_iadd hx hb d_BlockDigest_write_26 ?_
      refine lv_iload_n hx hb d_BlockDigest_write_27 rfl (lv_at hl 1 rfl) ?_
      refine lv_aload_n hx hb d_BlockDigest_write_28 rfl (lv_at hl 0 rfl) ?_
      refine lv_iload hx hb d_BlockDigest_write_29 (lv_at hl 4 rfl) ?_
      obtain ⟨x2, m1, hq, hf⟩ := sd_bi_e hf
      refine k_callU (As := [.int v4]) (rest := [.int v1, .int (v3 + v4), .ref (q 15)]) (C := "ScriptDesk$Ripemd160") (ci := 6) ZX_ok X hI (mt_BlockDigest_shiftOf_r14 l hq) (va_cwU 1 hts (gd_U tw_392 tw_799 sp_0 tw_394 tw_6 tw_395) rfl rfl rfl rfl (by decide +kernel) ⟨Nat.le_of_ble_eq_true rfl, Nat.le_of_ble_eq_true rfl⟩) 14 rfl rfl rfl hl.1 rfl (Nat.le_of_ble_eq_true rfl) d_BlockDigest_write_31 ⟨Nat.zero_le _, Nat.zero_le _⟩ (fun H locs hn_x2 hI => ?_)
      refine lv_iushr (v := (sd_usr v1 x2)) hx hb d_BlockDigest_write_34 rfl ?_
      refine lv_sipush (v := 255) hx hb d_BlockDigest_write_35 (by decide) ?_
      refine lv_iand hx hb d_BlockDigest_write_38 ?_
      obtain ⟨hg, hf⟩ := sd_gd_e hf
      refine k_iast (μ' := sd_st m1 15 (Int32.toNatClampNeg (v3 + v4)) ((sd_usr v1 x2) &&& (255 : Int32))) hx hb hK hI 15 0 rfl rfl rfl hg d_BlockDigest_write_39 (fun H locs hI => ?_)
      obtain ⟨m3, hI, hf⟩ := k_lm hf hI
      refine lv_iinc (v := (v4 + (1 : Int32))) (lv' := [(4, .int (v4 + (1 : Int32))), (0, .ref (q 14)), (1, .int v1), (2, .ref (q 15)), (3, .int v3)]) hx hb d_BlockDigest_write_40 hl (k := 4) rfl rfl (by decide) rfl (fun ls hl => ?_)
      refine lv_goto (tgt := 16) hx hb d_BlockDigest_write_43 (by decide) ?_
      exact ih (v1) (v3) ((v4 + (1 : Int32))) m3 _ _ _ hI (lv_sub hl [1, 2, 3, 4, 0] rfl) hf
set_option maxHeartbeats 4000000 in
set_option maxRecDepth 100000 in
theorem mt_BlockDigest_write_r14_r15 (l : Launch) {D : va_G} {q tq : Nat → Nat} {cA : ClassId} {a1 : Int32} {a3 : Int32} {μ : sd_Me} {ru : sd_Me} (hf : fn_BlockDigest_write_r14_r15 a1 a3 μ = some ru) : sd_CTv l y_BlockDigest_write w_BlockDigest_write ({ frames := 1, cells := 0, slots := 0, locals := 21 }) vwCl (wdX q cA) D [(cA, .int)] (ZX tq) [.ref (q 14), .int a1, .ref (q 15), .int a3] μ ru := by
  refine k_entv (cc := prog_2_method_7_code) 5 (by decide) rfl (Nat.le_of_ble_eq_true rfl) ?_
  intro p e s m below meth c A ls X hI hl
  have hl : lv_has ls 5 [(0, .ref (q 14)), (1, .int a1), (2, .ref (q 15)), (3, .int a3)] := hl
  obtain ⟨hx, hb, hml, hown, hts, hK, hZ, hA, hr, hlocks⟩ := id X
  unfold fn_BlockDigest_write_r14_r15 at hf
  refine lv_iload_n hx hb d_BlockDigest_write_0 rfl (lv_at hl 3 rfl) ?_
  refine lv_if_lt (tgt := 12) hx hb d_BlockDigest_write_1 (by decide) (fun hc => ?_) (fun hc => ?_)
  · have hf := sd_t hf hc
    exact k_retv X hI hf d_BlockDigest_write_12
  · have hf := sd_f hf hc
    refine lv_iload_n hx hb d_BlockDigest_write_4 rfl (lv_at hl 3 rfl) ?_
    refine lv_aload_n hx hb d_BlockDigest_write_5 rfl (lv_at hl 2 rfl) ?_
    refine va_alen (v := 192) hx hb hK hI.1 15 0 rfl rfl (show Int32.ofNat 192 = 192 by decide) d_BlockDigest_write_6 ?_
    refine lv_iconst (v := 4) hx hb d_BlockDigest_write_7 (by decide) ?_
    refine lv_isub hx hb d_BlockDigest_write_8 ?_
    refine lv_icmp_le (tgt := 13) hx hb d_BlockDigest_write_9 (by decide) (fun hc => ?_) (fun hc => ?_)
    · have hf := sd_t hf hc
      refine lv_iconst (v := 0) hx hb d_BlockDigest_write_13 (by decide) ?_
      refine lv_istore (lv' := [(4, .int (0 : Int32)), (0, .ref (q 14)), (1, .int a1), (2, .ref (q 15)), (3, .int a3)]) hx hb d_BlockDigest_write_14 hl (by decide) rfl (fun ls hl => ?_)
      refine lp_BlockDigest_write_r14_r15_L16 l X ?_ 10000 (a1) (a3) ((0 : Int32)) μ _ _ _ hI (lv_sub hl [1, 2, 3, 4, 0] rfl) hf
      · intro m4 H locs ls hI hl hf
        exact k_retv X hI hf d_BlockDigest_write_46
    · have hf := sd_f hf hc
      exact k_retv X hI hf d_BlockDigest_write_12
set_option maxHeartbeats 4000000 in
set_option maxRecDepth 100000 in
theorem lp_BlockDigest_pad_r14_r2_L27 (l : Launch) {p : Program} {e : Env} {s : State} {m : MethodId} {args : Array Value} {below : List Frame} {meth : Method} {c : Code} {A : Nat → Prop} {D : va_G} {q tq : Nat → Nat} {cA : ClassId} {ru : Int32 × sd_Me} (X : sd_Cx p s m args meth c prog_2_method_5_code "ScriptDesk$BlockDigest" sx_tbl 5 (some .int) vwCl D [(cA, .int)] (ZX tq) A) {k53 : Int32 → Int32 → sd_Me → Option (Int32 × sd_Me)} (hk53 : ∀ (v2 : Int32) (v3 : Int32) (μ : sd_Me) (H : Heap) (locs : List Loc) (ls : Array Slot), sd_CI vwCl (wdX q cA) D A s H locs μ → lv_has ls 5 [(0, .ref (q 14)), (2, .int v2), (3, .int v3)] → k53 v2 v3 μ = some ru → W p l e ({ frames := 2, cells := 0, slots := 0, locals := 45 }) s m args below meth c H locs 0 0 (sd_QI below vwCl (wdX q cA) D [(cA, .int)] .int A args s ru) (F0 m 53 ls [])) :
    ∀ (n : Nat) (v2 : Int32) (v3 : Int32) (v4 : Int32) (μ : sd_Me) (H : Heap) (locs : List Loc) (ls : Array Slot), sd_CI vwCl (wdX q cA) D A s H locs μ → lv_has ls 5 [(0, .ref (q 14)), (1, .ref (q 2)), (2, .int v2), (3, .int v3), (4, .int v4)] → fn_BlockDigest_pad_r14_r2_L27 k53 n v2 v3 v4 μ = some ru → W p l e ({ frames := 2, cells := 0, slots := 0, locals := 45 }) s m args below meth c H locs 0 0 (sd_QI below vwCl (wdX q cA) D [(cA, .int)] .int A args s ru) (F0 m 27 ls []) := by
  obtain ⟨hx, hb, hml, hown, hts, hK, hZ, hA, hr, hlocks⟩ := id X
  intro n
  induction n with
  | zero =>
    intro v2 v3 v4 μ H locs ls hI hl hf
    cases hf
  | succ n ih =>
    intro v2 v3 v4 μ H locs ls hI hl hf
    rw [fn_BlockDigest_pad_r14_r2_L27] at hf
    refine lv_iload hx hb d_BlockDigest_pad_27 (lv_at hl 4 rfl) ?_
    refine lv_iload_n hx hb d_BlockDigest_pad_29 rfl (lv_at hl 2 rfl) ?_
    refine lv_icmp_ge (tgt := 53) hx hb d_BlockDigest_pad_30 (by decide) (fun hc => ?_) (fun hc => ?_)
    · have hf := sd_t hf hc
      exact hk53 (v2) (v3) μ _ _ _ hI (lv_sub hl [0, 2, 3] rfl) hf
    · have hf := sd_f hf hc
      refine lv_aload_n hx hb d_BlockDigest_pad_33 rfl (lv_at hl 0 rfl) ?_
      refine va_get (D := D) (ci := 6) (v := .ref (q 15)) (C := "ScriptDesk$Ripemd160") (T := T_Ripemd160) (N := 7) hx hb hts iw_Ripemd160 hown hK hI.1 14 rfl rfl 0 (by decide) (hts _ tw_97) (fun _ h9 => h9) rfl d_BlockDigest_pad_34 ?_
      refine lv_iload hx hb d_BlockDigest_pad_37 (lv_at hl 4 rfl) ?_
      refine lv_aload_n hx hb d_BlockDigest_pad_39 rfl (lv_at hl 1 rfl) ?_
      refine lv_iconst (v := 0) hx hb d_BlockDigest_pad_40 (by decide) ?_
      refine lv_iload hx hb d_BlockDigest_pad_41 (lv_at hl 4 rfl) ?_
      obtain ⟨x4, m3, hq, hf⟩ := sd_bi_e hf
      refine k_callV (As := [.int (0 : Int32), .int v4]) (rest := [.int v4, .ref (q 15)]) (C := "ScriptDesk$Elements") (ci := 1) ZX_ok X hI (mt_Elements_octetAt_r2 l hq) (cwV 2 hts (gd_V tw_387 tw_231 tw_232 tw_2 tw_233) rfl rfl rfl (by decide +kernel) ⟨Nat.le_of_ble_eq_true rfl, Nat.le_of_ble_eq_true rfl⟩) 2 rfl rfl rfl hl.1 rfl (Nat.le_of_ble_eq_true rfl) d_BlockDigest_pad_43 ⟨Nat.zero_le _, Nat.zero_le _⟩ (fun H locs hn_x4 hI => ?_)
      obtain ⟨hg, hf⟩ := sd_gd_e hf
      refine k_iast (μ' := sd_st m3 15 (Int32.toNatClampNeg v4) x4) hx hb hK hI 15 0 rfl rfl rfl hg d_BlockDigest_pad_46 (fun H locs hI => ?_)
      obtain ⟨m5, hI, hf⟩ := k_lm hf hI
      refine lv_iinc (v := (v4 + (1 : Int32))) (lv' := [(4, .int (v4 + (1 : Int32))), (0, .ref (q 14)), (1, .ref (q 2)), (2, .int v2), (3, .int v3)]) hx hb d_BlockDigest_pad_47 hl (k := 4) rfl rfl (by decide) rfl (fun ls hl => ?_)
      refine lv_goto (tgt := 27) hx hb d_BlockDigest_pad_50 (by decide) ?_
      exact ih (v2) (v3) ((v4 + (1 : Int32))) m5 _ _ _ hI (lv_sub hl [1, 2, 3, 4, 0] rfl) hf
set_option maxHeartbeats 4000000 in
set_option maxRecDepth 100000 in
theorem mt_BlockDigest_pad_r14_r2 (l : Launch) {D : va_G} {q tq : Nat → Nat} {cA : ClassId} {a2 : Int32} {μ : sd_Me} {ru : Int32 × sd_Me} (hf : fn_BlockDigest_pad_r14_r2 a2 μ = some ru) : sd_CTi l y_BlockDigest_pad w_BlockDigest_pad ({ frames := 2, cells := 0, slots := 0, locals := 45 }) vwCl (wdX q cA) D [(cA, .int)] (ZX tq) .int [.ref (q 14), .ref (q 2), .int a2] μ ru := by
  refine k_enti (cc := prog_2_method_5_code) 5 (by decide) rfl (Nat.le_of_ble_eq_true rfl) ?_
  intro p e s m below meth c A ls X hI hl
  have hl : lv_has ls 5 [(0, .ref (q 14)), (1, .ref (q 2)), (2, .int a2)] := hl
  obtain ⟨hx, hb, hml, hown, hts, hK, hZ, hA, hr, hlocks⟩ := id X
  unfold fn_BlockDigest_pad_r14_r2 at hf
  refine lv_iload_n hx hb d_BlockDigest_pad_0 rfl (lv_at hl 2 rfl) ?_
  refine lv_bipush (v := 9) hx hb d_BlockDigest_pad_1 (by decide) ?_
  refine lv_iadd hx hb d_BlockDigest_pad_3 ?_
  refine lv_bipush (v := 64) hx hb d_BlockDigest_pad_4 (by decide) ?_
  refine lv_iadd hx hb d_BlockDigest_pad_6 ?_
  refine lv_iconst (v := 1) hx hb d_BlockDigest_pad_7 (by decide) ?_
  refine lv_isub hx hb d_BlockDigest_pad_8 ?_
  refine lv_bipush (v := 64) hx hb d_BlockDigest_pad_9 (by decide) ?_
  refine lv_idiv hx hb d_BlockDigest_pad_11 (by decide) ?_
  refine lv_bipush (v := 64) hx hb d_BlockDigest_pad_12 (by decide) ?_
  refine lv_imul hx hb d_BlockDigest_pad_14 ?_
  refine k_li hf (fun x1 hf => ?_)
  refine lv_istore_n (lv' := [(3, .int x1), (0, .ref (q 14)), (1, .ref (q 2)), (2, .int a2)]) hx hb d_BlockDigest_pad_15 rfl hl (by decide) rfl (fun ls hl => ?_)
  refine lv_aload_n hx hb d_BlockDigest_pad_16 rfl (lv_at hl 1 rfl) ?_
  refine va_get (D := D) (ci := 6) (v := .ref (q 15)) (C := "ScriptDesk$Ripemd160") (T := T_Ripemd160) (N := 7) hx hb hts iw_Ripemd160 hown hK hI.1 14 rfl rfl 0 (by decide) (hts _ tw_97) (fun _ h9 => h9) rfl d_BlockDigest_pad_17 ?_
  refine lv_iconst (v := 0) hx hb d_BlockDigest_pad_20 (by decide) ?_
  obtain ⟨m2, hq, hf⟩ := sd_bv_e hf
  refine k_callSv (As := [.ref (q 15), .int (0 : Int32)]) (rest := []) ZX_ok X hI (mt_Arrays_fill_r15 l hq) (va_cwS 2 hts (gd_S tw_384 tw_385 tw_14 tw_386) rfl rfl rfl (by decide +kernel) ⟨Nat.le_of_ble_eq_true rfl, Nat.le_of_ble_eq_true rfl⟩) rfl hl.1 rfl (Nat.le_of_ble_eq_true rfl) d_BlockDigest_pad_21 ⟨Nat.zero_le _, Nat.zero_le _⟩ (fun H locs hI => ?_)
  refine lv_iconst (v := 0) hx hb d_BlockDigest_pad_24 (by decide) ?_
  refine lv_istore (lv' := [(4, .int (0 : Int32)), (3, .int x1), (0, .ref (q 14)), (1, .ref (q 2)), (2, .int a2)]) hx hb d_BlockDigest_pad_25 hl (by decide) rfl (fun ls hl => ?_)
  refine lp_BlockDigest_pad_r14_r2_L27 l X ?_ 10000 (a2) (x1) ((0 : Int32)) m2 _ _ _ hI (lv_sub hl [2, 3, 4, 1, 0] rfl) hf
  · intro x6 x7 m8 H locs ls hI hl hf
    refine lv_aload_n hx hb d_BlockDigest_pad_53 rfl (lv_at hl 0 rfl) ?_
    refine va_get (D := D) (ci := 6) (v := .ref (q 15)) (C := "ScriptDesk$Ripemd160") (T := T_Ripemd160) (N := 7) hx hb hts iw_Ripemd160 hown hK hI.1 14 rfl rfl 0 (by decide) (hts _ tw_97) (fun _ h9 => h9) rfl d_BlockDigest_pad_54 ?_
    refine lv_iload_n hx hb d_BlockDigest_pad_57 rfl (lv_at hl 1 rfl) ?_
    refine lv_sipush (v := 128) hx hb d_BlockDigest_pad_58 (by decide) ?_
    obtain ⟨hg, hf⟩ := sd_gd_e hf
    refine k_iast (μ' := sd_st m8 15 (Int32.toNatClampNeg x6) (128 : Int32)) hx hb hK hI 15 0 rfl rfl rfl hg d_BlockDigest_pad_61 (fun H locs hI => ?_)
    obtain ⟨m9, hI, hf⟩ := k_lm hf hI
    refine lv_aload_n hx hb d_BlockDigest_pad_62 rfl (lv_at hl 0 rfl) ?_
    refine lv_bipush (v := 8) hx hb d_BlockDigest_pad_63 (by decide) ?_
    refine lv_iload_n hx hb d_BlockDigest_pad_65 rfl (lv_at hl 1 rfl) ?_
    refine lv_imul hx hb d_BlockDigest_pad_66 ?_
    refine lv_aload_n hx hb d_BlockDigest_pad_67 rfl (lv_at hl 0 rfl) ?_
    refine va_get (D := D) (ci := 6) (v := .ref (q 15)) (C := "ScriptDesk$Ripemd160") (T := T_Ripemd160) (N := 7) hx hb hts iw_Ripemd160 hown hK hI.1 14 rfl rfl 0 (by decide) (hts _ tw_97) (fun _ h9 => h9) rfl d_BlockDigest_pad_68 ?_
    refine lv_aload_n hx hb d_BlockDigest_pad_71 rfl (lv_at hl 0 rfl) ?_
    refine va_get (D := D) (ci := 6) (v := .int (m9.1 14 2)) (C := "ScriptDesk$Ripemd160") (T := T_Ripemd160) (N := 7) hx hb hts iw_Ripemd160 hown hK hI.1 14 rfl rfl 2 (by decide) (hts _ tw_99) (fun _ h9 => h9) rfl d_BlockDigest_pad_72 ?_
    refine lv_if_eq (tgt := 84) hx hb d_BlockDigest_pad_75 (by decide) (fun hc => ?_) (fun hc => ?_)
    · have hf := sd_t hf hc
      refine lv_iload_n hx hb d_BlockDigest_pad_84 rfl (lv_at hl 2 rfl) ?_
      refine lv_bipush (v := 8) hx hb d_BlockDigest_pad_85 (by decide) ?_
      refine lv_isub hx hb d_BlockDigest_pad_87 ?_
      obtain ⟨m10, hq, hf⟩ := sd_bv_e hf
      refine k_callUv (As := [.int ((8 : Int32) * x6), .ref (q 15), .int (x7 - (8 : Int32))]) (rest := []) (C := "ScriptDesk$Ripemd160") (ci := 6) ZX_ok X hI (mt_BlockDigest_write_r14_r15 l hq) (va_cwU 3 hts (gd_U tw_388 tw_798 sp_1 tw_390 tw_6 tw_391) rfl rfl rfl rfl (by decide +kernel) ⟨Nat.le_of_ble_eq_true rfl, Nat.le_of_ble_eq_true rfl⟩) 14 rfl rfl rfl hl.1 rfl (Nat.le_of_ble_eq_true rfl) d_BlockDigest_pad_88 ⟨Nat.zero_le _, Nat.zero_le _⟩ (fun H locs hI => ?_)
      refine lv_iload_n hx hb d_BlockDigest_pad_91 rfl (lv_at hl 2 rfl) ?_
      exact k_reti X hI (vp_nar_int _) hf d_BlockDigest_pad_92
    · have hf := sd_f hf hc
      refine lv_iload_n hx hb d_BlockDigest_pad_78 rfl (lv_at hl 2 rfl) ?_
      refine lv_iconst (v := 4) hx hb d_BlockDigest_pad_79 (by decide) ?_
      refine lv_isub hx hb d_BlockDigest_pad_80 ?_
      refine lv_goto (tgt := 88) hx hb d_BlockDigest_pad_81 (by decide) ?_
      obtain ⟨m11, hq, hf⟩ := sd_bv_e hf
      refine k_callUv (As := [.int ((8 : Int32) * x6), .ref (q 15), .int (x7 - (4 : Int32))]) (rest := []) (C := "ScriptDesk$Ripemd160") (ci := 6) ZX_ok X hI (mt_BlockDigest_write_r14_r15 l hq) (va_cwU 3 hts (gd_U tw_388 tw_798 sp_1 tw_390 tw_6 tw_391) rfl rfl rfl rfl (by decide +kernel) ⟨Nat.le_of_ble_eq_true rfl, Nat.le_of_ble_eq_true rfl⟩) 14 rfl rfl rfl hl.1 rfl (Nat.le_of_ble_eq_true rfl) d_BlockDigest_pad_88 ⟨Nat.zero_le _, Nat.zero_le _⟩ (fun H locs hI => ?_)
      refine lv_iload_n hx hb d_BlockDigest_pad_91 rfl (lv_at hl 2 rfl) ?_
      exact k_reti X hI (vp_nar_int _) hf d_BlockDigest_pad_92
set_option maxHeartbeats 4000000 in
set_option maxRecDepth 100000 in
theorem mt_Ripemd160_begin_r14 (l : Launch) {D : va_G} {q tq : Nat → Nat} {cA : ClassId} {μ : sd_Me} {ru : sd_Me} (hf : fn_Ripemd160_begin_r14 μ = some ru) : sd_CTv l y_Ripemd160_begin w_Ripemd160_begin ({ frames := 1, cells := 0, slots := 0, locals := 35 }) vwCl (wdX q cA) D [(cA, .int)] (ZX tq) [.ref (q 14)] μ ru := by
  refine k_entv (cc := prog_7_method_2_code) 1 (by decide) rfl (Nat.le_of_ble_eq_true rfl) ?_
  intro p e s m below meth c A ls X hI hl
  have hl : lv_has ls 1 [(0, .ref (q 14))] := hl
  obtain ⟨hx, hb, hml, hown, hts, hK, hZ, hA, hr, hlocks⟩ := id X
  unfold fn_Ripemd160_begin_r14 at hf
  refine va_gets hx hb (hZX_Z0 hZ) hI.2.2 hown (hts _ tw_402) (fun _ h9 => h9) d_Ripemd160_begin_0 ?_
  refine lv_iconst (v := 0) hx hb d_Ripemd160_begin_3 (by decide) ?_
  refine lv_aload_n hx hb d_Ripemd160_begin_4 rfl (lv_at hl 0 rfl) ?_
  refine va_get (D := D) (ci := 6) (v := .ref (q 18)) (C := "ScriptDesk$Ripemd160") (T := T_Ripemd160) (N := 7) hx hb hts iw_Ripemd160 hown hK hI.1 14 rfl rfl 4 (by decide) (hts _ tw_106) (fun z h9 => u_same (hts _ tw_107) z h9) rfl d_Ripemd160_begin_5 ?_
  refine lv_iconst (v := 0) hx hb d_Ripemd160_begin_8 (by decide) ?_
  refine lv_iconst (v := 5) hx hb d_Ripemd160_begin_9 (by decide) ?_
  obtain ⟨hg, hf⟩ := sd_gd_e hf
  refine k_copyt (μ' := sd_mrow μ 18 (va_cpy tabX0 (μ.1 18) (Int32.toNatClampNeg (0 : Int32)) (Int32.toNatClampNeg (0 : Int32)) (Int32.toNatClampNeg (5 : Int32)))) hx hb (hml.trans hl.1.symm) hown (hts _ tw_404) (hts _ tw_205) (hts _ tw_204) (hts _ tw_10) hK hI (hZX_T0 hZ) 18 0 rfl rfl rfl hg (Nat.le_of_ble_eq_true rfl) (Nat.le_of_ble_eq_true rfl) d_Ripemd160_begin_10 (fun H locs hI => ?_)
  obtain ⟨m1, hI, hf⟩ := k_lm hf hI
  exact k_retv X hI hf d_Ripemd160_begin_13
