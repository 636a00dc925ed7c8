set_option maxHeartbeats 4000000 in
set_option maxRecDepth 100000 in
theorem lp_Model_several_r0_L139 (l : Launch) {p : Program} {e : Env} {s : State} {m : MethodId} {args : Array Value} {below : List Frame} {meth : Method} {c : Code} {A : Nat → Prop} {D : va_G} {q tq : Nat → Nat} {cA : ClassId} {ru : sd_Me} (X : sd_Cx p s m args meth c prog_12_method_23_code "ScriptDeskModel" sx_tbl 6 none vwCl D [(cA, .int)] (ZM tq) A) {k199 : Int32 → Int32 → Int32 → Int32 → sd_Me → Option (sd_Me)} (hk199 : ∀ (v1 : Int32) (v2 : Int32) (v3 : Int32) (v5 : Int32) (μ : sd_Me) (H : Heap) (locs : List Loc) (ls : Array Slot), sd_CI vwCl (wdM q cA) D A s H locs μ → lv_has ls 6 [(0, .ref (q 0)), (1, .int v1), (2, .int v2), (3, .int v3), (5, .int v5)] → k199 v1 v2 v3 v5 μ = some ru → W p l e ({ frames := 3, cells := 0, slots := 0, locals := 66 }) s m args below meth c H locs 0 0 (sd_QV below vwCl (wdM q cA) D [(cA, .int)] A args s ru) (F0 m 199 ls [])) :
    ∀ (n : Nat) (v1 : Int32) (v2 : Int32) (v3 : Int32) (v4 : Int32) (v5 : Int32) (μ : sd_Me) (H : Heap) (locs : List Loc) (ls : Array Slot), sd_CI vwCl (wdM q cA) D A s H locs μ → lv_has ls 6 [(0, .ref (q 0)), (1, .int v1), (2, .int v2), (3, .int v3), (4, .int v4), (5, .int v5)] → fn_Model_several_r0_L139 k199 n v1 v2 v3 v4 v5 μ = some ru → W p l e ({ frames := 3, cells := 0, slots := 0, locals := 66 }) s m args below meth c H locs 0 0 (sd_QV below vwCl (wdM q cA) D [(cA, .int)] A args s ru) (F0 m 139 ls []) := by
  obtain ⟨hx, hb, hml, hown, hts, hK, hZ, hA, hr, hlocks⟩ := id X
  intro n
  induction n with
  | zero =>
    intro v1 v2 v3 v4 v5 μ H locs ls hI hl hf
    cases hf
  | succ n ih =>
    intro v1 v2 v3 v4 v5 μ H locs ls hI hl hf
    rw [fn_Model_several_r0_L139] at hf
    refine lv_iload hx hb d_Model_several_139 (lv_at hl 5 rfl) ?_
    refine lv_if_le (tgt := 199) hx hb d_Model_several_141 (by decide) (fun hc => ?_) (fun hc => ?_)
    · have hf := sd_t hf hc
      exact hk199 (v1) (v2) (v3) (v5) μ _ _ _ hI (lv_sub hl [0, 1, 2, 3, 5] rfl) hf
    · have hf := sd_f hf hc
      refine lv_iload hx hb d_Model_several_144 (lv_at hl 5 rfl) ?_
      refine lv_iload hx hb d_Model_several_146 (lv_at hl 4 rfl) ?_
      refine lv_icmp_gt (tgt := 199) hx hb d_Model_several_148 (by decide) (fun hc => ?_) (fun hc => ?_)
      · have hf := sd_t hf hc
        exact hk199 (v1) (v2) (v3) (v5) μ _ _ _ hI (lv_sub hl [0, 1, 2, 3, 5] rfl) hf
      · have hf := sd_f hf hc
        refine lv_aload_n hx hb d_Model_several_151 rfl (lv_at hl 0 rfl) ?_
        refine lv_aload_n hx hb d_Model_several_152 rfl (lv_at hl 0 rfl) ?_
        refine lv_iload_n hx hb d_Model_several_153 rfl (lv_at hl 2 rfl) ?_
        refine lv_iconst (v := 1) hx hb d_Model_several_154 (by decide) ?_
        refine lv_iadd hx hb d_Model_several_155 ?_
        refine lv_iload_n hx hb d_Model_several_156 rfl (lv_at hl 3 rfl) ?_
        refine lv_iadd hx hb d_Model_several_157 ?_
        refine lv_iload hx hb d_Model_several_158 (lv_at hl 5 rfl) ?_
        refine lv_isub hx hb d_Model_several_160 ?_
        refine lv_iconst (v := 1) hx hb d_Model_several_161 (by decide) ?_
        refine lv_iadd hx hb d_Model_several_162 ?_
        obtain ⟨x15, m14, hq, hf⟩ := sd_bi_e hf
        refine k_callV (As := [.int ((((v2 + (1 : Int32)) + v3) - v5) + (1 : Int32))]) (rest := [.ref (q 0)]) (C := "ScriptDeskModel") (ci := 7) ZM_ok X hI (mt_Model_top_r0 l hq) (cwV 1 hts (gd_V tw_657 tw_659 ts_28 tw_9 tw_660) rfl rfl rfl (by decide +kernel) ⟨Nat.le_of_ble_eq_true rfl, Nat.le_of_ble_eq_true rfl⟩) 0 rfl rfl rfl hl.1 rfl (Nat.le_of_ble_eq_true rfl) d_Model_several_163 ⟨Nat.zero_le _, Nat.zero_le _⟩ (fun H locs hn_x15 hI => ?_)
        refine lv_aload_n hx hb d_Model_several_166 rfl (lv_at hl 0 rfl) ?_
        refine lv_iload_n hx hb d_Model_several_167 rfl (lv_at hl 2 rfl) ?_
        refine lv_iload hx hb d_Model_several_168 (lv_at hl 4 rfl) ?_
        refine lv_isub hx hb d_Model_several_170 ?_
        refine lv_iconst (v := 1) hx hb d_Model_several_171 (by decide) ?_
        refine lv_iadd hx hb d_Model_several_172 ?_
        obtain ⟨x17, m16, hq, hf⟩ := sd_bi_e hf
        refine k_callV (As := [.int ((v2 - v4) + (1 : Int32))]) (rest := [.int x15, .ref (q 0)]) (C := "ScriptDeskModel") (ci := 7) ZM_ok X hI (mt_Model_top_r0 l hq) (cwV 1 hts (gd_V tw_657 tw_659 ts_28 tw_9 tw_660) rfl rfl rfl (by decide +kernel) ⟨Nat.le_of_ble_eq_true rfl, Nat.le_of_ble_eq_true rfl⟩) 0 rfl rfl rfl hl.1 rfl (Nat.le_of_ble_eq_true rfl) d_Model_several_173 ⟨Nat.zero_le _, Nat.zero_le _⟩ (fun H locs hn_x17 hI => ?_)
        obtain ⟨x19, m18, hq, hf⟩ := sd_bi_e hf
        refine k_callV (As := [.int x15, .int x17]) (rest := []) (C := "ScriptDeskModel") (ci := 7) ZM_ok X hI (mt_Model_fit_r0 l hq) (cwV 2 hts (gd_V tw_758 tw_760 ts_44 tw_9 tw_761) rfl rfl rfl (by decide +kernel) ⟨Nat.le_of_ble_eq_true rfl, Nat.le_of_ble_eq_true rfl⟩) 0 rfl rfl rfl hl.1 rfl (Nat.le_of_ble_eq_true rfl) d_Model_several_176 ⟨Nat.zero_le _, Nat.zero_le _⟩ (fun H locs hn_x19 hI => ?_)
        refine lv_if_eq (tgt := 189) hx hb d_Model_several_179 (by decide) (fun hc => ?_) (fun hc => ?_)
        · have hf := sd_t hf hc
          refine lv_iload hx hb d_Model_several_189 (lv_at hl 5 rfl) ?_
          refine lv_istore (lv' := [(5, .int v5), (0, .ref (q 0)), (1, .int v1), (2, .int v2), (3, .int v3), (4, .int v4)]) hx hb d_Model_several_191 hl (by decide) rfl (fun ls hl => ?_)
          refine lv_iinc (v := (v4 + (-1 : Int32))) (lv' := [(4, .int (v4 + (-1 : Int32))), (5, .int v5), (0, .ref (q 0)), (1, .int v1), (2, .int v2), (3, .int v3)]) hx hb d_Model_several_193 hl (k := 5) rfl rfl (by decide) rfl (fun ls hl => ?_)
          refine lv_goto (tgt := 139) hx hb d_Model_several_196 (by decide) ?_
          exact ih (v1) (v2) (v3) ((v4 + (-1 : Int32))) (v5) m18 _ _ _ hI (lv_sub hl [2, 3, 4, 5, 0, 1] rfl) hf
        · have hf := sd_f hf hc
          refine lv_iload hx hb d_Model_several_182 (lv_at hl 5 rfl) ?_
          refine lv_iconst (v := 1) hx hb d_Model_several_184 (by decide) ?_
          refine lv_isub hx hb d_Model_several_185 ?_
          refine lv_goto (tgt := 191) hx hb d_Model_several_186 (by decide) ?_
          refine k_li hf (fun x20 hf => ?_)
          refine lv_istore (lv' := [(5, .int x20), (0, .ref (q 0)), (1, .int v1), (2, .int v2), (3, .int v3), (4, .int v4)]) hx hb d_Model_several_191 hl (by decide) rfl (fun ls hl => ?_)
          refine lv_iinc (v := (v4 + (-1 : Int32))) (lv' := [(4, .int (v4 + (-1 : Int32))), (5, .int x20), (0, .ref (q 0)), (1, .int v1), (2, .int v2), (3, .int v3)]) hx hb d_Model_several_193 hl (k := 5) rfl rfl (by decide) rfl (fun ls hl => ?_)
          refine lv_goto (tgt := 139) hx hb d_Model_several_196 (by decide) ?_
          exact ih (v1) (v2) (v3) ((v4 + (-1 : Int32))) (x20) m18 _ _ _ hI (lv_sub hl [2, 3, 4, 5, 0, 1] rfl) hf
set_option maxHeartbeats 4000000 in
set_option maxRecDepth 100000 in
theorem jn_Model_several_r0_J199 (l : Launch) {p : Program} {e : Env} {s : State} {m : MethodId} {args : Array Value} {below : List Frame} {meth : Method} {c : Code} {A : Nat → Prop} {D : va_G} {q tq : Nat → Nat} {cA : ClassId} {ru : sd_Me} (X : sd_Cx p s m args meth c prog_12_method_23_code "ScriptDeskModel" sx_tbl 6 none vwCl D [(cA, .int)] (ZM tq) A) (v1 : Int32) (v2 : Int32) (v3 : Int32) (v5 : Int32) (μ : sd_Me) (H : Heap) (locs : List Loc) (ls : Array Slot) (hI : sd_CI vwCl (wdM q cA) D A s H locs μ) (hl : lv_has ls 6 [(0, .ref (q 0)), (1, .int v1), (2, .int v2), (3, .int v3), (5, .int v5)]) (hf : fn_Model_several_r0_J199 v1 v2 v3 v5 μ = some ru) : W p l e ({ frames := 3, cells := 0, slots := 0, locals := 66 }) s m args below meth c H locs 0 0 (sd_QV below vwCl (wdM q cA) D [(cA, .int)] A args s ru) (F0 m 199 ls []) := by
  obtain ⟨hx, hb, hml, hown, hts, hK, hZ, hA, hr, hlocks⟩ := id X
  unfold fn_Model_several_r0_J199 at hf
  refine lv_aload_n hx hb d_Model_several_199 rfl (lv_at hl 0 rfl) ?_
  refine lv_dup hx hb d_Model_several_200 rfl ?_
  refine va_get (D := D) (ci := 7) (v := .int (μ.1 0 2)) (C := "ScriptDeskModel") (T := T_Model) (N := 18) hx hb hts iw_Model hown hK hI.1 0 rfl rfl 2 (by decide) (hts _ tw_533) (fun _ h9 => h9) rfl d_Model_several_201 ?_
  refine lv_iload_n hx hb d_Model_several_204 rfl (lv_at hl 2 rfl) ?_
  refine lv_iload_n hx hb d_Model_several_205 rfl (lv_at hl 3 rfl) ?_
  refine lv_iadd hx hb d_Model_several_206 ?_
  refine lv_iconst (v := 3) hx hb d_Model_several_207 (by decide) ?_
  refine lv_iadd hx hb d_Model_several_208 ?_
  refine lv_isub hx hb d_Model_several_209 ?_
  refine k_put (ci := 7) (v := .int ((μ.1 0 2) - ((v2 + v3) + (3 : Int32)))) (ty := .int) (C := "ScriptDeskModel") (T := T_Model) (N := 18) (μ' := sd_st μ 0 2 ((μ.1 0 2) - ((v2 + v3) + (3 : Int32)))) hx hb hts iw_Model t_Model t_Model_ok n_Model hown hK hI 0 rfl rfl 2 (by decide) (hts _ tw_533) (fun _ h9 => h9) rfl (by decide +kernel) rfl rfl (Nat.le_of_ble_eq_true rfl) rfl d_Model_several_210 (fun H locs hI => ?_)
  obtain ⟨m26, hI, hf⟩ := k_lm hf hI
  refine lv_aload_n hx hb d_Model_several_213 rfl (lv_at hl 0 rfl) ?_
  refine lv_iload hx hb d_Model_several_214 (lv_at hl 4 rfl) ?_
  refine lv_if_ne (tgt := 223) hx hb d_Model_several_216 (by decide) (fun hc => ?_) (fun hc => ?_)
  · have hf := sd_f hf hc
    refine lv_iconst (v := 0) hx hb d_Model_several_223 (by decide) ?_
    obtain ⟨m27, hq, hf⟩ := sd_bv_e hf
    refine k_callVv (As := [.int (0 : Int32)]) (rest := []) (C := "ScriptDeskModel") (ci := 7) ZM_ok X hI (mt_Model_pushTruth_r0 l hq) (cwV 1 hts (gd_V tw_681 tw_683 ts_34 tw_9 tw_684) rfl rfl rfl (by decide +kernel) ⟨Nat.le_of_ble_eq_true rfl, Nat.le_of_ble_eq_true rfl⟩) 0 rfl rfl rfl hl.1 rfl (Nat.le_of_ble_eq_true rfl) d_Model_several_224 ⟨Nat.zero_le _, Nat.zero_le _⟩ (fun H locs hI => ?_)
    refine lv_iload_n hx hb d_Model_several_227 rfl (lv_at hl 1 rfl) ?_
    refine lv_if_eq (tgt := 235) hx hb d_Model_several_228 (by decide) (fun hc => ?_) (fun hc => ?_)
    · have hf := sd_t hf hc
      exact k_retv X hI hf d_Model_several_235
    · have hf := sd_f hf hc
      refine lv_aload_n hx hb d_Model_several_231 rfl (lv_at hl 0 rfl) ?_
      obtain ⟨m28, hq, hf⟩ := sd_bv_e hf
      refine k_callVv (As := []) (rest := []) (C := "ScriptDeskModel") (ci := 7) ZM_ok X hI (mt_Model_mustBeTrue_r0 l hq) (cwV 0 hts (gd_V tw_685 tw_687 ts_35 tw_9 tw_688) rfl rfl rfl (by decide +kernel) ⟨Nat.le_of_ble_eq_true rfl, Nat.le_of_ble_eq_true rfl⟩) 0 rfl rfl rfl hl.1 rfl (Nat.le_of_ble_eq_true rfl) d_Model_several_232 ⟨Nat.zero_le _, Nat.zero_le _⟩ (fun H locs hI => ?_)
      exact k_retv X hI hf d_Model_several_235
  · have hf := sd_t hf hc
    refine lv_iconst (v := 1) hx hb d_Model_several_219 (by decide) ?_
    refine lv_goto (tgt := 224) hx hb d_Model_several_220 (by decide) ?_
    obtain ⟨m29, hq, hf⟩ := sd_bv_e hf
    refine k_callVv (As := [.int (1 : Int32)]) (rest := []) (C := "ScriptDeskModel") (ci := 7) ZM_ok X hI (mt_Model_pushTruth_r0 l hq) (cwV 1 hts (gd_V tw_681 tw_683 ts_34 tw_9 tw_684) rfl rfl rfl (by decide +kernel) ⟨Nat.le_of_ble_eq_true rfl, Nat.le_of_ble_eq_true rfl⟩) 0 rfl rfl rfl hl.1 rfl (Nat.le_of_ble_eq_true rfl) d_Model_several_224 ⟨Nat.zero_le _, Nat.zero_le _⟩ (fun H locs hI => ?_)
    refine lv_iload_n hx hb d_Model_several_227 rfl (lv_at hl 1 rfl) ?_
    refine lv_if_eq (tgt := 235) hx hb d_Model_several_228 (by decide) (fun hc => ?_) (fun hc => ?_)
    · have hf := sd_t hf hc
      exact k_retv X hI hf d_Model_several_235
    · have hf := sd_f hf hc
      refine lv_aload_n hx hb d_Model_several_231 rfl (lv_at hl 0 rfl) ?_
      obtain ⟨m30, hq, hf⟩ := sd_bv_e hf
      refine k_callVv (As := []) (rest := []) (C := "ScriptDeskModel") (ci := 7) ZM_ok X hI (mt_Model_mustBeTrue_r0 l hq) (cwV 0 hts (gd_V tw_685 tw_687 ts_35 tw_9 tw_688) rfl rfl rfl (by decide +kernel) ⟨Nat.le_of_ble_eq_true rfl, Nat.le_of_ble_eq_true rfl⟩) 0 rfl rfl rfl hl.1 rfl (Nat.le_of_ble_eq_true rfl) d_Model_several_232 ⟨Nat.zero_le _, Nat.zero_le _⟩ (fun H locs hI => ?_)
      exact k_retv X hI hf d_Model_several_235
set_option maxHeartbeats 4000000 in
set_option maxRecDepth 100000 in
theorem mt_Model_several_r0 (l : Launch) {D : va_G} {q tq : Nat → Nat} {cA : ClassId} {a1 : Int32} {μ : sd_Me} {ru : sd_Me} (hf : fn_Model_several_r0 a1 μ = some ru) : sd_CTv l y_Model_several w_Model_several ({ frames := 3, cells := 0, slots := 0, locals := 66 }) vwCl (wdM q cA) D [(cA, .int)] (ZM tq) [.ref (q 0), .int a1] μ ru := by
  refine k_entv (cc := prog_12_method_23_code) 6 (by decide) rfl (Nat.le_of_ble_eq_true rfl) ?_
  intro p e s m below meth c A ls X hI hl
  have hl : lv_has ls 6 [(0, .ref (q 0)), (1, .int a1)] := hl
  obtain ⟨hx, hb, hml, hown, hts, hK, hZ, hA, hr, hlocks⟩ := id X
  unfold fn_Model_several_r0 at hf
  refine lv_aload_n hx hb d_Model_several_0 rfl (lv_at hl 0 rfl) ?_
  refine lv_iconst (v := 0) hx hb d_Model_several_1 (by decide) ?_
  obtain ⟨x2, m1, hq, hf⟩ := sd_bi_e hf
  refine k_callV (As := [.int (0 : Int32)]) (rest := []) (C := "ScriptDeskModel") (ci := 7) ZM_ok X hI (mt_Model_reads_r0 l hq) (cwV 1 hts (gd_V tw_669 tw_671 ts_31 tw_9 tw_672) rfl rfl rfl (by decide +kernel) ⟨Nat.le_of_ble_eq_true rfl, Nat.le_of_ble_eq_true rfl⟩) 0 rfl rfl rfl hl.1 rfl (Nat.le_of_ble_eq_true rfl) d_Model_several_2 ⟨Nat.zero_le _, Nat.zero_le _⟩ (fun H locs hn_x2 hI => ?_)
  refine lv_if_ne (tgt := 9) hx hb d_Model_several_5 (by decide) (fun hc => ?_) (fun hc => ?_)
  · have hf := sd_f hf hc
    refine lv_aload_n hx hb d_Model_several_9 rfl (lv_at hl 0 rfl) ?_
    refine va_get (D := D) (ci := 7) (v := .long (m1.2 1)) (C := "ScriptDeskModel") (T := T_Model) (N := 18) hx hb hts iw_Model hown hK hI.1 0 rfl rfl 13 (by decide) (hts _ tw_544) (fun _ h9 => h9) rfl d_Model_several_10 ?_
    refine lv_lconst (v := 0) hx hb d_Model_several_13 (by decide) ?_
    refine W.lcmp hx hb d_Model_several_14 ?_
    refine lv_if_lt (tgt := 29) hx hb d_Model_several_15 (by decide) (fun hc => ?_) (fun hc => ?_)
    · have hf := sd_t hf hc
      refine lv_aload_n hx hb d_Model_several_29 rfl (lv_at hl 0 rfl) ?_
      refine lv_bipush (v := 7) hx hb d_Model_several_30 (by decide) ?_
      obtain ⟨m3, hq, hf⟩ := sd_bv_e hf
      refine k_callVv (As := [.int (7 : Int32)]) (rest := []) (C := "ScriptDeskModel") (ci := 7) ZM_ok X hI (mt_Model_fails_r0 l hq) (cwV 1 hts (gd_V tw_607 tw_609 ts_16 tw_9 tw_610) rfl rfl rfl (by decide +kernel) ⟨Nat.le_of_ble_eq_true rfl, Nat.le_of_ble_eq_true rfl⟩) 0 rfl rfl rfl hl.1 rfl (Nat.le_of_ble_eq_true rfl) d_Model_several_32 ⟨Nat.zero_le _, Nat.zero_le _⟩ (fun H locs hI => ?_)
      exact k_retv X hI hf d_Model_several_35
    · have hf := sd_f hf hc
      refine lv_aload_n hx hb d_Model_several_18 rfl (lv_at hl 0 rfl) ?_
      refine va_get (D := D) (ci := 7) (v := .long (m1.2 1)) (C := "ScriptDeskModel") (T := T_Model) (N := 18) hx hb hts iw_Model hown hK hI.1 0 rfl rfl 13 (by decide) (hts _ tw_544) (fun _ h9 => h9) rfl d_Model_several_19 ?_
      refine lv_ldc2 (v := 8) hx hb hown (hts _ tw_767) d_Model_several_22 ?_
      refine W.lcmp hx hb d_Model_several_25 ?_
      refine lv_if_le (tgt := 36) hx hb d_Model_several_26 (by decide) (fun hc => ?_) (fun hc => ?_)
      · have hf := sd_t hf hc
        refine lv_aload_n hx hb d_Model_several_36 rfl (lv_at hl 0 rfl) ?_
        refine va_get (D := D) (ci := 7) (v := .long (m1.2 1)) (C := "ScriptDeskModel") (T := T_Model) (N := 18) hx hb hts iw_Model hown hK hI.1 0 rfl rfl 13 (by decide) (hts _ tw_544) (fun _ h9 => h9) rfl d_Model_several_37 ?_
        refine lv_l2i (v := (Int64.toInt32 (m1.2 1))) hx hb d_Model_several_40 rfl ?_
        refine k_li hf (fun x4 hf => ?_)
        refine lv_istore_n (lv' := [(2, .int x4), (0, .ref (q 0)), (1, .int a1)]) hx hb d_Model_several_41 rfl hl (by decide) rfl (fun ls hl => ?_)
        refine lv_aload_n hx hb d_Model_several_42 rfl (lv_at hl 1 rfl) ?_
        refine lv_dup hx hb d_Model_several_43 rfl ?_
        refine va_get (D := D) (ci := 7) (v := .int (m1.1 0 9)) (C := "ScriptDeskModel") (T := T_Model) (N := 18) hx hb hts iw_Model hown hK hI.1 0 rfl rfl 9 (by decide) (hts _ tw_540) (fun _ h9 => h9) rfl d_Model_several_44 ?_
        refine lv_iload_n hx hb d_Model_several_47 rfl (lv_at hl 0 rfl) ?_
        refine lv_iadd hx hb d_Model_several_48 ?_
        refine k_put (ci := 7) (v := .int ((m1.1 0 9) + x4)) (ty := .int) (C := "ScriptDeskModel") (T := T_Model) (N := 18) (μ' := sd_st m1 0 9 ((m1.1 0 9) + x4)) hx hb hts iw_Model t_Model t_Model_ok n_Model hown hK hI 0 rfl rfl 9 (by decide) (hts _ tw_540) (fun _ h9 => h9) rfl (by decide +kernel) rfl rfl (Nat.le_of_ble_eq_true rfl) rfl d_Model_several_49 (fun H locs hI => ?_)
        obtain ⟨m5, hI, hf⟩ := k_lm hf hI
        refine lv_aload_n hx hb d_Model_several_52 rfl (lv_at hl 1 rfl) ?_
        refine va_get (D := D) (ci := 7) (v := .int (m5.1 0 9)) (C := "ScriptDeskModel") (T := T_Model) (N := 18) hx hb hts iw_Model hown hK hI.1 0 rfl rfl 9 (by decide) (hts _ tw_540) (fun _ h9 => h9) rfl d_Model_several_53 ?_
        refine lv_bipush (v := 100) hx hb d_Model_several_56 (by decide) ?_
        refine lv_icmp_le (tgt := 67) hx hb d_Model_several_58 (by decide) (fun hc => ?_) (fun hc => ?_)
        · have hf := sd_t hf hc
          refine lv_aload_n hx hb d_Model_several_67 rfl (lv_at hl 1 rfl) ?_
          refine lv_iload_n hx hb d_Model_several_68 rfl (lv_at hl 0 rfl) ?_
          refine lv_iconst (v := 1) hx hb d_Model_several_69 (by decide) ?_
          refine lv_iadd hx hb d_Model_several_70 ?_
          obtain ⟨x7, m6, hq, hf⟩ := sd_bi_e hf
          refine k_callV (As := [.int (x4 + (1 : Int32))]) (rest := []) (C := "ScriptDeskModel") (ci := 7) ZM_ok X hI (mt_Model_has_r0 l hq) (cwV 1 hts (gd_V tw_619 tw_621 ts_19 tw_9 tw_622) rfl rfl rfl (by decide +kernel) ⟨Nat.le_of_ble_eq_true rfl, Nat.le_of_ble_eq_true rfl⟩) 0 rfl rfl rfl hl.1 rfl (Nat.le_of_ble_eq_true rfl) d_Model_several_71 ⟨Nat.zero_le _, Nat.zero_le _⟩ (fun H locs hn_x7 hI => ?_)
          refine lv_if_eq (tgt := 87) hx hb d_Model_several_74 (by decide) (fun hc => ?_) (fun hc => ?_)
          · have hf := sd_t hf hc
            exact k_retv X hI hf d_Model_several_87
          · have hf := sd_f hf hc
            refine lv_aload_n hx hb d_Model_several_77 rfl (lv_at hl 1 rfl) ?_
            refine lv_iload_n hx hb d_Model_several_78 rfl (lv_at hl 0 rfl) ?_
            refine lv_iconst (v := 1) hx hb d_Model_several_79 (by decide) ?_
            refine lv_iadd hx hb d_Model_several_80 ?_
            obtain ⟨x9, m8, hq, hf⟩ := sd_bi_e hf
            refine k_callV (As := [.int (x4 + (1 : Int32))]) (rest := []) (C := "ScriptDeskModel") (ci := 7) ZM_ok X hI (mt_Model_reads_r0 l hq) (cwV 1 hts (gd_V tw_669 tw_671 ts_31 tw_9 tw_672) rfl rfl rfl (by decide +kernel) ⟨Nat.le_of_ble_eq_true rfl, Nat.le_of_ble_eq_true rfl⟩) 0 rfl rfl rfl hl.1 rfl (Nat.le_of_ble_eq_true rfl) d_Model_several_81 ⟨Nat.zero_le _, Nat.zero_le _⟩ (fun H locs hn_x9 hI => ?_)
            refine lv_if_ne (tgt := 88) hx hb d_Model_several_84 (by decide) (fun hc => ?_) (fun hc => ?_)
            · have hf := sd_f hf hc
              refine lv_aload_n hx hb d_Model_several_88 rfl (lv_at hl 1 rfl) ?_
              refine va_get (D := D) (ci := 7) (v := .long (m8.2 1)) (C := "ScriptDeskModel") (T := T_Model) (N := 18) hx hb hts iw_Model hown hK hI.1 0 rfl rfl 13 (by decide) (hts _ tw_544) (fun _ h9 => h9) rfl d_Model_several_89 ?_
              refine lv_lconst (v := 0) hx hb d_Model_several_92 (by decide) ?_
              refine W.lcmp hx hb d_Model_several_93 ?_
              refine lv_if_lt (tgt := 107) hx hb d_Model_several_94 (by decide) (fun hc => ?_) (fun hc => ?_)
              · have hf := sd_t hf hc
                refine lv_aload_n hx hb d_Model_several_107 rfl (lv_at hl 1 rfl) ?_
                refine lv_bipush (v := 7) hx hb d_Model_several_108 (by decide) ?_
                obtain ⟨m10, hq, hf⟩ := sd_bv_e hf
                refine k_callVv (As := [.int (7 : Int32)]) (rest := []) (C := "ScriptDeskModel") (ci := 7) ZM_ok X hI (mt_Model_fails_r0 l hq) (cwV 1 hts (gd_V tw_607 tw_609 ts_16 tw_9 tw_610) rfl rfl rfl (by decide +kernel) ⟨Nat.le_of_ble_eq_true rfl, Nat.le_of_ble_eq_true rfl⟩) 0 rfl rfl rfl hl.1 rfl (Nat.le_of_ble_eq_true rfl) d_Model_several_110 ⟨Nat.zero_le _, Nat.zero_le _⟩ (fun H locs hI => ?_)
                exact k_retv X hI hf d_Model_several_113
              · have hf := sd_f hf hc
                refine lv_aload_n hx hb d_Model_several_97 rfl (lv_at hl 1 rfl) ?_
                refine va_get (D := D) (ci := 7) (v := .long (m8.2 1)) (C := "ScriptDeskModel") (T := T_Model) (N := 18) hx hb hts iw_Model hown hK hI.1 0 rfl rfl 13 (by decide) (hts _ tw_544) (fun _ h9 => h9) rfl d_Model_several_98 ?_
                refine lv_iload_n hx hb d_Model_several_101 rfl (lv_at hl 0 rfl) ?_
                refine lv_i2l (v := (Int32.toInt64 x4)) hx hb d_Model_several_102 rfl ?_
                refine W.lcmp hx hb d_Model_several_103 ?_
                refine lv_if_le (tgt := 114) hx hb d_Model_several_104 (by decide) (fun hc => ?_) (fun hc => ?_)
                · have hf := sd_t hf hc
                  refine lv_aload_n hx hb d_Model_several_114 rfl (lv_at hl 1 rfl) ?_
                  refine va_get (D := D) (ci := 7) (v := .long (m8.2 1)) (C := "ScriptDeskModel") (T := T_Model) (N := 18) hx hb hts iw_Model hown hK hI.1 0 rfl rfl 13 (by decide) (hts _ tw_544) (fun _ h9 => h9) rfl d_Model_several_115 ?_
                  refine lv_l2i (v := (Int64.toInt32 (m8.2 1))) hx hb d_Model_several_118 rfl ?_
                  refine k_li hf (fun x11 hf => ?_)
                  refine lv_istore_n (lv' := [(3, .int x11), (2, .int x4), (0, .ref (q 0)), (1, .int a1)]) hx hb d_Model_several_119 rfl hl (by decide) rfl (fun ls hl => ?_)
                  refine lv_aload_n hx hb d_Model_several_120 rfl (lv_at hl 2 rfl) ?_
                  refine lv_iload_n hx hb d_Model_several_121 rfl (lv_at hl 1 rfl) ?_
                  refine lv_iload_n hx hb d_Model_several_122 rfl (lv_at hl 0 rfl) ?_
                  refine lv_iadd hx hb d_Model_several_123 ?_
                  refine lv_iconst (v := 3) hx hb d_Model_several_124 (by decide) ?_
                  refine lv_iadd hx hb d_Model_several_125 ?_
                  obtain ⟨x13, m12, hq, hf⟩ := sd_bi_e hf
                  refine k_callV (As := [.int ((x4 + x11) + (3 : Int32))]) (rest := []) (C := "ScriptDeskModel") (ci := 7) ZM_ok X hI (mt_Model_has_r0 l hq) (cwV 1 hts (gd_V tw_619 tw_621 ts_19 tw_9 tw_622) rfl rfl rfl (by decide +kernel) ⟨Nat.le_of_ble_eq_true rfl, Nat.le_of_ble_eq_true rfl⟩) 0 rfl rfl rfl hl.1 rfl (Nat.le_of_ble_eq_true rfl) d_Model_several_126 ⟨Nat.zero_le _, Nat.zero_le _⟩ (fun H locs hn_x13 hI => ?_)
                  refine lv_if_ne (tgt := 133) hx hb d_Model_several_129 (by decide) (fun hc => ?_) (fun hc => ?_)
                  · have hf := sd_f hf hc
                    refine lv_iload_n hx hb d_Model_several_133 rfl (lv_at hl 1 rfl) ?_
                    refine lv_istore (lv' := [(4, .int x4), (3, .int x11), (2, .int x4), (0, .ref (q 0)), (1, .int a1)]) hx hb d_Model_several_134 hl (by decide) rfl (fun ls hl => ?_)
                    refine lv_iload_n hx hb d_Model_several_136 rfl (lv_at hl 1 rfl) ?_
                    refine lv_istore (lv' := [(5, .int x11), (4, .int x4), (3, .int x11), (2, .int x4), (0, .ref (q 0)), (1, .int a1)]) hx hb d_Model_several_137 hl (by decide) rfl (fun ls hl => ?_)
                    refine lp_Model_several_r0_L139 l X ?_ 10000 (a1) (x4) (x11) (x4) (x11) m12 _ _ _ hI (lv_sub hl [4, 5, 3, 2, 1, 0] rfl) hf
                    · intro x21 x22 x23 x24 m25 H locs ls hI hl hf
                      exact jn_Model_several_r0_J199 l X (x21) (x22) (x23) (x24) m25 _ _ _ hI (lv_sub hl [0, 1, 2, 3, 4] rfl) hf
                  · have hf := sd_t hf hc
                    exact k_retv X hI hf d_Model_several_132
                · have hf := sd_f hf hc
                  refine lv_aload_n hx hb d_Model_several_107 rfl (lv_at hl 1 rfl) ?_
                  refine lv_bipush (v := 7) hx hb d_Model_several_108 (by decide) ?_
                  obtain ⟨m31, hq, hf⟩ := sd_bv_e hf
                  refine k_callVv (As := [.int (7 : Int32)]) (rest := []) (C := "ScriptDeskModel") (ci := 7) ZM_ok X hI (mt_Model_fails_r0 l hq) (cwV 1 hts (gd_V tw_607 tw_609 ts_16 tw_9 tw_610) rfl rfl rfl (by decide +kernel) ⟨Nat.le_of_ble_eq_true rfl, Nat.le_of_ble_eq_true rfl⟩) 0 rfl rfl rfl hl.1 rfl (Nat.le_of_ble_eq_true rfl) d_Model_several_110 ⟨Nat.zero_le _, Nat.zero_le _⟩ (fun H locs hI => ?_)
                  exact k_retv X hI hf d_Model_several_113
            · have hf := sd_t hf hc
              exact k_retv X hI hf d_Model_several_87
        · have hf := sd_f hf hc
          refine lv_aload_n hx hb d_Model_several_61 rfl (lv_at hl 1 rfl) ?_
          refine lv_iconst (v := 3) hx hb d_Model_several_62 (by decide) ?_
          obtain ⟨m32, hq, hf⟩ := sd_bv_e hf
          refine k_callVv (As := [.int (3 : Int32)]) (rest := []) (C := "ScriptDeskModel") (ci := 7) ZM_ok X hI (mt_Model_fails_r0 l hq) (cwV 1 hts (gd_V tw_607 tw_609 ts_16 tw_9 tw_610) rfl rfl rfl (by decide +kernel) ⟨Nat.le_of_ble_eq_true rfl, Nat.le_of_ble_eq_true rfl⟩) 0 rfl rfl rfl hl.1 rfl (Nat.le_of_ble_eq_true rfl) d_Model_several_63 ⟨Nat.zero_le _, Nat.zero_le _⟩ (fun H locs hI => ?_)
          exact k_retv X hI hf d_Model_several_66
      · have hf := sd_f hf hc
        refine lv_aload_n hx hb d_Model_several_29 rfl (lv_at hl 0 rfl) ?_
        refine lv_bipush (v := 7) hx hb d_Model_several_30 (by decide) ?_
        obtain ⟨m33, hq, hf⟩ := sd_bv_e hf
        refine k_callVv (As := [.int (7 : Int32)]) (rest := []) (C := "ScriptDeskModel") (ci := 7) ZM_ok X hI (mt_Model_fails_r0 l hq) (cwV 1 hts (gd_V tw_607 tw_609 ts_16 tw_9 tw_610) rfl rfl rfl (by decide +kernel) ⟨Nat.le_of_ble_eq_true rfl, Nat.le_of_ble_eq_true rfl⟩) 0 rfl rfl rfl hl.1 rfl (Nat.le_of_ble_eq_true rfl) d_Model_several_32 ⟨Nat.zero_le _, Nat.zero_le _⟩ (fun H locs hI => ?_)
        exact k_retv X hI hf d_Model_several_35
  · have hf := sd_t hf hc
    exact k_retv X hI hf d_Model_several_8
set_option maxHeartbeats 4000000 in
set_option maxRecDepth 100000 in
theorem lp_Model_copy_r0_L14 (l : Launch) {p : Program} {e : Env} {s : State} {m : MethodId} {args : Array Value} {below : List Frame} {meth : Method} {c : Code} {A : Nat → Prop} {D : va_G} {q tq : Nat → Nat} {cA : ClassId} {ru : sd_Me} (X : sd_Cx p s m args meth c prog_12_method_4_code "ScriptDeskModel" sx_tbl 4 none vwCl D [(cA, .int)] (ZM tq) A) {k48 : sd_Me → Option (sd_Me)} (hk48 : ∀ (μ : sd_Me) (H : Heap) (locs : List Loc) (ls : Array Slot), sd_CI vwCl (wdM q cA) D A s H locs μ → lv_has ls 4 [] → k48 μ = some ru → W p l e ({ frames := 0, cells := 0, slots := 0, locals := 0 }) s m args below meth c H locs 0 0 (sd_QV below vwCl (wdM q cA) D [(cA, .int)] A args s ru) (F0 m 48 ls [])) :
    ∀ (n : Nat) (v1 : Int32) (v2 : Int32) (v3 : Int32) (μ : sd_Me) (H : Heap) (locs : List Loc) (ls : Array Slot), sd_CI vwCl (wdM q cA) D A s H locs μ → lv_has ls 4 [(0, .ref (q 0)), (1, .int v1), (2, .int v2), (3, .int v3)] → fn_Model_copy_r0_L14 k48 n v1 v2 v3 μ = some ru → W p l e ({ frames := 0, cells := 0, slots := 0, locals := 0 }) s m args below meth c H locs 0 0 (sd_QV below vwCl (wdM q cA) D [(cA, .int)] A args s ru) (F0 m 14 ls []) := by
  obtain ⟨hx, hb, hml, hown, hts, hK, hZ, hA, hr, hlocks⟩ := id X
  intro n
  induction n with
  | zero =>
    intro v1 v2 v3 μ H locs ls hI hl hf
    cases hf
  | succ n ih =>
    intro v1 v2 v3 μ H locs ls hI hl hf
    rw [fn_Model_copy_r0_L14] at hf
    refine lv_iload_n hx hb d_Model_copy_14 rfl (lv_at hl 3 rfl) ?_
    refine lv_bipush (v := 120) hx hb d_Model_copy_15 (by decide) ?_
    refine lv_icmp_ge (tgt := 48) hx hb d_Model_copy_17 (by decide) (fun hc => ?_) (fun hc => ?_)
    · have hf := sd_t hf hc
      exact hk48  μ _ _ _ hI (lv_sub hl [] rfl) hf
    · have hf := sd_f hf hc
      refine lv_aload_n hx hb d_Model_copy_20 rfl (lv_at hl 0 rfl) ?_
      refine va_get (D := D) (ci := 7) (v := .ref (q 1)) (C := "ScriptDeskModel") (T := T_Model) (N := 18) hx hb hts iw_Model hown hK hI.1 0 rfl rfl 0 (by decide) (hts _ tw_531) (fun _ h9 => h9) rfl d_Model_copy_21 ?_
      refine lv_bipush (v := 120) hx hb d_Model_copy_24 (by decide) ?_
      refine lv_iload_n hx hb d_Model_copy_26 rfl (lv_at hl 1 rfl) ?_
      refine lv_imul hx hb d_Model_copy_27 ?_
      refine lv_iload_n hx hb d_Model_copy_28 rfl (lv_at hl 3 rfl) ?_
      refine lv_iadd hx hb d_Model_copy_29 ?_
      refine lv_aload_n hx hb d_Model_copy_30 rfl (lv_at hl 0 rfl) ?_
      refine va_get (D := D) (ci := 7) (v := .ref (q 1)) (C := "ScriptDeskModel") (T := T_Model) (N := 18) hx hb hts iw_Model hown hK hI.1 0 rfl rfl 0 (by decide) (hts _ tw_531) (fun _ h9 => h9) rfl d_Model_copy_31 ?_
      refine lv_bipush (v := 120) hx hb d_Model_copy_34 (by decide) ?_
      refine lv_iload_n hx hb d_Model_copy_36 rfl (lv_at hl 2 rfl) ?_
      refine lv_imul hx hb d_Model_copy_37 ?_
      refine lv_iload_n hx hb d_Model_copy_38 rfl (lv_at hl 3 rfl) ?_
      refine lv_iadd hx hb d_Model_copy_39 ?_
      obtain ⟨hg, hf⟩ := sd_gd_e hf
      refine k_iald hx hb hK hI 1 0 rfl rfl hg d_Model_copy_40 ?_
      obtain ⟨hg, hf⟩ := sd_gd_e hf
      refine k_iast (μ' := sd_st μ 1 (Int32.toNatClampNeg (((120 : Int32) * v1) + v3)) (μ.1 1 (Int32.toNatClampNeg (((120 : Int32) * v2) + v3)))) hx hb hK hI 1 0 rfl rfl rfl hg d_Model_copy_41 (fun H locs hI => ?_)
      obtain ⟨m2, hI, hf⟩ := k_lm hf hI
      refine lv_iinc (v := (v3 + (1 : Int32))) (lv' := [(3, .int (v3 + (1 : Int32))), (0, .ref (q 0)), (1, .int v1), (2, .int v2)]) hx hb d_Model_copy_42 hl (k := 3) rfl rfl (by decide) rfl (fun ls hl => ?_)
      refine lv_goto (tgt := 14) hx hb d_Model_copy_45 (by decide) ?_
      exact ih (v1) (v2) ((v3 + (1 : Int32))) m2 _ _ _ hI (lv_sub hl [1, 2, 3, 0] rfl) hf
set_option maxHeartbeats 4000000 in
set_option maxRecDepth 100000 in
theorem mt_Model_copy_r0 (l : Launch) {D : va_G} {q tq : Nat → Nat} {cA : ClassId} {a1 : Int32} {a2 : Int32} {μ : sd_Me} {ru : sd_Me} (hf : fn_Model_copy_r0 a1 a2 μ = some ru) : sd_CTv l y_Model_copy w_Model_copy ({ frames := 0, cells := 0, slots := 0, locals := 0 }) vwCl (wdM q cA) D [(cA, .int)] (ZM tq) [.ref (q 0), .int a1, .int a2] μ ru := by
  refine k_entv (cc := prog_12_method_4_code) 4 (by decide) rfl (Nat.le_of_ble_eq_true rfl) ?_
  intro p e s m below meth c A ls X hI hl
  have hl : lv_has ls 4 [(0, .ref (q 0)), (1, .int a1), (2, .int a2)] := hl
  obtain ⟨hx, hb, hml, hown, hts, hK, hZ, hA, hr, hlocks⟩ := id X
  unfold fn_Model_copy_r0 at hf
  refine lv_aload_n hx hb d_Model_copy_0 rfl (lv_at hl 0 rfl) ?_
  refine va_get (D := D) (ci := 7) (v := .ref (q 2)) (C := "ScriptDeskModel") (T := T_Model) (N := 18) hx hb hts iw_Model hown hK hI.1 0 rfl rfl 1 (by decide) (hts _ tw_532) (fun _ h9 => h9) rfl d_Model_copy_1 ?_
  refine lv_iload_n hx hb d_Model_copy_4 rfl (lv_at hl 1 rfl) ?_
  refine lv_aload_n hx hb d_Model_copy_5 rfl (lv_at hl 0 rfl) ?_
  refine va_get (D := D) (ci := 7) (v := .ref (q 2)) (C := "ScriptDeskModel") (T := T_Model) (N := 18) hx hb hts iw_Model hown hK hI.1 0 rfl rfl 1 (by decide) (hts _ tw_532) (fun _ h9 => h9) rfl d_Model_copy_6 ?_
  refine lv_iload_n hx hb d_Model_copy_9 rfl (lv_at hl 2 rfl) ?_
  obtain ⟨hg, hf⟩ := sd_gd_e hf
  refine k_iald hx hb hK hI 2 0 rfl rfl hg d_Model_copy_10 ?_
  obtain ⟨hg, hf⟩ := sd_gd_e hf
  refine k_iast (μ' := sd_st μ 2 (Int32.toNatClampNeg a1) (μ.1 2 (Int32.toNatClampNeg a2))) hx hb hK hI 2 0 rfl rfl rfl hg d_Model_copy_11 (fun H locs hI => ?_)
  obtain ⟨m1, hI, hf⟩ := k_lm hf hI
  refine lv_iconst (v := 0) hx hb d_Model_copy_12 (by decide) ?_
  refine lv_istore_n (lv' := [(3, .int (0 : Int32)), (0, .ref (q 0)), (1, .int a1), (2, .int a2)]) hx hb d_Model_copy_13 rfl hl (by decide) rfl (fun ls hl => ?_)
  refine lp_Model_copy_r0_L14 l X ?_ 10000 (a1) (a2) ((0 : Int32)) m1 _ _ _ hI (lv_sub hl [1, 2, 3, 0] rfl) hf
  · intro m3 H locs ls hI hl hf
    exact k_retv X hI hf d_Model_copy_48
set_option maxHeartbeats 4000000 in
set_option maxRecDepth 100000 in
theorem mt_Model_push_r0 (l : Launch) {D : va_G} {q tq : Nat → Nat} {cA : ClassId} {a1 : Int32} {μ : sd_Me} {ru : sd_Me} (hf : fn_Model_push_r0 a1 μ = some ru) : sd_CTv l y_Model_push w_Model_push ({ frames := 1, cells := 0, slots := 0, locals := 23 }) vwCl (wdM q cA) D [(cA, .int)] (ZM tq) [.ref (q 0), .int a1] μ ru := by
  refine k_entv (cc := prog_12_method_6_code) 2 (by decide) rfl (Nat.le_of_ble_eq_true rfl) ?_
  intro p e s m below meth c A ls X hI hl
  have hl : lv_has ls 2 [(0, .ref (q 0)), (1, .int a1)] := hl
  obtain ⟨hx, hb, hml, hown, hts, hK, hZ, hA, hr, hlocks⟩ := id X
  unfold fn_Model_push_r0 at hf
  refine lv_aload_n hx hb d_Model_push_0 rfl (lv_at hl 0 rfl) ?_
  refine lv_aload_n hx hb d_Model_push_1 rfl (lv_at hl 0 rfl) ?_
  refine va_get (D := D) (ci := 7) (v := .int (μ.1 0 2)) (C := "ScriptDeskModel") (T := T_Model) (N := 18) hx hb hts iw_Model hown hK hI.1 0 rfl rfl 2 (by decide) (hts _ tw_533) (fun _ h9 => h9) rfl d_Model_push_2 ?_
  refine lv_iload_n hx hb d_Model_push_5 rfl (lv_at hl 1 rfl) ?_
  obtain ⟨m1, hq, hf⟩ := sd_bv_e hf
  refine k_callVv (As := [.int (μ.1 0 2), .int a1]) (rest := []) (C := "ScriptDeskModel") (ci := 7) ZM_ok X hI (mt_Model_copy_r0 l hq) (cwV 2 hts (gd_V tw_641 tw_643 ts_24 tw_9 tw_644) rfl rfl rfl (by decide +kernel) ⟨Nat.le_of_ble_eq_true rfl, Nat.le_of_ble_eq_true rfl⟩) 0 rfl rfl rfl hl.1 rfl (Nat.le_of_ble_eq_true rfl) d_Model_push_6 ⟨Nat.zero_le _, Nat.zero_le _⟩ (fun H locs hI => ?_)
  refine lv_aload_n hx hb d_Model_push_9 rfl (lv_at hl 0 rfl) ?_
  refine lv_dup hx hb d_Model_push_10 rfl ?_
  refine va_get (D := D) (ci := 7) (v := .int (m1.1 0 2)) (C := "ScriptDeskModel") (T := T_Model) (N := 18) hx hb hts iw_Model hown hK hI.1 0 rfl rfl 2 (by decide) (hts _ tw_533) (fun _ h9 => h9) rfl d_Model_push_11 ?_
  refine lv_iconst (v := 1) hx hb d_Model_push_14 (by decide) ?_
  refine lv_iadd hx hb d_Model_push_15 ?_
  refine k_put (ci := 7) (v := .int ((m1.1 0 2) + (1 : Int32))) (ty := .int) (C := "ScriptDeskModel") (T := T_Model) (N := 18) (μ' := sd_st m1 0 2 ((m1.1 0 2) + (1 : Int32))) hx hb hts iw_Model t_Model t_Model_ok n_Model hown hK hI 0 rfl rfl 2 (by decide) (hts _ tw_533) (fun _ h9 => h9) rfl (by decide +kernel) rfl rfl (Nat.le_of_ble_eq_true rfl) rfl d_Model_push_16 (fun H locs hI => ?_)
  obtain ⟨m2, hI, hf⟩ := k_lm hf hI
  exact k_retv X hI hf d_Model_push_19
set_option maxHeartbeats 4000000 in
set_option maxRecDepth 100000 in
theorem lp_Model_again_r0_L22 (l : Launch) {p : Program} {e : Env} {s : State} {m : MethodId} {args : Array Value} {below : List Frame} {meth : Method} {c : Code} {A : Nat → Prop} {D : va_G} {q tq : Nat → Nat} {cA : ClassId} {ru : sd_Me} (X : sd_Cx p s m args meth c prog_12_method_26_code "ScriptDeskModel" sx_tbl 6 none vwCl D [(cA, .int)] (ZM tq) A) {k43 : sd_Me → Option (sd_Me)} (hk43 : ∀ (μ : sd_Me) (H : Heap) (locs : List Loc) (ls : Array Slot), sd_CI vwCl (wdM q cA) D A s H locs μ → lv_has ls 6 [] → k43 μ = some ru → W p l e ({ frames := 2, cells := 0, slots := 0, locals := 44 }) s m args below meth c H locs 0 0 (sd_QV below vwCl (wdM q cA) D [(cA, .int)] A args s ru) (F0 m 43 ls [])) :
    ∀ (n : Nat) (v3 : Int32) (v4 : Int32) (v5 : Int32) (μ : sd_Me) (H : Heap) (locs : List Loc) (ls : Array Slot), sd_CI vwCl (wdM q cA) D A s H locs μ → lv_has ls 6 [(0, .ref (q 0)), (3, .int v3), (4, .int v4), (5, .int v5)] → fn_Model_again_r0_L22 k43 n v3 v4 v5 μ = some ru → W p l e ({ frames := 2, cells := 0, slots := 0, locals := 44 }) s m args below meth c H locs 0 0 (sd_QV below vwCl (wdM q cA) D [(cA, .int)] A args s ru) (F0 m 22 ls []) := by
  obtain ⟨hx, hb, hml, hown, hts, hK, hZ, hA, hr, hlocks⟩ := id X
  intro n
  induction n with
  | zero =>
    intro v3 v4 v5 μ H locs ls hI hl hf
    cases hf
  | succ n ih =>
    intro v3 v4 v5 μ H locs ls hI hl hf
    rw [fn_Model_again_r0_L22] at hf
    refine lv_iload hx hb d_Model_again_22 (lv_at hl 3 rfl) ?_
    refine lv_iload_n hx hb d_Model_again_24 rfl (lv_at hl 1 rfl) ?_
    refine lv_icmp_ge (tgt := 43) hx hb d_Model_again_25 (by decide) (fun hc => ?_) (fun hc => ?_)
    · have hf := sd_t hf hc
      exact hk43  μ _ _ _ hI (lv_sub hl [] rfl) hf
    · have hf := sd_f hf hc
      refine lv_aload_n hx hb d_Model_again_28 rfl (lv_at hl 0 rfl) ?_
      refine lv_iload hx hb d_Model_again_29 (lv_at hl 2 rfl) ?_
      refine lv_iload hx hb d_Model_again_31 (lv_at hl 3 rfl) ?_
      refine lv_iadd hx hb d_Model_again_33 ?_
      obtain ⟨m4, hq, hf⟩ := sd_bv_e hf
      refine k_callVv (As := [.int (v4 + v5)]) (rest := []) (C := "ScriptDeskModel") (ci := 7) ZM_ok X hI (mt_Model_push_r0 l hq) (cwV 1 hts (gd_V tw_645 tw_647 ts_25 tw_9 tw_648) rfl rfl rfl (by decide +kernel) ⟨Nat.le_of_ble_eq_true rfl, Nat.le_of_ble_eq_true rfl⟩) 0 rfl rfl rfl hl.1 rfl (Nat.le_of_ble_eq_true rfl) d_Model_again_34 ⟨Nat.zero_le _, Nat.zero_le _⟩ (fun H locs hI => ?_)
      refine lv_iinc (v := (v5 + (1 : Int32))) (lv' := [(5, .int (v5 + (1 : Int32))), (0, .ref (q 0)), (3, .int v3), (4, .int v4)]) hx hb d_Model_again_37 hl (k := 3) rfl rfl (by decide) rfl (fun ls hl => ?_)
      refine lv_goto (tgt := 22) hx hb d_Model_again_40 (by decide) ?_
      exact ih (v3) (v4) ((v5 + (1 : Int32))) m4 _ _ _ hI (lv_sub hl [1, 2, 3, 0] rfl) hf
set_option maxHeartbeats 4000000 in
set_option maxRecDepth 100000 in
theorem mt_Model_again_r0 (l : Launch) {D : va_G} {q tq : Nat → Nat} {cA : ClassId} {a1 : Int32} {a2 : Int32} {a3 : Int32} {μ : sd_Me} {ru : sd_Me} (hf : fn_Model_again_r0 a1 a2 a3 μ = some ru) : sd_CTv l y_Model_again w_Model_again ({ frames := 2, cells := 0, slots := 0, locals := 44 }) vwCl (wdM q cA) D [(cA, .int)] (ZM tq) [.ref (q 0), .int a1, .int a2, .int a3] μ ru := by
  refine k_entv (cc := prog_12_method_26_code) 6 (by decide) rfl (Nat.le_of_ble_eq_true rfl) ?_
  intro p e s m below meth c A ls X hI hl
  have hl : lv_has ls 6 [(0, .ref (q 0)), (1, .int a1), (2, .int a2), (3, .int a3)] := hl
  obtain ⟨hx, hb, hml, hown, hts, hK, hZ, hA, hr, hlocks⟩ := id X
  unfold fn_Model_again_r0 at hf
  refine lv_aload_n hx hb d_Model_again_0 rfl (lv_at hl 0 rfl) ?_
  refine lv_iload_n hx hb d_Model_again_1 rfl (lv_at hl 1 rfl) ?_
  obtain ⟨x2, m1, hq, hf⟩ := sd_bi_e hf
  refine k_callV (As := [.int a1]) (rest := []) (C := "ScriptDeskModel") (ci := 7) ZM_ok X hI (mt_Model_has_r0 l hq) (cwV 1 hts (gd_V tw_619 tw_621 ts_19 tw_9 tw_622) rfl rfl rfl (by decide +kernel) ⟨Nat.le_of_ble_eq_true rfl, Nat.le_of_ble_eq_true rfl⟩) 0 rfl rfl rfl hl.1 rfl (Nat.le_of_ble_eq_true rfl) d_Model_again_2 ⟨Nat.zero_le _, Nat.zero_le _⟩ (fun H locs hn_x2 hI => ?_)
  refine lv_if_ne (tgt := 9) hx hb d_Model_again_5 (by decide) (fun hc => ?_) (fun hc => ?_)
  · have hf := sd_f hf hc
    refine lv_aload_n hx hb d_Model_again_9 rfl (lv_at hl 0 rfl) ?_
    refine va_get (D := D) (ci := 7) (v := .int (m1.1 0 2)) (C := "ScriptDeskModel") (T := T_Model) (N := 18) hx hb hts iw_Model hown hK hI.1 0 rfl rfl 2 (by decide) (hts _ tw_533) (fun _ h9 => h9) rfl d_Model_again_10 ?_
    refine lv_iload_n hx hb d_Model_again_13 rfl (lv_at hl 2 rfl) ?_
    refine lv_isub hx hb d_Model_again_14 ?_
    refine lv_iconst (v := 1) hx hb d_Model_again_15 (by decide) ?_
    refine lv_isub hx hb d_Model_again_16 ?_
    refine k_li hf (fun x3 hf => ?_)
    refine lv_istore (lv' := [(4, .int x3), (0, .ref (q 0)), (1, .int a1), (2, .int a2), (3, .int a3)]) hx hb d_Model_again_17 hl (by decide) rfl (fun ls hl => ?_)
    refine lv_iconst (v := 0) hx hb d_Model_again_19 (by decide) ?_
    refine lv_istore (lv' := [(5, .int (0 : Int32)), (4, .int x3), (0, .ref (q 0)), (1, .int a1), (2, .int a2), (3, .int a3)]) hx hb d_Model_again_20 hl (by decide) rfl (fun ls hl => ?_)
    refine lp_Model_again_r0_L22 l X ?_ 10000 (a3) (x3) ((0 : Int32)) m1 _ _ _ hI (lv_sub hl [2, 5, 1, 0] rfl) hf
    · intro m5 H locs ls hI hl hf
      exact k_retv X hI hf d_Model_again_43
  · have hf := sd_t hf hc
    exact k_retv X hI hf d_Model_again_8
set_option maxHeartbeats 4000000 in
set_option maxRecDepth 100000 in
theorem lp_Model_turn_r0_L37 (l : Launch) {p : Program} {e : Env} {s : State} {m : MethodId} {args : Array Value} {below : List Frame} {meth : Method} {c : Code} {A : Nat → Prop} {D : va_G} {q tq : Nat → Nat} {cA : ClassId} {ru : sd_Me} (X : sd_Cx p s m args meth c prog_12_method_27_code "ScriptDeskModel" sx_tbl 5 none vwCl D [(cA, .int)] (ZM tq) A) {k64 : Int32 → Int32 → Int32 → sd_Me → Option (sd_Me)} (hk64 : ∀ (v1 : Int32) (v2 : Int32) (v3 : Int32) (μ : sd_Me) (H : Heap) (locs : List Loc) (ls : Array Slot), sd_CI vwCl (wdM q cA) D A s H locs μ → lv_has ls 5 [(0, .ref (q 0)), (1, .int v1), (2, .int v2), (3, .int v3)] → k64 v1 v2 v3 μ = some ru → W p l e ({ frames := 2, cells := 0, slots := 0, locals := 42 }) s m args below meth c H locs 0 0 (sd_QV below vwCl (wdM q cA) D [(cA, .int)] A args s ru) (F0 m 64 ls [])) :
    ∀ (n : Nat) (v1 : Int32) (v2 : Int32) (v3 : Int32) (v4 : Int32) (μ : sd_Me) (H : Heap) (locs : List Loc) (ls : Array Slot), sd_CI vwCl (wdM q cA) D A s H locs μ → lv_has ls 5 [(0, .ref (q 0)), (1, .int v1), (2, .int v2), (3, .int v3), (4, .int v4)] → fn_Model_turn_r0_L37 k64 n v1 v2 v3 v4 μ = some ru → W p l e ({ frames := 2, cells := 0, slots := 0, locals := 42 }) s m args below meth c H locs 0 0 (sd_QV below vwCl (wdM q cA) D [(cA, .int)] A args s ru) (F0 m 37 ls []) := by
  obtain ⟨hx, hb, hml, hown, hts, hK, hZ, hA, hr, hlocks⟩ := id X
  intro n
  induction n with
  | zero =>
    intro v1 v2 v3 v4 μ H locs ls hI hl hf
    cases hf
  | succ n ih =>
    intro v1 v2 v3 v4 μ H locs ls hI hl hf
    rw [fn_Model_turn_r0_L37] at hf
    refine lv_iload hx hb d_Model_turn_37 (lv_at hl 4 rfl) ?_
    refine lv_aload_n hx hb d_Model_turn_39 rfl (lv_at hl 0 rfl) ?_
    refine va_get (D := D) (ci := 7) (v := .int (μ.1 0 2)) (C := "ScriptDeskModel") (T := T_Model) (N := 18) hx hb hts iw_Model hown hK hI.1 0 rfl rfl 2 (by decide) (hts _ tw_533) (fun _ h9 => h9) rfl d_Model_turn_40 ?_
    refine lv_iconst (v := 1) hx hb d_Model_turn_43 (by decide) ?_
    refine lv_isub hx hb d_Model_turn_44 ?_
    refine lv_icmp_ge (tgt := 64) hx hb d_Model_turn_45 (by decide) (fun hc => ?_) (fun hc => ?_)
    · have hf := sd_t hf hc
      exact hk64 (v1) (v2) (v3) μ _ _ _ hI (lv_sub hl [0, 1, 2, 3] rfl) hf
    · have hf := sd_f hf hc
      refine lv_aload_n hx hb d_Model_turn_48 rfl (lv_at hl 0 rfl) ?_
      refine lv_iload hx hb d_Model_turn_49 (lv_at hl 4 rfl) ?_
      refine lv_iload hx hb d_Model_turn_51 (lv_at hl 4 rfl) ?_
      refine lv_iconst (v := 1) hx hb d_Model_turn_53 (by decide) ?_
      refine lv_iadd hx hb d_Model_turn_54 ?_
      obtain ⟨m5, hq, hf⟩ := sd_bv_e hf
      refine k_callVv (As := [.int v4, .int (v4 + (1 : Int32))]) (rest := []) (C := "ScriptDeskModel") (ci := 7) ZM_ok X hI (mt_Model_copy_r0 l hq) (cwV 2 hts (gd_V tw_641 tw_643 ts_24 tw_9 tw_644) rfl rfl rfl (by decide +kernel) ⟨Nat.le_of_ble_eq_true rfl, Nat.le_of_ble_eq_true rfl⟩) 0 rfl rfl rfl hl.1 rfl (Nat.le_of_ble_eq_true rfl) d_Model_turn_55 ⟨Nat.zero_le _, Nat.zero_le _⟩ (fun H locs hI => ?_)
      refine lv_iinc (v := (v4 + (1 : Int32))) (lv' := [(4, .int (v4 + (1 : Int32))), (0, .ref (q 0)), (1, .int v1), (2, .int v2), (3, .int v3)]) hx hb d_Model_turn_58 hl (k := 4) rfl rfl (by decide) rfl (fun ls hl => ?_)
      refine lv_goto (tgt := 37) hx hb d_Model_turn_61 (by decide) ?_
      exact ih (v1) (v2) (v3) ((v4 + (1 : Int32))) m5 _ _ _ hI (lv_sub hl [1, 2, 3, 4, 0] rfl) hf
set_option maxHeartbeats 4000000 in
set_option maxRecDepth 100000 in
theorem lp_Model_turn_r0_L11 (l : Launch) {p : Program} {e : Env} {s : State} {m : MethodId} {args : Array Value} {below : List Frame} {meth : Method} {c : Code} {A : Nat → Prop} {D : va_G} {q tq : Nat → Nat} {cA : ClassId} {ru : sd_Me} (X : sd_Cx p s m args meth c prog_12_method_27_code "ScriptDeskModel" sx_tbl 5 none vwCl D [(cA, .int)] (ZM tq) A) {k83 : sd_Me → Option (sd_Me)} (hk83 : ∀ (μ : sd_Me) (H : Heap) (locs : List Loc) (ls : Array Slot), sd_CI vwCl (wdM q cA) D A s H locs μ → lv_has ls 5 [] → k83 μ = some ru → W p l e ({ frames := 2, cells := 0, slots := 0, locals := 42 }) s m args below meth c H locs 0 0 (sd_QV below vwCl (wdM q cA) D [(cA, .int)] A args s ru) (F0 m 83 ls [])) :
    ∀ (n : Nat) (v1 : Int32) (v2 : Int32) (v3 : Int32) (μ : sd_Me) (H : Heap) (locs : List Loc) (ls : Array Slot), sd_CI vwCl (wdM q cA) D A s H locs μ → lv_has ls 5 [(0, .ref (q 0)), (1, .int v1), (2, .int v2), (3, .int v3)] → fn_Model_turn_r0_L11 k83 n v1 v2 v3 μ = some ru → W p l e ({ frames := 2, cells := 0, slots := 0, locals := 42 }) s m args below meth c H locs 0 0 (sd_QV below vwCl (wdM q cA) D [(cA, .int)] A args s ru) (F0 m 11 ls []) := by
  obtain ⟨hx, hb, hml, hown, hts, hK, hZ, hA, hr, hlocks⟩ := id X
  intro n
  induction n with
  | zero =>
    intro v1 v2 v3 μ H locs ls hI hl hf
    cases hf
  | succ n ih =>
    intro v1 v2 v3 μ H locs ls hI hl hf
    rw [fn_Model_turn_r0_L11] at hf
    refine lv_iload_n hx hb d_Model_turn_11 rfl (lv_at hl 3 rfl) ?_
    refine lv_iload_n hx hb d_Model_turn_12 rfl (lv_at hl 2 rfl) ?_
    refine lv_icmp_ge (tgt := 83) hx hb d_Model_turn_13 (by decide) (fun hc => ?_) (fun hc => ?_)
    · have hf := sd_t hf hc
      exact hk83  μ _ _ _ hI (lv_sub hl [] rfl) hf
    · have hf := sd_f hf hc
      refine lv_aload_n hx hb d_Model_turn_16 rfl (lv_at hl 0 rfl) ?_
      refine lv_sipush (v := 139) hx hb d_Model_turn_17 (by decide) ?_
      refine lv_aload_n hx hb d_Model_turn_20 rfl (lv_at hl 0 rfl) ?_
      refine va_get (D := D) (ci := 7) (v := .int (μ.1 0 2)) (C := "ScriptDeskModel") (T := T_Model) (N := 18) hx hb hts iw_Model hown hK hI.1 0 rfl rfl 2 (by decide) (hts _ tw_533) (fun _ h9 => h9) rfl d_Model_turn_21 ?_
      refine lv_iload_n hx hb d_Model_turn_24 rfl (lv_at hl 1 rfl) ?_
      refine lv_isub hx hb d_Model_turn_25 ?_
      obtain ⟨m3, hq, hf⟩ := sd_bv_e hf
      refine k_callVv (As := [.int (139 : Int32), .int ((μ.1 0 2) - v1)]) (rest := []) (C := "ScriptDeskModel") (ci := 7) ZM_ok X hI (mt_Model_copy_r0 l hq) (cwV 2 hts (gd_V tw_641 tw_643 ts_24 tw_9 tw_644) rfl rfl rfl (by decide +kernel) ⟨Nat.le_of_ble_eq_true rfl, Nat.le_of_ble_eq_true rfl⟩) 0 rfl rfl rfl hl.1 rfl (Nat.le_of_ble_eq_true rfl) d_Model_turn_26 ⟨Nat.zero_le _, Nat.zero_le _⟩ (fun H locs hI => ?_)
      refine lv_aload_n hx hb d_Model_turn_29 rfl (lv_at hl 0 rfl) ?_
      refine va_get (D := D) (ci := 7) (v := .int (m3.1 0 2)) (C := "ScriptDeskModel") (T := T_Model) (N := 18) hx hb hts iw_Model hown hK hI.1 0 rfl rfl 2 (by decide) (hts _ tw_533) (fun _ h9 => h9) rfl d_Model_turn_30 ?_
      refine lv_iload_n hx hb d_Model_turn_33 rfl (lv_at hl 1 rfl) ?_
      refine lv_isub hx hb d_Model_turn_34 ?_
      refine k_li hf (fun x4 hf => ?_)
      refine lv_istore (lv' := [(4, .int x4), (0, .ref (q 0)), (1, .int v1), (2, .int v2), (3, .int v3)]) hx hb d_Model_turn_35 hl (by decide) rfl (fun ls hl => ?_)
      refine lp_Model_turn_r0_L37 l X ?_ 10000 (v1) (v2) (v3) (x4) m3 _ _ _ hI (lv_sub hl [1, 2, 3, 4, 0] rfl) hf
      · intro x6 x7 x8 m9 H locs ls hI hl hf
        refine lv_aload_n hx hb d_Model_turn_64 rfl (lv_at hl 0 rfl) ?_
        refine lv_aload_n hx hb d_Model_turn_65 rfl (lv_at hl 0 rfl) ?_
        refine va_get (D := D) (ci := 7) (v := .int (m9.1 0 2)) (C := "ScriptDeskModel") (T := T_Model) (N := 18) hx hb hts iw_Model hown hK hI.1 0 rfl rfl 2 (by decide) (hts _ tw_533) (fun _ h9 => h9) rfl d_Model_turn_66 ?_
        refine lv_iconst (v := 1) hx hb d_Model_turn_69 (by decide) ?_
        refine lv_isub hx hb d_Model_turn_70 ?_
        refine lv_sipush (v := 139) hx hb d_Model_turn_71 (by decide) ?_
        obtain ⟨m10, hq, hf⟩ := sd_bv_e hf
        refine k_callVv (As := [.int ((m9.1 0 2) - (1 : Int32)), .int (139 : Int32)]) (rest := []) (C := "ScriptDeskModel") (ci := 7) ZM_ok X hI (mt_Model_copy_r0 l hq) (cwV 2 hts (gd_V tw_641 tw_643 ts_24 tw_9 tw_644) rfl rfl rfl (by decide +kernel) ⟨Nat.le_of_ble_eq_true rfl, Nat.le_of_ble_eq_true rfl⟩) 0 rfl rfl rfl hl.1 rfl (Nat.le_of_ble_eq_true rfl) d_Model_turn_74 ⟨Nat.zero_le _, Nat.zero_le _⟩ (fun H locs hI => ?_)
        refine lv_iinc (v := (x8 + (1 : Int32))) (lv' := [(3, .int (x8 + (1 : Int32))), (0, .ref (q 0)), (1, .int x6), (2, .int x7)]) hx hb d_Model_turn_77 hl (k := 3) rfl rfl (by decide) rfl (fun ls hl => ?_)
        refine lv_goto (tgt := 11) hx hb d_Model_turn_80 (by decide) ?_
        exact ih (x6) (x7) ((x8 + (1 : Int32))) m10 _ _ _ hI (lv_sub hl [1, 2, 3, 0] rfl) hf
set_option maxHeartbeats 4000000 in
set_option maxRecDepth 100000 in
theorem mt_Model_turn_r0 (l : Launch) {D : va_G} {q tq : Nat → Nat} {cA : ClassId} {a1 : Int32} {a2 : Int32} {μ : sd_Me} {ru : sd_Me} (hf : fn_Model_turn_r0 a1 a2 μ = some ru) : sd_CTv l y_Model_turn w_Model_turn ({ frames := 2, cells := 0, slots := 0, locals := 42 }) vwCl (wdM q cA) D [(cA, .int)] (ZM tq) [.ref (q 0), .int a1, .int a2] μ ru := by
  refine k_entv (cc := prog_12_method_27_code) 5 (by decide) rfl (Nat.le_of_ble_eq_true rfl) ?_
  intro p e s m below meth c A ls X hI hl
  have hl : lv_has ls 5 [(0, .ref (q 0)), (1, .int a1), (2, .int a2)] := hl
  obtain ⟨hx, hb, hml, hown, hts, hK, hZ, hA, hr, hlocks⟩ := id X
  unfold fn_Model_turn_r0 at hf
  refine lv_aload_n hx hb d_Model_turn_0 rfl (lv_at hl 0 rfl) ?_
  refine lv_iload_n hx hb d_Model_turn_1 rfl (lv_at hl 1 rfl) ?_
  obtain ⟨x2, m1, hq, hf⟩ := sd_bi_e hf
  refine k_callV (As := [.int a1]) (rest := []) (C := "ScriptDeskModel") (ci := 7) ZM_ok X hI (mt_Model_has_r0 l hq) (cwV 1 hts (gd_V tw_619 tw_621 ts_19 tw_9 tw_622) rfl rfl rfl (by decide +kernel) ⟨Nat.le_of_ble_eq_true rfl, Nat.le_of_ble_eq_true rfl⟩) 0 rfl rfl rfl hl.1 rfl (Nat.le_of_ble_eq_true rfl) d_Model_turn_2 ⟨Nat.zero_le _, Nat.zero_le _⟩ (fun H locs hn_x2 hI => ?_)
  refine lv_if_ne (tgt := 9) hx hb d_Model_turn_5 (by decide) (fun hc => ?_) (fun hc => ?_)
  · have hf := sd_f hf hc
    refine lv_iconst (v := 0) hx hb d_Model_turn_9 (by decide) ?_
    refine lv_istore_n (lv' := [(3, .int (0 : Int32)), (0, .ref (q 0)), (1, .int a1), (2, .int a2)]) hx hb d_Model_turn_10 rfl hl (by decide) rfl (fun ls hl => ?_)
    refine lp_Model_turn_r0_L11 l X ?_ 10000 (a1) (a2) ((0 : Int32)) m1 _ _ _ hI (lv_sub hl [1, 2, 3, 0] rfl) hf
    · intro m11 H locs ls hI hl hf
      exact k_retv X hI hf d_Model_turn_83
  · have hf := sd_t hf hc
    exact k_retv X hI hf d_Model_turn_8
set_option maxHeartbeats 4000000 in
set_option maxRecDepth 100000 in
theorem lp_Model_takeOut_r0_L6 (l : Launch) {p : Program} {e : Env} {s : State} {m : MethodId} {args : Array Value} {below : List Frame} {meth : Method} {c : Code} {A : Nat → Prop} {D : va_G} {q tq : Nat → Nat} {cA : ClassId} {ru : sd_Me} (X : sd_Cx p s m args meth c prog_12_method_28_code "ScriptDeskModel" sx_tbl 3 none vwCl D [(cA, .int)] (ZM tq) A) {k30 : sd_Me → Option (sd_Me)} (hk30 : ∀ (μ : sd_Me) (H : Heap) (locs : List Loc) (ls : Array Slot), sd_CI vwCl (wdM q cA) D A s H locs μ → lv_has ls 3 [(0, .ref (q 0))] → k30 μ = some ru → W p l e ({ frames := 1, cells := 0, slots := 0, locals := 23 }) s m args below meth c H locs 0 0 (sd_QV below vwCl (wdM q cA) D [(cA, .int)] A args s ru) (F0 m 30 ls [])) :
    ∀ (n : Nat) (v2 : Int32) (μ : sd_Me) (H : Heap) (locs : List Loc) (ls : Array Slot), sd_CI vwCl (wdM q cA) D A s H locs μ → lv_has ls 3 [(0, .ref (q 0)), (2, .int v2)] → fn_Model_takeOut_r0_L6 k30 n v2 μ = some ru → W p l e ({ frames := 1, cells := 0, slots := 0, locals := 23 }) s m args below meth c H locs 0 0 (sd_QV below vwCl (wdM q cA) D [(cA, .int)] A args s ru) (F0 m 6 ls []) := by
  obtain ⟨hx, hb, hml, hown, hts, hK, hZ, hA, hr, hlocks⟩ := id X
  intro n
  induction n with
  | zero =>
    intro v2 μ H locs ls hI hl hf
    cases hf
  | succ n ih =>
    intro v2 μ H locs ls hI hl hf
    rw [fn_Model_takeOut_r0_L6] at hf
    refine lv_iload_n hx hb d_Model_takeOut_6 rfl (lv_at hl 1 rfl) ?_
    refine lv_aload_n hx hb d_Model_takeOut_7 rfl (lv_at hl 0 rfl) ?_
    refine va_get (D := D) (ci := 7) (v := .int (μ.1 0 2)) (C := "ScriptDeskModel") (T := T_Model) (N := 18) hx hb hts iw_Model hown hK hI.1 0 rfl rfl 2 (by decide) (hts _ tw_533) (fun _ h9 => h9) rfl d_Model_takeOut_8 ?_
    refine lv_iconst (v := 1) hx hb d_Model_takeOut_11 (by decide) ?_
    refine lv_isub hx hb d_Model_takeOut_12 ?_
    refine lv_icmp_ge (tgt := 30) hx hb d_Model_takeOut_13 (by decide) (fun hc => ?_) (fun hc => ?_)
    · have hf := sd_t hf hc
      exact hk30  μ _ _ _ hI (lv_sub hl [0] rfl) hf
    · have hf := sd_f hf hc
      refine lv_aload_n hx hb d_Model_takeOut_16 rfl (lv_at hl 0 rfl) ?_
      refine lv_iload_n hx hb d_Model_takeOut_17 rfl (lv_at hl 1 rfl) ?_
      refine lv_iload_n hx hb d_Model_takeOut_18 rfl (lv_at hl 1 rfl) ?_
      refine lv_iconst (v := 1) hx hb d_Model_takeOut_19 (by decide) ?_
      refine lv_iadd hx hb d_Model_takeOut_20 ?_
      obtain ⟨m3, hq, hf⟩ := sd_bv_e hf
      refine k_callVv (As := [.int v2, .int (v2 + (1 : Int32))]) (rest := []) (C := "ScriptDeskModel") (ci := 7) ZM_ok X hI (mt_Model_copy_r0 l hq) (cwV 2 hts (gd_V tw_641 tw_643 ts_24 tw_9 tw_644) rfl rfl rfl (by decide +kernel) ⟨Nat.le_of_ble_eq_true rfl, Nat.le_of_ble_eq_true rfl⟩) 0 rfl rfl rfl hl.1 rfl (Nat.le_of_ble_eq_true rfl) d_Model_takeOut_21 ⟨Nat.zero_le _, Nat.zero_le _⟩ (fun H locs hI => ?_)
      refine lv_iinc (v := (v2 + (1 : Int32))) (lv' := [(2, .int (v2 + (1 : Int32))), (0, .ref (q 0))]) hx hb d_Model_takeOut_24 hl (k := 1) rfl rfl (by decide) rfl (fun ls hl => ?_)
      refine lv_goto (tgt := 6) hx hb d_Model_takeOut_27 (by decide) ?_
      exact ih ((v2 + (1 : Int32))) m3 _ _ _ hI (lv_sub hl [1, 0] rfl) hf
set_option maxHeartbeats 4000000 in
set_option maxRecDepth 100000 in
theorem mt_Model_takeOut_r0 (l : Launch) {D : va_G} {q tq : Nat → Nat} {cA : ClassId} {a1 : Int32} {μ : sd_Me} {ru : sd_Me} (hf : fn_Model_takeOut_r0 a1 μ = some ru) : sd_CTv l y_Model_takeOut w_Model_takeOut ({ frames := 1, cells := 0, slots := 0, locals := 23 }) vwCl (wdM q cA) D [(cA, .int)] (ZM tq) [.ref (q 0), .int a1] μ ru := by
  refine k_entv (cc := prog_12_method_28_code) 3 (by decide) rfl (Nat.le_of_ble_eq_true rfl) ?_
  intro p e s m below meth c A ls X hI hl
  have hl : lv_has ls 3 [(0, .ref (q 0)), (1, .int a1)] := hl
  obtain ⟨hx, hb, hml, hown, hts, hK, hZ, hA, hr, hlocks⟩ := id X
  unfold fn_Model_takeOut_r0 at hf
  refine lv_aload_n hx hb d_Model_takeOut_0 rfl (lv_at hl 0 rfl) ?_
  refine lv_iload_n hx hb d_Model_takeOut_1 rfl (lv_at hl 1 rfl) ?_
  obtain ⟨x2, m1, hq, hf⟩ := sd_bi_e hf
  refine k_callV (As := [.int a1]) (rest := []) (C := "ScriptDeskModel") (ci := 7) ZM_ok X hI (mt_Model_top_r0 l hq) (cwV 1 hts (gd_V tw_657 tw_659 ts_28 tw_9 tw_660) rfl rfl rfl (by decide +kernel) ⟨Nat.le_of_ble_eq_true rfl, Nat.le_of_ble_eq_true rfl⟩) 0 rfl rfl rfl hl.1 rfl (Nat.le_of_ble_eq_true rfl) d_Model_takeOut_2 ⟨Nat.zero_le _, Nat.zero_le _⟩ (fun H locs hn_x2 hI => ?_)
  refine lv_istore_n (lv' := [(2, .int x2), (0, .ref (q 0)), (1, .int a1)]) hx hb d_Model_takeOut_5 rfl hl (by decide) rfl (fun ls hl => ?_)
  refine lp_Model_takeOut_r0_L6 l X ?_ 10000 (x2) m1 _ _ _ hI (lv_sub hl [1, 0] rfl) hf
  · intro m4 H locs ls hI hl hf
    refine lv_aload_n hx hb d_Model_takeOut_30 rfl (lv_at hl 0 rfl) ?_
    refine lv_dup hx hb d_Model_takeOut_31 rfl ?_
    refine va_get (D := D) (ci := 7) (v := .int (m4.1 0 2)) (C := "ScriptDeskModel") (T := T_Model) (N := 18) hx hb hts iw_Model hown hK hI.1 0 rfl rfl 2 (by decide) (hts _ tw_533) (fun _ h9 => h9) rfl d_Model_takeOut_32 ?_
    refine lv_iconst (v := 1) hx hb d_Model_takeOut_35 (by decide) ?_
    refine lv_isub hx hb d_Model_takeOut_36 ?_
    refine k_put (ci := 7) (v := .int ((m4.1 0 2) - (1 : Int32))) (ty := .int) (C := "ScriptDeskModel") (T := T_Model) (N := 18) (μ' := sd_st m4 0 2 ((m4.1 0 2) - (1 : Int32))) hx hb hts iw_Model t_Model t_Model_ok n_Model hown hK hI 0 rfl rfl 2 (by decide) (hts _ tw_533) (fun _ h9 => h9) rfl (by decide +kernel) rfl rfl (Nat.le_of_ble_eq_true rfl) rfl d_Model_takeOut_37 (fun H locs hI => ?_)
    obtain ⟨m5, hI, hf⟩ := k_lm hf hI
    exact k_retv X hI hf d_Model_takeOut_40
set_option maxHeartbeats 4000000 in
set_option maxRecDepth 100000 in
theorem mt_Model_pick_r0 (l : Launch) {D : va_G} {q tq : Nat → Nat} {cA : ClassId} {a1 : Int32} {μ : sd_Me} {ru : sd_Me} (hf : fn_Model_pick_r0 a1 μ = some ru) : sd_CTv l y_Model_pick w_Model_pick ({ frames := 3, cells := 0, slots := 0, locals := 66 }) vwCl (wdM q cA) D [(cA, .int)] (ZM tq) [.ref (q 0), .int a1] μ ru := by
  refine k_entv (cc := prog_12_method_29_code) 3 (by decide) rfl (Nat.le_of_ble_eq_true rfl) ?_
  intro p e s m below meth c A ls X hI hl
  have hl : lv_has ls 3 [(0, .ref (q 0)), (1, .int a1)] := hl
  obtain ⟨hx, hb, hml, hown, hts, hK, hZ, hA, hr, hlocks⟩ := id X
  unfold fn_Model_pick_r0 at hf
  refine lv_aload_n hx hb d_Model_pick_0 rfl (lv_at hl 0 rfl) ?_
  refine lv_iconst (v := 0) hx hb d_Model_pick_1 (by decide) ?_
  obtain ⟨x2, m1, hq, hf⟩ := sd_bi_e hf
  refine k_callV (As := [.int (0 : Int32)]) (rest := []) (C := "ScriptDeskModel") (ci := 7) ZM_ok X hI (mt_Model_reads_r0 l hq) (cwV 1 hts (gd_V tw_669 tw_671 ts_31 tw_9 tw_672) rfl rfl rfl (by decide +kernel) ⟨Nat.le_of_ble_eq_true rfl, Nat.le_of_ble_eq_true rfl⟩) 0 rfl rfl rfl hl.1 rfl (Nat.le_of_ble_eq_true rfl) d_Model_pick_2 ⟨Nat.zero_le _, Nat.zero_le _⟩ (fun H locs hn_x2 hI => ?_)
  refine lv_if_ne (tgt := 9) hx hb d_Model_pick_5 (by decide) (fun hc => ?_) (fun hc => ?_)
  · have hf := sd_f hf hc
    refine lv_aload_n hx hb d_Model_pick_9 rfl (lv_at hl 0 rfl) ?_
    refine lv_dup hx hb d_Model_pick_10 rfl ?_
    refine va_get (D := D) (ci := 7) (v := .int (m1.1 0 2)) (C := "ScriptDeskModel") (T := T_Model) (N := 18) hx hb hts iw_Model hown hK hI.1 0 rfl rfl 2 (by decide) (hts _ tw_533) (fun _ h9 => h9) rfl d_Model_pick_11 ?_
    refine lv_iconst (v := 1) hx hb d_Model_pick_14 (by decide) ?_
    refine lv_isub hx hb d_Model_pick_15 ?_
    refine k_put (ci := 7) (v := .int ((m1.1 0 2) - (1 : Int32))) (ty := .int) (C := "ScriptDeskModel") (T := T_Model) (N := 18) (μ' := sd_st m1 0 2 ((m1.1 0 2) - (1 : Int32))) hx hb hts iw_Model t_Model t_Model_ok n_Model hown hK hI 0 rfl rfl 2 (by decide) (hts _ tw_533) (fun _ h9 => h9) rfl (by decide +kernel) rfl rfl (Nat.le_of_ble_eq_true rfl) rfl d_Model_pick_16 (fun H locs hI => ?_)
    obtain ⟨m3, hI, hf⟩ := k_lm hf hI
    refine lv_aload_n hx hb d_Model_pick_19 rfl (lv_at hl 0 rfl) ?_
    refine va_get (D := D) (ci := 7) (v := .long (m3.2 1)) (C := "ScriptDeskModel") (T := T_Model) (N := 18) hx hb hts iw_Model hown hK hI.1 0 rfl rfl 13 (by decide) (hts _ tw_544) (fun _ h9 => h9) rfl d_Model_pick_20 ?_
    refine lv_lconst (v := 0) hx hb d_Model_pick_23 (by decide) ?_
    refine W.lcmp hx hb d_Model_pick_24 ?_
    refine lv_if_lt (tgt := 43) hx hb d_Model_pick_25 (by decide) (fun hc => ?_) (fun hc => ?_)
    · have hf := sd_t hf hc
      refine lv_aload_n hx hb d_Model_pick_43 rfl (lv_at hl 0 rfl) ?_
      refine lv_bipush (v := 7) hx hb d_Model_pick_44 (by decide) ?_
      obtain ⟨m4, hq, hf⟩ := sd_bv_e hf
      refine k_callVv (As := [.int (7 : Int32)]) (rest := []) (C := "ScriptDeskModel") (ci := 7) ZM_ok X hI (mt_Model_fails_r0 l hq) (cwV 1 hts (gd_V tw_607 tw_609 ts_16 tw_9 tw_610) rfl rfl rfl (by decide +kernel) ⟨Nat.le_of_ble_eq_true rfl, Nat.le_of_ble_eq_true rfl⟩) 0 rfl rfl rfl hl.1 rfl (Nat.le_of_ble_eq_true rfl) d_Model_pick_46 ⟨Nat.zero_le _, Nat.zero_le _⟩ (fun H locs hI => ?_)
      exact k_retv X hI hf d_Model_pick_49
    · have hf := sd_f hf hc
      refine lv_aload_n hx hb d_Model_pick_28 rfl (lv_at hl 0 rfl) ?_
      refine va_get (D := D) (ci := 7) (v := .long (m3.2 1)) (C := "ScriptDeskModel") (T := T_Model) (N := 18) hx hb hts iw_Model hown hK hI.1 0 rfl rfl 13 (by decide) (hts _ tw_544) (fun _ h9 => h9) rfl d_Model_pick_29 ?_
      refine lv_aload_n hx hb d_Model_pick_32 rfl (lv_at hl 0 rfl) ?_
      refine va_get (D := D) (ci := 7) (v := .int (m3.1 0 2)) (C := "ScriptDeskModel") (T := T_Model) (N := 18) hx hb hts iw_Model hown hK hI.1 0 rfl rfl 2 (by decide) (hts _ tw_533) (fun _ h9 => h9) rfl d_Model_pick_33 ?_
      refine lv_iconst (v := 1) hx hb d_Model_pick_36 (by decide) ?_
      refine lv_isub hx hb d_Model_pick_37 ?_
      refine lv_i2l (v := (Int32.toInt64 ((m3.1 0 2) - (1 : Int32)))) hx hb d_Model_pick_38 rfl ?_
      refine W.lcmp hx hb d_Model_pick_39 ?_
      refine lv_if_le (tgt := 50) hx hb d_Model_pick_40 (by decide) (fun hc => ?_) (fun hc => ?_)
      · have hf := sd_t hf hc
        refine lv_aload_n hx hb d_Model_pick_50 rfl (lv_at hl 0 rfl) ?_
        refine va_get (D := D) (ci := 7) (v := .long (m3.2 1)) (C := "ScriptDeskModel") (T := T_Model) (N := 18) hx hb hts iw_Model hown hK hI.1 0 rfl rfl 13 (by decide) (hts _ tw_544) (fun _ h9 => h9) rfl d_Model_pick_51 ?_
        refine lv_l2i (v := (Int64.toInt32 (m3.2 1))) hx hb d_Model_pick_54 rfl ?_
        refine k_li hf (fun x5 hf => ?_)
        refine lv_istore_n (lv' := [(2, .int x5), (0, .ref (q 0)), (1, .int a1)]) hx hb d_Model_pick_55 rfl hl (by decide) rfl (fun ls hl => ?_)
        refine lv_aload_n hx hb d_Model_pick_56 rfl (lv_at hl 1 rfl) ?_
        refine lv_sipush (v := 134) hx hb d_Model_pick_57 (by decide) ?_
        refine lv_aload_n hx hb d_Model_pick_60 rfl (lv_at hl 1 rfl) ?_
        refine lv_iload_n hx hb d_Model_pick_61 rfl (lv_at hl 0 rfl) ?_
        obtain ⟨x7, m6, hq, hf⟩ := sd_bi_e hf
        refine k_callV (As := [.int x5]) (rest := [.int (134 : Int32), .ref (q 0)]) (C := "ScriptDeskModel") (ci := 7) ZM_ok X hI (mt_Model_top_r0 l hq) (cwV 1 hts (gd_V tw_657 tw_659 ts_28 tw_9 tw_660) rfl rfl rfl (by decide +kernel) ⟨Nat.le_of_ble_eq_true rfl, Nat.le_of_ble_eq_true rfl⟩) 0 rfl rfl rfl hl.1 rfl (Nat.le_of_ble_eq_true rfl) d_Model_pick_62 ⟨Nat.zero_le _, Nat.zero_le _⟩ (fun H locs hn_x7 hI => ?_)
        obtain ⟨m8, hq, hf⟩ := sd_bv_e hf
        refine k_callVv (As := [.int (134 : Int32), .int x7]) (rest := []) (C := "ScriptDeskModel") (ci := 7) ZM_ok X hI (mt_Model_copy_r0 l hq) (cwV 2 hts (gd_V tw_641 tw_643 ts_24 tw_9 tw_644) rfl rfl rfl (by decide +kernel) ⟨Nat.le_of_ble_eq_true rfl, Nat.le_of_ble_eq_true rfl⟩) 0 rfl rfl rfl hl.1 rfl (Nat.le_of_ble_eq_true rfl) d_Model_pick_65 ⟨Nat.zero_le _, Nat.zero_le _⟩ (fun H locs hI => ?_)
        refine lv_iload_n hx hb d_Model_pick_68 rfl (lv_at hl 2 rfl) ?_
        refine lv_if_eq (tgt := 77) hx hb d_Model_pick_69 (by decide) (fun hc => ?_) (fun hc => ?_)
        · have hf := sd_t hf hc
          refine lv_aload_n hx hb d_Model_pick_77 rfl (lv_at hl 1 rfl) ?_
          refine lv_sipush (v := 134) hx hb d_Model_pick_78 (by decide) ?_
          obtain ⟨m9, hq, hf⟩ := sd_bv_e hf
          refine k_callVv (As := [.int (134 : Int32)]) (rest := []) (C := "ScriptDeskModel") (ci := 7) ZM_ok X hI (mt_Model_push_r0 l hq) (cwV 1 hts (gd_V tw_645 tw_647 ts_25 tw_9 tw_648) rfl rfl rfl (by decide +kernel) ⟨Nat.le_of_ble_eq_true rfl, Nat.le_of_ble_eq_true rfl⟩) 0 rfl rfl rfl hl.1 rfl (Nat.le_of_ble_eq_true rfl) d_Model_pick_81 ⟨Nat.zero_le _, Nat.zero_le _⟩ (fun H locs hI => ?_)
          exact k_retv X hI hf d_Model_pick_84
        · have hf := sd_f hf hc
          refine lv_aload_n hx hb d_Model_pick_72 rfl (lv_at hl 1 rfl) ?_
          refine lv_iload_n hx hb d_Model_pick_73 rfl (lv_at hl 0 rfl) ?_
          obtain ⟨m10, hq, hf⟩ := sd_bv_e hf
          refine k_callVv (As := [.int x5]) (rest := []) (C := "ScriptDeskModel") (ci := 7) ZM_ok X hI (mt_Model_takeOut_r0 l hq) (cwV 1 hts (gd_V tw_661 tw_663 ts_29 tw_9 tw_664) rfl rfl rfl (by decide +kernel) ⟨Nat.le_of_ble_eq_true rfl, Nat.le_of_ble_eq_true rfl⟩) 0 rfl rfl rfl hl.1 rfl (Nat.le_of_ble_eq_true rfl) d_Model_pick_74 ⟨Nat.zero_le _, Nat.zero_le _⟩ (fun H locs hI => ?_)
          refine lv_aload_n hx hb d_Model_pick_77 rfl (lv_at hl 1 rfl) ?_
          refine lv_sipush (v := 134) hx hb d_Model_pick_78 (by decide) ?_
          obtain ⟨m11, hq, hf⟩ := sd_bv_e hf
          refine k_callVv (As := [.int (134 : Int32)]) (rest := []) (C := "ScriptDeskModel") (ci := 7) ZM_ok X hI (mt_Model_push_r0 l hq) (cwV 1 hts (gd_V tw_645 tw_647 ts_25 tw_9 tw_648) rfl rfl rfl (by decide +kernel) ⟨Nat.le_of_ble_eq_true rfl, Nat.le_of_ble_eq_true rfl⟩) 0 rfl rfl rfl hl.1 rfl (Nat.le_of_ble_eq_true rfl) d_Model_pick_81 ⟨Nat.zero_le _, Nat.zero_le _⟩ (fun H locs hI => ?_)
          exact k_retv X hI hf d_Model_pick_84
      · have hf := sd_f hf hc
        refine lv_aload_n hx hb d_Model_pick_43 rfl (lv_at hl 0 rfl) ?_
        refine lv_bipush (v := 7) hx hb d_Model_pick_44 (by decide) ?_
        obtain ⟨m12, hq, hf⟩ := sd_bv_e hf
        refine k_callVv (As := [.int (7 : Int32)]) (rest := []) (C := "ScriptDeskModel") (ci := 7) ZM_ok X hI (mt_Model_fails_r0 l hq) (cwV 1 hts (gd_V tw_607 tw_609 ts_16 tw_9 tw_610) rfl rfl rfl (by decide +kernel) ⟨Nat.le_of_ble_eq_true rfl, Nat.le_of_ble_eq_true rfl⟩) 0 rfl rfl rfl hl.1 rfl (Nat.le_of_ble_eq_true rfl) d_Model_pick_46 ⟨Nat.zero_le _, Nat.zero_le _⟩ (fun H locs hI => ?_)
        exact k_retv X hI hf d_Model_pick_49
  · have hf := sd_t hf hc
    exact k_retv X hI hf d_Model_pick_8
