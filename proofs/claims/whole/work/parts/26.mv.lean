theorem op_110 : OpS (fn_Moves_perform_r2 110) 110 := by
  intro μ ν S T hx hm hl h7 hc
  have hx3 := hx.d.2.2
  have hle : ((2 : Int32) ≤ μ.1 2 4) ↔ 2 ≤ S.length := xle hx (n := 2) (by decide)
  obtain ⟨ν', q1, q2, q3, q4⟩ := M_again hm h7 (n := 2) (above := 1) (many := 2) (by decide) rfl (by omega)
  have q1 : fn_Model_again_r0 2 1 2 ν = some ν' := q1
  refine sim_mk (S' := copies S 1 2) (T' := T) (c := 2 ≤ S.length) hx hl hc (fun d => ?_) (fun d => ?_) ⟨ν', ?_, q2.mono (by decide), q3, q4⟩ (fun d => ?_)
  · obtain ⟨μ', e1, e2, e3⟩ := X_pushCopies (k := 1) (n := 2) hx (by omega) (by omega)
    have e1 : fn_Elements_pushCopies_r2 1 2 μ = some μ' := e1
    exact ⟨μ', by rw [xp_110, if_pos (hle.mpr d), e1, pa_bv, pa_bv], e2, e3.mono (by decide)⟩
  · rw [xp_110, if_neg (fun z => d (hle.mp z))]
  · rw [mo_110, q1, pa_bv, pa_bv]
  · rw [copies_len]; omega
theorem xp_111 {μ : sd_Me} : fn_Moves_perform_r2 111 μ = if (3 : Int32) ≤ μ.1 2 4 then sd_bv (sd_bv (fn_Elements_pushCopies_r2 2 3 μ) (fun m2 => some m2)) (fun m8 => some ((0 : Int32), m8)) else some (5, μ) := rfl
theorem mo_111 {ν : sd_Me} : fn_Model_operation_r0 111 ν = sd_bv (sd_bv (fn_Model_again_r0 3 2 3 ν) (fun m => some m)) (fun m19 => some m19) := rfl
theorem op_111 : OpS (fn_Moves_perform_r2 111) 111 := by
  intro μ ν S T hx hm hl h7 hc
  have hx3 := hx.d.2.2
  have hle : ((3 : Int32) ≤ μ.1 2 4) ↔ 3 ≤ S.length := xle hx (n := 3) (by decide)
  obtain ⟨ν', q1, q2, q3, q4⟩ := M_again hm h7 (n := 3) (above := 2) (many := 3) (by decide) rfl (by omega)
  have q1 : fn_Model_again_r0 3 2 3 ν = some ν' := q1
  refine sim_mk (S' := copies S 2 3) (T' := T) (c := 3 ≤ S.length) hx hl hc (fun d => ?_) (fun d => ?_) ⟨ν', ?_, q2.mono (by decide), q3, q4⟩ (fun d => ?_)
  · obtain ⟨μ', e1, e2, e3⟩ := X_pushCopies (k := 2) (n := 3) hx (by omega) (by omega)
    have e1 : fn_Elements_pushCopies_r2 2 3 μ = some μ' := e1
    exact ⟨μ', by rw [xp_111, if_pos (hle.mpr d), e1, pa_bv, pa_bv], e2, e3.mono (by decide)⟩
  · rw [xp_111, if_neg (fun z => d (hle.mp z))]
  · rw [mo_111, q1, pa_bv, pa_bv]
  · rw [copies_len]; omega
theorem xp_112 {μ : sd_Me} : fn_Moves_perform_r2 112 μ = if (4 : Int32) ≤ μ.1 2 4 then sd_bv (sd_bv (fn_Elements_pushCopies_r2 3 2 μ) (fun m2 => some m2)) (fun m8 => some ((0 : Int32), m8)) else some (5, μ) := rfl
theorem mo_112 {ν : sd_Me} : fn_Model_operation_r0 112 ν = sd_bv (sd_bv (fn_Model_again_r0 4 3 2 ν) (fun m => some m)) (fun m19 => some m19) := rfl
theorem op_112 : OpS (fn_Moves_perform_r2 112) 112 := by
  intro μ ν S T hx hm hl h7 hc
  have hx3 := hx.d.2.2
  have hle : ((4 : Int32) ≤ μ.1 2 4) ↔ 4 ≤ S.length := xle hx (n := 4) (by decide)
  obtain ⟨ν', q1, q2, q3, q4⟩ := M_again hm h7 (n := 4) (above := 3) (many := 2) (by decide) rfl (by omega)
  have q1 : fn_Model_again_r0 4 3 2 ν = some ν' := q1
  refine sim_mk (S' := copies S 3 2) (T' := T) (c := 4 ≤ S.length) hx hl hc (fun d => ?_) (fun d => ?_) ⟨ν', ?_, q2.mono (by decide), q3, q4⟩ (fun d => ?_)
  · obtain ⟨μ', e1, e2, e3⟩ := X_pushCopies (k := 3) (n := 2) hx (by omega) (by omega)
    have e1 : fn_Elements_pushCopies_r2 3 2 μ = some μ' := e1
    exact ⟨μ', by rw [xp_112, if_pos (hle.mpr d), e1, pa_bv, pa_bv], e2, e3.mono (by decide)⟩
  · rw [xp_112, if_neg (fun z => d (hle.mp z))]
  · rw [mo_112, q1, pa_bv, pa_bv]
  · rw [copies_len]; omega
theorem xp_118 {μ : sd_Me} : fn_Moves_perform_r2 118 μ = if (1 : Int32) ≤ μ.1 2 4 then sd_bv (sd_bv (fn_Elements_pushCopy_r2 0 μ) (fun m2 => some m2)) (fun m8 => some ((0 : Int32), m8)) else some (5, μ) := rfl
theorem mo_118 {ν : sd_Me} : fn_Model_operation_r0 118 ν = sd_bv (sd_bv (fn_Model_again_r0 1 0 1 ν) (fun m => some m)) (fun m19 => some m19) := rfl
theorem op_118 : OpS (fn_Moves_perform_r2 118) 118 := by
  intro μ ν S T hx hm hl h7 hc
  have hx3 := hx.d.2.2
  have hle : ((1 : Int32) ≤ μ.1 2 4) ↔ 1 ≤ S.length := xle hx (n := 1) (by decide)
  obtain ⟨ν', q1, q2, q3, q4⟩ := M_again hm h7 (n := 1) (above := 0) (many := 1) (by decide) rfl (by omega)
  have q1 : fn_Model_again_r0 1 0 1 ν = some ν' := q1
  refine sim_mk (S' := copies S 0 1) (T' := T) (c := 1 ≤ S.length) hx hl hc (fun d => ?_) (fun d => ?_) ⟨ν', ?_, q2.mono (by decide), q3, q4⟩ (fun d => ?_)
  · obtain ⟨μ', e1, e2, e3⟩ := X_pushCopy hx (by omega) (k := 0) (by omega)
    have e1 : fn_Elements_pushCopy_r2 0 μ = some μ' := e1
    exact ⟨μ', by rw [xp_118, if_pos (hle.mpr d), e1, pa_bv, pa_bv], e2, e3.mono (by decide)⟩
  · rw [xp_118, if_neg (fun z => d (hle.mp z))]
  · rw [mo_118, q1, pa_bv, pa_bv]
  · rw [copies_len]; omega
theorem xp_120 {μ : sd_Me} : fn_Moves_perform_r2 120 μ = if (2 : Int32) ≤ μ.1 2 4 then sd_bv (sd_bv (fn_Elements_pushCopy_r2 1 μ) (fun m2 => some m2)) (fun m8 => some ((0 : Int32), m8)) else some (5, μ) := rfl
theorem mo_120 {ν : sd_Me} : fn_Model_operation_r0 120 ν = sd_bv (sd_bv (fn_Model_again_r0 2 1 1 ν) (fun m => some m)) (fun m19 => some m19) := rfl
theorem op_120 : OpS (fn_Moves_perform_r2 120) 120 := by
  intro μ ν S T hx hm hl h7 hc
  have hx3 := hx.d.2.2
  have hle : ((2 : Int32) ≤ μ.1 2 4) ↔ 2 ≤ S.length := xle hx (n := 2) (by decide)
  obtain ⟨ν', q1, q2, q3, q4⟩ := M_again hm h7 (n := 2) (above := 1) (many := 1) (by decide) rfl (by omega)
  have q1 : fn_Model_again_r0 2 1 1 ν = some ν' := q1
  refine sim_mk (S' := copies S 1 1) (T' := T) (c := 2 ≤ S.length) hx hl hc (fun d => ?_) (fun d => ?_) ⟨ν', ?_, q2.mono (by decide), q3, q4⟩ (fun d => ?_)
  · obtain ⟨μ', e1, e2, e3⟩ := X_pushCopy hx (by omega) (k := 1) (by omega)
    have e1 : fn_Elements_pushCopy_r2 1 μ = some μ' := e1
    exact ⟨μ', by rw [xp_120, if_pos (hle.mpr d), e1, pa_bv, pa_bv], e2, e3.mono (by decide)⟩
  · rw [xp_120, if_neg (fun z => d (hle.mp z))]
  · rw [mo_120, q1, pa_bv, pa_bv]
  · rw [copies_len]; omega
theorem xp_113 {μ : sd_Me} : fn_Moves_perform_r2 113 μ = if (6 : Int32) ≤ μ.1 2 4 then sd_bv (sd_bv (fn_Elements_lift_r2 5 μ) (fun m5 => sd_bv (fn_Elements_lift_r2 5 m5) (fun m6 => some m6))) (fun m8 => some ((0 : Int32), m8)) else some (5, μ) := rfl
theorem mo_113 {ν : sd_Me} : fn_Model_operation_r0 113 ν = sd_bv (sd_bv (fn_Model_turn_r0 6 2 ν) (fun m => some m)) (fun m19 => some m19) := rfl
theorem op_113 : OpS (fn_Moves_perform_r2 113) 113 := by
  intro μ ν S T hx hm hl h7 hc
  have hx3 := hx.d.2.2
  have hle : ((6 : Int32) ≤ μ.1 2 4) ↔ 6 ≤ S.length := xle hx (n := 6) (by decide)
  obtain ⟨ν', q1, q2, q3, q4⟩ := M_turn hm h7 (n := 6) (many := 2) (by decide) (by decide) (by decide)
  have q1 : fn_Model_turn_r0 6 2 ν = some ν' := q1
  refine sim_mk (S' := lifts S 5 2) (T' := T) (c := 6 ≤ S.length) hx hl hc (fun d => ?_) (fun d => ?_) ⟨ν', ?_, q2.mono (by decide), q3, q4⟩ (fun d => ?_)
  · obtain ⟨μ1, e1, e2, e3⟩ := X_lift hx (k := 5) (by omega)
    have e1 : fn_Elements_lift_r2 5 μ = some μ1 := e1
    obtain ⟨μ2, f1, f2, f3⟩ := X_lift e2 (k := 5) (by rw [lifted_len (by omega)]; omega)
    have f1 : fn_Elements_lift_r2 5 μ1 = some μ2 := f1
    exact ⟨μ2, by rw [xp_113, if_pos (hle.mpr d), e1, pa_bv, f1, pa_bv, pa_bv], f2, (e3.tr f3).mono (by decide)⟩
  · rw [xp_113, if_neg (fun z => d (hle.mp z))]
  · rw [mo_113, q1, pa_bv, pa_bv]
  · rw [lifts_len _ _ (by omega)]; omega
theorem xp_114 {μ : sd_Me} : fn_Moves_perform_r2 114 μ = if (4 : Int32) ≤ μ.1 2 4 then sd_bv (sd_bv (fn_Elements_lift_r2 3 μ) (fun m5 => sd_bv (fn_Elements_lift_r2 3 m5) (fun m6 => some m6))) (fun m8 => some ((0 : Int32), m8)) else some (5, μ) := rfl
theorem mo_114 {ν : sd_Me} : fn_Model_operation_r0 114 ν = sd_bv (sd_bv (fn_Model_turn_r0 4 2 ν) (fun m => some m)) (fun m19 => some m19) := rfl
theorem op_114 : OpS (fn_Moves_perform_r2 114) 114 := by
  intro μ ν S T hx hm hl h7 hc
  have hx3 := hx.d.2.2
  have hle : ((4 : Int32) ≤ μ.1 2 4) ↔ 4 ≤ S.length := xle hx (n := 4) (by decide)
  obtain ⟨ν', q1, q2, q3, q4⟩ := M_turn hm h7 (n := 4) (many := 2) (by decide) (by decide) (by decide)
  have q1 : fn_Model_turn_r0 4 2 ν = some ν' := q1
  refine sim_mk (S' := lifts S 3 2) (T' := T) (c := 4 ≤ S.length) hx hl hc (fun d => ?_) (fun d => ?_) ⟨ν', ?_, q2.mono (by decide), q3, q4⟩ (fun d => ?_)
  · obtain ⟨μ1, e1, e2, e3⟩ := X_lift hx (k := 3) (by omega)
    have e1 : fn_Elements_lift_r2 3 μ = some μ1 := e1
    obtain ⟨μ2, f1, f2, f3⟩ := X_lift e2 (k := 3) (by rw [lifted_len (by omega)]; omega)
    have f1 : fn_Elements_lift_r2 3 μ1 = some μ2 := f1
    exact ⟨μ2, by rw [xp_114, if_pos (hle.mpr d), e1, pa_bv, f1, pa_bv, pa_bv], f2, (e3.tr f3).mono (by decide)⟩
  · rw [xp_114, if_neg (fun z => d (hle.mp z))]
  · rw [mo_114, q1, pa_bv, pa_bv]
  · rw [lifts_len _ _ (by omega)]; omega
theorem xp_123 {μ : sd_Me} : fn_Moves_perform_r2 123 μ = if (3 : Int32) ≤ μ.1 2 4 then sd_bv (sd_bv (fn_Elements_lift_r2 2 μ) (fun m11 => some m11)) (fun m8 => some ((0 : Int32), m8)) else some (5, μ) := rfl
theorem mo_123 {ν : sd_Me} : fn_Model_operation_r0 123 ν = sd_bv (sd_bv (fn_Model_turn_r0 3 1 ν) (fun m => some m)) (fun m19 => some m19) := rfl
theorem op_123 : OpS (fn_Moves_perform_r2 123) 123 := by
  intro μ ν S T hx hm hl h7 hc
  have hx3 := hx.d.2.2
  have hle : ((3 : Int32) ≤ μ.1 2 4) ↔ 3 ≤ S.length := xle hx (n := 3) (by decide)
  obtain ⟨ν', q1, q2, q3, q4⟩ := M_turn hm h7 (n := 3) (many := 1) (by decide) (by decide) (by decide)
  have q1 : fn_Model_turn_r0 3 1 ν = some ν' := q1
  refine sim_mk (S' := lifts S 2 1) (T' := T) (c := 3 ≤ S.length) hx hl hc (fun d => ?_) (fun d => ?_) ⟨ν', ?_, q2.mono (by decide), q3, q4⟩ (fun d => ?_)
  · obtain ⟨μ1, e1, e2, e3⟩ := X_lift hx (k := 2) (by omega)
    have e1 : fn_Elements_lift_r2 2 μ = some μ1 := e1
    exact ⟨μ1, by rw [xp_123, if_pos (hle.mpr d), e1, pa_bv, pa_bv], e2, e3.mono (by decide)⟩
  · rw [xp_123, if_neg (fun z => d (hle.mp z))]
  · rw [mo_123, q1, pa_bv, pa_bv]
  · rw [lifts_len _ _ (by omega)]; omega
theorem xp_124 {μ : sd_Me} : fn_Moves_perform_r2 124 μ = if (2 : Int32) ≤ μ.1 2 4 then sd_bv (sd_bv (fn_Elements_lift_r2 1 μ) (fun m11 => some m11)) (fun m8 => some ((0 : Int32), m8)) else some (5, μ) := rfl
theorem mo_124 {ν : sd_Me} : fn_Model_operation_r0 124 ν = sd_bv (sd_bv (fn_Model_turn_r0 2 1 ν) (fun m => some m)) (fun m19 => some m19) := rfl
theorem op_124 : OpS (fn_Moves_perform_r2 124) 124 := by
  intro μ ν S T hx hm hl h7 hc
  have hx3 := hx.d.2.2
  have hle : ((2 : Int32) ≤ μ.1 2 4) ↔ 2 ≤ S.length := xle hx (n := 2) (by decide)
  obtain ⟨ν', q1, q2, q3, q4⟩ := M_turn hm h7 (n := 2) (many := 1) (by decide) (by decide) (by decide)
  have q1 : fn_Model_turn_r0 2 1 ν = some ν' := q1
  refine sim_mk (S' := lifts S 1 1) (T' := T) (c := 2 ≤ S.length) hx hl hc (fun d => ?_) (fun d => ?_) ⟨ν', ?_, q2.mono (by decide), q3, q4⟩ (fun d => ?_)
  · obtain ⟨μ1, e1, e2, e3⟩ := X_lift hx (k := 1) (by omega)
    have e1 : fn_Elements_lift_r2 1 μ = some μ1 := e1
    exact ⟨μ1, by rw [xp_124, if_pos (hle.mpr d), e1, pa_bv, pa_bv], e2, e3.mono (by decide)⟩
  · rw [xp_124, if_neg (fun z => d (hle.mp z))]
  · rw [mo_124, q1, pa_bv, pa_bv]
  · rw [lifts_len _ _ (by omega)]; omega
theorem xp_109 {μ : sd_Me} : fn_Moves_perform_r2 109 μ = if (2 : Int32) ≤ μ.1 2 4 then sd_bv (sd_bv (fn_Elements_drop_r2 2 μ) (fun m2 => some m2)) (fun m8 => some ((0 : Int32), m8)) else some (5, μ) := rfl
theorem mo_109 {ν : sd_Me} : fn_Model_operation_r0 109 ν = sd_bv (sd_bi (fn_Model_has_r0 2 ν) (fun x10 m9 => if x10 = (0 : Int32) then sd_let (sd_st m9 0 2 (m9.1 0 2)) (fun m11 => some m11) else sd_let (sd_st m9 0 2 ((m9.1 0 2) - (2 : Int32))) (fun m12 => some m12))) (fun m19 => some m19) := rfl
theorem op_109 : OpS (fn_Moves_perform_r2 109) 109 := by
  intro μ ν S T hx hm hl h7 hc
  have hx3 := hx.d.2.2
  have hle : ((2 : Int32) ≤ μ.1 2 4) ↔ 2 ≤ S.length := xle hx (n := 2) (by decide)
  refine sim_mk (S' := S.drop 2) (T' := T) (c := 2 ≤ S.length) hx hl hc (fun d => ?_) (fun d => ?_) ?_ (fun d => ?_)
  · have e1 : fn_Elements_drop_r2 2 μ = _ := X_drop hx d
    exact ⟨_, by rw [xp_109, if_pos (hle.mpr d), e1, pa_bv, pa_bv], AX_drop hx d, Fr.st (by decide)⟩
  · rw [xp_109, if_neg (fun z => d (hle.mp z))]
  · rw [mo_109]
    by_cases d : 2 ≤ S.length
    · have e1 : fn_Model_has_r0 2 ν = some (1, ν) := M_hasT hm h7 d
      refine ⟨sd_st ν 0 2 (nI (S.length - 2)), ?_, KM.st0 (by decide), fun _ => ⟨by rw [pa_sn _ _ _ _ _ (by decide)]; exact h7, AM_drop hm d⟩, fun z => absurd d z⟩
      rw [e1, pa_bi, if_neg (by decide), pa_let, pa_bv, hm.1, pl2, pk_sub d]
    · have e1 : fn_Model_has_r0 2 ν = some (0, sd_st ν 0 7 5) := M_hasF hm h7 d (by decide)
      refine ⟨_, by rw [e1, pa_bi, if_pos (by decide), pa_let, pa_bv], (KM.st0 (by decide)).tr (KM.st0 (by decide)), fun z => absurd z d, fun _ => by rw [pa_sn _ _ _ _ _ (by decide), pa_ss]⟩
  · rw [List.length_drop]; omega
theorem xp_117 {μ : sd_Me} : fn_Moves_perform_r2 117 μ = if (1 : Int32) ≤ μ.1 2 4 then sd_bv (sd_bv (fn_Elements_drop_r2 1 μ) (fun m2 => some m2)) (fun m8 => some ((0 : Int32), m8)) else some (5, μ) := rfl
theorem mo_117 {ν : sd_Me} : fn_Model_operation_r0 117 ν = sd_bv (sd_bi (fn_Model_has_r0 1 ν) (fun x10 m9 => if x10 = (0 : Int32) then sd_let (sd_st m9 0 2 (m9.1 0 2)) (fun m11 => some m11) else sd_let (sd_st m9 0 2 ((m9.1 0 2) - (1 : Int32))) (fun m12 => some m12))) (fun m19 => some m19) := rfl
theorem op_117 : OpS (fn_Moves_perform_r2 117) 117 := by
  intro μ ν S T hx hm hl h7 hc
  have hx3 := hx.d.2.2
  have hle : ((1 : Int32) ≤ μ.1 2 4) ↔ 1 ≤ S.length := xle hx (n := 1) (by decide)
  refine sim_mk (S' := S.drop 1) (T' := T) (c := 1 ≤ S.length) hx hl hc (fun d => ?_) (fun d => ?_) ?_ (fun d => ?_)
  · have e1 : fn_Elements_drop_r2 1 μ = _ := X_drop hx d
    exact ⟨_, by rw [xp_117, if_pos (hle.mpr d), e1, pa_bv, pa_bv], AX_drop hx d, Fr.st (by decide)⟩
  · rw [xp_117, if_neg (fun z => d (hle.mp z))]
  · rw [mo_117]
    by_cases d : 1 ≤ S.length
    · have e1 : fn_Model_has_r0 1 ν = some (1, ν) := M_hasT hm h7 d
      refine ⟨sd_st ν 0 2 (nI (S.length - 1)), ?_, KM.st0 (by decide), fun _ => ⟨by rw [pa_sn _ _ _ _ _ (by decide)]; exact h7, AM_drop hm d⟩, fun z => absurd d z⟩
      rw [e1, pa_bi, if_neg (by decide), pa_let, pa_bv, hm.1, pl1, pk_sub d]
    · have e1 : fn_Model_has_r0 1 ν = some (0, sd_st ν 0 7 5) := M_hasF hm h7 d (by decide)
      refine ⟨_, by rw [e1, pa_bi, if_pos (by decide), pa_let, pa_bv], (KM.st0 (by decide)).tr (KM.st0 (by decide)), fun z => absurd z d, fun _ => by rw [pa_sn _ _ _ _ _ (by decide), pa_ss]⟩
  · rw [List.length_drop]; omega
