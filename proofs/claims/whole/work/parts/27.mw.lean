theorem sim_k {o : Option (Int32 × sd_Me)} {p : Option sd_Me} {μ ν μ' ν' : sd_Me} {S T : List El} (hc : CN μ ν) (o1 : o = some (0, μ')) (o2 : AX μ' S T) (o3 : Fr [2, 3, 4, 5] μ μ') (p1 : p = some ν') (p2 : KM [2, 3, 7] ν ν') (p3 : ν'.1 0 7 = 0) (p4 : AM ν' S T) (hl : S.length + T.length ≤ 63) : SimO o p μ ν :=
  ⟨0, μ', ν', o1, p1, p3, Or.inl rfl, KX.fr o3, p2.mono (by decide), hc.keep o3 p2, fun _ => Or.inl (p2.1 9 (by decide)), S, T, o2, hl, fun _ => p4⟩
theorem sim_f {o : Option (Int32 × sd_Me)} {p : Option sd_Me} {μ ν μ' ν' : sd_Me} {S T : List El} {f : Int32} (hf : 0 < f) (hc : CN μ ν) (o1 : o = some (f, μ')) (o2 : AX μ' S T) (o3 : Fr [2, 3, 4, 5] μ μ') (p1 : p = some ν') (p2 : KM [2, 3, 7] ν ν') (p3 : ν'.1 0 7 = f) (hl : S.length + T.length ≤ 63) : SimO o p μ ν :=
  ⟨f, μ', ν', o1, p1, p3, Or.inr hf, KX.fr o3, p2.mono (by decide), hc.keep o3 p2, fun z => absurd hf (by rw [z]; decide), S, T, o2, hl, fun z => absurd hf (by rw [z]; decide)⟩
theorem lgc_lt {x y : Int64} : lg_cmp x y < 0 ↔ x < y := by
  unfold lg_cmp
  by_cases c : x > y
  · rw [if_pos c]
    exact ⟨fun z => absurd z (by decide), fun z => absurd (Int64.lt_iff_toInt_lt.mp z) (by have := Int64.lt_iff_toInt_lt.mp c; omega)⟩
  · rw [if_neg c]
    by_cases d : x = y
    · rw [if_pos d]
      exact ⟨fun z => absurd z (by decide), fun z => absurd (Int64.lt_iff_toInt_lt.mp z) (by rw [d]; omega)⟩
    · rw [if_neg d]
      refine ⟨fun _ => ?_, fun _ => by decide⟩
      rw [Int64.lt_iff_toInt_lt]
      have h1 : ¬ y.toInt < x.toInt := fun z => c (Int64.lt_iff_toInt_lt.mpr z)
      have h2 : x.toInt ≠ y.toInt := fun z => d (Int64.toInt_inj.mp z)
      omega
theorem lgc_le {x y : Int64} : lg_cmp x y ≤ 0 ↔ x ≤ y := by
  unfold lg_cmp
  by_cases c : x > y
  · rw [if_pos c]
    exact ⟨fun z => absurd z (by decide), fun z => absurd (Int64.le_iff_toInt_le.mp z) (by have := Int64.lt_iff_toInt_lt.mp c; omega)⟩
  · have h1 : ¬ y.toInt < x.toInt := fun z => c (Int64.lt_iff_toInt_lt.mpr z)
    rw [if_neg c]
    refine ⟨fun _ => Int64.le_iff_toInt_le.mpr (by omega), fun _ => ?_⟩
    split <;> decide
theorem lgc_ge {x y : Int64} : (0 : Int32) ≤ lg_cmp x y ↔ y ≤ x := by
  have h := lgc_lt (x := x) (y := y)
  rw [← Int32.not_lt, h, Int64.not_lt]
theorem lgc_gt {x y : Int64} : (0 : Int32) < lg_cmp x y ↔ y < x := by
  have h := lgc_le (x := x) (y := y)
  rw [← Int32.not_le, h, Int64.not_le]
theorem lgc_eq {x y : Int64} : lg_cmp x y = 0 ↔ x = y := by
  unfold lg_cmp
  by_cases c : x > y
  · rw [if_pos c]
    exact ⟨fun z => absurd z (by decide), fun z => absurd (Int64.lt_iff_toInt_lt.mp c) (by rw [z]; omega)⟩
  · rw [if_neg c]
    by_cases d : x = y
    · rw [if_pos d]; exact ⟨fun _ => d, fun _ => rfl⟩
    · rw [if_neg d]; exact ⟨fun z => absurd z (by decide), fun z => absurd z d⟩
theorem xp_115 {μ : sd_Me} : fn_Moves_perform_r2 115 μ = if (1 : Int32) ≤ μ.1 2 4 then sd_bv (sd_bi (fn_Elements_topHolds_r2 μ) (fun x2 m1 => if x2 = (0 : Int32) then sd_bv (fn_Elements_pushCopies_r2 (0 : Int32) (0 : Int32) m1) (fun m3 => some m3) else sd_bv (fn_Elements_pushCopies_r2 (0 : Int32) (1 : Int32) m1) (fun m4 => some m4))) (fun m8 => some ((0 : Int32), m8)) else some (5, μ) := rfl
theorem mo_115 {ν : sd_Me} : fn_Model_operation_r0 115 ν = sd_bv (sd_bi (fn_Model_has_r0 (1 : Int32) ν) (fun x19 m18 => if x19 = (0 : Int32) then some m18 else sd_bi (fn_Model_top_r0 (0 : Int32) m18) (fun x21 m20 => sd_bi (fn_Model_isTrueRow_r0 x21 m20) (fun x23 m22 => if x23 = (0 : Int32) then some m22 else sd_bi (fn_Model_top_r0 (0 : Int32) m22) (fun x25 m24 => sd_bv (fn_Model_push_r0 x25 m24) (fun m26 => some m26)))))) (fun m19 => some m19) := rfl
theorem op_115 : OpS (fn_Moves_perform_r2 115) 115 := by
  intro μ ν S T hx hm hl h7 hc
  have hle : ((1 : Int32) ≤ μ.1 2 4) ↔ 1 ≤ S.length := xle hx (n := 1) (by decide)
  by_cases d : 1 ≤ S.length
  · have e1 : fn_Model_has_r0 1 ν = some (1, ν) := M_hasT hm h7 d
    have e2 : fn_Model_top_r0 0 ν = some (nI (S.length - 1 - 0), ν) := M_top hm (k := 0) d
    have hok := hm.ok (k := 0) d
    have e3 := M_true (hm.2.2.2.1 0 d) (by omega) hok.1
    have ht : topB S = trB (S.getD 0 []) := by simp [topB, show 0 < S.length by omega]
    cases hb : trB (S.getD 0 [])
    · obtain ⟨μ', f1, f2, f3⟩ := X_pushCopies (k := 0) (n := 0) hx (by omega) d
      have f1 : fn_Elements_pushCopies_r2 0 0 μ = some μ' := f1
      refine sim_k hc (by rw [xp_115, if_pos (hle.mpr d), X_top hx, pa_bi, ht, hb, if_pos (by decide), f1, pa_bv, pa_bv]) f2 (f3.mono (by decide)) (by rw [mo_115, e1, pa_bi, if_neg (by decide), e2, pa_bi, e3, pa_bi, hb, if_pos (by decide), pa_bv]) KM.rf h7 hm (by rw [copies_len]; omega)
    · obtain ⟨μ', f1, f2, f3⟩ := X_pushCopies (k := 0) (n := 1) hx (by omega) d
      have f1 : fn_Elements_pushCopies_r2 0 1 μ = some μ' := f1
      obtain ⟨ν', g1, g2, g3, g4, g5⟩ := M_push hm (by omega) (r := S.length - 1 - 0) (by omega) (by omega) (hm.2.2.2.1 0 d) hok
      refine sim_k hc (by rw [xp_115, if_pos (hle.mpr d), X_top hx, pa_bi, ht, hb, if_neg (by decide), f1, pa_bv, pa_bv]) f2 (f3.mono (by decide)) (by rw [mo_115, e1, pa_bi, if_neg (by decide), e2, pa_bi, e3, pa_bi, hb, if_neg (by decide), e2, pa_bi, g1, pa_bv, pa_bv]) (g3.mono (by decide)) (by rw [g3.1 7 (by decide)]; exact h7) g2 (by rw [copies_len]; omega)
  · have e1 : fn_Model_has_r0 1 ν = some (0, sd_st ν 0 7 5) := M_hasF hm h7 d (by decide)
    exact sim_f (f := 5) (by decide) hc (by rw [xp_115, if_neg (fun z => d (hle.mp z))]) hx Fr.rf (by rw [mo_115, e1, pa_bi, if_pos (by decide), pa_bv]) (KM.st0 (by decide)) (pa_ss _ _ _ _) (by omega)
theorem xp_116 {μ : sd_Me} : fn_Moves_perform_r2 116 μ = if (0 : Int32) ≤ μ.1 2 4 then sd_bv (sd_bv (fn_Elements_pushNumber_r2 (Int32.toInt64 (μ.1 2 4)) μ) (fun m5 => some m5)) (fun m8 => some ((0 : Int32), m8)) else some (5, μ) := rfl
theorem mo_116 {ν : sd_Me} : fn_Model_operation_r0 116 ν = sd_bv (sd_bv (fn_Model_pushNumber_r0 (Int32.toInt64 (ν.1 0 2)) ν) (fun m27 => some m27)) (fun m19 => some m19) := rfl
theorem sgn_n {a : Nat} (h : a < 2 ^ 31) : Int32.toInt64 (nI a) = sgn a false := by
  show (nI a).toInt64 = lN a
  exact nI_l h
theorem op_116 : OpS (fn_Moves_perform_r2 116) 116 := by
  intro μ ν S T hx hm hl h7 hc
  have hle : ((0 : Int32) ≤ μ.1 2 4) ↔ 0 ≤ S.length := xle hx (n := 0) (by decide)
  obtain ⟨μ', f1, f2, f3⟩ := X_pushNum hx (by omega) (a := S.length) (neg := false) (by omega) (fun z => by cases z)
  obtain ⟨ν', g1, g2, g3, g4⟩ := M_pushNum hm (by omega) (a := S.length) (neg := false) (by omega) (fun z => by cases z)
  refine sim_k hc (by rw [xp_116, if_pos (hle.mpr (Nat.zero_le _)), hx.d.1, sgn_n (by omega), f1, pa_bv, pa_bv]) f2 (f3.mono (by decide)) (by rw [mo_116, hm.1, sgn_n (by omega), g1, pa_bv, pa_bv]) (g3.mono (by decide)) (by rw [g3.1 7 (by decide)]; exact h7) g2 (by rw [List.length_cons]; omega)
theorem xp_119 {μ : sd_Me} : fn_Moves_perform_r2 119 μ = if (2 : Int32) ≤ μ.1 2 4 then sd_bv (sd_bv (fn_Elements_lift_r2 (1 : Int32) μ) (fun m8 => sd_bv (fn_Elements_drop_r2 (1 : Int32) m8) (fun m9 => some m9))) (fun m8 => some ((0 : Int32), m8)) else some (5, μ) := rfl
theorem mo_119 {ν : sd_Me} : fn_Model_operation_r0 119 ν = sd_bv (sd_bi (fn_Model_has_r0 (2 : Int32) ν) (fun x34 m33 => if x34 = (0 : Int32) then some m33 else sd_bv (fn_Model_takeOut_r0 (1 : Int32) m33) (fun m35 => some m35))) (fun m19 => some m19) := rfl
theorem op_119 : OpS (fn_Moves_perform_r2 119) 119 := by
  intro μ ν S T hx hm hl h7 hc
  have hle : ((2 : Int32) ≤ μ.1 2 4) ↔ 2 ≤ S.length := xle hx (n := 2) (by decide)
  by_cases d : 2 ≤ S.length
  · have e1 : fn_Model_has_r0 2 ν = some (1, ν) := M_hasT hm h7 d
    obtain ⟨μ1, f1, f2, f3⟩ := X_lift hx (k := 1) (by omega)
    have f1 : fn_Elements_lift_r2 1 μ = some μ1 := f1
    have hlen := lifted_len (S := S) (k := 1) (by omega)
    have g1 : fn_Elements_drop_r2 1 μ1 = _ := X_drop f2 (n := 1) (by omega)
    have g2 := AX_drop f2 (n := 1) (by omega)
    have g2 : AX _ (S.eraseIdx 1) T := g2
    obtain ⟨ν', k1, k2, k3, k4, k5⟩ := M_takeOut hm (n := 1) (by omega)
    have k1 : fn_Model_takeOut_r0 1 ν = some ν' := k1
    refine sim_k hc (by rw [xp_119, if_pos (hle.mpr d), f1, pa_bv, g1, pa_bv, pa_bv]) g2 ((f3.mono (by decide)).tr (Fr.st (by decide))) (by rw [mo_119, e1, pa_bi, if_neg (by decide), k1, pa_bv, pa_bv]) (k3.mono (by decide)) (by rw [k3.1 7 (by decide)]; exact h7) k2 (by rw [List.length_eraseIdx_of_lt (by omega)]; omega)
  · have e1 : fn_Model_has_r0 2 ν = some (0, sd_st ν 0 7 5) := M_hasF hm h7 d (by decide)
    exact sim_f (f := 5) (by decide) hc (by rw [xp_119, if_neg (fun z => d (hle.mp z))]) hx Fr.rf (by rw [mo_119, e1, pa_bi, if_pos (by decide), pa_bv]) (KM.st0 (by decide)) (pa_ss _ _ _ _) (by omega)
theorem xp_125 {μ : sd_Me} : fn_Moves_perform_r2 125 μ = if (2 : Int32) ≤ μ.1 2 4 then sd_bv (sd_bv (fn_Elements_lift_r2 (1 : Int32) μ) (fun m13 => sd_bv (fn_Elements_pushCopy_r2 (1 : Int32) m13) (fun m14 => some m14))) (fun m8 => some ((0 : Int32), m8)) else some (5, μ) := rfl
theorem mo_125 {ν : sd_Me} : fn_Model_operation_r0 125 ν = sd_bv (sd_bv (fn_Model_turn_r0 (2 : Int32) (1 : Int32) ν) (fun m41 => if (m41.1 0 7) = (0 : Int32) then sd_bv (fn_Model_again_r0 (2 : Int32) (1 : Int32) (1 : Int32) m41) (fun m42 => some m42) else some m41)) (fun m19 => some m19) := rfl
theorem op_125 : OpS (fn_Moves_perform_r2 125) 125 := by
  intro μ ν S T hx hm hl h7 hc
  have hle : ((2 : Int32) ≤ μ.1 2 4) ↔ 2 ≤ S.length := xle hx (n := 2) (by decide)
  obtain ⟨ν1, q1, q2, q3, q4⟩ := M_turn hm h7 (n := 2) (many := 1) (by decide) (by decide) (by decide)
  have q1 : fn_Model_turn_r0 2 1 ν = some ν1 := q1
  by_cases d : 2 ≤ S.length
  · obtain ⟨r1, r2⟩ := q3 d
    have r2 : AM ν1 (lifted S 1) T := r2
    have hlen := lifted_len (S := S) (k := 1) (by omega)
    obtain ⟨ν2, s1, s2, s3, s4⟩ := M_again r2 r1 (n := 2) (above := 1) (many := 1) (by decide) rfl (by omega)
    have s1 : fn_Model_again_r0 2 1 1 ν1 = some ν2 := s1
    obtain ⟨t1, t2⟩ := s3 (by omega)
    obtain ⟨μ1, f1, f2, f3⟩ := X_lift hx (k := 1) (by omega)
    have f1 : fn_Elements_lift_r2 1 μ = some μ1 := f1
    obtain ⟨μ2, g1, g2, g3⟩ := X_pushCopy f2 (by omega) (k := 1) (by omega)
    have g1 : fn_Elements_pushCopy_r2 1 μ1 = some μ2 := g1
    refine sim_k hc (by rw [xp_125, if_pos (hle.mpr d), f1, pa_bv, g1, pa_bv, pa_bv]) g2 ((f3.mono (by decide)).tr (g3.mono (by decide))) (by rw [mo_125, q1, pa_bv, r1, if_pos rfl, s1, pa_bv, pa_bv]) ((q2.mono (by decide)).tr (s2.mono (by decide))) t1 t2 (by rw [List.length_cons]; omega)
  · exact sim_f (f := 5) (by decide) hc (by rw [xp_125, if_neg (fun z => d (hle.mp z))]) hx Fr.rf (by rw [mo_125, q1, pa_bv, q4 d, if_neg (by decide), pa_bv]) (q2.mono (by decide)) (q4 d) (by omega)
theorem xp_130 {μ : sd_Me} : fn_Moves_perform_r2 130 μ = if (1 : Int32) ≤ μ.1 2 4 then sd_bi (sd_bi (fn_Elements_lengthAt_r2 (0 : Int32) μ) (fun x7 m6 => sd_bv (fn_Elements_pushNumber_r2 (Int32.toInt64 x7) m6) (fun m8 => some ((0 : Int32), m8)))) (fun x10 m9 => some (x10, m9)) else some (5, μ) := rfl
theorem mo_130 {ν : sd_Me} : fn_Model_operation_r0 130 ν = sd_bv (sd_bi (fn_Model_has_r0 (1 : Int32) ν) (fun x44 m43 => if x44 = (0 : Int32) then some m43 else sd_bi (fn_Model_top_r0 (0 : Int32) m43) (fun x46 m45 => sd_gd (sd_ix x46 140) (sd_bv (fn_Model_pushNumber_r0 (Int32.toInt64 (m45.1 2 (Int32.toNatClampNeg x46))) m45) (fun m47 => some m47))))) (fun m19 => some m19) := rfl
theorem op_130 : OpS (fn_Moves_perform_r2 130) 130 := by
  intro μ ν S T hx hm hl h7 hc
  have hle : ((1 : Int32) ≤ μ.1 2 4) ↔ 1 ≤ S.length := xle hx (n := 1) (by decide)
  by_cases d : 1 ≤ S.length
  · have e1 : fn_Model_has_r0 1 ν = some (1, ν) := M_hasT hm h7 d
    have e2 : fn_Model_top_r0 0 ν = some (nI (S.length - 1 - 0), ν) := M_top hm (k := 0) d
    have hok := hm.ok (k := 0) d
    have hR := hm.2.2.2.1 0 d
    have e3 : fn_Elements_lengthAt_r2 0 μ = _ := X_len hx (k := 0) d
    have hk := hok.1
    obtain ⟨μ', f1, f2, f3⟩ := X_pushNum hx (by omega) (a := (S.getD 0 []).length) (neg := false) (by omega) (fun z => by cases z)
    obtain ⟨ν', g1, g2, g3, g4⟩ := M_pushNum hm (by omega) (a := (S.getD 0 []).length) (neg := false) (by omega) (fun z => by cases z)
    refine sim_k hc (by rw [xp_130, if_pos (hle.mpr d), e3, pa_bi, sgn_n (by omega), f1, pa_bv, pa_bi]) f2 (f3.mono (by decide)) (by rw [mo_130, e1, pa_bi, if_neg (by decide), e2, pa_bi, pa_ix (by omega) (by decide), pa_gd, nI_clamp (by omega), hR.1, sgn_n (by omega), g1, pa_bv, pa_bv]) (g3.mono (by decide)) (by rw [g3.1 7 (by decide)]; exact h7) g2 (by rw [List.length_cons]; omega)
  · have e1 : fn_Model_has_r0 1 ν = some (0, sd_st ν 0 7 5) := M_hasF hm h7 d (by decide)
    exact sim_f (f := 5) (by decide) hc (by rw [xp_130, if_neg (fun z => d (hle.mp z))]) hx Fr.rf (by rw [mo_130, e1, pa_bi, if_pos (by decide), pa_bv]) (KM.st0 (by decide)) (pa_ss _ _ _ _) (by omega)
