theorem mo_107 {ν : sd_Me} : fn_Model_operation_r0 107 ν = sd_bv (sd_bi (fn_Model_has_r0 (1 : Int32) ν) (fun x2 m1 => if x2 = (0 : Int32) then some m1 else sd_let (sd_st m1 0 2 ((m1.1 0 2) - (1 : Int32))) (fun m3 => sd_bv (fn_Model_copy_r0 ((70 : Int32) + (m3.1 0 3)) (m3.1 0 2) m3) (fun m4 => sd_let (sd_st m4 0 3 ((m4.1 0 3) + (1 : Int32))) (fun m5 => some m5))))) (fun m19 => some m19) := rfl
theorem xp_107 {μ : sd_Me} : fn_Desk_performPlain_r0 107 μ = sd_bi (fn_Elements_toSide_r2 μ) (fun x4 m3 => some (x4, m3)) := rfl
theorem op_107 : OpS (fn_Desk_performPlain_r0 107) 107 := by
  intro μ ν S T hx hm hl h7 hc
  cases S with
  | nil =>
    have e1 : fn_Model_has_r0 1 ν = some (0, sd_st ν 0 7 5) := M_hasF hm h7 (by decide) (by decide)
    exact sim_f (f := 5) (by decide) hc (by rw [xp_107, X_toSide0 hx, pa_bi]) hx Fr.rf (by rw [mo_107, e1, pa_bi, if_pos (by decide), pa_bv]) (KM.st0 (by decide)) (pa_ss _ _ _ _) (by omega)
  | cons e S =>
    obtain ⟨μ', f1, f2, f3⟩ := X_toSide hx
    rw [List.length_cons] at hl
    have e1 : fn_Model_has_r0 1 ν = some (1, ν) := M_hasT (n := 1) hm h7 (by rw [List.length_cons]; omega)
    obtain ⟨a1, a2, a3, a4, a5, a6, a7⟩ := id hm
    rw [List.length_cons] at a1 a3
    have hd := AM_drop hm (n := 1) (by rw [List.length_cons]; omega)
    rw [List.length_cons, Nat.add_sub_cancel] at hd
    have hd : AM (sd_st ν 0 2 (nI S.length)) S T := hd
    have hR : Row ν S.length e := a4 0 (by rw [List.length_cons]; omega)
    have ho : okE e := a6 0 (by rw [List.length_cons]; omega)
    have b3 : (sd_st ν 0 2 (nI S.length)).1 0 3 = nI T.length := by rw [pa_sn _ _ _ _ _ (by decide)]; exact a2
    have ep : nI (S.length + 1) - nI 1 = nI S.length := by rw [pk_sub (by omega), Nat.add_sub_cancel]
    refine sim_k hc (by rw [xp_107, f1, pa_bi]) f2 (f3.mono (by decide)) (ν' := sd_st (copyM (sd_st ν 0 2 (nI S.length)) (70 + T.length) S.length) 0 3 (nI (T.length + 1))) ?_ ?_ ?_ ?_ (by rw [List.length_cons]; omega)
    · rw [mo_107, e1, pa_bi, if_neg (by decide), pa_let, a1, pl1, ep, pa_ss, b3, pl70, nI_add, M_copy (by omega) (by omega) (by omega), pa_bv, pa_let, copyM_0, b3, nI_add, pa_bv]
    · exact ((KM.st0 (by decide)).tr copyM_KM).tr (KM.st0 (by decide))
    · rw [pa_sn _ _ _ _ _ (by decide), copyM_0, pa_sn _ _ _ _ _ (by decide)]; exact h7
    · refine ⟨?_, ?_, ?_, ?_, ?_, hd.2.2.2.2.2.1, a7.cons ho⟩
      · rw [pa_sn _ _ _ _ _ (by decide), copyM_0, pa_ss]
      · rw [pa_ss, List.length_cons]
      · rw [List.length_cons]; omega
      · intro i hi
        exact ((hd.2.2.2.1 i hi).rs (hd.2.2.2.2.2.1 i hi).1 (copyM_rs (by omega))).rs (hd.2.2.2.2.2.1 i hi).1 RS.st0
      · intro j hj
        rw [List.length_cons] at hj ⊢
        cases j with
        | zero =>
          rw [show 70 + (T.length + 1 - 1 - 0) = 70 + T.length by omega]
          exact (copyM_row (hR.rs ho.1 RS.st0) ho.1).rs ho.1 RS.st0
        | succ j =>
          rw [List.getD_cons_succ, show 70 + (T.length + 1 - 1 - (j + 1)) = 70 + (T.length - 1 - j) by omega]
          have o7 := (a7 j (by omega)).1
          exact (((a5 j (by omega)).rs o7 RS.st0).rs o7 (copyM_rs (by omega))).rs o7 RS.st0
theorem mo_108 {ν : sd_Me} : fn_Model_operation_r0 108 ν = sd_bv (if (ν.1 0 3) = (0 : Int32) then sd_bv (fn_Model_fails_r0 (5 : Int32) ν) (fun m8 => some m8) else sd_let (sd_st ν 0 3 ((ν.1 0 3) - (1 : Int32))) (fun m6 => sd_bv (fn_Model_push_r0 ((70 : Int32) + (m6.1 0 3)) m6) (fun m7 => some m7))) (fun m19 => some m19) := rfl
theorem xp_108 {μ : sd_Me} : fn_Desk_performPlain_r0 108 μ = sd_bi (fn_Elements_fromSide_r2 μ) (fun x4 m3 => some (x4, m3)) := rfl
theorem op_108 : OpS (fn_Desk_performPlain_r0 108) 108 := by
  intro μ ν S T hx hm hl h7 hc
  have a2 := hm.2.1
  cases T with
  | nil =>
    exact sim_f (f := 5) (by decide) hc (by rw [xp_108, X_fromSide0 hx, pa_bi]) hx Fr.rf (by rw [mo_108, a2, if_pos (by decide), M_fails h7, pa_bv, pa_bv]) (KM.st0 (by decide)) (pa_ss _ _ _ _) (by omega)
  | cons e T =>
    obtain ⟨μ', f1, f2, f3⟩ := X_fromSide hx
    rw [List.length_cons] at hl a2
    obtain ⟨a1, -, a3, a4, a5, a6, a7⟩ := id hm
    rw [List.length_cons] at a3
    have hR : Row ν (70 + T.length) e := by
      have z := a5 0 (by rw [List.length_cons]; omega)
      rw [List.length_cons, show 70 + (T.length + 1 - 1 - 0) = 70 + T.length by omega] at z
      exact z
    have ho : okE e := a7 0 (by rw [List.length_cons]; omega)
    have hAM : AM (sd_st ν 0 3 (nI T.length)) S T := by
      refine ⟨?_, ?_, by omega, ?_, ?_, a6, ?_⟩
      · rw [pa_sn _ _ _ _ _ (by decide)]; exact a1
      · rw [pa_ss]
      · intro i hi
        exact (a4 i hi).rs (a6 i hi).1 RS.st0
      · intro j hj
        have z := a5 (j + 1) (by rw [List.length_cons]; omega)
        rw [List.length_cons, List.getD_cons_succ, show 70 + (T.length + 1 - 1 - (j + 1)) = 70 + (T.length - 1 - j) by omega] at z
        exact z.rs (a7 (j + 1) (by rw [List.length_cons]; omega)).1 RS.st0
      · intro j hj
        exact a7 (j + 1) (by rw [List.length_cons]; omega)
    obtain ⟨ν', g1, g2, g3, g4, g5⟩ := M_push hAM (by omega) (r := 70 + T.length) (by omega) (by omega) (hR.rs ho.1 RS.st0) ho
    have ep : nI (T.length + 1) - nI 1 = nI T.length := by rw [pk_sub (by omega), Nat.add_sub_cancel]
    refine sim_k hc (by rw [xp_108, f1, pa_bi]) f2 (f3.mono (by decide)) (ν' := ν') ?_ ((KM.st0 (by decide)).tr (g3.mono (by decide))) (by rw [g3.1 7 (by decide), pa_sn _ _ _ _ _ (by decide)]; exact h7) g2 (by rw [List.length_cons]; omega)
    rw [mo_108, a2, if_neg (nI_ne0 (by omega) (by omega)), pa_let, pl1, ep, pa_ss, pl70, nI_add, g1, pa_bv, pa_bv]
theorem xp_105 {μ : sd_Me} : fn_Desk_performPlain_r0 105 μ = sd_bi (fn_Elements_takeTrue_r2 μ) (fun x4 m3 => some (x4, m3)) := rfl
theorem mo_105 {ν : sd_Me} : fn_Model_operation_r0 105 ν = sd_bv (fn_Model_mustBeTrue_r0 ν) (fun m14 => some m14) := rfl
/-- what must be true, on both sides, behind anything -/
theorem sim_must {μ ν : sd_Me} {S T : List El} (hx : AX μ S T) (hm : AM ν S T) (hl : S.length + T.length ≤ 63) (h7 : ν.1 0 7 = 0) (hc : CN μ ν) : SimO (fn_Elements_takeTrue_r2 μ) (fn_Model_mustBeTrue_r0 ν) μ ν := by
  cases S with
  | nil =>
    obtain ⟨ν', g1, g2, g3⟩ := M_must0 hm h7
    exact sim_f (f := 5) (by decide) hc (X_take0 hx) hx Fr.rf g1 (g3.mono (by decide)) g2 (by omega)
  | cons e S =>
    obtain ⟨μ', f1, f2, f3, f4⟩ := X_take hx
    obtain ⟨ν', g1, g2, g3, g4⟩ := M_must hm h7
    rw [List.length_cons] at hl
    cases hb : trB e
    · rw [hb] at f1 g2
      have := f4 hb
      subst this
      exact sim_f (f := 8) (by decide) hc f1 hx Fr.rf g1 (g3.mono (by decide)) g2 (by rw [List.length_cons]; omega)
    · rw [hb] at f1 g2
      exact sim_k hc f1 (f3 hb) (f2.mono (by decide)) g1 (g3.mono (by decide)) g2 g4 (by omega)
theorem op_105 : OpS (fn_Desk_performPlain_r0 105) 105 := by
  intro μ ν S T hx hm hl h7 hc
  rw [xp_105, mo_105, bv_id, bi_id]
  exact sim_must hx hm (by omega) h7 hc
theorem op_106 : OpS (fn_Desk_performPlain_r0 106) 106 := by
  intro μ ν S T hx hm hl h7 hc
  have e1 : fn_Model_operation_r0 106 ν = sd_bv (fn_Model_fails_r0 9 ν) (fun m13 => some m13) := rfl
  exact sim_f (f := 9) (by decide) hc rfl hx Fr.rf (by rw [e1, M_fails h7, pa_bv]) (KM.st0 (by decide)) (pa_ss _ _ _ _) (by omega)
theorem op_97 : OpS (fn_Desk_performPlain_r0 97) 97 := by
  intro μ ν S T hx hm hl h7 hc
  exact sim_k hc rfl hx Fr.rf (show fn_Model_operation_r0 97 ν = some ν from rfl) KM.rf h7 hm (by omega)
/-- codes that do not exist -/
theorem op_no {fx : sd_Me → Option (Int32 × sd_Me)} {c : Int32} (h1 : ∀ μ, fx μ = some (4, μ)) (h2 : ∀ ν, fn_Model_operation_r0 c ν = sd_bv (fn_Model_fails_r0 4 ν) (fun m12 => some m12)) : OpS fx c := by
  intro μ ν S T hx hm hl h7 hc
  exact sim_f (f := 4) (by decide) hc (h1 μ) hx Fr.rf (by rw [h2, M_fails h7, pa_bv]) (KM.st0 (by decide)) (pa_ss _ _ _ _) (by omega)
/-- a truth in the place of n elements, on both sides -/
theorem sim_truth {μ ν : sd_Me} {S T : List El} (hx : AX μ S T) (hm : AM ν S T) {n : Nat} (hn : n ≤ S.length) (h1n : 1 ≤ n) (hl : S.length + T.length ≤ 60) (h7 : ν.1 0 7 = 0) (b : Bool) : ∃ μ' ν', fn_Elements_replaceByTruth_r2 (nI n) (bI b) μ = some μ' ∧ fn_Model_pushTruth_r0 (bI b) (sd_st ν 0 2 (nI (S.length - n))) = some ν' ∧ AX μ' (tE b :: S.drop n) T ∧ AM ν' (tE b :: S.drop n) T ∧ Fr [2, 3, 4, 5] μ μ' ∧ KM [2, 3, 7] ν ν' ∧ ν'.1 0 7 = 0 ∧ (tE b :: S.drop n).length + T.length ≤ 60 := by
  obtain ⟨μ', f1, f2, f3⟩ := X_truth hx hn (by omega) (b := b)
  have hd := AM_drop hm hn
  obtain ⟨ν', g1, g2, g3, g4⟩ := M_truth hd (by rw [List.length_drop]; omega) (b := b)
  refine ⟨μ', ν', f1, g1, f2, g2, f3.mono (by decide), (KM.st0 (by decide)).tr (g3.mono (by decide)), by rw [g3.1 7 (by decide), pa_sn _ _ _ _ _ (by decide)]; exact h7, by rw [List.length_cons, List.length_drop]; omega⟩
theorem CN.keep2 {μ μ' ν ν' : sd_Me} (h : CN μ ν) (g : Fr [2, 3, 4, 5] μ μ') (k : KM [2, 3, 7] ν ν') : CN μ' ν' := h.keep g k
/-- one more step behind a step that went well -/
theorem SimO.then {o : Option (Int32 × sd_Me)} {p : Option sd_Me} {μ ν μ' ν' : sd_Me} (g : KX μ μ') (k : KM [2, 3, 7, 10] ν ν') (h : SimO o p μ' ν') : SimO o p μ ν := by
  obtain ⟨f, a, b, h1, h2, h3, h4, h5, h6, h7, h9, h8⟩ := h
  exact ⟨f, a, b, h1, h2, h3, h4, g.tr h5, (k.mono (by decide)).tr h6, h7, fun z => by rw [← k.1 9 (by decide)]; exact h9 z, h8⟩
theorem SimO.then9 {o : Option (Int32 × sd_Me)} {p : Option sd_Me} {μ ν μ' ν' : sd_Me} (g : KX μ μ') (k : KM [2, 3, 7, 9, 10] ν ν') (h100 : ν'.1 0 9 ≤ 100) (h : SimO o p μ' ν') : SimO o p μ ν := by
  obtain ⟨f, a, b, h1, h2, h3, h4, h5, h6, h7, h9, h8⟩ := h
  exact ⟨f, a, b, h1, h2, h3, h4, g.tr h5, k.tr h6, h7, fun z => Or.inr ((h9 z).elim (fun q => by rw [q]; exact h100) id), h8⟩
theorem xp_135 {μ : sd_Me} : fn_Moves_perform_r2 135 μ = if (2 : Int32) ≤ μ.1 2 4 then sd_bi (sd_bi (fn_Elements_areSame_r2 (0 : Int32) (1 : Int32) μ) (fun x2 m1 => sd_bv (fn_Elements_replaceByTruth_r2 (2 : Int32) x2 m1) (fun m3 => some ((0 : Int32), m3)))) (fun x10 m9 => some (x10, m9)) else some (5, μ) := rfl
theorem xp_136 {μ : sd_Me} : fn_Moves_perform_r2 136 μ = if (2 : Int32) ≤ μ.1 2 4 then sd_bi (sd_bi (fn_Elements_areSame_r2 (0 : Int32) (1 : Int32) μ) (fun x2 m1 => sd_bv (fn_Elements_replaceByTruth_r2 (2 : Int32) x2 m1) (fun m3 => sd_bi (fn_Elements_takeTrue_r2 m3) (fun x5 m4 => some (x5, m4))))) (fun x10 m9 => some (x10, m9)) else some (5, μ) := rfl
theorem mo_135 {ν : sd_Me} : fn_Model_operation_r0 135 ν = sd_bv (fn_Model_equal_r0 0 ν) (fun m1 => some m1) := rfl
theorem mo_136 {ν : sd_Me} : fn_Model_operation_r0 136 ν = sd_bv (fn_Model_equal_r0 1 ν) (fun m1 => some m1) := rfl
theorem sameB {a b : El} : (if a = b then (1 : Int32) else 0) = bI (decide (a = b)) := by
  by_cases c : a = b <;> simp [bI, c]
theorem M_eq2 {ν : sd_Me} {S T : List El} (hm : AM ν S T) (h7 : ν.1 0 7 = 0) (d : 2 ≤ S.length) {m : Int32} : fn_Model_equal_r0 m ν = sd_bv (fn_Model_pushTruth_r0 (bI (decide (S.getD 0 [] = S.getD 1 []))) (sd_st ν 0 2 (nI (S.length - 2)))) (fun m10 => if m = (0 : Int32) then some m10 else sd_bv (fn_Model_mustBeTrue_r0 m10) (fun m11 => some m11)) := by
  have e1 : fn_Model_has_r0 2 ν = some (1, ν) := M_hasT hm h7 d
  have e2 : fn_Model_top_r0 0 ν = some (nI (S.length - 1 - 0), ν) := M_top hm (k := 0) (by omega)
  have e3 : fn_Model_top_r0 1 ν = some (nI (S.length - 1 - 1), ν) := M_top hm (k := 1) (by omega)
  have a3 := hm.2.2.1
  have e4 := M_same (hm.2.2.2.1 0 (by omega)) (hm.2.2.2.1 1 (by omega)) (by omega) (by omega) (hm.ok (by omega)).1 (hm.ok (by omega)).1
  unfold fn_Model_equal_r0
  rw [e1, pa_bi, if_neg (by decide), e2, pa_bi, e3, pa_bi, e4, pa_bi, pa_let, hm.1, pl2, pk_sub d]
theorem M_eq5 {ν : sd_Me} {S T : List El} (hm : AM ν S T) (h7 : ν.1 0 7 = 0) (d : ¬ 2 ≤ S.length) {m : Int32} : fn_Model_equal_r0 m ν = some (sd_st ν 0 7 5) := by
  have e1 : fn_Model_has_r0 2 ν = some (0, sd_st ν 0 7 5) := M_hasF hm h7 d (by decide)
  unfold fn_Model_equal_r0
  rw [e1, pa_bi, if_pos (by decide)]
theorem op_135 : OpS (fn_Moves_perform_r2 135) 135 := by
  intro μ ν S T hx hm hl h7 hc
  have hle : ((2 : Int32) ≤ μ.1 2 4) ↔ 2 ≤ S.length := xle hx (n := 2) (by decide)
  by_cases d : 2 ≤ S.length
  · have e1 : fn_Elements_areSame_r2 0 1 μ = _ := X_same hx (a := 0) (b := 1) (by omega) (by omega)
    obtain ⟨μ', ν', f1, f2, f3, f4, f5, f6, f7, f8⟩ := sim_truth hx hm (n := 2) d (by decide) hl h7 (decide (S.getD 0 [] = S.getD 1 []))
    have f1 : fn_Elements_replaceByTruth_r2 2 _ μ = some μ' := f1
    refine sim_k hc (by rw [xp_135, if_pos (hle.mpr d), e1, pa_bi, sameB, f1, pa_bv, pa_bi]) f3 f5 (by rw [mo_135, M_eq2 hm h7 d, f2, pa_bv, if_pos rfl, pa_bv]) f6 f7 f4 (by omega)
  · exact sim_f (f := 5) (by decide) hc (by rw [xp_135, if_neg (fun z => d (hle.mp z))]) hx Fr.rf (by rw [mo_135, M_eq5 hm h7 d, pa_bv]) (KM.st0 (by decide)) (pa_ss _ _ _ _) (by omega)
theorem op_136 : OpS (fn_Moves_perform_r2 136) 136 := by
  intro μ ν S T hx hm hl h7 hc
  have hle : ((2 : Int32) ≤ μ.1 2 4) ↔ 2 ≤ S.length := xle hx (n := 2) (by decide)
  by_cases d : 2 ≤ S.length
  · have e1 : fn_Elements_areSame_r2 0 1 μ = _ := X_same hx (a := 0) (b := 1) (by omega) (by omega)
    obtain ⟨μ', ν', f1, f2, f3, f4, f5, f6, f7, f8⟩ := sim_truth hx hm (n := 2) d (by decide) hl h7 (decide (S.getD 0 [] = S.getD 1 []))
    have f1 : fn_Elements_replaceByTruth_r2 2 _ μ = some μ' := f1
    have h := sim_must f3 f4 (by omega) f7 (hc.keep f5 f6)
    rw [xp_136, if_pos (hle.mpr d), e1, pa_bi, sameB, f1, pa_bv, bi_id, bi_id, mo_136, M_eq2 hm h7 d, f2, pa_bv, if_neg (by decide), bv_id, bv_id]
    exact h.then (KX.fr f5) (f6.mono (by decide))
  · exact sim_f (f := 5) (by decide) hc (by rw [xp_136, if_neg (fun z => d (hle.mp z))]) hx Fr.rf (by rw [mo_136, M_eq5 hm h7 d, pa_bv]) (KM.st0 (by decide)) (pa_ss _ _ _ _) (by omega)
