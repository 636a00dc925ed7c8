/-! the call run -/
theorem run_ok {μ ν : sd_Me} {S T : List El} {w : Int32} (h1 : AX μ S T) (h2 : AM ν S T) (h3 : S.length + T.length ≤ 60) (h7 : ν.1 0 7 = 0) (hc : CN μ ν) (hx : HX μ ν) (a1 : μ.1 0 1 = 0) (a3 : μ.1 0 3 = -1) (b8 : ν.1 0 8 = -1) : ∃ (r : Int32) (μ' ν' : sd_Me), fn_Desk_run_r0_J123 w 0 μ = some (r, μ') ∧ fn_Model_run_r0_J129 ν = some (r, ν') ∧ RelW μ' ν' := by
  obtain ⟨μ', e1, e2, e3⟩ := X_dropSide h1
  have E : fn_Model_run_r0_J129 ν = some (1, sd_st (sd_st ν 0 5 0) 0 2 (ν.1 0 2)) := by
    unfold fn_Model_run_r0_J129
    rw [pa_let, if_pos (show (sd_st ν 0 5 0).1 0 7 ≤ 0 by rw [pa_sn _ _ _ _ _ (by decide), h7]; decide), pa_sn _ _ _ _ _ (show 2 ≠ 5 by decide)]
    unfold fn_Model_run_r0_J150
    rw [pa_let, if_pos (show (sd_st (sd_st ν 0 5 0) 0 2 (ν.1 0 2)).1 0 7 ≤ 0 by rw [pa_sn _ _ _ _ _ (by decide), pa_sn _ _ _ _ _ (by decide), h7]; decide)]
  have F : fn_Desk_run_r0_J123 w 0 μ = some (1, μ') := by
    unfold fn_Desk_run_r0_J123
    rw [e1, pa_bv, if_pos rfl]
  have k1 : (sd_st (sd_st ν 0 5 0) 0 2 (ν.1 0 2)).1 1 = ν.1 1 := by rw [pa_sc _ _ _ _ _ (by decide), pa_sc _ _ _ _ _ (by decide)]
  have k2 : (sd_st (sd_st ν 0 5 0) 0 2 (ν.1 0 2)).1 2 = ν.1 2 := by rw [pa_sc _ _ _ _ _ (by decide), pa_sc _ _ _ _ _ (by decide)]
  have kj : ∀ j, j ≠ 2 → j ≠ 5 → (sd_st (sd_st ν 0 5 0) 0 2 (ν.1 0 2)).1 0 j = ν.1 0 j := fun j x y => by rw [pa_sn _ _ _ _ _ x, pa_sn _ _ _ _ _ y]
  refine ⟨1, μ', _, F, E, S, 0, e2, h2.side.fr3 (pa_ss _ _ _ _) k1 k2, by omega, ⟨by omega, ?_, fun k hk => absurd hk (Nat.not_lt_zero k)⟩, ?_, ?_, ⟨?_, ?_, ?_⟩, ⟨?_, ?_⟩⟩
  · rw [pa_sn _ _ _ _ _ (by decide), pa_ss]; rfl
  · rw [e3.1 0 (by decide)]; exact a1
  · rw [e3.1 0 (by decide), kj 8 (by decide) (by decide), b8]; exact a3
  · unfold HF; rw [e3.1 9 (by decide)]; exact hx.1
  · unfold HF; rw [e3.1 14 (by decide)]; exact hx.2.1
  · rw [e3.1 8 (by decide)]; exact hx.2.2
  · rw [e3.1 6 (by decide), kj 9 (by decide) (by decide)]; exact hc.1
  · rw [e3.1 8 (by decide), kj 10 (by decide) (by decide)]; exact hc.2
theorem run_bad {μ ν : sd_Me} {S T : List El} {w flt : Int32} (h1 : AX μ S T) (hf : 0 < flt) (h7 : ν.1 0 7 = flt) (hc : CN μ ν) (hx : HX μ ν) (a1 : μ.1 0 1 = 0) (b8 : ν.1 0 8 = w) : ∃ (r : Int32) (μ' ν' : sd_Me), fn_Desk_run_r0_J123 w flt μ = some (r, μ') ∧ fn_Model_run_r0_J129 ν = some (r, ν') ∧ RelW μ' ν' := by
  obtain ⟨μ', e1, e2, e3⟩ := X_dropSide h1
  have E : fn_Model_run_r0_J129 ν = some (-1 - flt, sd_st (sd_st ν 0 5 0) 0 2 0) := by
    have z1 : (sd_st ν 0 5 0).1 0 7 = flt := by rw [pa_sn _ _ _ _ _ (by decide)]; exact h7
    have z2 : (sd_st (sd_st ν 0 5 0) 0 2 0).1 0 7 = flt := by rw [pa_sn _ _ _ _ _ (by decide)]; exact z1
    unfold fn_Model_run_r0_J129
    rw [pa_let, z1, if_neg (pos_nle hf)]
    unfold fn_Model_run_r0_J150
    rw [pa_let, z2, if_neg (pos_nle hf)]
  have F : fn_Desk_run_r0_J123 w flt μ = some (-1 - flt, sd_st (sd_st μ' 2 4 (nI (S.length - S.length))) 0 3 w) := by
    unfold fn_Desk_run_r0_J123
    rw [e1, pa_bv, if_neg (pos_ne hf), e2.d.1, X_drop e2 (Nat.le_refl _), pa_bv, pa_let]
  have e2' := AX_all e2
  have e4 : Fr [2] μ (sd_st μ' 2 4 (nI (S.length - S.length))) := e3.tr (Fr.st (by decide))
  generalize sd_st μ' 2 4 (nI (S.length - S.length)) = μ2 at F e2' e4
  have kc : ∀ c, c ≠ 0 → c ≠ 2 → (sd_st μ2 0 3 w).1 c = μ.1 c := fun c x y => by rw [pa_sc _ _ _ _ _ x, e4.1 c (by simp [y])]
  have kj : ∀ j, j ≠ 2 → j ≠ 5 → (sd_st (sd_st ν 0 5 0) 0 2 0).1 0 j = ν.1 0 j := fun j x y => by rw [pa_sn _ _ _ _ _ x, pa_sn _ _ _ _ _ y]
  refine ⟨-1 - flt, _, _, F, E, [], 0, e2'.fr (L := [0]) (Fr.st (by decide)) (by decide) (by decide) (by decide) (by decide), AM.nil (pa_ss _ _ _ _), by decide, ⟨by omega, ?_, fun k hk => absurd hk (Nat.not_lt_zero k)⟩, ?_, ?_, ⟨?_, ?_, ?_⟩, ⟨?_, ?_⟩⟩
  · rw [pa_sn _ _ _ _ _ (by decide), pa_ss]; rfl
  · rw [pa_sn _ _ _ _ _ (by decide), e4.1 0 (by decide)]; exact a1
  · rw [pa_ss, kj 8 (by decide) (by decide), b8]
  · unfold HF; rw [kc 9 (by decide) (by decide)]; exact hx.1
  · unfold HF; rw [kc 14 (by decide) (by decide)]; exact hx.2.1
  · rw [kc 8 (by decide) (by decide)]; exact hx.2.2
  · rw [kc 6 (by decide) (by decide), kj 9 (by decide) (by decide)]; exact hc.1
  · rw [kc 8 (by decide) (by decide), kj 10 (by decide) (by decide)]; exact hc.2
def rsX (μ : sd_Me) : sd_Me := sd_st (sd_st (sd_st (sd_st (sd_st (sd_st (sd_st μ 0 1 0) 0 2 0) 0 3 (-1)) 6 0 0) 8 1 0) 7 0 0) 7 1 0
def rsM (ν : sd_Me) : sd_Me := sd_st (sd_st (sd_st (sd_st (sd_st (sd_st ν 0 3 0) 0 11 0) 0 7 0) 0 8 (-1)) 0 9 0) 0 10 0
theorem rsX_go {μ : sd_Me} : fn_Desk_restart_r0 μ = some (rsX μ) := rfl
theorem rsX_run {μ : sd_Me} : fn_Desk_run_r0 μ = fn_Desk_run_r0_L16 (fun x12 x13 x14 m15 => fn_Desk_run_r0_J104 x12 x13 x14 m15) 10000 (μ.1 0 1) 0 0 0 (rsX μ) := by
  unfold fn_Desk_run_r0
  rw [pa_let, rsX_go, pa_bv]
theorem rsM_run {ν : sd_Me} : fn_Model_run_r0 ν = fn_Model_run_r0_L32 (fun m12 => fn_Model_run_r0_J101 m12) 10000 0 (rsM ν) := by
  unfold fn_Model_run_r0 rsM
  rw [pa_let, pa_let, pa_let, pa_let, pa_let, pa_let]
theorem rsX_fr {μ : sd_Me} : Fr [0, 6, 7, 8] μ (rsX μ) := ((((((Fr.st (by decide)).tr (Fr.st (by decide))).tr (Fr.st (by decide))).tr (Fr.st (by decide))).tr (Fr.st (by decide))).tr (Fr.st (by decide))).tr (Fr.st (by decide))
theorem rs_pre {μ ν : sd_Me} {S : List El} (h1 : AX μ S []) (h2 : AM (sd_st ν 0 3 0) S []) (h3 : S.length ≤ 60) (h7 : HX μ ν) : Pre 0 S [] (rsX μ) (rsM ν) := by
  refine ⟨h1.fr rsX_fr (by decide) (by decide) (by decide) (by decide), h2.eq rfl rfl rfl rfl, by rw [List.length_nil]; omega, rfl, ⟨rfl, rfl⟩, ⟨?_, ?_, ?_⟩, ⟨0, 0, Nat.le_refl _, rfl, rfl, rfl, Nat.le_refl _, fun k hk => absurd hk (Nat.not_lt_zero k)⟩, ?_⟩
  · unfold HF; rw [rsX_fr.1 9 (by decide)]; exact h7.1
  · unfold HF; rw [rsX_fr.1 14 (by decide)]; exact h7.2.1
  · exact h7.2.2
  · show (0 : Int32) ≤ 100
    decide
theorem call_run {μ ν : sd_Me} (h : RelW μ ν) : ∃ (r : Int32) (μ' ν' : sd_Me), fn_Desk_run_r0 μ = some (r, μ') ∧ fn_Model_run_r0 ν = some (r, ν') ∧ RelW μ' ν' := by
  obtain ⟨S, L, h1, h2, h3, ⟨c1, c2, c3⟩, h5, h6, h7, h8⟩ := h
  have hp := rs_pre h1 h2 h3 h7
  have hsc : SC L (rsX μ) (rsM ν) := ⟨c1, c2, c3⟩
  have x1 : (rsX μ).1 0 1 = 0 := rfl
  have x2 : (rsX μ).1 0 2 = nI 0 := rfl
  have x3 : (rsX μ).1 0 3 = -1 := rfl
  have y8 : (rsM ν).1 0 8 = -1 := rfl
  have hx := hp.2.2.2.2.2.1
  rw [rsX_run, rsM_run, h5]
  generalize rsX μ = μ0 at *
  generalize rsM ν = ν0 at *
  obtain ⟨w, flt, μ1, ν1, e1, e2, e3, e4, e5, e6, e7, e8, e9, S1, T1, g1, g2, g3⟩ := runL (kk := fun x12 x13 x14 m15 => fn_Desk_run_r0_J104 x12 x13 x14 m15) (kk' := fun m12 => fn_Model_run_r0_J101 m12) L 0 0 10000 10000 0 μ0 ν0 S [] (by omega) (by omega) (by omega) (by omega) (by omega) hp hsc x2 y8
  rw [← pl0] at e1 e2
  rw [e1, e2]
  have hx1 : HX μ1 ν1 := ⟨by unfold HF; rw [e5.2.2.2.1]; exact hx.1, by unfold HF; rw [e5.2.2.2.2]; exact hx.2.1, by rw [e5.2.2.1, e6.2.2]; exact hx.2.2⟩
  have z1 : μ1.1 0 1 = 0 := by rw [e5.1 1 (by decide)]; exact x1
  have z3 : μ1.1 0 3 = -1 := by rw [e5.1 3 (by decide)]; exact x3
  show ∃ (r : Int32) (μ' ν' : sd_Me), fn_Desk_run_r0_J104 (nI L) w flt μ1 = some (r, μ') ∧ fn_Model_run_r0_J101 ν1 = some (r, ν') ∧ RelW μ' ν'
  unfold fn_Desk_run_r0_J104 fn_Model_run_r0_J101
  rcases e4 with rfl | e4
  · obtain ⟨g4, g5, d, f, g6, g7, g8, g9, g10, g11⟩ := g3 rfl
    rw [if_pos rfl, if_pos e3, g9]
    unfold fn_Flow_isInside_r7
    rw [g7]
    by_cases c : d = 0
    · rw [c, if_pos (show nI 0 ≤ 0 by decide), if_pos (show nI 0 ≤ 0 by decide), pa_bi, if_pos rfl]
      exact run_ok g1 g4 g5 e3 e7 hx1 z1 z3 (e8 rfl)
    · rw [if_neg (nI_nle (by omega) (by omega)), if_neg (nI_nle (by omega) (by omega)), pa_bi, if_neg (show ¬ (1 : Int32) = 0 by decide), M_fails e3, pa_bv, pa_let]
      have q5 : (sd_st ν1 0 7 12).1 0 5 = nI L := by
        rw [pa_sn _ _ _ _ _ (by decide), e6.2.1]
        exact hsc.2.1
      rw [q5]
      refine run_bad g1 (show (0 : Int32) < 12 by decide) ?_ ⟨?_, ?_⟩ ⟨hx1.1, hx1.2.1, hx1.2.2⟩ z1 (pa_ss _ _ _ _)
      · rw [pa_sn _ _ _ _ _ (by decide), pa_ss]
      · rw [pa_sn _ _ _ _ _ (by decide), pa_sn _ _ _ _ _ (by decide)]; exact e7.1
      · rw [pa_sn _ _ _ _ _ (by decide), pa_sn _ _ _ _ _ (by decide)]; exact e7.2
  · rw [if_neg (pos_ne e4), if_neg (by rw [e3]; exact pos_ne e4)]
    exact run_bad g1 e4 e3 e7 hx1 z1 (e9 e4)
/-! the start, and all ten -/
theorem rel0 : RelW sd_X0 sd_M0 := by
  refine ⟨[], 0, ⟨id, rfl, rfl, by decide, fun i hi => hi, fun i j _ _ e => e, fun i hi => ?_, fun i hi => absurd hi (Nat.not_lt_zero i), fun i hi => absurd hi (Nat.not_lt_zero i), okS_nil, okS_nil⟩, AM.nil rfl, by decide, ⟨by omega, rfl, fun k hk => absurd hk (Nat.not_lt_zero k)⟩, rfl, rfl, ⟨rfl, rfl, rfl⟩, ⟨rfl, rfl⟩⟩
  show sd_ord 64 i = nI i
  unfold sd_ord
  rw [if_pos hi]
theorem simW : sd_Sim RelW := fun _ _ h => ⟨call_put h, call_secret h, call_run h, call_place h, call_clear h, call_size h, call_isTrue h, call_bytes h, call_byteOf h, call_count h⟩
