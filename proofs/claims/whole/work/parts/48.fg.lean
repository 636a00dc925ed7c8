/-! the other nine calls -/
theorem okS_nil : okS [] := fun i hi => absurd hi (Nat.not_lt_zero i)
theorem AM.nil {ν : sd_Me} (h : ν.1 0 2 = 0) : AM (sd_st ν 0 3 0) [] [] := ⟨by rw [pa_sn _ _ _ _ _ (by decide), h]; rfl, by rw [pa_ss]; rfl, by decide, fun i hi => absurd hi (Nat.not_lt_zero i), fun i hi => absurd hi (Nat.not_lt_zero i), okS_nil, okS_nil⟩
theorem AM.side {ν : sd_Me} {S T : List El} (h : AM ν S T) : AM (sd_st ν 0 3 0) S [] := by
  obtain ⟨a1, a2, a3, a4, a5, a6, a7⟩ := h
  refine ⟨by rw [pa_sn _ _ _ _ _ (by decide)]; exact a1, by rw [pa_ss]; rfl, by rw [List.length_nil]; omega, fun i hi => ⟨?_, fun k hk => ?_⟩, fun i hi => absurd hi (Nat.not_lt_zero i), a6, okS_nil⟩
  · rw [pa_sc _ _ _ _ _ (by decide)]; exact (a4 i hi).1
  · rw [pa_sc _ _ _ _ _ (by decide)]; exact (a4 i hi).2 k hk
theorem AM.rows {ν : sd_Me} {S : List El} (h : AM (sd_st ν 0 3 0) S []) : ν.1 0 2 = nI S.length ∧ (∀ i, i < S.length → Row ν (S.length - 1 - i) (S.getD i [])) ∧ okS S := by
  obtain ⟨a1, a2, a3, a4, a5, a6, a7⟩ := h
  rw [pa_sn _ _ _ _ _ (by decide)] at a1
  refine ⟨a1, fun i hi => ⟨?_, fun k hk => ?_⟩, a6⟩
  · have z := (a4 i hi).1
    rw [pa_sc _ _ _ _ _ (by decide)] at z
    exact z
  · have z := (a4 i hi).2 k hk
    rw [pa_sc _ _ _ _ _ (by decide)] at z
    exact z
theorem M_top3 {ν : sd_Me} {n k : Nat} (h : ν.1 0 2 = nI n) (hk : k < n) : fn_Model_top_r0 (nI k) ν = some (nI (n - 1 - k), ν) := by
  unfold fn_Model_top_r0
  rw [h, pl1, pk_sub (by omega), pk_sub (by omega)]
theorem AX_all {μ : sd_Me} {S T : List El} (h : AX μ S T) : AX (sd_st μ 2 4 (nI (S.length - S.length))) [] T := by
  have z := AX_drop h (Nat.le_refl S.length)
  rw [List.drop_length] at z
  exact z
theorem call_secret {μ ν : sd_Me} (h : RelW μ ν) (a0 : Int32) : ∃ (μ' ν' : sd_Me), fn_Desk_secret_r0 a0 μ = some μ' ∧ fn_Model_secret_r0 a0 ν = some ν' ∧ RelW μ' ν' := by
  obtain ⟨S, L, h1, h2, h3, ⟨c1, c2, c3⟩, h5, h6, h7, h8⟩ := h
  refine ⟨sd_st μ 8 0 a0, sd_lst ν 0 (Int32.toInt64 a0), rfl, rfl, S, L, h1.s8, h2.fr3 rfl rfl rfl, h3, ⟨c1, c2, fun k hk => ?_⟩, ?_, ?_, ⟨?_, ?_, ?_⟩, ⟨?_, ?_⟩⟩
  · rw [pa_sc _ _ _ _ _ (by decide)]; exact c3 k hk
  · rw [pa_sc _ _ _ _ _ (by decide)]; exact h5
  · rw [pa_sc _ _ _ _ _ (by decide)]; exact h6
  · unfold HF; rw [pa_sc _ _ _ _ _ (by decide)]; exact h7.1
  · unfold HF; rw [pa_sc _ _ _ _ _ (by decide)]; exact h7.2.1
  · rw [pa_ss]; rfl
  · rw [pa_sc _ _ _ _ _ (by decide)]; exact h8.1
  · rw [pa_sn _ _ _ _ _ (by decide)]; exact h8.2
theorem call_place {μ ν : sd_Me} (h : RelW μ ν) : ∃ (r : Int32) (μ' ν' : sd_Me), fn_Desk_place_r0 μ = some (r, μ') ∧ fn_Model_place_r0 ν = some (r, ν') ∧ RelW μ' ν' := by
  obtain ⟨S, L, h1, h2, h3, h4, h5, h6, h7, h8⟩ := id h
  refine ⟨μ.1 0 3, μ, ν, rfl, ?_, h⟩
  unfold fn_Model_place_r0
  rw [h6]
theorem call_clear {μ ν : sd_Me} (h : RelW μ ν) : ∃ (r : Int32) (μ' ν' : sd_Me), fn_Desk_clear_r0 μ = some (r, μ') ∧ fn_Model_clear_r0 ν = some (r, ν') ∧ RelW μ' ν' := by
  obtain ⟨S, L, h1, h2, h3, ⟨c1, c2, c3⟩, h5, h6, h7, h8⟩ := h
  unfold fn_Desk_clear_r0 fn_Model_clear_r0
  rw [pa_let, pa_let, pa_let, h1.d.1, h2.rows.1, X_drop h1 (Nat.le_refl _), pa_bv]
  refine ⟨nI S.length, _, _, rfl, rfl, [], L, AX_all h1, AM.nil (pa_ss _ _ _ _), by decide, ⟨c1, ?_, fun k hk => ?_⟩, ?_, ?_, ⟨?_, ?_, ?_⟩, ⟨?_, ?_⟩⟩
  · rw [pa_sn _ _ _ _ _ (by decide)]; exact c2
  · rw [pa_sc ν _ _ _ _ (by decide), pa_sc μ _ _ _ _ (by decide)]; exact c3 k hk
  · rw [pa_sc _ _ _ _ _ (by decide)]; exact h5
  · rw [pa_sc μ _ _ _ _ (by decide), pa_sn _ _ _ _ _ (by decide)]; exact h6
  · unfold HF; rw [pa_sc _ _ _ _ _ (by decide)]; exact h7.1
  · unfold HF; rw [pa_sc _ _ _ _ _ (by decide)]; exact h7.2.1
  · rw [pa_sc μ _ _ _ _ (by decide)]; exact h7.2.2
  · rw [pa_sc μ _ _ _ _ (by decide), pa_sn _ _ _ _ _ (by decide)]; exact h8.1
  · rw [pa_sc μ _ _ _ _ (by decide), pa_sn _ _ _ _ _ (by decide)]; exact h8.2
theorem call_size {μ ν : sd_Me} (h : RelW μ ν) : ∃ (r : Int32) (μ' ν' : sd_Me), fn_Desk_size_r0 μ = some (r, μ') ∧ fn_Model_size_r0 ν = some (r, ν') ∧ RelW μ' ν' := by
  obtain ⟨S, L, h1, h2, h3, h4, h5, h6, h7, h8⟩ := id h
  refine ⟨nI S.length, μ, ν, ?_, ?_, h⟩
  · unfold fn_Desk_size_r0
    rw [h1.d.1]
  · unfold fn_Model_size_r0
    rw [h2.rows.1]
theorem call_isTrue {μ ν : sd_Me} (h : RelW μ ν) : ∃ (r : Int32) (μ' ν' : sd_Me), fn_Desk_isTrue_r0 μ = some (r, μ') ∧ fn_Model_isTrue_r0 ν = some (r, ν') ∧ RelW μ' ν' := by
  obtain ⟨S, L, h1, h2, h3, h4, h5, h6, h7, h8⟩ := id h
  obtain ⟨r1, r2, r3⟩ := h2.rows
  refine ⟨bI (topB S), μ, ν, ?_, ?_, h⟩
  · unfold fn_Desk_isTrue_r0
    rw [X_top h1, pa_bi]
  · unfold fn_Model_isTrue_r0
    rw [r1]
    by_cases c : S.length = 0
    · rw [c, if_pos (show nI 0 ≤ 0 by decide)]
      have z : topB S = false := by
        unfold topB
        rw [c]
        rfl
      rw [z]
      rfl
    · have z : topB S = trB (S.getD 0 []) := by
        unfold topB
        rw [decide_eq_true (by omega : 0 < S.length), Bool.true_and]
      rw [if_neg (nI_nle (by omega) (by omega)), show nI S.length - 1 = nI (S.length - 1 - 0) from pk_sub (b := 1) (by omega), M_true (r2 0 (by omega)) (by omega) (r3 0 (by omega)).1, pa_bi, z]
      cases trB (S.getD 0 []) <;> rfl
theorem call_bytes {μ ν : sd_Me} (h : RelW μ ν) (a0 : Int32) : ∃ (r : Int32) (μ' ν' : sd_Me), fn_Desk_bytes_r0 a0 μ = some (r, μ') ∧ fn_Model_bytes_r0 a0 ν = some (r, ν') ∧ RelW μ' ν' := by
  obtain ⟨S, L, h1, h2, h3, h4, h5, h6, h7, h8⟩ := id h
  obtain ⟨r1, r2, r3⟩ := h2.rows
  unfold fn_Desk_bytes_r0 fn_Model_bytes_r0
  rw [r1]
  rcases pk_ix a0 (n := S.length) (by omega) with c | c | ⟨j, hj, rfl⟩
  · rw [X_len_out h1 (Or.inl c), pa_bi, if_pos c]
    exact ⟨-1, μ, ν, rfl, rfl, h⟩
  · rw [X_len_out h1 (Or.inr c), pa_bi, if_neg (fun z => nI_pos (show S.length < 2 ^ 31 by omega) (Int32.lt_of_le_of_lt c z)), if_pos c]
    exact ⟨-1, μ, ν, rfl, rfl, h⟩
  · rw [X_len h1 hj, pa_bi, if_neg (nI_pos (by omega)), if_neg (nI_ge' hj (by omega)), M_top3 r1 hj, pa_bi, pa_ix (by omega) (by decide), pa_gd, nI_clamp (by omega), (r2 j hj).1]
    exact ⟨_, μ, ν, rfl, rfl, h⟩
theorem call_byteOf {μ ν : sd_Me} (h : RelW μ ν) (a0 a1 : Int32) : ∃ (r : Int32) (μ' ν' : sd_Me), fn_Desk_byteOf_r0 a0 a1 μ = some (r, μ') ∧ fn_Model_byteOf_r0 a0 a1 ν = some (r, ν') ∧ RelW μ' ν' := by
  obtain ⟨S, L, h1, h2, h3, h4, h5, h6, h7, h8⟩ := id h
  obtain ⟨r1, r2, r3⟩ := h2.rows
  unfold fn_Desk_byteOf_r0 fn_Model_byteOf_r0
  rw [r1]
  rcases pk_ix a0 (n := S.length) (by omega) with c | c | ⟨j, hj, rfl⟩
  · rw [X_oct_none h1 (Or.inl c), pa_bi, if_pos c]
    exact ⟨-1, μ, ν, rfl, rfl, h⟩
  · rw [X_oct_none h1 (Or.inr c), pa_bi, if_neg (fun z => nI_pos (show S.length < 2 ^ 31 by omega) (Int32.lt_of_le_of_lt c z)), if_pos c]
    exact ⟨-1, μ, ν, rfl, rfl, h⟩
  · have hl := (r3 j hj).1
    rw [if_neg (nI_pos (show j < 2 ^ 31 by omega)), if_neg (nI_ge' hj (by omega))]
    rcases pk_ix a1 (n := (S.getD j []).length) (by omega) with d | d | ⟨i, hi, rfl⟩
    · rw [X_oct_out h1 hj (Or.inl d), pa_bi, if_pos d]
      exact ⟨-1, μ, ν, rfl, rfl, h⟩
    · rw [X_oct_out h1 hj (Or.inr d), pa_bi, if_neg (fun z => nI_pos (show (S.getD j []).length < 2 ^ 31 by omega) (Int32.lt_of_le_of_lt d z)), M_top3 r1 hj, pa_bi, pa_ix (by omega) (by decide), pa_gd, nI_clamp (by omega), (r2 j hj).1, if_pos d]
      exact ⟨-1, μ, ν, rfl, rfl, h⟩
    · have x : (120 : Int32) * nI (S.length - 1 - j) + nI i = nI (120 * (S.length - 1 - j) + i) := by
        rw [show (120 : Int32) * nI (S.length - 1 - j) = nI (120 * (S.length - 1 - j)) from pk_mul 120 _, nI_add]
      rw [X_oct h1 hj hi, pa_bi, if_neg (nI_pos (show i < 2 ^ 31 by omega)), M_top3 r1 hj, pa_bi, pa_ix (by omega) (by decide), pa_gd, nI_clamp (by omega), (r2 j hj).1, if_neg (nI_ge' hi (by omega)), M_top3 r1 hj, pa_bi, x, pa_ix (by omega) (by decide), pa_gd, nI_clamp (by omega), (r2 j hj).2 i hi]
      exact ⟨_, μ, ν, rfl, rfl, h⟩
theorem call_count {μ ν : sd_Me} (h : RelW μ ν) (a0 : Int32) : ∃ (r : Int32) (μ' ν' : sd_Me), fn_Desk_count_r0 a0 μ = some (r, μ') ∧ fn_Model_count_r0 a0 ν = some (r, ν') ∧ RelW μ' ν' := by
  obtain ⟨S, L, h1, h2, h3, h4, h5, h6, h7, h8⟩ := id h
  unfold fn_Desk_count_r0 fn_Model_count_r0
  rw [h8.1, h8.2]
  by_cases c : a0 = 0
  · rw [if_pos c, if_pos c]
    exact ⟨_, μ, ν, rfl, rfl, h⟩
  · rw [if_neg c, if_neg c]
    by_cases d : a0 = 1
    · rw [if_pos d, if_pos d]
      exact ⟨_, μ, ν, rfl, rfl, h⟩
    · rw [if_neg d, if_neg d]
      exact ⟨_, μ, ν, rfl, rfl, h⟩
