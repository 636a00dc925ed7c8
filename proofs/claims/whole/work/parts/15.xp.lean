/-- two places of the order change -/
def swM (μ : sd_Me) (a b : Nat) : sd_Me := sd_st (sd_st μ 5 a (μ.1 5 b)) 5 b (μ.1 5 a)
theorem X_swap {μ : sd_Me} {a b : Nat} (ha : a < 64) (hb : b < 64) : fn_Elements_swapSlots_r2 (nI a) (nI b) μ = some (swM μ a b) := by
  unfold fn_Elements_swapSlots_r2 swM
  simp (disch := omega) only [pa_ix, pa_gd, pa_let, nI_clamp]
theorem swM_get {μ : sd_Me} {a b j : Nat} : (swM μ a b).1 5 j = if j = b then μ.1 5 a else if j = a then μ.1 5 b else μ.1 5 j := by
  unfold swM
  by_cases c : j = b
  · rw [if_pos c, c, pa_ss]
  · rw [if_neg c, pa_sn _ _ _ _ _ c]
    by_cases d : j = a
    · rw [if_pos d, d, pa_ss]
    · rw [if_neg d, pa_sn _ _ _ _ _ d]
theorem swM_fr {μ : sd_Me} {a b : Nat} : Fr [5] μ (swM μ a b) := (Fr.st (by decide)).tr (Fr.st (by decide))
def swO (o : Nat → Nat) (a b : Nat) : Nat → Nat := fun j => if j = b then o a else if j = a then o b else o j
theorem swO_lt {o : Nat → Nat} {a b : Nat} (h : ∀ i, i < 64 → o i < 64) (ha : a < 64) (hb : b < 64) : ∀ i, i < 64 → swO o a b i < 64 := by
  intro i hi
  unfold swO
  split
  · exact h a ha
  · split
    · exact h b hb
    · exact h i hi
theorem swO_inj {o : Nat → Nat} {a b : Nat} (h : ∀ i j, i < 64 → j < 64 → o i = o j → i = j) (ha : a < 64) (hb : b < 64) : ∀ i j, i < 64 → j < 64 → swO o a b i = swO o a b j → i = j := by
  have key : ∀ j, swO o a b j = o (if j = b then a else if j = a then b else j) := by
    intro j
    unfold swO
    by_cases c : j = b
    · rw [if_pos c, if_pos c]
    · rw [if_neg c, if_neg c]
      by_cases d : j = a
      · rw [if_pos d, if_pos d]
      · rw [if_neg d, if_neg d]
  intro i j hi hj e
  rw [key, key] at e
  have lt : ∀ z, z < 64 → (if z = b then a else if z = a then b else z) < 64 := by
    intro z hz
    split
    · exact ha
    · split
      · exact hb
      · exact hz
  have := h _ _ (lt i hi) (lt j hj) e
  by_cases c1 : i = b <;> by_cases c2 : j = b <;> by_cases c3 : i = a <;> by_cases c4 : j = a <;> simp_all
theorem swO_n {o : Nat → Nat} {a b j : Nat} (h1 : j ≠ a) (h2 : j ≠ b) : swO o a b j = o j := by
  unfold swO
  rw [if_neg h2, if_neg h1]
theorem swO_b {o : Nat → Nat} {a b : Nat} : swO o a b b = o a := by
  unfold swO
  rw [if_pos rfl]
theorem swO_a {o : Nat → Nat} {a b : Nat} : swO o a b a = o b := by
  unfold swO
  by_cases c : a = b
  · rw [if_pos c, c]
  · rw [if_neg c, if_pos rfl]
theorem X_toSide {μ : sd_Me} {S T : List El} {e : El} (h : AX μ (e :: S) T) : ∃ μ', fn_Elements_toSide_r2 μ = some (0, μ') ∧ AX μ' S (e :: T) ∧ Fr [2, 5] μ μ' := by
  obtain ⟨g1, g2, g3⟩ := h.d
  obtain ⟨o, a1, a2, a3, a4, a5, a6, a7, a8, a9, a10⟩ := h
  rw [List.length_cons] at g1 g3
  refine ⟨sd_st (sd_st (swM μ S.length (63 - T.length)) 2 4 (nI S.length)) 2 3 (nI (T.length + 1)), ?_, ?_, ?_⟩
  · unfold fn_Elements_toSide_r2
    have e1 : nI (S.length + 1) - nI 1 = nI S.length := by rw [pk_sub (by omega), Nat.add_sub_cancel]
    have e2 : nI 63 - nI T.length = nI (63 - T.length) := pk_sub (by omega)
    have e3 : (swM μ S.length (63 - T.length)).1 2 4 = nI (S.length + 1) := by rw [swM_fr.1 2 (by decide)]; exact g1
    have e4 : (sd_st (swM μ S.length (63 - T.length)) 2 4 (nI S.length)).1 2 3 = nI T.length := by rw [pa_sn _ _ _ _ _ (by decide), swM_fr.1 2 (by decide)]; exact g2
    rw [g1, g2, pl1, pl64, pl63, if_neg (fun z => by have := (nI_ltI (by omega) (by omega)).mp z; omega), if_pos ((nI_ltI (by omega) (by omega)).mpr (by omega)), e1, e2, X_swap (by omega) (by omega), pa_bv, pa_let, e3, e1, pa_let, e4, nI_add]
  · refine ⟨swO o S.length (63 - T.length), ?_, ?_, ?_, swO_lt a4 (by omega) (by omega), swO_inj a5 (by omega) (by omega), ?_, ?_, ?_, ?_, ?_⟩
    · rw [pa_sn _ _ _ _ _ (by decide), pa_ss]
    · rw [pa_ss, List.length_cons]
    · rw [List.length_cons]; omega
    · intro i hi
      rw [pa_sc _ _ _ _ _ (by decide), pa_sc _ _ _ _ _ (by decide), swM_get]
      unfold swO
      by_cases c : i = 63 - T.length
      · rw [if_pos c, if_pos c]; exact a6 _ (by omega)
      · rw [if_neg c, if_neg c]
        by_cases d : i = S.length
        · rw [if_pos d, if_pos d]; exact a6 _ (by omega)
        · rw [if_neg d, if_neg d]; exact a6 _ hi
    · intro i hi
      have z := a7 (i + 1) (by rw [List.length_cons]; omega)
      rw [List.length_cons, List.getD_cons_succ, show S.length + 1 - 1 - (i + 1) = S.length - 1 - i by omega] at z
      rw [swO_n (by omega) (by omega)]
      exact (z.fr (swM_fr.1 3 (by decide)) (swM_fr.1 4 (by decide))).fr (by rw [pa_sc _ _ _ _ _ (by decide), pa_sc _ _ _ _ _ (by decide)]) (by rw [pa_sc _ _ _ _ _ (by decide), pa_sc _ _ _ _ _ (by decide)])
    · intro j hj
      cases j with
      | zero =>
        have z := a7 0 (by rw [List.length_cons]; omega)
        rw [List.length_cons, show S.length + 1 - 1 - 0 = S.length by omega] at z
        rw [List.length_cons, show 64 - (T.length + 1) + 0 = 63 - T.length by omega, swO_b]
        exact (z.fr (swM_fr.1 3 (by decide)) (swM_fr.1 4 (by decide))).fr (by rw [pa_sc _ _ _ _ _ (by decide), pa_sc _ _ _ _ _ (by decide)]) (by rw [pa_sc _ _ _ _ _ (by decide), pa_sc _ _ _ _ _ (by decide)])
      | succ j =>
        rw [List.length_cons] at hj
        have z := a8 j (by omega)
        rw [List.length_cons, show 64 - (T.length + 1) + (j + 1) = 64 - T.length + j by omega, List.getD_cons_succ, swO_n (by omega) (by omega)]
        exact (z.fr (swM_fr.1 3 (by decide)) (swM_fr.1 4 (by decide))).fr (by rw [pa_sc _ _ _ _ _ (by decide), pa_sc _ _ _ _ _ (by decide)]) (by rw [pa_sc _ _ _ _ _ (by decide), pa_sc _ _ _ _ _ (by decide)])
    · intro i hi
      exact a9 (i + 1) (by rw [List.length_cons]; omega)
    · exact a10.cons (a9 0 (by rw [List.length_cons]; omega))
  · exact ((swM_fr.mono (by decide)).tr (Fr.st (by decide))).tr (Fr.st (by decide))
theorem X_fromSide {μ : sd_Me} {S T : List El} {e : El} (h : AX μ S (e :: T)) : ∃ μ', fn_Elements_fromSide_r2 μ = some (0, μ') ∧ AX μ' (e :: S) T ∧ Fr [2, 5] μ μ' := by
  obtain ⟨g1, g2, g3⟩ := h.d
  obtain ⟨o, a1, a2, a3, a4, a5, a6, a7, a8, a9, a10⟩ := h
  rw [List.length_cons] at g2 g3
  refine ⟨sd_st (sd_st (swM μ S.length (63 - T.length)) 2 3 (nI T.length)) 2 4 (nI (S.length + 1)), ?_, ?_, ?_⟩
  · unfold fn_Elements_fromSide_r2
    have e1 : nI (T.length + 1) - nI 1 = nI T.length := by rw [pk_sub (by omega), Nat.add_sub_cancel]
    have e2 : nI 64 - nI (T.length + 1) = nI (63 - T.length) := by rw [pk_sub (by omega)]; congr 1; omega
    have e3 : (swM μ S.length (63 - T.length)).1 2 3 = nI (T.length + 1) := by rw [swM_fr.1 2 (by decide)]; exact g2
    have e4 : (sd_st (swM μ S.length (63 - T.length)) 2 3 (nI T.length)).1 2 4 = nI S.length := by rw [pa_sn _ _ _ _ _ (by decide), swM_fr.1 2 (by decide)]; exact g1
    rw [g1, g2, pl1, pl64, if_neg (fun z => by have := (nI_ltI (by omega) (by omega)).mp z; omega), if_pos ((nI_ltI (by omega) (by omega)).mpr (by omega)), e2, X_swap (by omega) (by omega), pa_bv, pa_let, e3, e1, pa_let, e4, nI_add]
  · refine ⟨swO o S.length (63 - T.length), ?_, ?_, ?_, swO_lt a4 (by omega) (by omega), swO_inj a5 (by omega) (by omega), ?_, ?_, ?_, ?_, ?_⟩
    · rw [pa_ss, List.length_cons]
    · rw [pa_sn _ _ _ _ _ (by decide), pa_ss]
    · rw [List.length_cons]; omega
    · intro i hi
      rw [pa_sc _ _ _ _ _ (by decide), pa_sc _ _ _ _ _ (by decide), swM_get]
      unfold swO
      by_cases c : i = 63 - T.length
      · rw [if_pos c, if_pos c]; exact a6 _ (by omega)
      · rw [if_neg c, if_neg c]
        by_cases d : i = S.length
        · rw [if_pos d, if_pos d]; exact a6 _ (by omega)
        · rw [if_neg d, if_neg d]; exact a6 _ hi
    · intro i hi
      cases i with
      | zero =>
        have z := a8 0 (by rw [List.length_cons]; omega)
        rw [List.length_cons, show 64 - (T.length + 1) + 0 = 63 - T.length by omega] at z
        rw [List.length_cons, show S.length + 1 - 1 - 0 = S.length by omega, swO_a]
        exact (z.fr (swM_fr.1 3 (by decide)) (swM_fr.1 4 (by decide))).fr (by rw [pa_sc _ _ _ _ _ (by decide), pa_sc _ _ _ _ _ (by decide)]) (by rw [pa_sc _ _ _ _ _ (by decide), pa_sc _ _ _ _ _ (by decide)])
      | succ i =>
        rw [List.length_cons] at hi
        have z := a7 i (by omega)
        rw [List.length_cons, List.getD_cons_succ, show S.length + 1 - 1 - (i + 1) = S.length - 1 - i by omega, swO_n (by omega) (by omega)]
        exact (z.fr (swM_fr.1 3 (by decide)) (swM_fr.1 4 (by decide))).fr (by rw [pa_sc _ _ _ _ _ (by decide), pa_sc _ _ _ _ _ (by decide)]) (by rw [pa_sc _ _ _ _ _ (by decide), pa_sc _ _ _ _ _ (by decide)])
    · intro j hj
      have z := a8 (j + 1) (by rw [List.length_cons]; omega)
      rw [List.length_cons, List.getD_cons_succ, show 64 - (T.length + 1) + (j + 1) = 64 - T.length + j by omega] at z
      rw [swO_n (by omega) (by omega)]
      exact (z.fr (swM_fr.1 3 (by decide)) (swM_fr.1 4 (by decide))).fr (by rw [pa_sc _ _ _ _ _ (by decide), pa_sc _ _ _ _ _ (by decide)]) (by rw [pa_sc _ _ _ _ _ (by decide), pa_sc _ _ _ _ _ (by decide)])
    · exact a9.cons (a10 0 (by rw [List.length_cons]; omega))
    · intro i hi
      exact a10 (i + 1) (by rw [List.length_cons]; omega)
  · exact ((swM_fr.mono (by decide)).tr (Fr.st (by decide))).tr (Fr.st (by decide))
theorem X_toSide0 {μ : sd_Me} {T : List El} (h : AX μ [] T) : fn_Elements_toSide_r2 μ = some (5, μ) := by
  obtain ⟨g1, g2, g3⟩ := h.d
  unfold fn_Elements_toSide_r2
  rw [g1, if_pos (by decide)]
theorem X_fromSide0 {μ : sd_Me} {S : List El} (h : AX μ S []) : fn_Elements_fromSide_r2 μ = some (5, μ) := by
  obtain ⟨g1, g2, g3⟩ := h.d
  unfold fn_Elements_fromSide_r2
  rw [g2, if_pos (by decide)]
theorem bI_0 {b : Bool} : bI b = 0 ↔ b = false := by cases b <;> decide
theorem X_take0 {μ : sd_Me} {T : List El} (h : AX μ [] T) : fn_Elements_takeTrue_r2 μ = some (5, μ) := by
  obtain ⟨g1, g2, g3⟩ := h.d
  unfold fn_Elements_takeTrue_r2
  rw [g1, if_neg (by decide)]
theorem X_take {μ : sd_Me} {S T : List El} {e : El} (h : AX μ (e :: S) T) : ∃ μ', fn_Elements_takeTrue_r2 μ = some (if trB e then 0 else 8, μ') ∧ Fr [2] μ μ' ∧ (trB e = true → AX μ' S T) ∧ (trB e = false → μ' = μ) := by
  obtain ⟨g1, g2, g3⟩ := h.d
  have ht : topB (e :: S) = trB e := by simp [topB]
  rw [List.length_cons] at g1 g3
  unfold fn_Elements_takeTrue_r2
  rw [g1, pl1, if_pos ((nI_leI (by omega) (by omega)).mpr (by omega)), X_top h, pa_bi, ht]
  cases hb : trB e with
  | false => exact ⟨μ, by rw [if_pos (by decide)]; rfl, Fr.rf, fun z => (by cases z), fun _ => rfl⟩
  | true =>
    have hd := AX_drop h (n := 1) (by rw [List.length_cons]; omega)
    refine ⟨_, ?_, Fr.st (by decide), fun _ => hd, fun z => by cases z⟩
    rw [if_neg (by decide), X_drop h (by rw [List.length_cons]; omega), pa_bv]
    rfl
theorem X_many {μ : sd_Me} {S T : List El} (h : AX μ S T) : fn_Elements_areTooMany_r2 μ = some (bI (decide (60 < S.length + T.length)), μ) := by
  obtain ⟨g1, g2, g3⟩ := h.d
  unfold fn_Elements_areTooMany_r2
  rw [g1, g2, nI_add, pl60]
  by_cases c : S.length + T.length ≤ 60
  · rw [if_pos ((nI_leI (by omega) (by omega)).mpr c)]
    simp [bI, Nat.not_lt.mpr c]
  · rw [if_neg (fun z => c ((nI_leI (by omega) (by omega)).mp z))]
    simp [bI, Nat.lt_of_not_le c]
theorem X_dropSide {μ : sd_Me} {S T : List El} (h : AX μ S T) : ∃ μ', fn_Elements_dropSide_r2 μ = some μ' ∧ AX μ' S [] ∧ Fr [2] μ μ' := by
  obtain ⟨o, a1, a2, a3, a4, a5, a6, a7, a8, a9, a10⟩ := h
  refine ⟨_, rfl, ⟨o, ?_, ?_, ?_, a4, a5, ?_, ?_, ?_, a9, ?_⟩, Fr.st (by decide)⟩
  · rw [pa_sn _ _ _ _ _ (by decide)]; exact a1
  · rw [pa_ss]; rfl
  · simp; omega
  · intro i hi
    rw [pa_sc _ _ _ _ _ (by decide)]; exact a6 i hi
  · intro i hi
    exact (a7 i hi).fr (pa_sc _ _ _ _ _ (by decide)) (pa_sc _ _ _ _ _ (by decide))
  · intro j hj
    exact absurd hj (by simp)
  · intro j hj
    exact absurd hj (by simp)
theorem X_faultN {μ : sd_Me} {S T : List El} (h : AX μ S T) {k : Nat} (hk : k < 2 ^ 20) : fn_Elements_faultOfNumber_r2 (nI k) μ = some (if k < S.length then (if (S.getD k []).length ≤ 4 then 0 else 6) else 5, μ) := by
  obtain ⟨g1, g2, g3⟩ := h.d
  unfold fn_Elements_faultOfNumber_r2
  rw [g1]
  by_cases c : k < S.length
  · have hok := (h.ok c).1
    rw [if_pos ((nI_ltI (by omega) (by omega)).mpr c), if_pos c, X_len h c, pa_bi, pl4]
    by_cases d : (S.getD k []).length ≤ 4
    · rw [if_pos ((nI_leI (by omega) (by omega)).mpr d), if_pos d]
    · rw [if_neg (fun z => d ((nI_leI (by omega) (by omega)).mp z)), if_neg d]
  · rw [if_neg (fun z => c ((nI_ltI (by omega) (by omega)).mp z)), if_neg c]
theorem X_sameL {μ : sd_Me} {S T : List El} (h : AX μ S T) {a b : Nat} (ha : a < S.length) (hb : b < S.length) (hl : (S.getD a []).length = (S.getD b []).length) {kk : sd_Me → Option (Int32 × sd_Me)} : ∀ (m i f : Nat), (S.getD a []).length = i + m → m < f → (∀ j, j < i → (S.getD a []).getD j 0 = (S.getD b []).getD j 0) → fn_Elements_areSame_r2_L20 kk f (nI a) (nI b) (nI (S.getD a []).length) (nI i) μ = if S.getD a [] = S.getD b [] then kk μ else some (0, μ) := by
  have hok := (h.ok ha).1
  intro m
  induction m with
  | zero =>
    intro i f h0 hf hj
    obtain ⟨f, rfl⟩ : ∃ g, f = g + 1 := ⟨f - 1, by omega⟩
    rw [fn_Elements_areSame_r2_L20, if_pos ((nI_leI (by omega) (by omega)).mpr (by omega)), if_pos (El_ext hl (fun k hk => hj k (by omega)))]
  | succ m ih =>
    intro i f h0 hf hj
    obtain ⟨f, rfl⟩ : ∃ g, f = g + 1 := ⟨f - 1, by omega⟩
    rw [fn_Elements_areSame_r2_L20, if_neg (fun z => by have := (nI_leI (by omega) (by omega)).mp z; omega), X_oct h ha (by omega), pa_bi, X_oct h hb (by omega), pa_bi]
    by_cases c : (S.getD a []).getD i 0 = (S.getD b []).getD i 0
    · rw [if_pos c, pl1, nI_add]
      refine ih (i + 1) f (by omega) (by omega) (fun j hjj => ?_)
      rcases Nat.lt_or_ge j i with q | q
      · exact hj j q
      · obtain rfl : j = i := by omega
        exact c
    · rw [if_neg c, if_neg (fun z => c (by rw [z]))]
theorem X_same {μ : sd_Me} {S T : List El} (h : AX μ S T) {a b : Nat} (ha : a < S.length) (hb : b < S.length) : fn_Elements_areSame_r2 (nI a) (nI b) μ = some (if S.getD a [] = S.getD b [] then 1 else 0, μ) := by
  unfold fn_Elements_areSame_r2
  have hoka := (h.ok ha).1
  have hokb := (h.ok hb).1
  rw [X_len h ha, pa_bi, X_len h hb, pa_bi]
  by_cases c : (S.getD a []).length = (S.getD b []).length
  · rw [if_pos (by rw [c]), pl0, X_sameL h ha hb c (S.getD a []).length 0 10000 (by omega) (by omega) (fun j hj => absurd hj (Nat.not_lt_zero j))]
    split <;> rfl
  · rw [if_neg (fun z => c ((nI_eq (by omega) (by omega)).mp z)), if_neg (fun z => c (by rw [z]))]
