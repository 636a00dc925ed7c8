/-! the reference's rows -/
def Row (ν : sd_Me) (r : Nat) (e : El) : Prop := ν.1 2 r = nI e.length ∧ ∀ k, k < e.length → ν.1 1 (120 * r + k) = e.getD k 0
def AM (ν : sd_Me) (S T : List El) : Prop := ν.1 0 2 = nI S.length ∧ ν.1 0 3 = nI T.length ∧ S.length + T.length ≤ 64 ∧ (∀ i, i < S.length → Row ν (S.length - 1 - i) (S.getD i [])) ∧ (∀ j, j < T.length → Row ν (70 + (T.length - 1 - j)) (T.getD j [])) ∧ okS S ∧ okS T
/-- what the reference keeps beside its rows: of its own fields all but those named; script, parts, secret -/
def KM (P : List Nat) (ν ν' : sd_Me) : Prop := (∀ j, j ∉ P → ν'.1 0 j = ν.1 0 j) ∧ ν'.1 3 = ν.1 3 ∧ ν'.1 4 = ν.1 4 ∧ ν'.2 0 = ν.2 0
theorem KM.rf {P : List Nat} {ν : sd_Me} : KM P ν ν := ⟨fun _ _ => rfl, rfl, rfl, rfl⟩
theorem KM.tr {P : List Nat} {a b c : sd_Me} (h : KM P a b) (g : KM P b c) : KM P a c := ⟨fun j hj => (g.1 j hj).trans (h.1 j hj), g.2.1.trans h.2.1, g.2.2.1.trans h.2.2.1, g.2.2.2.trans h.2.2.2⟩
theorem KM.mono {P Q : List Nat} {a b : sd_Me} (h : KM P a b) (hs : ∀ c ∈ P, c ∈ Q) : KM Q a b := ⟨fun k hk => h.1 k (fun z => hk (hs k z)), h.2⟩
theorem KM.st0 {P : List Nat} {ν : sd_Me} {j : Nat} {v : Int32} (h : j ∈ P) : KM P ν (sd_st ν 0 j v) := ⟨fun k hk => pa_sn _ _ _ _ _ (fun e => hk (e ▸ h)), pa_sc _ _ _ _ _ (by decide), pa_sc _ _ _ _ _ (by decide), rfl⟩
theorem KM.stc {P : List Nat} {ν : sd_Me} {c j : Nat} {v : Int32} (h0 : c ≠ 0) (h3 : c ≠ 3) (h4 : c ≠ 4) : KM P ν (sd_st ν c j v) := ⟨fun k hk => by rw [pa_sc _ _ _ _ _ (Ne.symm h0)], pa_sc _ _ _ _ _ (Ne.symm h3), pa_sc _ _ _ _ _ (Ne.symm h4), rfl⟩
theorem KM.row {P : List Nat} {ν : sd_Me} {c : Nat} {f : Nat → Int32} (h0 : c ≠ 0) (h3 : c ≠ 3) (h4 : c ≠ 4) : KM P ν (sd_mrow ν c f) := ⟨fun k hk => by rw [pa_rc _ _ _ _ (Ne.symm h0)], pa_rc _ _ _ _ (Ne.symm h3), pa_rc _ _ _ _ (Ne.symm h4), rfl⟩
theorem KM.lst {P : List Nat} {ν : sd_Me} {v : Int64} : KM P ν (sd_lst ν 1 v) := ⟨fun _ _ => rfl, rfl, rfl, rfl⟩
theorem AM.eq {ν ν' : sd_Me} {S T : List El} (h : AM ν S T) (h1 : ν'.1 0 2 = ν.1 0 2) (h2 : ν'.1 0 3 = ν.1 0 3) (h3 : ν'.1 1 = ν.1 1) (h4 : ν'.1 2 = ν.1 2) : AM ν' S T := by
  obtain ⟨a1, a2, a3, a4, a5, a6, a7⟩ := h
  refine ⟨h1.trans a1, h2.trans a2, a3, fun i hi => ⟨?_, fun k hk => ?_⟩, fun i hi => ⟨?_, fun k hk => ?_⟩, a6, a7⟩
  · rw [h4]; exact (a4 i hi).1
  · rw [h3]; exact (a4 i hi).2 k hk
  · rw [h4]; exact (a5 i hi).1
  · rw [h3]; exact (a5 i hi).2 k hk
theorem AM.ok {ν : sd_Me} {S T : List El} (h : AM ν S T) {k : Nat} (hk : k < S.length) : okE (S.getD k []) := h.2.2.2.2.2.1 k hk
/-- fewer elements -/
theorem AM_drop {ν : sd_Me} {S T : List El} (h : AM ν S T) {n : Nat} (hn : n ≤ S.length) : AM (sd_st ν 0 2 (nI (S.length - n))) (S.drop n) T := by
  obtain ⟨a1, a2, a3, a4, a5, a6, a7⟩ := h
  refine ⟨?_, ?_, ?_, ?_, ?_, a6.drop n, a7⟩
  · rw [pa_ss, List.length_drop]
  · rw [pa_sn _ _ _ _ _ (by decide)]; exact a2
  · rw [List.length_drop]; omega
  · intro i hi
    rw [List.length_drop] at hi
    have e : (S.drop n).getD i [] = S.getD (n + i) [] := by simp [List.getD_eq_getElem?_getD]
    rw [e, List.length_drop, show S.length - n - 1 - i = S.length - 1 - (n + i) by omega]
    have z := a4 (n + i) (by omega)
    exact ⟨by rw [pa_sc _ _ _ _ _ (by decide)]; exact z.1, fun k hk => by rw [pa_sc _ _ _ _ _ (by decide)]; exact z.2 k hk⟩
  · intro j hj
    have z := a5 j hj
    exact ⟨by rw [pa_sc _ _ _ _ _ (by decide)]; exact z.1, fun k hk => by rw [pa_sc _ _ _ _ _ (by decide)]; exact z.2 k hk⟩
/-- one more on top: its row holds it, the others are as they were -/
theorem AM_push {ν ν' : sd_Me} {S T : List El} {e : El} (h : AM ν S T) (hn : S.length + T.length < 64) (he : okE e) (b1 : ν'.1 0 2 = nI (S.length + 1)) (b2 : ν'.1 0 3 = ν.1 0 3) (b4 : Row ν' S.length e) (b5 : ∀ r, r ≠ S.length → r < 140 → ν'.1 2 r = ν.1 2 r ∧ ∀ k, k < 120 → ν'.1 1 (120 * r + k) = ν.1 1 (120 * r + k)) : AM ν' (e :: S) T := by
  obtain ⟨a1, a2, a3, a4, a5, a6, a7⟩ := h
  refine ⟨by rw [b1, List.length_cons], by rw [b2]; exact a2, by rw [List.length_cons]; omega, ?_, ?_, a6.cons he, a7⟩
  · intro i hi
    cases i with
    | zero => exact b4
    | succ i =>
      rw [List.length_cons] at hi ⊢
      rw [List.getD_cons_succ, show S.length + 1 - 1 - (i + 1) = S.length - 1 - i by omega]
      have z := a4 i (by omega)
      have o := (a6 i (by omega)).1
      obtain ⟨c1, c2⟩ := b5 (S.length - 1 - i) (by omega) (by omega)
      exact ⟨by rw [c1]; exact z.1, fun k hk => by rw [c2 k (by omega)]; exact z.2 k hk⟩
  · intro j hj
    have z := a5 j hj
    have o := (a7 j hj).1
    obtain ⟨c1, c2⟩ := b5 (70 + (T.length - 1 - j)) (by omega) (by omega)
    exact ⟨by rw [c1]; exact z.1, fun k hk => by rw [c2 k (by omega)]; exact z.2 k hk⟩
theorem M_fails {ν : sd_Me} {f : Int32} (h : ν.1 0 7 = 0) : fn_Model_fails_r0 f ν = some (sd_st ν 0 7 f) := by
  unfold fn_Model_fails_r0
  rw [h, if_pos rfl, pa_let]
theorem M_has {ν : sd_Me} {S T : List El} (h : AM ν S T) (h7 : ν.1 0 7 = 0) {n : Nat} (hn : n < 2 ^ 20) : fn_Model_has_r0 (nI n) ν = some (bI (decide (n ≤ S.length)), if n ≤ S.length then ν else sd_st ν 0 7 5) := by
  have a1 := h.1
  have a3 := h.2.2.1
  unfold fn_Model_has_r0
  rw [a1]
  by_cases c : n ≤ S.length
  · rw [if_pos ((nI_leI (by omega) (by omega)).mpr c), if_neg (fun z => by have := (nI_ltI (by omega) (by omega)).mp z; omega), if_pos c]
    simp [bI, c]
  · have e : (sd_st ν 0 7 5).1 0 2 = nI S.length := by rw [pa_sn _ _ _ _ _ (by decide)]; exact a1
    rw [if_neg (fun z => c ((nI_leI (by omega) (by omega)).mp z)), M_fails h7, pa_bv, e, if_pos ((nI_ltI (by omega) (by omega)).mpr (by omega)), if_neg c]
    simp [bI, c]
theorem M_top {ν : sd_Me} {S T : List El} (h : AM ν S T) {k : Nat} (hk : k < S.length) : fn_Model_top_r0 (nI k) ν = some (nI (S.length - 1 - k), ν) := by
  unfold fn_Model_top_r0
  rw [h.1, pl1, pk_sub (by omega), pk_sub (by omega)]
theorem M_trueL1 {ν : sd_Me} {r : Nat} {e : El} (h : Row ν r e) (hr : r < 140) (hl : e.length ≤ 120) {kk : Int32 → sd_Me → Option (Int32 × sd_Me)} : ∀ (m i f : Nat), e.length = i + m → m < f → fn_Model_isTrueRow_r0_L4 kk f (nI r) 1 (nI i) ν = kk 1 ν := by
  intro m
  induction m with
  | zero =>
    intro i f h0 hf
    obtain ⟨f, rfl⟩ : ∃ g, f = g + 1 := ⟨f - 1, by omega⟩
    rw [fn_Model_isTrueRow_r0_L4, pa_ix hr (by decide), pa_gd, nI_clamp (by omega), h.1, if_pos ((nI_leI (by omega) (by omega)).mpr (by omega))]
  | succ m ih =>
    intro i f h0 hf
    obtain ⟨f, rfl⟩ : ∃ g, f = g + 1 := ⟨f - 1, by omega⟩
    rw [fn_Model_isTrueRow_r0_L4, pa_ix hr (by decide), pa_gd, nI_clamp (by omega), h.1, if_neg (fun z => by have := (nI_leI (by omega) (by omega)).mp z; omega), pl120, pk_mul, nI_add, pa_ix (by omega) (by decide), pa_gd, pa_let, if_neg (by decide), pl1, nI_add]
    exact ih (i + 1) f (by omega) (by omega)
theorem M_trueL {ν : sd_Me} {r : Nat} {e : El} (h : Row ν r e) (hr : r < 140) (hl : e.length ≤ 120) {kk : Int32 → sd_Me → Option (Int32 × sd_Me)} : ∀ (m i f : Nat), e.length = i + m → m < f → (∀ j, j < i → ¬ (e.getD j 0 ≠ 0 ∧ (j + 1 < e.length ∨ e.getD j 0 ≠ 128))) → fn_Model_isTrueRow_r0_L4 kk f (nI r) 0 (nI i) ν = kk (bI (trB e)) ν := by
  intro m
  induction m with
  | zero =>
    intro i f h0 hf hj
    obtain ⟨f, rfl⟩ : ∃ g, f = g + 1 := ⟨f - 1, by omega⟩
    have hF : trB e = false := by
      rw [Bool.eq_false_iff]
      intro z
      obtain ⟨k, b1, b2⟩ := trB_t.mp z
      exact hj k (by omega) b2
    rw [fn_Model_isTrueRow_r0_L4, pa_ix hr (by decide), pa_gd, nI_clamp (by omega), h.1, if_pos ((nI_leI (by omega) (by omega)).mpr (by omega)), hF]
    rfl
  | succ m ih =>
    intro i f h0 hf hj
    obtain ⟨f, rfl⟩ : ∃ g, f = g + 1 := ⟨f - 1, by omega⟩
    have ei : nI i + 1 = nI (i + 1) := nI_1 i
    have hT : (e.getD i 0 ≠ 0 ∧ (i + 1 < e.length ∨ e.getD i 0 ≠ 128)) → bI (trB e) = 1 := by
      intro z
      have : trB e = true := trB_t.mpr ⟨i, by omega, z⟩
      rw [this]
      rfl
    have hN : ¬ (e.getD i 0 ≠ 0 ∧ (i + 1 < e.length ∨ e.getD i 0 ≠ 128)) → fn_Model_isTrueRow_r0_L4 kk f (nI r) 0 (nI (i + 1)) ν = kk (bI (trB e)) ν := by
      intro z
      refine ih (i + 1) f (by omega) (by omega) (fun j hjj => ?_)
      rcases Nat.lt_or_ge j i with q | q
      · exact hj j q
      · obtain rfl : j = i := by omega
        exact z
    have hY : (e.getD i 0 ≠ 0 ∧ (i + 1 < e.length ∨ e.getD i 0 ≠ 128)) → fn_Model_isTrueRow_r0_L4 kk f (nI r) 1 (nI (i + 1)) ν = kk (bI (trB e)) ν := by
      intro z
      rw [hT z]
      exact M_trueL1 h hr hl m (i + 1) f (by omega) (by omega)
    rw [fn_Model_isTrueRow_r0_L4, pa_ix hr (by decide), pa_gd, nI_clamp (by omega), h.1, if_neg (fun z => by have := (nI_leI (by omega) (by omega)).mp z; omega), pl120, pk_mul, nI_add, pa_ix (by omega) (by decide), pa_gd, pa_let, if_pos rfl, nI_clamp (by omega), h.2 i (by omega), pa_gd]
    by_cases c0 : e.getD i 0 = 0
    · rw [if_pos c0, ei]
      exact hN (fun z => z.1 c0)
    · rw [if_neg c0, ei]
      have e1 : nI e.length - 1 = nI (e.length - 1) := by rw [pl1, pk_sub (by omega)]
      rw [e1]
      by_cases c1 : i + 1 < e.length
      · rw [if_pos ((nI_ltI (by omega) (by omega)).mpr (by omega))]
        exact hY ⟨c0, Or.inl c1⟩
      · rw [if_neg (fun z => by have := (nI_ltI (by omega) (by omega)).mp z; omega)]
        by_cases c2 : e.getD i 0 = 128
        · rw [if_pos c2]
          exact hN (fun z => z.2.elim c1 (fun w => w c2))
        · rw [if_neg c2]
          exact hY ⟨c0, Or.inr c2⟩
theorem sd_zb_bI {b : Bool} : sd_zb (bI b) = true := by cases b <;> decide
theorem M_true {ν : sd_Me} {r : Nat} {e : El} (h : Row ν r e) (hr : r < 140) (hl : e.length ≤ 120) : fn_Model_isTrueRow_r0 (nI r) ν = some (bI (trB e), ν) := by
  unfold fn_Model_isTrueRow_r0
  exact Eq.trans (M_trueL h hr hl e.length 0 10000 (by omega) (by omega) (fun j hj => absurd hj (Nat.not_lt_zero j))) (by rw [sd_zb_bI, pa_gd])
