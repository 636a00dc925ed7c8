def bI (b : Bool) : Int32 := if b then 1 else 0
/-- an element is true -/
def trB (e : El) : Bool := (List.range e.length).any (fun k => decide (e.getD k 0 ≠ 0) && (decide (k + 1 < e.length) || decide (e.getD k 0 ≠ 128)))
theorem trB_t {e : El} : trB e = true ↔ ∃ k, k < e.length ∧ e.getD k 0 ≠ 0 ∧ (k + 1 < e.length ∨ e.getD k 0 ≠ 128) := by
  unfold trB
  rw [List.any_eq_true]
  constructor
  · rintro ⟨k, hk, h⟩
    simp only [Bool.and_eq_true, Bool.or_eq_true, decide_eq_true_eq] at h
    exact ⟨k, List.mem_range.mp hk, h.1, h.2⟩
  · rintro ⟨k, hk, h1, h2⟩
    refine ⟨k, List.mem_range.mpr hk, ?_⟩
    simp only [Bool.and_eq_true, Bool.or_eq_true, decide_eq_true_eq]
    exact ⟨h1, h2⟩
def topB (S : List El) : Bool := decide (0 < S.length) && trB (S.getD 0 [])
theorem AX.ok {μ : sd_Me} {S T : List El} (h : AX μ S T) {k : Nat} (hk : k < S.length) : okE (S.getD k []) := by
  obtain ⟨o, h1, h2, h3, h4, h5, h6, h7, h8, h9, h10⟩ := h
  exact h9 k hk
theorem AX.d {μ : sd_Me} {S T : List El} (h : AX μ S T) : μ.1 2 4 = nI S.length ∧ μ.1 2 3 = nI T.length ∧ S.length + T.length ≤ 64 := by
  obtain ⟨o, h1, h2, h3, h4, h5, h6, h7, h8, h9, h10⟩ := h
  exact ⟨h1, h2, h3⟩
theorem X_oct {μ : sd_Me} {S T : List El} (h : AX μ S T) {k i : Nat} (hk : k < S.length) (hi : i < (S.getD k []).length) : fn_Elements_octetAt_r2 (nI k) (nI i) μ = some ((S.getD k []).getD i 0, μ) := by
  have hok := h.ok hk
  obtain ⟨o, h1, h2, h3, h4, h5, h6, h7, h8, h9, h10⟩ := h
  have a1 := h7 k hk
  have a2 := h4 (S.length - 1 - k) (by omega)
  have a3 := h6 (S.length - 1 - k) (by omega)
  have a4 : nI S.length - nI 1 - nI k = nI (S.length - 1 - k) := by rw [pk_sub (by omega), pk_sub (by omega)]
  have a5 := hok.1
  have a6 : nI (o (S.length - 1 - k)) * nI 120 + nI i = nI (120 * o (S.length - 1 - k) + i) := by rw [pk_mul, nI_add, Nat.mul_comm]
  unfold fn_Elements_octetAt_r2
  simp (disch := omega) only [h1, pa_lit, nI_ltI, a4, pa_ix, pa_gd, nI_clamp, a3, a1.1, hk, if_true, Nat.not_lt_zero, if_false, pa_let, hi, a6, a1.2]
theorem X_oct_out {μ : sd_Me} {S T : List El} (h : AX μ S T) {k : Nat} {x : Int32} (hk : k < S.length) (hx : x < 0 ∨ nI (S.getD k []).length ≤ x) : fn_Elements_octetAt_r2 (nI k) x μ = some (-1, μ) := by
  obtain ⟨o, h1, h2, h3, h4, h5, h6, h7, h8, h9, h10⟩ := h
  have a1 := h7 k hk
  have a2 := h4 (S.length - 1 - k) (by omega)
  have a3 := h6 (S.length - 1 - k) (by omega)
  have a4 : nI S.length - nI 1 - nI k = nI (S.length - 1 - k) := by rw [pk_sub (by omega), pk_sub (by omega)]
  unfold fn_Elements_octetAt_r2
  simp (disch := omega) only [h1, pa_lit, nI_ltI, a4, pa_ix, pa_gd, nI_clamp, a3, a1.1, hk, if_true, Nat.not_lt_zero, if_false, pa_let]
  by_cases c : x < nI 0
  · rw [if_pos c]
  · rw [if_neg c]
    rcases hx with hx | hx
    · exact absurd hx c
    · rw [if_neg (Int32.not_lt.mpr hx)]
theorem X_oct_none {μ : sd_Me} {S T : List El} (h : AX μ S T) {x y : Int32} (hx : x < 0 ∨ nI S.length ≤ x) : fn_Elements_octetAt_r2 x y μ = some (-1, μ) := by
  obtain ⟨o, h1, h2, h3, h4, h5, h6, h7, h8, h9, h10⟩ := h
  unfold fn_Elements_octetAt_r2
  rw [h1]
  by_cases c : x < 0
  · rw [if_pos c]
  · rw [if_neg c]
    rcases hx with hx | hx
    · exact absurd hx c
    · rw [if_neg (Int32.not_lt.mpr hx)]
theorem isB_0 {x : Int32} (h : isB x) : x = 0 ∨ 0 < x := by
  obtain ⟨b, hb, rfl⟩ := h
  by_cases c : b = 0
  · left; rw [c]; rfl
  · right
    rw [pa_lit, nI_ltI (by omega) (by omega)]; omega
theorem X_topL0 {μ : sd_Me} {S T : List El} (h : AX μ S T) (hS : 0 < S.length) {k : Int32 → sd_Me → Option (Int32 × sd_Me)} : ∀ (m i f : Nat), (S.getD 0 []).length = i + m + 1 → m < f → (∀ j, i ≤ j → j + 1 < (S.getD 0 []).length → (S.getD 0 []).getD j 0 = 0) → fn_Elements_topHolds_r2_L10 k f (nI ((S.getD 0 []).length - 1)) (nI i) μ = k (nI ((S.getD 0 []).length - 1)) μ := by
  have hok := (h.ok hS).1
  intro m
  induction m with
  | zero =>
    intro i f h1 h2 h3
    obtain ⟨f, rfl⟩ : ∃ g, f = g + 1 := ⟨f - 1, by omega⟩
    rw [fn_Elements_topHolds_r2_L10, if_pos ((nI_leI (by omega) (by omega)).mpr (by omega))]
  | succ m ih =>
    intro i f h1 h2 h3
    obtain ⟨f, rfl⟩ : ∃ g, f = g + 1 := ⟨f - 1, by omega⟩
    rw [fn_Elements_topHolds_r2_L10, if_neg (fun z => by have := (nI_leI (by omega) (by omega)).mp z; omega), pl0, X_oct h hS (by omega), pa_bi, h3 i (by omega) (by omega), if_pos (by decide), pl1, nI_add]
    exact ih (i + 1) f (by omega) (by omega) (fun j a b => h3 j (by omega) b)
theorem X_topL1 {μ : sd_Me} {S T : List El} (h : AX μ S T) (hS : 0 < S.length) {k : Int32 → sd_Me → Option (Int32 × sd_Me)} : ∀ (m i f : Nat), (S.getD 0 []).length = i + m + 1 → m < f → (∃ j, i ≤ j ∧ j + 1 < (S.getD 0 []).length ∧ (S.getD 0 []).getD j 0 ≠ 0) → fn_Elements_topHolds_r2_L10 k f (nI ((S.getD 0 []).length - 1)) (nI i) μ = some (1, μ) := by
  have hok := (h.ok hS).1
  intro m
  induction m with
  | zero =>
    intro i f h1 h2 h3
    obtain ⟨j, a, b, c⟩ := h3
    omega
  | succ m ih =>
    intro i f h1 h2 h3
    obtain ⟨f, rfl⟩ : ∃ g, f = g + 1 := ⟨f - 1, by omega⟩
    rw [fn_Elements_topHolds_r2_L10, if_neg (fun z => by have := (nI_leI (by omega) (by omega)).mp z; omega), pl0, X_oct h hS (by omega), pa_bi]
    by_cases c : (S.getD 0 []).getD i 0 = nI 0
    · rw [if_pos c, pl1, nI_add]
      refine ih (i + 1) f (by omega) (by omega) ?_
      obtain ⟨j, a, b, d⟩ := h3
      refine ⟨j, ?_, b, d⟩
      rcases Nat.lt_or_ge i j with q | q
      · exact q
      · obtain rfl : i = j := by omega
        exact absurd c d
    · rw [if_neg c]
theorem X_top {μ : sd_Me} {S T : List El} (h : AX μ S T) : fn_Elements_topHolds_r2 μ = some (bI (topB S), μ) := by
  unfold fn_Elements_topHolds_r2
  by_cases hS : 0 < S.length
  · have hok := h.ok hS
    rw [pl0, X_len h hS, pa_bi, pa_let]
    have ht : topB S = trB (S.getD 0 []) := by simp [topB, hS]
    by_cases h0 : (S.getD 0 []).length = 0
    · have hf : trB (S.getD 0 []) = false := by
        rw [Bool.eq_false_iff]
        intro z
        obtain ⟨k, a, -⟩ := trB_t.mp z
        omega
      rw [ht, hf, h0, fn_Elements_topHolds_r2_L10, if_pos (by decide), X_oct_out h hS (Or.inl (by decide)), pa_bi, if_pos (by decide)]
      rfl
    · rw [pl1, pk_sub (by omega)]
      by_cases c : ∃ j, 0 ≤ j ∧ j + 1 < (S.getD 0 []).length ∧ (S.getD 0 []).getD j 0 ≠ 0
      · have e1 := X_topL1 h hS (k := fun x6 m7 => sd_bi (fn_Elements_octetAt_r2 (nI 0) x6 m7) (fun x9 m8 => if x9 ≤ (0 : Int32) then some ((0 : Int32), m8) else if x9 = (128 : Int32) then some ((0 : Int32), m8) else some ((1 : Int32), m8))) ((S.getD 0 []).length - 1) 0 10000 (by omega) (by have := hok.1; omega) c
        have htr : trB (S.getD 0 []) = true := by
          obtain ⟨j, -, b, d⟩ := c
          exact trB_t.mpr ⟨j, by omega, d, Or.inl b⟩
        rw [ht, htr]
        exact e1
      · have e1 := X_topL0 h hS (k := fun x6 m7 => sd_bi (fn_Elements_octetAt_r2 (nI 0) x6 m7) (fun x9 m8 => if x9 ≤ (0 : Int32) then some ((0 : Int32), m8) else if x9 = (128 : Int32) then some ((0 : Int32), m8) else some ((1 : Int32), m8))) ((S.getD 0 []).length - 1) 0 10000 (by omega) (by have := hok.1; omega) (fun j a b => Classical.byContradiction (fun z => c ⟨j, a, b, z⟩))
        refine Eq.trans e1 ?_
        rw [X_oct h hS (by omega), pa_bi, ht]
        have hb := hok.2 ((S.getD 0 []).length - 1) (by omega)
        generalize hx : (S.getD 0 []).getD ((S.getD 0 []).length - 1) 0 = x at hb ⊢
        have key : trB (S.getD 0 []) = true ↔ x ≠ 0 ∧ x ≠ 128 := by
          rw [trB_t]
          constructor
          · rintro ⟨k, a, b, d⟩
            have hk : k = (S.getD 0 []).length - 1 := by
              rcases Nat.lt_or_ge (k + 1) (S.getD 0 []).length with q | q
              · exact absurd ⟨k, Nat.zero_le k, q, b⟩ c
              · omega
            rw [hk, hx] at b d
            exact ⟨b, d.resolve_left (by omega)⟩
          · rintro ⟨a, b⟩
            exact ⟨(S.getD 0 []).length - 1, by omega, by rw [hx]; exact a, Or.inr (by rw [hx]; exact b)⟩
        rcases isB_0 hb with z | z
        · have hf : trB (S.getD 0 []) = false := by
            rw [Bool.eq_false_iff]
            intro w
            exact (key.mp w).1 z
          rw [hf, z, if_pos (by decide)]
          rfl
        · rw [if_neg (Int32.not_le.mpr z)]
          by_cases w : x = 128
          · have hf : trB (S.getD 0 []) = false := by
              rw [Bool.eq_false_iff]
              intro v
              exact (key.mp v).2 w
            rw [hf, if_pos w]
            rfl
          · have htt : trB (S.getD 0 []) = true := key.mpr ⟨fun v => by rw [v] at z; exact absurd z (by decide), w⟩
            rw [htt, if_neg w]
            rfl
  · have hS0 : S.length = 0 := by omega
    have ht : topB S = false := by simp [topB, hS0]
    rw [ht, X_len_out h (Or.inr (by rw [hS0]; decide)), pa_bi, pa_let, fn_Elements_topHolds_r2_L10, if_pos (by decide), X_oct_none h (Or.inr (by rw [hS0]; decide)), pa_bi, if_pos (by decide)]
    rfl
