theorem AX.slot {μ : sd_Me} {S T : List El} (h : AX μ S T) {k : Nat} (hk : k < S.length) : ∃ t : Nat, t < 64 ∧ μ.1 5 (S.length - 1 - k) = nI t ∧ Slot μ t (S.getD k []) := by
  obtain ⟨o, a1, a2, a3, a4, a5, a6, a7, a8, a9, a10⟩ := h
  exact ⟨o (S.length - 1 - k), a4 _ (by omega), a6 _ (by omega), a7 k hk⟩
theorem X_pushCopy {μ : sd_Me} {S T : List El} (h : AX μ S T) (hn : S.length + T.length < 64) {k : Nat} (hk : k < S.length) : ∃ μ', fn_Elements_pushCopy_r2 (nI k) μ = some μ' ∧ AX μ' (S.getD k [] :: S) T ∧ Fr [2, 3, 4] μ μ' := by
  obtain ⟨t, h1, h2, h3⟩ := h.slot hk
  have hok := h.ok hk
  obtain ⟨g1, g2, g3⟩ := h.d
  obtain ⟨μ', e1, e2, e3⟩ := X_push3 h hn (a := t * 120) (n := (S.getD k []).length) hok.1 (by have := hok.1; omega) (fun j hj => by rw [Nat.mul_comm, h3.2 j hj]; exact hok.2 j hj)
  have ec : cutE (μ.1 3) (t * 120) (S.getD k []).length = S.getD k [] := by
    apply El_ext cutE_len
    intro j hj
    rw [cutE_len] at hj
    rw [cutE_get hj, Nat.mul_comm, h3.2 j hj]
  rw [ec] at e2
  refine ⟨μ', ?_, e2, e3⟩
  unfold fn_Elements_pushCopy_r2
  have a4 : nI S.length - nI 1 - nI k = nI (S.length - 1 - k) := by rw [pk_sub (by omega), pk_sub (by omega)]
  have hl := hok.1
  rw [X_len h hk, pa_bi, if_neg (nI_pos (by omega)), g1, pl1, a4, pa_ix (by omega) (by decide), pa_gd, nI_clamp (by omega), h2, pl120, pk_mul, e1, pa_bv]
def copies (S : List El) (k : Nat) : Nat → List El
  | 0 => S
  | m + 1 => copies (S.getD k [] :: S) k m
theorem X_pushCopiesL {k : Nat} {kk : sd_Me → Option sd_Me} : ∀ (m i f : Nat) (μ : sd_Me) (S T : List El) (n : Nat), n = i + m → n < 2 ^ 31 → m < f → AX μ S T → S.length + T.length + m ≤ 64 → k < S.length → ∃ μ', fn_Elements_pushCopies_r2_L2 kk f (nI k) (nI n) (nI i) μ = kk μ' ∧ AX μ' (copies S k m) T ∧ Fr [2, 3, 4] μ μ' := by
  intro m
  induction m with
  | zero =>
    intro i f μ S T n h0 hn hf h h1 h2
    obtain ⟨f, rfl⟩ : ∃ g, f = g + 1 := ⟨f - 1, by omega⟩
    refine ⟨μ, ?_, h, Fr.rf⟩
    rw [fn_Elements_pushCopies_r2_L2, if_pos ((nI_leI (by omega) (by omega)).mpr (by omega))]
  | succ m ih =>
    intro i f μ S T n h0 hn hf h h1 h2
    obtain ⟨f, rfl⟩ : ∃ g, f = g + 1 := ⟨f - 1, by omega⟩
    obtain ⟨μ1, e1, e2, e3⟩ := X_pushCopy h (by omega) h2
    obtain ⟨μ2, d1, d2, d3⟩ := ih (i + 1) f μ1 _ T n (by omega) hn (by omega) e2 (by rw [List.length_cons]; omega) (by rw [List.length_cons]; omega)
    refine ⟨μ2, ?_, d2, e3.tr d3⟩
    rw [fn_Elements_pushCopies_r2_L2, if_neg (fun z => by have := (nI_leI (by omega) (by omega)).mp z; omega), e1, pa_bv, pl1, nI_add]
    exact d1
theorem X_pushCopies {k n : Nat} {μ : sd_Me} {S T : List El} (h : AX μ S T) (h1 : S.length + T.length + n ≤ 64) (h2 : k < S.length) : ∃ μ', fn_Elements_pushCopies_r2 (nI k) (nI n) μ = some μ' ∧ AX μ' (copies S k n) T ∧ Fr [2, 3, 4] μ μ' := by
  unfold fn_Elements_pushCopies_r2
  exact X_pushCopiesL n 0 10000 μ S T n (by omega) (by omega) (by omega) h h1 h2
/-! lift -/
theorem mrow_st {μ : sd_Me} {c i : Nat} {v : Int32} {f : Nat → Int32} : sd_mrow (sd_st μ c i v) c f = sd_mrow μ c f := by
  unfold sd_st sd_mrow
  refine Prod.ext ?_ rfl
  funext k
  by_cases h : k = c <;> simp [h]
theorem st_mrow {μ : sd_Me} {c i : Nat} {v : Int32} {f : Nat → Int32} : sd_st (sd_mrow μ c f) c i v = sd_mrow μ c (upd f i v) := by
  unfold sd_st sd_mrow
  refine Prod.ext ?_ rfl
  funext k
  by_cases h : k = c <;> simp [h]
theorem mrow_self {μ : sd_Me} {c : Nat} : sd_mrow μ c (μ.1 c) = μ := by
  unfold sd_mrow
  refine Prod.ext ?_ rfl
  funext k
  by_cases h : k = c <;> simp [h]
theorem X_liftL {kk : Int32 → Int32 → sd_Me → Option sd_Me} {x : Int32} {top : Nat} (ht : top < 64) : ∀ (m i f : Nat) (μ : sd_Me), top = i + m → m < f → fn_Elements_lift_r2_L34 kk f (nI top) x (nI i) μ = kk (nI top) x (sd_mrow μ 5 (fun j => if i ≤ j ∧ j < top then μ.1 5 (j + 1) else μ.1 5 j)) := by
  intro m
  induction m with
  | zero =>
    intro i f μ h0 hf
    obtain ⟨f, rfl⟩ : ∃ g, f = g + 1 := ⟨f - 1, by omega⟩
    rw [fn_Elements_lift_r2_L34, if_pos ((nI_leI (by omega) (by omega)).mpr (by omega))]
    have e : (fun j => if i ≤ j ∧ j < top then μ.1 5 (j + 1) else μ.1 5 j) = μ.1 5 := funext (fun j => if_neg (by omega))
    rw [e, mrow_self]
  | succ m ih =>
    intro i f μ h0 hf
    obtain ⟨f, rfl⟩ : ∃ g, f = g + 1 := ⟨f - 1, by omega⟩
    rw [fn_Elements_lift_r2_L34, if_neg (fun z => by have := (nI_leI (by omega) (by omega)).mp z; omega), pl1, nI_add, pa_ix (by omega) (by decide), pa_gd, pa_ix (by omega) (by decide), pa_gd, pa_let, nI_clamp (by omega), nI_clamp (by omega), ih (i + 1) f _ (by omega) (by omega), mrow_st]
    congr 2
    funext j
    by_cases c1 : i ≤ j ∧ j < top
    · rw [if_pos c1]
      by_cases c2 : i + 1 ≤ j ∧ j < top
      · rw [if_pos c2, pa_sn _ _ _ _ _ (by omega)]
      · rw [if_neg c2]
        obtain rfl : j = i := by omega
        rw [pa_ss]
    · rw [if_neg c1, if_neg (by omega), pa_sn _ _ _ _ _ (by omega)]
def lifted (S : List El) (k : Nat) : List El := S.getD k [] :: S.eraseIdx k
theorem lifted_len {S : List El} {k : Nat} (h : k < S.length) : (lifted S k).length = S.length := by
  simp [lifted, List.length_eraseIdx, h]
  omega
theorem lifted_get {S : List El} {k i : Nat} (h : k < S.length) : (lifted S k).getD i [] = if i = 0 then S.getD k [] else if i ≤ k then S.getD (i - 1) [] else S.getD i [] := by
  unfold lifted
  cases i with
  | zero => simp
  | succ i =>
    rw [if_neg (by omega)]
    rw [List.getD_cons_succ, List.getD_eq_getElem?_getD, List.getElem?_eraseIdx]
    by_cases c : i < k
    · rw [if_pos c, if_pos (by omega), List.getD_eq_getElem?_getD, Nat.add_sub_cancel]
    · rw [if_neg c, if_neg (by omega), List.getD_eq_getElem?_getD]
theorem okS.lifted {S : List El} (h : okS S) {k : Nat} (hk : k < S.length) : okS (lifted S k) := by
  intro i hi
  rw [lifted_len hk] at hi
  rw [lifted_get hk]
  by_cases c : i = 0
  · rw [if_pos c]; exact h _ hk
  · rw [if_neg c]
    by_cases c2 : i ≤ k
    · rw [if_pos c2]; exact h _ (by omega)
    · rw [if_neg c2]; exact h _ hi
theorem X_lift {μ : sd_Me} {S T : List El} (h : AX μ S T) {k : Nat} (hk : k < S.length) : ∃ μ', fn_Elements_lift_r2 (nI k) μ = some μ' ∧ AX μ' (lifted S k) T ∧ Fr [5] μ μ' := by
  obtain ⟨g1, g2, g3⟩ := h.d
  obtain ⟨o, a1, a2, a3, a4, a5, a6, a7, a8, a9, a10⟩ := h
  have e1 : nI S.length - nI 1 = nI (S.length - 1) := pk_sub (by omega)
  have e2 : nI (S.length - 1) - nI k = nI (S.length - 1 - k) := pk_sub (by omega)
  have hrow : ∀ j, j < 64 → upd (fun j => if S.length - 1 - k ≤ j ∧ j < S.length - 1 then μ.1 5 (j + 1) else μ.1 5 j) (S.length - 1) (nI (o (S.length - 1 - k))) j = nI (if j = S.length - 1 then o (S.length - 1 - k) else if S.length - 1 - k ≤ j ∧ j < S.length - 1 then o (j + 1) else o j) := by
    intro j hj
    unfold upd
    by_cases c : j = S.length - 1
    · rw [if_pos c, if_pos c]
    · rw [if_neg c, if_neg c]
      by_cases c2 : S.length - 1 - k ≤ j ∧ j < S.length - 1
      · rw [if_pos c2]; dsimp only; rw [if_pos c2]; exact a6 _ (by omega)
      · rw [if_neg c2]; dsimp only; rw [if_neg c2]; exact a6 _ hj
  refine ⟨sd_mrow μ 5 (upd (fun j => if S.length - 1 - k ≤ j ∧ j < S.length - 1 then μ.1 5 (j + 1) else μ.1 5 j) (S.length - 1) (nI (o (S.length - 1 - k)))), ?_, ?_, Fr.row (by decide)⟩
  · unfold fn_Elements_lift_r2
    rw [if_neg (nI_pos (by omega)), g1, if_pos ((nI_ltI (by omega) (by omega)).mpr hk), pa_let, pl1, e1, e2, pa_ix (by omega) (by decide), pa_gd, pa_let, pa_let, nI_clamp (by omega), a6 _ (by omega), X_liftL (by omega) k (S.length - 1 - k) 10000 μ (by omega) (by omega), pa_ix (by omega) (by decide), pa_gd, pa_let, nI_clamp (by omega), st_mrow]
  · refine ⟨fun j => if j = S.length - 1 then o (S.length - 1 - k) else if S.length - 1 - k ≤ j ∧ j < S.length - 1 then o (j + 1) else o j, ?_, ?_, ?_, ?_, ?_, ?_, ?_, ?_, a9.lifted hk, a10⟩
    · rw [pa_rc _ _ _ _ (by decide), lifted_len hk]; exact a1
    · rw [pa_rc _ _ _ _ (by decide)]; exact a2
    · rw [lifted_len hk]; exact a3
    · intro i hi
      dsimp only
      by_cases c : i = S.length - 1
      · rw [if_pos c]; exact a4 _ (by omega)
      · rw [if_neg c]
        by_cases c2 : S.length - 1 - k ≤ i ∧ i < S.length - 1
        · rw [if_pos c2]; exact a4 _ (by omega)
        · rw [if_neg c2]; exact a4 _ hi
    · intro i j hi hj hij
      dsimp only at hij
      have inj := a5
      by_cases c : i = S.length - 1 <;> by_cases d : j = S.length - 1
      · omega
      · rw [if_pos c, if_neg d] at hij
        by_cases d2 : S.length - 1 - k ≤ j ∧ j < S.length - 1
        · rw [if_pos d2] at hij
          have := inj _ _ (by omega) (by omega) hij
          omega
        · rw [if_neg d2] at hij
          have := inj _ _ (by omega) (by omega) hij
          omega
      · rw [if_neg c, if_pos d] at hij
        by_cases c2 : S.length - 1 - k ≤ i ∧ i < S.length - 1
        · rw [if_pos c2] at hij
          have := inj _ _ (by omega) (by omega) hij
          omega
        · rw [if_neg c2] at hij
          have := inj _ _ (by omega) (by omega) hij
          omega
      · rw [if_neg c, if_neg d] at hij
        by_cases c2 : S.length - 1 - k ≤ i ∧ i < S.length - 1 <;> by_cases d2 : S.length - 1 - k ≤ j ∧ j < S.length - 1
        · rw [if_pos c2, if_pos d2] at hij
          have := inj _ _ (by omega) (by omega) hij
          omega
        · rw [if_pos c2, if_neg d2] at hij
          have := inj _ _ (by omega) (by omega) hij
          omega
        · rw [if_neg c2, if_pos d2] at hij
          have := inj _ _ (by omega) (by omega) hij
          omega
        · rw [if_neg c2, if_neg d2] at hij
          exact inj _ _ hi hj hij
    · intro i hi
      rw [pa_rs]; exact hrow i hi
    · intro i hi
      rw [lifted_len hk] at hi ⊢
      rw [lifted_get hk]
      dsimp only
      have sl : ∀ z, z < S.length → ∀ w, w = S.length - 1 - z → Slot (sd_mrow μ 5 (upd (fun j => if S.length - 1 - k ≤ j ∧ j < S.length - 1 then μ.1 5 (j + 1) else μ.1 5 j) (S.length - 1) (nI (o (S.length - 1 - k))))) (o w) (S.getD z []) := by
        intro z hz w hw
        rw [hw]
        exact (a7 z hz).fr (pa_rc _ _ _ _ (by decide)) (pa_rc _ _ _ _ (by decide))
      by_cases c : i = 0
      · rw [if_pos c, if_pos (by omega)]
        exact sl k hk _ rfl
      · rw [if_neg c, if_neg (by omega)]
        by_cases c2 : i ≤ k
        · rw [if_pos c2, if_pos (by omega)]
          exact sl (i - 1) (by omega) _ (by omega)
        · rw [if_neg c2, if_neg (by omega)]
          exact sl i hi _ rfl
    · intro j hj
      dsimp only
      rw [if_neg (by omega), if_neg (by omega)]
      exact (a8 j hj).fr (pa_rc _ _ _ _ (by decide)) (pa_rc _ _ _ _ (by decide))
