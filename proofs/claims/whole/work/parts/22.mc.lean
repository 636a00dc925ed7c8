theorem eraseIdx_get {S : List El} {n i : Nat} : (S.eraseIdx n).getD i [] = if i < n then S.getD i [] else S.getD (i + 1) [] := by
  rw [List.getD_eq_getElem?_getD, List.getElem?_eraseIdx]
  split <;> rw [List.getD_eq_getElem?_getD]
theorem okS.erase {S : List El} (h : okS S) {n : Nat} (hn : n < S.length) : okS (S.eraseIdx n) := by
  intro i hi
  rw [List.length_eraseIdx_of_lt hn] at hi
  rw [eraseIdx_get]
  split
  · exact h _ (by omega)
  · exact h _ (by omega)
theorem M_takeOut {ν : sd_Me} {S T : List El} (h : AM ν S T) {n : Nat} (hn : n < S.length) : ∃ ν', fn_Model_takeOut_r0 (nI n) ν = some ν' ∧ AM ν' (S.eraseIdx n) T ∧ KM [2] ν ν' ∧ (∀ q, S.length ≤ q → RS ν ν' q) ∧ ν'.2 = ν.2 := by
  obtain ⟨a1, a2, a3, a4, a5, a6, a7⟩ := id h
  obtain ⟨ν2, d1, d2, d3, d4, d5⟩ := M_outL (sz := S.length) (a := S.length - 1 - n) (E := fun p => S.getD (S.length - 1 - p) []) (by omega) (fun p hp => a6 _ (by omega)) (kk := fun m4 => sd_let (sd_st m4 0 2 ((m4.1 0 2) - (1 : Int32))) (fun m5 => some m5)) n (S.length - 1 - n) 10000 ν (by omega) (by omega) (Nat.le_refl _) a1 (by
    intro p hp
    unfold shE
    rw [if_neg (by omega)]
    have z := a4 (S.length - 1 - p) (by omega)
    rw [show S.length - 1 - (S.length - 1 - p) = p by omega] at z
    exact z)
  refine ⟨sd_st ν2 0 2 (nI (S.length - 1)), ?_, ?_, (d3.mono (by decide)).tr (KM.st0 (by decide)), fun q hq => (d4 q hq).tr RS.st0, d5⟩
  · unfold fn_Model_takeOut_r0
    rw [M_top h hn, pa_bi, d1, pa_let, d3.1 2 (by decide), a1, pl1, pk_sub (by omega)]
  · refine ⟨?_, ?_, ?_, ?_, ?_, a6.erase hn, a7⟩
    · rw [pa_ss, List.length_eraseIdx_of_lt hn]
    · rw [pa_sn _ _ _ _ _ (by decide), d3.1 3 (by decide)]; exact a2
    · rw [List.length_eraseIdx_of_lt hn]; omega
    · intro i hi
      have ho := a6.erase hn i hi
      rw [List.length_eraseIdx_of_lt hn] at hi ⊢
      have z := d2 (S.length - 1 - 1 - i) (by omega)
      unfold shE at z
      dsimp only at z
      rw [eraseIdx_get] at ho ⊢
      by_cases c : i < n
      · rw [if_pos c] at ho ⊢
        rw [if_pos (by omega), show S.length - 1 - (S.length - 1 - 1 - i + 1) = i by omega] at z
        exact z.rs ho.1 RS.st0
      · rw [if_neg c] at ho ⊢
        rw [if_neg (by omega), show S.length - 1 - (S.length - 1 - 1 - i) = i + 1 by omega] at z
        exact z.rs ho.1 RS.st0
    · intro j hj
      exact ((a5 j hj).rs (a7 j hj).1 (d4 _ (by omega))).rs (a7 j hj).1 RS.st0
def lifts (S : List El) (k : Nat) : Nat → List El
  | 0 => S
  | m + 1 => lifts (lifted S k) k m
theorem M_turnLL {n : Nat} (h1n : 1 ≤ n) {kk : sd_Me → Option sd_Me} : ∀ (m i f : Nat) (ν : sd_Me) (S T : List El) (many : Nat), many = i + m → many < 2 ^ 20 → m < f → AM ν S T → n ≤ S.length → ∃ ν', fn_Model_turn_r0_L11 kk f (nI n) (nI many) (nI i) ν = kk ν' ∧ AM ν' (lifts S (n - 1) m) T ∧ KM [] ν ν' ∧ ν'.2 = ν.2 := by
  intro m
  induction m with
  | zero =>
    intro i f ν S T many h0 hm hf h hn
    obtain ⟨f, rfl⟩ : ∃ g, f = g + 1 := ⟨f - 1, by omega⟩
    refine ⟨ν, ?_, h, KM.rf, rfl⟩
    rw [fn_Model_turn_r0_L11, if_pos ((nI_leI (by omega) (by omega)).mpr (by omega))]
  | succ m ih =>
    intro i f ν S T many h0 hm hf h hn
    obtain ⟨f, rfl⟩ : ∃ g, f = g + 1 := ⟨f - 1, by omega⟩
    obtain ⟨a1, a2, a3, a4, a5, a6, a7⟩ := id h
    have hr0 : ∀ p, p < S.length → Row ν p (S.getD (S.length - 1 - p) []) := by
      intro p hp
      have z := a4 (S.length - 1 - p) (by omega)
      rw [show S.length - 1 - (S.length - 1 - p) = p by omega] at z
      exact z
    obtain ⟨ν2, d1, d2, d3, d4, d5⟩ := M_turnL (sz := S.length) (a := S.length - n) (E := fun p => S.getD (S.length - 1 - p) []) (by omega) (fun p hp => a6 _ (by omega)) (x := nI n) (y := nI many) (z := nI i) (kk := fun x6 x7 x8 m9 => sd_bv (fn_Model_copy_r0 ((m9.1 0 2) - (1 : Int32)) (139 : Int32) m9) (fun m10 => fn_Model_turn_r0_L11 kk f (x6) (x7) ((x8 + (1 : Int32))) m10)) (n - 1) (S.length - n) 10000 (copyM ν 139 (S.length - n)) (by omega) (by omega) (Nat.le_refl _) (by rw [copyM_0]; exact a1) (by
      intro p hp
      unfold shE
      rw [if_neg (by omega)]
      exact (hr0 p hp).rs (a6 _ (by omega)).1 (copyM_rs (by omega)))
    have hk : n - 1 < S.length := by omega
    have r139 : Row ν2 139 (S.getD (n - 1) []) := by
      have z := copyM_row (a := 139) (hr0 (S.length - n) (by omega)) (a6 _ (by omega)).1
      rw [show S.length - 1 - (S.length - n) = n - 1 by omega] at z
      exact z.rs (a6 _ hk).1 (d4 139 (by omega))
    have hAM : AM (copyM ν2 (S.length - 1) 139) (lifted S (n - 1)) T := by
      refine ⟨?_, ?_, ?_, ?_, ?_, a6.lifted hk, a7⟩
      · rw [copyM_0, d3.1 2 (by decide), copyM_0, lifted_len hk]; exact a1
      · rw [copyM_0, d3.1 3 (by decide), copyM_0]; exact a2
      · rw [lifted_len hk]; exact a3
      · intro j hj
        have ho := a6.lifted hk j hj
        rw [lifted_len hk] at hj ⊢
        rw [lifted_get hk] at ho ⊢
        by_cases c : j = 0
        · rw [if_pos c] at ho ⊢
          rw [show S.length - 1 - j = S.length - 1 by omega]
          exact copyM_row r139 ho.1
        · rw [if_neg c] at ho ⊢
          have z := d2 (S.length - 1 - j) (by omega)
          unfold shE at z
          dsimp only at z
          by_cases c2 : j ≤ n - 1
          · rw [if_pos c2] at ho ⊢
            rw [if_pos (by omega), show S.length - 1 - (S.length - 1 - j + 1) = j - 1 by omega] at z
            exact z.rs ho.1 (copyM_rs (by omega))
          · rw [if_neg c2] at ho ⊢
            rw [if_neg (by omega), show S.length - 1 - (S.length - 1 - j) = j by omega] at z
            exact z.rs ho.1 (copyM_rs (by omega))
      · intro j hj
        exact (((a5 j hj).rs (a7 j hj).1 (copyM_rs (by omega))).rs (a7 j hj).1 (d4 _ (by omega))).rs (a7 j hj).1 (copyM_rs (by omega))
    obtain ⟨ν3, f1, f2, f3, f4⟩ := ih (i + 1) f (copyM ν2 (S.length - 1) 139) _ T many (by omega) hm (by omega) hAM (by rw [lifted_len hk]; exact hn)
    refine ⟨ν3, ?_, f2, ((copyM_KM.tr d3).tr copyM_KM).tr f3, ?_⟩
    · have e2 : ν2.1 0 2 = nI S.length := by rw [d3.1 2 (by decide), copyM_0]; exact a1
      rw [fn_Model_turn_r0_L11, if_neg (fun z => by have := (nI_leI (by omega) (by omega)).mp z; omega), a1, pk_sub hn, pl139, M_copy (by omega) (by omega) (by omega), pa_bv, pa_let, copyM_0, a1, pk_sub hn]
      refine Eq.trans d1 ?_
      rw [e2, pl1, pk_sub (by omega), pl139, M_copy (by omega) (by omega) (by omega), pa_bv, nI_add]
      exact f1
    · rw [f4, copyM_2, d5, copyM_2]
theorem M_turn {ν : sd_Me} {S T : List El} (h : AM ν S T) (h7 : ν.1 0 7 = 0) {n many : Nat} (hn : n < 2 ^ 20) (h1n : 1 ≤ n) (hm : many < 100) : ∃ ν', fn_Model_turn_r0 (nI n) (nI many) ν = some ν' ∧ KM [7] ν ν' ∧ (n ≤ S.length → ν'.1 0 7 = 0 ∧ AM ν' (lifts S (n - 1) many) T) ∧ (¬ n ≤ S.length → ν'.1 0 7 = 5) := by
  unfold fn_Model_turn_r0
  rw [M_has h h7 hn, pa_bi]
  by_cases c : n ≤ S.length
  · obtain ⟨ν2, d1, d2, d3, d4⟩ := M_turnLL h1n (kk := fun m11 => some m11) many 0 10000 ν S T many (by omega) (by omega) (by omega) h c
    refine ⟨ν2, ?_, d3.mono (by decide), fun _ => ⟨by rw [d3.1 7 (by decide)]; exact h7, d2⟩, fun z => absurd c z⟩
    rw [if_pos c, if_neg (by simp [bI, c])]
    exact d1
  · exact ⟨_, by rw [if_neg c, if_pos (by simp [bI, c])], KM.st0 (by decide), fun z => absurd z c, fun _ => by rw [pa_ss]⟩
theorem M_sameL {ν : sd_Me} {r q : Nat} {e d : El} (h : Row ν r e) (g : Row ν q d) (hr : r < 140) (hq : q < 140) (hl : e.length ≤ 120) (hd : e.length = d.length) {kk : Int32 → sd_Me → Option (Int32 × sd_Me)} : ∀ (m i f : Nat) (b : Bool), e.length = i + m → m < f → (b = true ↔ ∀ j, j < i → e.getD j 0 = d.getD j 0) → fn_Model_isSame_r0_L24 kk f (nI r) (nI q) (bI b) (nI i) ν = kk (bI (decide (e = d))) ν := by
  intro m
  induction m with
  | zero =>
    intro i f b h0 hf hb
    obtain ⟨f, rfl⟩ : ∃ g, f = g + 1 := ⟨f - 1, by omega⟩
    have e1 : b = decide (e = d) := by
      rw [Bool.eq_iff_iff, decide_eq_true_eq, hb]
      constructor
      · intro z
        exact El_ext hd (fun k hk => z k (by omega))
      · intro z j hj
        rw [z]
    rw [fn_Model_isSame_r0_L24, pa_ix hr (by decide), pa_gd, nI_clamp (by omega), h.1, if_pos ((nI_leI (by omega) (by omega)).mpr (by omega)), e1]
  | succ m ih =>
    intro i f b h0 hf hb
    obtain ⟨f, rfl⟩ : ∃ g, f = g + 1 := ⟨f - 1, by omega⟩
    have ei : nI i + 1 = nI (i + 1) := nI_1 i
    rw [fn_Model_isSame_r0_L24, pa_ix hr (by decide), pa_gd, nI_clamp (by omega), h.1, if_neg (fun z => by have := (nI_leI (by omega) (by omega)).mp z; omega), ei]
    cases b with
    | false =>
      rw [if_pos (by decide)]
      refine ih (i + 1) f false (by omega) (by omega) ⟨fun z => (by cases z), fun z => ?_⟩
      exact hb.mpr (fun j hj => z j (by omega))
    | true =>
      have hall := hb.mp rfl
      rw [if_neg (by decide), pl120, pk_mul, pk_mul, nI_add, nI_add, pa_ix (by omega) (by decide), pa_gd, pa_ix (by omega) (by decide), pa_gd, nI_clamp (by omega), nI_clamp (by omega), h.2 i (by omega), g.2 i (by omega)]
      by_cases c : e.getD i 0 = d.getD i 0
      · rw [if_pos c]
        refine ih (i + 1) f true (by omega) (by omega) ⟨fun _ j hj => ?_, fun _ => rfl⟩
        rcases Nat.lt_or_ge j i with w | w
        · exact hall j w
        · obtain rfl : j = i := by omega
          exact c
      · rw [if_neg c]
        refine ih (i + 1) f false (by omega) (by omega) ⟨fun z => (by cases z), fun z => absurd (z i (by omega)) c⟩
theorem M_sameL0 {ν : sd_Me} {r q : Nat} {e : El} (h : Row ν r e) (hr : r < 140) (hl : e.length ≤ 120) {kk : Int32 → sd_Me → Option (Int32 × sd_Me)} : ∀ (m i f : Nat), e.length = i + m → m < f → fn_Model_isSame_r0_L24 kk f (nI r) (nI q) 0 (nI i) ν = kk 0 ν := by
  intro m
  induction m with
  | zero =>
    intro i f h0 hf
    obtain ⟨f, rfl⟩ : ∃ g, f = g + 1 := ⟨f - 1, by omega⟩
    rw [fn_Model_isSame_r0_L24, pa_ix hr (by decide), pa_gd, nI_clamp (by omega), h.1, if_pos ((nI_leI (by omega) (by omega)).mpr (by omega))]
  | succ m ih =>
    intro i f h0 hf
    obtain ⟨f, rfl⟩ : ∃ g, f = g + 1 := ⟨f - 1, by omega⟩
    have ei : nI i + 1 = nI (i + 1) := nI_1 i
    rw [fn_Model_isSame_r0_L24, pa_ix hr (by decide), pa_gd, nI_clamp (by omega), h.1, if_neg (fun z => by have := (nI_leI (by omega) (by omega)).mp z; omega), ei, if_pos rfl]
    exact ih (i + 1) f (by omega) (by omega)
theorem M_same {ν : sd_Me} {r q : Nat} {e d : El} (h : Row ν r e) (g : Row ν q d) (hr : r < 140) (hq : q < 140) (hl : e.length ≤ 120) (hl2 : d.length ≤ 120) : fn_Model_isSame_r0 (nI r) (nI q) ν = some (bI (decide (e = d)), ν) := by
  unfold fn_Model_isSame_r0
  rw [pa_ix hr (by decide), pa_gd, pa_ix hq (by decide), pa_gd, nI_clamp (by omega), nI_clamp (by omega), h.1, g.1]
  by_cases c : e.length = d.length
  · rw [if_pos (by rw [c])]
    unfold fn_Model_isSame_r0_J20
    exact Eq.trans (M_sameL h g hr hq hl c e.length 0 10000 true (by omega) (by omega) ⟨fun _ j hj => absurd hj (Nat.not_lt_zero j), fun _ => rfl⟩) (by rw [sd_zb_bI, pa_gd])
  · rw [if_neg (fun z => c ((nI_eq (by omega) (by omega)).mp z))]
    unfold fn_Model_isSame_r0_J20
    have e1 : decide (e = d) = false := by
      rw [decide_eq_false_iff_not]
      intro z
      exact c (by rw [z])
    rw [e1]
    exact Eq.trans (M_sameL0 h hr hl e.length 0 10000 (by omega) (by omega)) rfl
