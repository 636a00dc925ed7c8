/-- a row as it was -/
def RS (ν ν' : sd_Me) (r : Nat) : Prop := ν'.1 2 r = ν.1 2 r ∧ ∀ k, k < 120 → ν'.1 1 (120 * r + k) = ν.1 1 (120 * r + k)
theorem RS.rf {ν : sd_Me} {r : Nat} : RS ν ν r := ⟨rfl, fun _ _ => rfl⟩
theorem RS.tr {a b c : sd_Me} {r : Nat} (h : RS a b r) (g : RS b c r) : RS a c r := ⟨g.1.trans h.1, fun k hk => (g.2 k hk).trans (h.2 k hk)⟩
theorem Row.rs {ν ν' : sd_Me} {r : Nat} {e : El} (h : Row ν r e) (hl : e.length ≤ 120) (g : RS ν ν' r) : Row ν' r e := ⟨g.1.trans h.1, fun k hk => (g.2 k (by omega)).trans (h.2 k hk)⟩
theorem RS.st0 {ν : sd_Me} {r j : Nat} {v : Int32} : RS ν (sd_st ν 0 j v) r := ⟨by rw [pa_sc _ _ _ _ _ (by decide)], fun k _ => by rw [pa_sc _ _ _ _ _ (by decide)]⟩
def copyM (ν : sd_Me) (a b : Nat) : sd_Me := sd_mrow (sd_st ν 2 a (ν.1 2 b)) 1 (fun p => if 120 * a + 0 ≤ p ∧ p < 120 * a + 120 then ν.1 1 (120 * b + (p - 120 * a)) else ν.1 1 p)
theorem M_copyL {a b : Nat} (ha : a < 140) (hb : b < 140) (hab : a ≠ b) {kk : sd_Me → Option sd_Me} : ∀ (m i f : Nat) (μ : sd_Me), 120 = i + m → m < f → fn_Model_copy_r0_L14 kk f (nI a) (nI b) (nI i) μ = kk (sd_mrow μ 1 (fun p => if 120 * a + i ≤ p ∧ p < 120 * a + 120 then μ.1 1 (120 * b + (p - 120 * a)) else μ.1 1 p)) := by
  intro m
  induction m with
  | zero =>
    intro i f μ h0 hf
    obtain ⟨f, rfl⟩ : ∃ g, f = g + 1 := ⟨f - 1, by omega⟩
    obtain rfl : i = 120 := by omega
    have e : (fun p => if 120 * a + 120 ≤ p ∧ p < 120 * a + 120 then μ.1 1 (120 * b + (p - 120 * a)) else μ.1 1 p) = μ.1 1 := funext (fun p => if_neg (by omega))
    rw [fn_Model_copy_r0_L14, if_pos (by decide), e, mrow_self]
  | succ m ih =>
    intro i f μ h0 hf
    obtain ⟨f, rfl⟩ : ∃ g, f = g + 1 := ⟨f - 1, by omega⟩
    rw [fn_Model_copy_r0_L14, pl120, if_neg (fun z => by have := (nI_leI (by omega) (by omega)).mp z; omega), pk_mul, pk_mul, nI_add, nI_add, pa_ix (by omega) (by decide), pa_gd, pa_ix (by omega) (by decide), pa_gd, pa_let, nI_clamp (by omega), nI_clamp (by omega), pl1, nI_add, ih (i + 1) f _ (by omega) (by omega), mrow_st]
    refine congrArg (fun g => kk (sd_mrow μ 1 g)) (funext fun p => ?_)
    by_cases c1 : 120 * a + i ≤ p ∧ p < 120 * a + 120
    · rw [if_pos c1]
      by_cases c2 : 120 * a + (i + 1) ≤ p ∧ p < 120 * a + 120
      · rw [if_pos c2, pa_sn _ _ _ _ _ (by omega)]
      · rw [if_neg c2]
        obtain rfl : p = 120 * a + i := by omega
        rw [pa_ss, Nat.add_sub_cancel_left]
    · rw [if_neg c1, if_neg (by omega), pa_sn _ _ _ _ _ (by omega)]
theorem M_copy {ν : sd_Me} {a b : Nat} (ha : a < 140) (hb : b < 140) (hab : a ≠ b) : fn_Model_copy_r0 (nI a) (nI b) ν = some (copyM ν a b) := by
  unfold fn_Model_copy_r0 copyM
  rw [pa_ix hb (by decide), pa_gd, pa_ix ha (by decide), pa_gd, pa_let, nI_clamp (by omega), nI_clamp (by omega)]
  have e := M_copyL ha hb hab (kk := fun m3 => some m3) 120 0 10000 (sd_st ν 2 a (ν.1 2 b)) (by omega) (by omega)
  rw [pa_sc _ _ _ _ _ (by decide)] at e
  exact e
theorem copyM_row {ν : sd_Me} {a b : Nat} {e : El} (h : Row ν b e) (hl : e.length ≤ 120) : Row (copyM ν a b) a e := by
  refine ⟨?_, fun k hk => ?_⟩
  · unfold copyM
    rw [pa_rc _ _ _ _ (by decide), pa_ss]
    exact h.1
  · unfold copyM
    rw [pa_rs, if_pos (by omega), Nat.add_sub_cancel_left]
    exact h.2 k hk
theorem copyM_rs {ν : sd_Me} {a b r : Nat} (h : r ≠ a) : RS ν (copyM ν a b) r := by
  refine ⟨?_, fun k hk => ?_⟩
  · unfold copyM
    rw [pa_rc _ _ _ _ (by decide), pa_sn _ _ _ _ _ h]
  · unfold copyM
    rw [pa_rs, if_neg (by omega)]
theorem copyM_0 {ν : sd_Me} {a b : Nat} : (copyM ν a b).1 0 = ν.1 0 := by
  unfold copyM
  rw [pa_rc _ _ _ _ (by decide), pa_sc _ _ _ _ _ (by decide)]
theorem copyM_2 {ν : sd_Me} {a b : Nat} : (copyM ν a b).2 = ν.2 := rfl
theorem copyM_KM {P : List Nat} {ν : sd_Me} {a b : Nat} : KM P ν (copyM ν a b) := (KM.stc (by decide) (by decide) (by decide)).tr (KM.row (by decide) (by decide) (by decide))
theorem M_push {ν : sd_Me} {S T : List El} {e : El} (h : AM ν S T) (hn : S.length + T.length < 64) {r : Nat} (hr : r < 140) (hne : r ≠ S.length) (hR : Row ν r e) (he : okE e) : ∃ ν', fn_Model_push_r0 (nI r) ν = some ν' ∧ AM ν' (e :: S) T ∧ KM [2] ν ν' ∧ (∀ q, q ≠ S.length → RS ν ν' q) ∧ ν'.2 = ν.2 := by
  refine ⟨sd_st (copyM ν S.length r) 0 2 (nI (S.length + 1)), ?_, ?_, copyM_KM.tr (KM.st0 (by decide)), fun q hq => (copyM_rs hq).tr RS.st0, rfl⟩
  · unfold fn_Model_push_r0
    rw [h.1, M_copy (by omega) hr (Ne.symm hne), pa_bv, pa_let, copyM_0, h.1, pl1, nI_add]
  · refine AM_push h hn he (by rw [pa_ss]) (by rw [pa_sn _ _ _ _ _ (by decide), copyM_0]) ?_ ?_
    · exact (copyM_row hR he.1).rs he.1 RS.st0
    · intro q hq _
      exact (copyM_rs hq).tr RS.st0
theorem M_againL {above : Nat} {kk : sd_Me → Option sd_Me} : ∀ (m i f : Nat) (ν : sd_Me) (S T : List El) (n from_ : Nat), n = i + m → n < 2 ^ 20 → m < f → AM ν S T → S.length + T.length + m ≤ 64 → above < S.length → from_ + i = S.length - 1 - above → ∃ ν', fn_Model_again_r0_L22 kk f (nI n) (nI from_) (nI i) ν = kk ν' ∧ AM ν' (copies S above m) T ∧ KM [2] ν ν' ∧ ν'.2 = ν.2 := by
  intro m
  induction m with
  | zero =>
    intro i f ν S T n fr h0 hn hf h h1 h2 h3
    obtain ⟨f, rfl⟩ : ∃ g, f = g + 1 := ⟨f - 1, by omega⟩
    refine ⟨ν, ?_, h, KM.rf, rfl⟩
    rw [fn_Model_again_r0_L22, if_pos ((nI_leI (by omega) (by omega)).mpr (by omega))]
  | succ m ih =>
    intro i f ν S T n fr h0 hn hf h h1 h2 h3
    obtain ⟨f, rfl⟩ : ∃ g, f = g + 1 := ⟨f - 1, by omega⟩
    obtain ⟨ν1, e1, e2, e3, -, e5⟩ := M_push h (by omega) (r := fr + i) (by omega) (by omega) (by rw [h3]; exact h.2.2.2.1 above h2) (h.ok h2)
    obtain ⟨ν2, d1, d2, d3, d4⟩ := ih (i + 1) f ν1 _ T n fr (by omega) hn (by omega) e2 (by rw [List.length_cons]; omega) (by rw [List.length_cons]; omega) (by rw [List.length_cons]; omega)
    refine ⟨ν2, ?_, d2, e3.tr d3, d4.trans e5⟩
    rw [fn_Model_again_r0_L22, if_neg (fun z => by have := (nI_leI (by omega) (by omega)).mp z; omega), nI_add, e1, pa_bv, pl1, nI_add]
    exact d1
theorem M_again {ν : sd_Me} {S T : List El} (h : AM ν S T) (h7 : ν.1 0 7 = 0) {n above many : Nat} (hn : n < 2 ^ 20) (ha : n = above + 1) (hm : S.length + T.length + many ≤ 64) : ∃ ν', fn_Model_again_r0 (nI n) (nI above) (nI many) ν = some ν' ∧ KM [2, 7] ν ν' ∧ (n ≤ S.length → ν'.1 0 7 = 0 ∧ AM ν' (copies S above many) T) ∧ (¬ n ≤ S.length → ν'.1 0 7 = 5) := by
  unfold fn_Model_again_r0
  rw [M_has h h7 hn, pa_bi]
  by_cases c : n ≤ S.length
  · obtain ⟨ν2, d1, d2, d3, d4⟩ := M_againL (kk := fun m5 => some m5) many 0 10000 ν S T many (S.length - 1 - above) (by omega) (by omega) (by omega) h (by omega) (show above < S.length by omega) (by omega)
    refine ⟨ν2, ?_, d3.mono (by decide), fun _ => ⟨by rw [d3.1 7 (by decide)]; exact h7, d2⟩, fun z => absurd c z⟩
    rw [if_pos c, if_neg (by simp [bI, c]), pa_let, h.1, pk_sub (by omega), pl1, pk_sub (by omega), show S.length - above - 1 = S.length - 1 - above by omega]
    exact d1
  · refine ⟨_, by rw [if_neg c, if_pos (by simp [bI, c])], KM.st0 (by decide), fun z => absurd z c, fun _ => by rw [pa_ss]⟩
/-- rows moved down by one, from a on -/
def shE (E : Nat → El) (a i : Nat) : Nat → El := fun p => if a ≤ p ∧ p < i then E (p + 1) else E p
theorem M_outL {sz a : Nat} {E : Nat → El} (hsz : sz ≤ 64) (hE : ∀ p, p < sz → okE (E p)) {kk : sd_Me → Option sd_Me} : ∀ (m i f : Nat) (ν : sd_Me), sz = i + m + 1 → m < f → a ≤ i → ν.1 0 2 = nI sz → (∀ p, p < sz → Row ν p (shE E a i p)) → ∃ ν', fn_Model_takeOut_r0_L6 kk f (nI i) ν = kk ν' ∧ (∀ p, p < sz → Row ν' p (shE E a (sz - 1) p)) ∧ KM [] ν ν' ∧ (∀ q, sz ≤ q → RS ν ν' q) ∧ ν'.2 = ν.2 := by
  intro m
  induction m with
  | zero =>
    intro i f ν h0 hf hi h1 h2
    obtain ⟨f, rfl⟩ : ∃ g, f = g + 1 := ⟨f - 1, by omega⟩
    refine ⟨ν, ?_, by rw [show sz - 1 = i by omega]; exact h2, KM.rf, fun _ _ => RS.rf, rfl⟩
    rw [fn_Model_takeOut_r0_L6, h1, pl1, pk_sub (by omega), if_pos ((nI_leI (by omega) (by omega)).mpr (by omega))]
  | succ m ih =>
    intro i f ν h0 hf hi h1 h2
    obtain ⟨f, rfl⟩ : ∃ g, f = g + 1 := ⟨f - 1, by omega⟩
    obtain ⟨ν2, d1, d2, d3, d4, d5⟩ := ih (i + 1) f (copyM ν i (i + 1)) (by omega) (by omega) (by omega) (by rw [copyM_0]; exact h1) (by
      intro p hp
      by_cases c : p = i
      · subst c
        have e : shE E a (p + 1) p = E (p + 1) := by unfold shE; rw [if_pos (by omega)]
        have z := h2 (p + 1) (by omega)
        have e2 : shE E a p (p + 1) = E (p + 1) := by unfold shE; rw [if_neg (by omega)]
        rw [e2] at z
        rw [e]
        exact copyM_row z (hE _ (by omega)).1
      · have e : shE E a (i + 1) p = shE E a i p := by
          unfold shE
          by_cases c2 : a ≤ p ∧ p < i
          · rw [if_pos c2, if_pos (by omega)]
          · rw [if_neg c2, if_neg (by omega)]
        rw [e]
        have hl : (shE E a i p).length ≤ 120 := by
          unfold shE
          split
          · exact (hE _ (by omega)).1
          · exact (hE _ hp).1
        exact (h2 p hp).rs hl (copyM_rs c))
    refine ⟨ν2, ?_, d2, copyM_KM.tr d3, fun q hq => (copyM_rs (by omega)).tr (d4 q hq), d5⟩
    rw [fn_Model_takeOut_r0_L6, h1, pl1, pk_sub (by omega), if_neg (fun z => by have := (nI_leI (by omega) (by omega)).mp z; omega), nI_add, M_copy (by omega) (by omega) (by omega), pa_bv]
    exact d1
theorem M_turnL {sz a : Nat} {E : Nat → El} (hsz : sz ≤ 64) (hE : ∀ p, p < sz → okE (E p)) {kk : Int32 → Int32 → Int32 → sd_Me → Option sd_Me} {x y z : Int32} : ∀ (m i f : Nat) (ν : sd_Me), sz = i + m + 1 → m < f → a ≤ i → ν.1 0 2 = nI sz → (∀ p, p < sz → Row ν p (shE E a i p)) → ∃ ν', fn_Model_turn_r0_L37 kk f x y z (nI i) ν = kk x y z ν' ∧ (∀ p, p < sz → Row ν' p (shE E a (sz - 1) p)) ∧ KM [] ν ν' ∧ (∀ q, sz ≤ q → RS ν ν' q) ∧ ν'.2 = ν.2 := by
  intro m
  induction m with
  | zero =>
    intro i f ν h0 hf hi h1 h2
    obtain ⟨f, rfl⟩ : ∃ g, f = g + 1 := ⟨f - 1, by omega⟩
    refine ⟨ν, ?_, by rw [show sz - 1 = i by omega]; exact h2, KM.rf, fun _ _ => RS.rf, rfl⟩
    rw [fn_Model_turn_r0_L37, h1, pl1, pk_sub (by omega), if_pos ((nI_leI (by omega) (by omega)).mpr (by omega))]
  | succ m ih =>
    intro i f ν h0 hf hi h1 h2
    obtain ⟨f, rfl⟩ : ∃ g, f = g + 1 := ⟨f - 1, by omega⟩
    obtain ⟨ν2, d1, d2, d3, d4, d5⟩ := ih (i + 1) f (copyM ν i (i + 1)) (by omega) (by omega) (by omega) (by rw [copyM_0]; exact h1) (by
      intro p hp
      by_cases c : p = i
      · subst c
        have e : shE E a (p + 1) p = E (p + 1) := by unfold shE; rw [if_pos (by omega)]
        have z := h2 (p + 1) (by omega)
        have e2 : shE E a p (p + 1) = E (p + 1) := by unfold shE; rw [if_neg (by omega)]
        rw [e2] at z
        rw [e]
        exact copyM_row z (hE _ (by omega)).1
      · have e : shE E a (i + 1) p = shE E a i p := by
          unfold shE
          by_cases c2 : a ≤ p ∧ p < i
          · rw [if_pos c2, if_pos (by omega)]
          · rw [if_neg c2, if_neg (by omega)]
        rw [e]
        have hl : (shE E a i p).length ≤ 120 := by
          unfold shE
          split
          · exact (hE _ (by omega)).1
          · exact (hE _ hp).1
        exact (h2 p hp).rs hl (copyM_rs c))
    refine ⟨ν2, ?_, d2, copyM_KM.tr d3, fun q hq => (copyM_rs (by omega)).tr (d4 q hq), d5⟩
    rw [fn_Model_turn_r0_L37, h1, pl1, pk_sub (by omega), if_neg (fun z => by have := (nI_leI (by omega) (by omega)).mp z; omega), nI_add, M_copy (by omega) (by omega) (by omega), pa_bv]
    exact d1
