/-! digests: the reference's rows -/
theorem mpL {ν0 : Nat} {e : El} {y z : Int32} {kk : Int32 → Int32 → Int32 → sd_Me → Option (Int32 × sd_Me)} (hr : ν0 < 64) (hl : e.length ≤ 120) : ∀ (m i f : Nat) (ν : sd_Me), 192 = i + m → m < f → Row ν ν0 e → ∃ ν', fn_Model_pad_r0_L19 kk f (nI ν0) y (nI e.length) z (nI i) ν = kk y (nI e.length) z ν' ∧ Fr [5] ν ν' ∧ (∀ p, p < i → ν'.1 5 p = ν.1 5 p) ∧ (∀ p, i ≤ p → p < 192 → ν'.1 5 p = if p < e.length then e.getD p 0 else if p = e.length then 128 else 0) := by
  intro m
  induction m with
  | zero =>
    intro i f ν h0 hf hR
    obtain ⟨f, rfl⟩ : ∃ g, f = g + 1 := ⟨f - 1, by omega⟩
    obtain rfl : i = 192 := by omega
    refine ⟨ν, ?_, Fr.rf, fun _ _ => rfl, fun p a b => by omega⟩
    rw [fn_Model_pad_r0_L19, if_pos (by decide)]
  | succ m ih =>
    intro i f ν h0 hf hR
    obtain ⟨f, rfl⟩ : ∃ g, f = g + 1 := ⟨f - 1, by omega⟩
    obtain ⟨ν', e1, e2, e3, e4⟩ := ih (i + 1) f (sd_st ν 5 i (if i < e.length then e.getD i 0 else if i = e.length then 128 else 0)) (by omega) (by omega) ⟨by rw [pa_sc _ _ _ _ _ (by decide)]; exact hR.1, fun k hk => by rw [pa_sc _ _ _ _ _ (by decide)]; exact hR.2 k hk⟩
    refine ⟨ν', ?_, (Fr.st (by decide)).tr e2, fun p hp => ?_, fun p b c => ?_⟩
    · rw [fn_Model_pad_r0_L19, pl192, if_neg (nI_ge' (by omega) (by omega))]
      by_cases c : i < e.length
      · rw [if_neg (nI_ge' c (by omega)), pl120, pk_mul, nI_add, pa_ix (by omega) (by decide), pa_gd, pa_ix (by omega) (by decide), pa_gd, pa_let, nI_clamp (by omega), nI_clamp (by omega), hR.2 i c, pl1, nI_add]
        rw [if_pos c] at e1
        exact e1
      · rw [if_pos ((nI_leI (by omega) (by omega)).mpr (by omega))]
        rw [if_neg c] at e1
        by_cases d : i = e.length
        · rw [if_pos (by rw [d]), pa_ix (by omega) (by decide), pa_gd, pa_let, nI_clamp (by omega), pl1, nI_add]
          rw [if_pos d] at e1
          exact e1
        · rw [if_neg (fun w => d ((nI_eq (by omega) (by omega)).mp w)), pa_ix (by omega) (by decide), pa_gd, pa_let, nI_clamp (by omega), pl1, nI_add]
          rw [if_neg d] at e1
          exact e1
    · rw [e3 p (by omega), pa_sn _ _ _ _ _ (by omega)]
    · by_cases d : p = i
      · rw [d, e3 i (by omega), pa_ss]
      · exact e4 p (by omega) c
theorem padSM {ν : sd_Me} {r : Nat} {e : El} (hr : r < 64) (hl : e.length ≤ 120) (hR : Row ν r e) : ∃ ν', fn_Model_pad_r0 (nI r) 1 ν = some (nI (nbk e.length), ν') ∧ Fr [5] ν ν' ∧ (∀ p, p < 192 → ν'.1 5 p = padS e p) := by
  obtain ⟨ν1, a1, a2, a3, a4⟩ := mpL (y := 1) (z := nI (nbk e.length)) (kk := fun x6 x7 x8 m9 => sd_let (((8 : Int32) * x7)) (fun x10 => sd_let (((64 : Int32) * x8)) (fun x11 => if x6 = (0 : Int32) then fn_Model_pad_r0_J107 (x6) (x8) (x10) (x11) ((x11 - (8 : Int32))) m9 else fn_Model_pad_r0_J107 (x6) (x8) (x10) (x11) ((x11 - (1 : Int32))) m9))) hr hl 192 0 10000 ν (by omega) (by omega) hR
  have hnb : 64 * nbk e.length ≤ 192 ∧ e.length + 9 ≤ 64 * nbk e.length := by unfold nbk; omega
  have en : (nI e.length + 72) / 64 = nI (nbk e.length) := by
    rw [pl72, pl64, nI_add, pk_div (by omega) (by decide) (by decide)]
    rfl
  refine ⟨sd_st (sd_st ν1 5 (64 * nbk e.length - 1) (nI (8 * e.length % 256))) 5 (64 * nbk e.length - 2) (nI (8 * e.length / 256)), ?_, a2.tr ((Fr.st (by decide)).tr (Fr.st (by decide))), fun p hp => ?_⟩
  · unfold fn_Model_pad_r0
    rw [pa_ix (by omega) (by decide), pa_gd, pa_let, nI_clamp (by omega), hR.1, pa_let, en]
    refine a1.trans ?_
    rw [pa_let, pa_let, if_neg (by decide)]
    unfold fn_Model_pad_r0_J107
    rw [show (8 : Int32) * nI e.length = nI (8 * e.length) from pk_mul 8 _, show (64 : Int32) * nI (nbk e.length) = nI (64 * nbk e.length) from pk_mul 64 _, show nI (64 * nbk e.length) - 1 = nI (64 * nbk e.length - 1) from pk_sub (b := 1) (by omega), show nI (64 * nbk e.length) - 2 = nI (64 * nbk e.length - 2) from pk_sub (b := 2) (by omega), pl256, pk_rem (by omega) (by decide) (by decide), pk_div (by omega) (by decide) (by decide), pa_ix (by omega) (by decide), pa_gd, pa_let, if_neg (show ¬ (1 : Int32) = 0 by decide), pa_ix (by omega) (by decide), pa_gd, pa_let, nI_clamp (by omega), nI_clamp (by omega)]
  · unfold padS
    by_cases d1 : p < e.length
    · rw [if_pos d1, pa_sn _ _ _ _ _ (by omega), pa_sn _ _ _ _ _ (by omega), a4 p (by omega) hp, if_pos d1]
    · rw [if_neg d1]
      by_cases d2 : p = e.length
      · rw [if_pos d2, pa_sn _ _ _ _ _ (by omega), pa_sn _ _ _ _ _ (by omega), a4 p (by omega) hp, if_neg d1, if_pos d2]
      · rw [if_neg d2]
        by_cases d3 : p = 64 * nbk e.length - 1
        · rw [if_pos d3, pa_sn _ _ _ _ _ (by omega), d3, pa_ss]
        · rw [if_neg d3]
          by_cases d4 : p = 64 * nbk e.length - 2
          · rw [if_pos d4, d4, pa_ss]
          · rw [if_neg d4, pa_sn _ _ _ _ _ d4, pa_sn _ _ _ _ _ d3, a4 p (by omega) hp, if_neg d1, if_neg d2]
theorem padRM {ν : sd_Me} {r : Nat} {e : El} (hr : r < 64) (hl : e.length ≤ 120) (hR : Row ν r e) : ∃ ν', fn_Model_pad_r0 (nI r) 0 ν = some (nI (nbk e.length), ν') ∧ Fr [5] ν ν' ∧ (∀ p, p < 192 → ν'.1 5 p = padR e p) := by
  obtain ⟨ν1, a1, a2, a3, a4⟩ := mpL (y := 0) (z := nI (nbk e.length)) (kk := fun x6 x7 x8 m9 => sd_let (((8 : Int32) * x7)) (fun x10 => sd_let (((64 : Int32) * x8)) (fun x11 => if x6 = (0 : Int32) then fn_Model_pad_r0_J107 (x6) (x8) (x10) (x11) ((x11 - (8 : Int32))) m9 else fn_Model_pad_r0_J107 (x6) (x8) (x10) (x11) ((x11 - (1 : Int32))) m9))) hr hl 192 0 10000 ν (by omega) (by omega) hR
  have hnb : 64 * nbk e.length ≤ 192 ∧ e.length + 9 ≤ 64 * nbk e.length := by unfold nbk; omega
  have en : (nI e.length + 72) / 64 = nI (nbk e.length) := by
    rw [pl72, pl64, nI_add, pk_div (by omega) (by decide) (by decide)]
    rfl
  refine ⟨sd_st (sd_st ν1 5 (64 * nbk e.length - 8) (nI (8 * e.length % 256))) 5 (64 * nbk e.length - 7) (nI (8 * e.length / 256)), ?_, a2.tr ((Fr.st (by decide)).tr (Fr.st (by decide))), fun p hp => ?_⟩
  · unfold fn_Model_pad_r0
    rw [pa_ix (by omega) (by decide), pa_gd, pa_let, nI_clamp (by omega), hR.1, pa_let, en]
    refine a1.trans ?_
    rw [pa_let, pa_let, if_pos rfl]
    unfold fn_Model_pad_r0_J107
    rw [show (8 : Int32) * nI e.length = nI (8 * e.length) from pk_mul 8 _, show (64 : Int32) * nI (nbk e.length) = nI (64 * nbk e.length) from pk_mul 64 _, show nI (64 * nbk e.length) - 8 = nI (64 * nbk e.length - 8) from pk_sub (b := 8) (by omega), show nI (64 * nbk e.length) - 7 = nI (64 * nbk e.length - 7) from pk_sub (b := 7) (by omega), pl256, pk_rem (by omega) (by decide) (by decide), pk_div (by omega) (by decide) (by decide), pa_ix (by omega) (by decide), pa_gd, pa_let, if_pos rfl, pa_ix (by omega) (by decide), pa_gd, pa_let, nI_clamp (by omega), nI_clamp (by omega)]
  · unfold padR
    by_cases d1 : p < e.length
    · rw [if_pos d1, pa_sn _ _ _ _ _ (by omega), pa_sn _ _ _ _ _ (by omega), a4 p (by omega) hp, if_pos d1]
    · rw [if_neg d1]
      by_cases d2 : p = e.length
      · rw [if_pos d2, pa_sn _ _ _ _ _ (by omega), pa_sn _ _ _ _ _ (by omega), a4 p (by omega) hp, if_neg d1, if_pos d2]
      · rw [if_neg d2]
        by_cases d3 : p = 64 * nbk e.length - 8
        · rw [if_pos d3, pa_sn _ _ _ _ _ (by omega), d3, pa_ss]
        · rw [if_neg d3]
          by_cases d4 : p = 64 * nbk e.length - 7
          · rw [if_pos d4, d4, pa_ss]
          · rw [if_neg d4, pa_sn _ _ _ _ _ d4, pa_sn _ _ _ _ _ d3, a4 p (by omega) hp, if_neg d1, if_neg d2]
/-! sha on the reference's side -/
theorem wdS_m {f : Nat → Int32} {q : Nat} : (((f q <<< ((24 : Int32) &&& 31)) ||| (f (q + 1) <<< ((16 : Int32) &&& 31))) ||| (f (q + 2) <<< ((8 : Int32) &&& 31))) ||| f (q + 3) = wdS f q := by
  unfold wdS
  rw [show shS 0 &&& 31 = (24 : Int32) &&& 31 from by decide, show shS 1 &&& 31 = (16 : Int32) &&& 31 from by decide, show shS 2 &&& 31 = (8 : Int32) &&& 31 from by decide, show shS 3 &&& 31 = (0 : Int32) from by decide, Int32.zero_or, Int32.shiftLeft_zero]
theorem mwL {b : Nat} (hb : b < 3) {x y : Int32} {kk : Int32 → Int32 → Int32 → sd_Me → Option sd_Me} : ∀ (m i f : Nat) (ν : sd_Me), 64 = i + m → m < f → ∃ ν', fn_Model_wide_r0_L83 kk f x y (nI b) (nI i) ν = kk x y (nI b) ν' ∧ Fr [6] ν ν' ∧ (∀ p, p < i → ν'.1 6 p = ν.1 6 p) ∧ (∀ j, i ≤ j → j < 16 → ν'.1 6 j = wdS (ν.1 5) (64 * b + 4 * j)) ∧ (∀ j, i ≤ j → 16 ≤ j → j < 64 → ν'.1 6 j = rcS (ν'.1 6) j) := by
  intro m
  induction m with
  | zero =>
    intro i f ν h0 hf
    obtain ⟨f, rfl⟩ : ∃ g, f = g + 1 := ⟨f - 1, by omega⟩
    obtain rfl : i = 64 := by omega
    refine ⟨ν, ?_, Fr.rf, fun _ _ => rfl, fun p a b => by omega, fun p a b => by omega⟩
    rw [fn_Model_wide_r0_L83, if_pos (by decide)]
  | succ m ih =>
    intro i f ν h0 hf
    obtain ⟨f, rfl⟩ : ∃ g, f = g + 1 := ⟨f - 1, by omega⟩
    obtain ⟨ν', e1, e2, e3, e4, e5⟩ := ih (i + 1) f (sd_st ν 6 i (if 16 ≤ i then rcS (ν.1 6) i else wdS (ν.1 5) (64 * b + 4 * i))) (by omega) (by omega)
    refine ⟨ν', ?_, (Fr.st (by decide)).tr e2, fun p hp => ?_, fun j b c => ?_, fun j b c d => ?_⟩
    · rw [fn_Model_wide_r0_L83, pl64, if_neg (nI_ge' (by omega) (by omega)), pa_let]
      by_cases c : 16 ≤ i
      · rw [if_pos c] at e1
        rw [if_pos (show (16 : Int32) ≤ nI i from (nI_leI (a := 16) (by omega) (by omega)).mpr c)]
        rw [show nI i - 15 = nI (i - 15) from pk_sub (b := 15) (by omega), show nI i - 2 = nI (i - 2) from pk_sub (b := 2) (by omega), show nI i - 7 = nI (i - 7) from pk_sub (b := 7) (by omega), show nI i - 16 = nI (i - 16) from pk_sub (b := 16) (by omega)]
        unfold fn_Model_right
        rw [pa_ix (by omega) (by decide), pa_gd, pa_bi, pa_gd, pa_bi, pa_gd, pa_ix (by omega) (by decide), pa_gd, pa_ix (by omega) (by decide), pa_gd, pa_bi, pa_gd, pa_bi, pa_gd, pa_ix (by omega) (by decide), pa_gd, pa_ix (by omega) (by decide), pa_gd, pa_let, nI_clamp (by omega), nI_clamp (by omega), nI_clamp (by omega), nI_clamp (by omega), nI_clamp (by omega), pl1, nI_add]
        exact e1
      · rw [if_neg c] at e1
        rw [if_neg (show ¬ (16 : Int32) ≤ nI i from fun z => c ((nI_leI (a := 16) (by omega) (by omega)).mp z)), pl4, pk_mul, pk_mul, nI_add, pl1, pl2, pl3, nI_add, nI_add, nI_add, nI_add, pa_ix (by omega) (by decide), pa_gd, pa_ix (by omega) (by decide), pa_gd, pa_ix (by omega) (by decide), pa_gd, pa_ix (by omega) (by decide), pa_gd, pa_ix (by omega) (by decide), pa_gd, pa_let, nI_clamp (by omega), nI_clamp (by omega), nI_clamp (by omega), nI_clamp (by omega), nI_clamp (by omega), wdS_m]
        exact e1
    · rw [e3 p (by omega), pa_sn _ _ _ _ _ (by omega)]
    · by_cases d : j = i
      · rw [d, e3 i (by omega), pa_ss, if_neg (by omega)]
      · rw [e4 j (by omega) c, pa_sc _ _ _ _ _ (by decide)]
    · by_cases z : j = i
      · rw [z, e3 i (by omega), pa_ss, if_pos (by omega)]
        exact rcS_c (by omega) (fun k hk => by rw [e3 k (by omega), pa_sn _ _ _ _ _ (by omega)])
      · exact e5 j (by omega) c d
theorem mvL {x y z : Int32} {kk : Int32 → Int32 → Int32 → sd_Me → Option sd_Me} : ∀ (m i f : Nat) (ν : sd_Me), 8 = i + m → m < f → ∃ ν', fn_Model_wide_r0_L282 kk f x y z (nI i) ν = kk x y z ν' ∧ Fr [8] ν ν' ∧ (∀ p, p < i → ν'.1 8 p = ν.1 8 p) ∧ (∀ j, i ≤ j → j < 8 → ν'.1 8 j = ν.1 7 j) := by
  intro m
  induction m with
  | zero =>
    intro i f ν h0 hf
    obtain ⟨f, rfl⟩ : ∃ g, f = g + 1 := ⟨f - 1, by omega⟩
    obtain rfl : i = 8 := by omega
    refine ⟨ν, ?_, Fr.rf, fun _ _ => rfl, fun p a b => by omega⟩
    rw [fn_Model_wide_r0_L282, if_pos (by decide)]
  | succ m ih =>
    intro i f ν h0 hf
    obtain ⟨f, rfl⟩ : ∃ g, f = g + 1 := ⟨f - 1, by omega⟩
    obtain ⟨ν', e1, e2, e3, e4⟩ := ih (i + 1) f (sd_st ν 8 i (ν.1 7 i)) (by omega) (by omega)
    refine ⟨ν', ?_, (Fr.st (by decide)).tr e2, fun p hp => ?_, fun j b c => ?_⟩
    · rw [fn_Model_wide_r0_L282, pl8, if_neg (nI_ge' (by omega) (by omega)), pa_ix (by omega) (by decide), pa_gd, pa_ix (by omega) (by decide), pa_gd, pa_let, nI_clamp (by omega), pl1, nI_add]
      exact e1
    · rw [e3 p (by omega), pa_sn _ _ _ _ _ (by omega)]
    · by_cases d : j = i
      · rw [d, e3 i (by omega), pa_ss]
      · rw [e4 j (by omega) c, pa_sc _ _ _ _ _ (by decide)]
theorem msL {a1 a2 a3 a4 a5 a6 : Int32} {kk : Int32 → Int32 → Int32 → Int32 → Int32 → Int32 → sd_Me → Option sd_Me} : ∀ (m f : Nat) (ν : sd_Me), m < 10 → m < f → ∃ ν', fn_Model_wide_r0_L492 kk f a1 a2 a3 a4 a5 a6 (nI m) ν = kk a1 a2 a3 a4 a5 a6 ν' ∧ Fr [8] ν ν' ∧ (∀ j, j = 0 ∨ m < j → ν'.1 8 j = ν.1 8 j) ∧ (∀ j, 1 ≤ j → j ≤ m → ν'.1 8 j = ν.1 8 (j - 1)) := by
  intro m
  induction m with
  | zero =>
    intro f ν h0 hf
    obtain ⟨f, rfl⟩ : ∃ g, f = g + 1 := ⟨f - 1, by omega⟩
    refine ⟨ν, ?_, Fr.rf, fun _ _ => rfl, fun p a b => by omega⟩
    rw [fn_Model_wide_r0_L492, if_pos (by decide)]
  | succ m ih =>
    intro f ν h0 hf
    obtain ⟨f, rfl⟩ : ∃ g, f = g + 1 := ⟨f - 1, by omega⟩
    obtain ⟨ν', e1, e2, e3, e4⟩ := ih f (sd_st ν 8 (m + 1) (ν.1 8 m)) (by omega) (by omega)
    refine ⟨ν', ?_, (Fr.st (by decide)).tr e2, fun p hp => ?_, fun j b c => ?_⟩
    · rw [fn_Model_wide_r0_L492, if_neg (nI_nle (by omega) (by omega)), nI_pred, pa_ix (by omega) (by decide), pa_gd, pa_ix (by omega) (by decide), pa_gd, pa_let, nI_clamp (by omega), nI_clamp (by omega), pk_m1]
      exact e1
    · rw [e3 p (by omega), pa_sn _ _ _ _ _ (by omega)]
    · by_cases d : j = m + 1
      · rw [d, e3 (m + 1) (by omega), pa_ss, Nat.add_sub_cancel]
      · rw [e4 j (by omega) (by omega), pa_sn _ _ _ _ _ (by omega)]
theorem tab80 : tabM0 = tabX8 := rfl
theorem mrL {x y z : Int32} {kk : Int32 → Int32 → Int32 → sd_Me → Option sd_Me} : ∀ (m i f : Nat) (ν : sd_Me) (s : Nat → Int32), 64 = i + m → m < f → (∀ j, j < 8 → ν.1 8 j = s j) → ∃ ν', fn_Model_wide_r0_L312 kk f x y z (nI i) ν = kk x y z ν' ∧ Fr [8] ν ν' ∧ (∀ j, j < 8 → ν'.1 8 j = rnS (ν.1 6) m i s j) := by
  intro m
  induction m with
  | zero =>
    intro i f ν s h0 hf hs
    obtain ⟨f, rfl⟩ : ∃ g, f = g + 1 := ⟨f - 1, by omega⟩
    obtain rfl : i = 64 := by omega
    refine ⟨ν, ?_, Fr.rf, hs⟩
    rw [fn_Model_wide_r0_L312, if_pos (by decide)]
  | succ m ih =>
    intro i f ν s h0 hf hs
    obtain ⟨f, rfl⟩ : ∃ g, f = g + 1 := ⟨f - 1, by omega⟩
    obtain ⟨ν1, a1, a2, a3, a4⟩ := msL (a1 := x) (a2 := y) (a3 := z) (a4 := nI i) (a5 := t1S (tabX8 i) (ν.1 6 i) s) (a6 := t2S s) (kk := fun x46 x47 x48 x49 x50 x51 m52 => sd_gd (sd_ix (4 : Int32) 10) (sd_gd (sd_ix (4 : Int32) 10) (sd_let (sd_st m52 8 (Int32.toNatClampNeg (4 : Int32)) ((m52.1 8 (Int32.toNatClampNeg (4 : Int32))) + x50)) (fun m53 => sd_gd (sd_ix (0 : Int32) 10) (sd_let (sd_st m53 8 (Int32.toNatClampNeg (0 : Int32)) (x50 + x51)) (fun m54 => fn_Model_wide_r0_L312 kk f (x46) (x47) (x48) ((x49 + (1 : Int32))) m54)))))) 7 10000 ν (by omega) (by omega)
    obtain ⟨ν', e1, e2, e3⟩ := ih (i + 1) f (sd_st (sd_st ν1 8 4 (ν1.1 8 4 + t1S (tabX8 i) (ν.1 6 i) s)) 8 0 (t1S (tabX8 i) (ν.1 6 i) s + t2S s)) (roS (tabX8 i) (ν.1 6 i) s) (by omega) (by omega) (fun j hj => by
      unfold roS
      by_cases c : j = 0
      · rw [if_pos c, c, pa_ss]
      · rw [if_neg c, pa_sn _ _ _ _ _ c]
        by_cases d : j = 4
        · rw [if_pos d, d, pa_ss, a4 4 (by decide) (by decide), hs 3 (by decide)]
        · rw [if_neg d, pa_sn _ _ _ _ _ d, a4 j (by omega) (by omega), hs (j - 1) (by omega)])
    have x0 : sd_ix (0 : Int32) 10 = true := pa_ix (n := 0) (by decide) (by decide)
    have x1 : sd_ix (1 : Int32) 10 = true := pa_ix (n := 1) (by decide) (by decide)
    have x2 : sd_ix (2 : Int32) 10 = true := pa_ix (n := 2) (by decide) (by decide)
    have x4 : sd_ix (4 : Int32) 10 = true := pa_ix (n := 4) (by decide) (by decide)
    have x5 : sd_ix (5 : Int32) 10 = true := pa_ix (n := 5) (by decide) (by decide)
    have x6 : sd_ix (6 : Int32) 10 = true := pa_ix (n := 6) (by decide) (by decide)
    have x7 : sd_ix (7 : Int32) 10 = true := pa_ix (n := 7) (by decide) (by decide)
    have c0 : Int32.toNatClampNeg 0 = 0 := rfl
    have c1 : Int32.toNatClampNeg 1 = 1 := rfl
    have c2 : Int32.toNatClampNeg 2 = 2 := rfl
    have c4 : Int32.toNatClampNeg 4 = 4 := rfl
    have c5 : Int32.toNatClampNeg 5 = 5 := rfl
    have c6 : Int32.toNatClampNeg 6 = 6 := rfl
    have c7 : Int32.toNatClampNeg 7 = 7 := rfl
    refine ⟨ν', ?_, a2.tr ((Fr.st (by decide)).tr ((Fr.st (by decide)).tr e2)), fun j hj => ?_⟩
    · rw [fn_Model_wide_r0_L312, pl64, if_neg (nI_ge' (by omega) (by omega))]
      unfold fn_Model_right
      rw [x7, pa_gd, x4, pa_gd, pa_bi, pa_gd, pa_bi, pa_gd, pa_bi, pa_gd, x5, pa_gd, pa_gd, x6, pa_gd, pa_ix (by omega) (by decide), pa_gd, pa_gd, pa_let, x0, pa_gd, pa_bi, pa_gd, pa_bi, pa_gd, pa_bi, pa_gd, x1, pa_gd, pa_gd, x2, pa_gd, pa_gd, pa_gd, pa_let, nI_clamp (by omega), c0, c1, c2, c4, c5, c6, c7, hs 0 (by decide), hs 1 (by decide), hs 2 (by decide), hs 4 (by decide), hs 5 (by decide), hs 6 (by decide), hs 7 (by decide), tab80]
      rw [c0, c4, x0, x4] at a1
      refine a1.trans ?_
      rw [pb_gd, pb_gd, pb_let, pb_gd, pb_let, pl1, nI_add]
      exact e1
    · rw [e3 j hj, pa_sc _ _ _ _ _ (by decide), pa_sc _ _ _ _ _ (by decide), a2.1 6 (by decide)]
      rfl
theorem maL {x y z : Int32} {kk : Int32 → Int32 → Int32 → sd_Me → Option sd_Me} : ∀ (m i f : Nat) (ν : sd_Me), 8 = i + m → m < f → ∃ ν', fn_Model_wide_r0_L554 kk f x y z (nI i) ν = kk x y z ν' ∧ Fr [7] ν ν' ∧ (∀ p, p < i → ν'.1 7 p = ν.1 7 p) ∧ (∀ j, i ≤ j → j < 8 → ν'.1 7 j = ν.1 7 j + ν.1 8 j) := by
  intro m
  induction m with
  | zero =>
    intro i f ν h0 hf
    obtain ⟨f, rfl⟩ : ∃ g, f = g + 1 := ⟨f - 1, by omega⟩
    obtain rfl : i = 8 := by omega
    refine ⟨ν, ?_, Fr.rf, fun _ _ => rfl, fun p a b => by omega⟩
    rw [fn_Model_wide_r0_L554, if_pos (by decide)]
  | succ m ih =>
    intro i f ν h0 hf
    obtain ⟨f, rfl⟩ : ∃ g, f = g + 1 := ⟨f - 1, by omega⟩
    obtain ⟨ν', e1, e2, e3, e4⟩ := ih (i + 1) f (sd_st ν 7 i (ν.1 7 i + ν.1 8 i)) (by omega) (by omega)
    refine ⟨ν', ?_, (Fr.st (by decide)).tr e2, fun p hp => ?_, fun j b c => ?_⟩
    · rw [fn_Model_wide_r0_L554, pl8, if_neg (nI_ge' (by omega) (by omega)), pa_ix (by omega) (by decide), pa_gd, pa_ix (by omega) (by decide), pa_gd, pa_gd, pa_let, nI_clamp (by omega), pl1, nI_add]
      exact e1
    · rw [e3 p (by omega), pa_sn _ _ _ _ _ (by omega)]
    · by_cases d : j = i
      · rw [d, e3 i (by omega), pa_ss]
      · rw [e4 j (by omega) c, pa_sn _ _ _ _ _ (by omega), pa_sc _ _ _ _ _ (by decide)]
theorem moSL {r : Nat} (hr : r < 64) {kk : sd_Me → Option sd_Me} : ∀ (m i f : Nat) (ν : sd_Me), 32 = i + m → m < f → ∃ ν', fn_Model_wide_r0_L605 kk f (nI r) (nI i) ν = kk ν' ∧ Fr [1] ν ν' ∧ (∀ p, p < 120 * r + i ∨ 120 * r + 32 ≤ p → ν'.1 1 p = ν.1 1 p) ∧ (∀ k, i ≤ k → k < 32 → ν'.1 1 (120 * r + k) = sd_usr (ν.1 7 (k / 4)) (shS (k % 4)) &&& 255) := by
  intro m
  induction m with
  | zero =>
    intro i f ν h0 hf
    obtain ⟨f, rfl⟩ : ∃ g, f = g + 1 := ⟨f - 1, by omega⟩
    obtain rfl : i = 32 := by omega
    refine ⟨ν, ?_, Fr.rf, fun _ _ => rfl, fun p a b => by omega⟩
    rw [fn_Model_wide_r0_L605, if_pos (by decide)]
  | succ m ih =>
    intro i f ν h0 hf
    obtain ⟨f, rfl⟩ : ∃ g, f = g + 1 := ⟨f - 1, by omega⟩
    obtain ⟨ν', e1, e2, e3, e4⟩ := ih (i + 1) f (sd_st ν 1 (120 * r + i) (sd_usr (ν.1 7 (i / 4)) (shS (i % 4)) &&& 255)) (by omega) (by omega)
    refine ⟨ν', ?_, (Fr.st (by decide)).tr e2, fun p hp => ?_, fun k b c => ?_⟩
    · rw [fn_Model_wide_r0_L605, pl32, if_neg (nI_ge' (by omega) (by omega)), pl4, pk_rem (by omega) (by decide) (by decide), pk_div (by omega) (by decide) (by decide), pa_ix (by omega) (by decide), pa_gd, pl120, pk_mul, nI_add, pa_ix (by omega) (by decide), pa_gd, pa_let, nI_clamp (by omega), nI_clamp (by omega), pl1, nI_add]
      exact e1
    · rw [e3 p (by omega), pa_sn _ _ _ _ _ (by omega)]
    · by_cases d : k = i
      · rw [d, e3 _ (by omega), pa_ss]
      · rw [e4 k (by omega) c, pa_sc _ _ _ _ _ (by decide)]
theorem moRL {r : Nat} (hr : r < 64) {kk : sd_Me → Option sd_Me} : ∀ (m i f : Nat) (ν : sd_Me), 20 = i + m → m < f → ∃ ν', fn_Model_small_r0_L538 kk f (nI r) (nI i) ν = kk ν' ∧ Fr [1] ν ν' ∧ (∀ p, p < 120 * r + i ∨ 120 * r + 20 ≤ p → ν'.1 1 p = ν.1 1 p) ∧ (∀ k, i ≤ k → k < 20 → ν'.1 1 (120 * r + k) = sd_usr (ν.1 7 (k / 4)) (shR (k % 4)) &&& 255) := by
  intro m
  induction m with
  | zero =>
    intro i f ν h0 hf
    obtain ⟨f, rfl⟩ : ∃ g, f = g + 1 := ⟨f - 1, by omega⟩
    obtain rfl : i = 20 := by omega
    refine ⟨ν, ?_, Fr.rf, fun _ _ => rfl, fun p a b => by omega⟩
    rw [fn_Model_small_r0_L538, if_pos (by decide)]
  | succ m ih =>
    intro i f ν h0 hf
    obtain ⟨f, rfl⟩ : ∃ g, f = g + 1 := ⟨f - 1, by omega⟩
    obtain ⟨ν', e1, e2, e3, e4⟩ := ih (i + 1) f (sd_st ν 1 (120 * r + i) (sd_usr (ν.1 7 (i / 4)) (shR (i % 4)) &&& 255)) (by omega) (by omega)
    refine ⟨ν', ?_, (Fr.st (by decide)).tr e2, fun p hp => ?_, fun k b c => ?_⟩
    · rw [fn_Model_small_r0_L538, pl20, if_neg (nI_ge' (by omega) (by omega)), pl4, pk_rem (by omega) (by decide) (by decide), pk_div (by omega) (by decide) (by decide), pa_ix (by omega) (by decide), pa_gd, pl120, pk_mul, nI_add, pa_ix (by omega) (by decide), pa_gd, pa_let, nI_clamp (by omega), nI_clamp (by omega), pl1, nI_add]
      exact e1
    · rw [e3 p (by omega), pa_sn _ _ _ _ _ (by omega)]
    · by_cases d : k = i
      · rw [d, e3 _ (by omega), pa_ss]
      · rw [e4 k (by omega) c, pa_sc _ _ _ _ _ (by decide)]
