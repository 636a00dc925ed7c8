/-! ripemd on the reference's side -/
theorem wdR_m {f : Nat → Int32} {q : Nat} : (((f (q + 3) <<< ((24 : Int32) &&& 31)) ||| (f (q + 2) <<< ((16 : Int32) &&& 31))) ||| (f (q + 1) <<< ((8 : Int32) &&& 31))) ||| f q = wdR f q := by
  unfold wdR
  rw [show shR 0 &&& 31 = (0 : Int32) from by decide, show shR 1 &&& 31 = (8 : Int32) &&& 31 from by decide, show shR 2 &&& 31 = (16 : Int32) &&& 31 from by decide, show shR 3 &&& 31 = (24 : Int32) &&& 31 from by decide, Int32.zero_or, Int32.shiftLeft_zero]
  generalize f (q + 3) <<< ((24 : Int32) &&& 31) = a
  generalize f (q + 2) <<< ((16 : Int32) &&& 31) = b
  generalize f (q + 1) <<< ((8 : Int32) &&& 31) = c
  generalize f q = d
  rw [Int32.or_comm, Int32.or_comm (a ||| b) c, Int32.or_comm a b, ← Int32.or_assoc, ← Int32.or_assoc]
theorem swL {b : Nat} (hb : b < 3) {x y : Int32} {kk : Int32 → Int32 → Int32 → sd_Me → Option sd_Me} : ∀ (m i f : Nat) (ν : sd_Me), 16 = i + m → m < f → ∃ ν', fn_Model_small_r0_L57 kk f x y (nI b) (nI i) ν = kk x y (nI b) ν' ∧ Fr [6] ν ν' ∧ (∀ p, p < i → ν'.1 6 p = ν.1 6 p) ∧ (∀ j, i ≤ j → j < 16 → ν'.1 6 j = wdR (ν.1 5) (64 * b + 4 * j)) := by
  intro m
  induction m with
  | zero =>
    intro i f ν h0 hf
    obtain ⟨f, rfl⟩ : ∃ g, f = g + 1 := ⟨f - 1, by omega⟩
    obtain rfl : i = 16 := by omega
    refine ⟨ν, ?_, Fr.rf, fun _ _ => rfl, fun p a b => by omega⟩
    rw [fn_Model_small_r0_L57, if_pos (by decide)]
  | succ m ih =>
    intro i f ν h0 hf
    obtain ⟨f, rfl⟩ : ∃ g, f = g + 1 := ⟨f - 1, by omega⟩
    obtain ⟨ν', e1, e2, e3, e4⟩ := ih (i + 1) f (sd_st ν 6 i (wdR (ν.1 5) (64 * b + 4 * i))) (by omega) (by omega)
    refine ⟨ν', ?_, (Fr.st (by decide)).tr e2, fun p hp => ?_, fun j b c => ?_⟩
    · rw [fn_Model_small_r0_L57, if_neg (show ¬ (16 : Int32) ≤ nI i from nI_ge' (b := 16) (by omega) (by omega)), pl64, pl4, pk_mul, pk_mul, nI_add, pa_let, pl1, pl2, pl3, nI_add, nI_add, nI_add, nI_add, pa_ix (by omega) (by decide), pa_gd, pa_ix (by omega) (by decide), pa_gd, pa_ix (by omega) (by decide), pa_gd, pa_ix (by omega) (by decide), pa_gd, pa_ix (by omega) (by decide), pa_gd, pa_let, nI_clamp (by omega), nI_clamp (by omega), nI_clamp (by omega), nI_clamp (by omega), nI_clamp (by omega), wdR_m]
      exact e1
    · rw [e3 p (by omega), pa_sn _ _ _ _ _ (by omega)]
    · by_cases d : j = i
      · rw [d, e3 i (by omega), pa_ss]
      · rw [e4 j (by omega) c, pa_sc _ _ _ _ _ (by decide)]
theorem svL {x y z : Int32} {kk : Int32 → Int32 → Int32 → sd_Me → Option sd_Me} : ∀ (m i f : Nat) (ν : sd_Me), 10 = i + m → m < f → ∃ ν', fn_Model_small_r0_L137 kk f x y z (nI i) ν = kk x y z ν' ∧ Fr [8] ν ν' ∧ (∀ p, p < i → ν'.1 8 p = ν.1 8 p) ∧ (∀ j, i ≤ j → j < 10 → ν'.1 8 j = ν.1 7 (j % 5)) := by
  intro m
  induction m with
  | zero =>
    intro i f ν h0 hf
    obtain ⟨f, rfl⟩ : ∃ g, f = g + 1 := ⟨f - 1, by omega⟩
    obtain rfl : i = 10 := by omega
    refine ⟨ν, ?_, Fr.rf, fun _ _ => rfl, fun p a b => by omega⟩
    rw [fn_Model_small_r0_L137, if_pos (by decide)]
  | succ m ih =>
    intro i f ν h0 hf
    obtain ⟨f, rfl⟩ : ∃ g, f = g + 1 := ⟨f - 1, by omega⟩
    obtain ⟨ν', e1, e2, e3, e4⟩ := ih (i + 1) f (sd_st ν 8 i (ν.1 7 (i % 5))) (by omega) (by omega)
    refine ⟨ν', ?_, (Fr.st (by decide)).tr e2, fun p hp => ?_, fun j b c => ?_⟩
    · rw [fn_Model_small_r0_L137, pl10, if_neg (nI_ge' (by omega) (by omega)), pl5, pk_rem (by omega) (by decide) (by decide), pa_ix (by omega) (by decide), pa_gd, pa_ix (by omega) (by decide), pa_gd, pa_let, nI_clamp (by omega), nI_clamp (by omega), pl1, nI_add]
      exact e1
    · rw [e3 p (by omega), pa_sn _ _ _ _ _ (by omega)]
    · by_cases d : j = i
      · rw [d, e3 i (by omega), pa_ss]
      · rw [e4 j (by omega) c, pa_sc _ _ _ _ _ (by decide)]
theorem stM {a : Nat} (ha : a ≤ 5) {X r : Int32} {ν : sd_Me} : ∃ ν', fn_Model_step_r0 (nI a) X r ν = some ν' ∧ Fr [8] ν ν' ∧ (∀ j, j < 5 → ν'.1 8 (a + j) = rs0 X r (fun k => ν.1 8 (a + k)) j) ∧ (∀ p, p < a ∨ a + 5 ≤ p → ν'.1 8 p = ν.1 8 p) := by
  refine ⟨sd_st (sd_st (sd_st (sd_st (sd_st ν 8 a (ν.1 8 (a + 4))) 8 (a + 4) (ν.1 8 (a + 3))) 8 (a + 3) (rtl (ν.1 8 (a + 2)) 10)) 8 (a + 2) (ν.1 8 (a + 1))) 8 (a + 1) (rtl (ν.1 8 a + X) r + ν.1 8 (a + 4)), ?_, (Fr.st (by decide)).tr ((Fr.st (by decide)).tr ((Fr.st (by decide)).tr ((Fr.st (by decide)).tr (Fr.st (by decide))))), fun j hj => ?_, fun p hp => ?_⟩
  · unfold fn_Model_step_r0 fn_Model_right
    rw [rtl_m, pl1, pl2, pl3, pl4, nI_add, nI_add, nI_add, nI_add]
    have i0 : sd_ix (nI a) 10 = true := pa_ix (by omega) (by decide)
    have i1 : sd_ix (nI (a + 1)) 10 = true := pa_ix (by omega) (by decide)
    have i2 : sd_ix (nI (a + 2)) 10 = true := pa_ix (by omega) (by decide)
    have i3 : sd_ix (nI (a + 3)) 10 = true := pa_ix (by omega) (by decide)
    have i4 : sd_ix (nI (a + 4)) 10 = true := pa_ix (by omega) (by decide)
    have c0 : (nI a).toNatClampNeg = a := nI_clamp (by omega)
    have c1 : (nI (a + 1)).toNatClampNeg = a + 1 := nI_clamp (by omega)
    have c2 : (nI (a + 2)).toNatClampNeg = a + 2 := nI_clamp (by omega)
    have c3 : (nI (a + 3)).toNatClampNeg = a + 3 := nI_clamp (by omega)
    have c4 : (nI (a + 4)).toNatClampNeg = a + 4 := nI_clamp (by omega)
    simp (disch := omega) only [i0, i1, i2, i3, i4, c0, c1, c2, c3, c4, pa_gd, pa_let, pa_bi, pa_sn, pa_ss, rtl_22]
  · unfold rs0
    rcases (show j = 0 ∨ j = 1 ∨ j = 2 ∨ j = 3 ∨ j = 4 by omega) with rfl | rfl | rfl | rfl | rfl <;> simp (disch := omega) only [pa_sn, pa_ss, Nat.add_zero] <;> rfl
  · rw [pa_sn _ _ _ _ _ (by omega), pa_sn _ _ _ _ _ (by omega), pa_sn _ _ _ _ _ (by omega), pa_sn _ _ _ _ _ (by omega), pa_sn _ _ _ _ _ (by omega)]
theorem tab12 : tabM1 = tabX2 := rfl
theorem tab24 : tabM2 = tabX4 := rfl
theorem tab35 : tabM3 = tabX5 := rfl
theorem tab47 : tabM4 = tabX7 := rfl
theorem srK {kk : Int32 → Int32 → Int32 → sd_Me → Option sd_Me} {x y z : Int32} {i f : Nat} (hi : i < 80) {ν : sd_Me} : fn_Model_small_r0_L169 kk (f + 1) x y z (nI i) ν = fn_Model_small_r0_J273 (fn_Model_small_r0_L169 kk f) x y z (nI i) (nI (i / 16)) (tabX3 (i / 16)) (tabX6 (i / 16)) ν := by
  rw [fn_Model_small_r0_L169, pl80, if_neg (nI_ge' (by omega) (by omega)), pl16, pk_div (by omega) (by decide) (by decide), pa_let]
  have hq : i / 16 < 5 := by omega
  generalize i / 16 = q at hq ⊢
  rcases (show q = 0 ∨ q = 1 ∨ q = 2 ∨ q = 3 ∨ q = 4 by omega) with rfl | rfl | rfl | rfl | rfl
  · rw [if_pos (by decide), fn_Model_small_r0_J227, if_pos (by decide)]
    rfl
  · rw [if_neg (by decide), if_pos (by decide), fn_Model_small_r0_J227, if_neg (by decide), if_pos (by decide)]
    rfl
  · rw [if_neg (by decide), if_neg (by decide), if_pos (by decide), fn_Model_small_r0_J227, if_neg (by decide), if_neg (by decide), if_pos (by decide)]
    rfl
  · rw [if_neg (by decide), if_neg (by decide), if_neg (by decide), if_pos (by decide), fn_Model_small_r0_J227, if_neg (by decide), if_neg (by decide), if_neg (by decide), if_pos (by decide)]
    rfl
  · rw [if_neg (by decide), if_neg (by decide), if_neg (by decide), if_neg (by decide), fn_Model_small_r0_J227, if_neg (by decide), if_neg (by decide), if_neg (by decide), if_neg (by decide)]
    rfl
theorem srL {x y z : Int32} {kk : Int32 → Int32 → Int32 → sd_Me → Option sd_Me} : ∀ (m i f : Nat) (ν : sd_Me) (s t : Nat → Int32), 80 = i + m → m < f → (∀ j, j < 5 → ν.1 8 j = s j) → (∀ j, j < 5 → ν.1 8 (5 + j) = t j) → ∃ ν', fn_Model_small_r0_L169 kk f x y z (nI i) ν = kk x y z ν' ∧ Fr [8] ν ν' ∧ (∀ j, j < 5 → ν'.1 8 j = rnL (ν.1 6) m i s j) ∧ (∀ j, j < 5 → ν'.1 8 (5 + j) = rnR (ν.1 6) m i t j) := by
  intro m
  induction m with
  | zero =>
    intro i f ν s t h0 hf hs ht
    obtain ⟨f, rfl⟩ : ∃ g, f = g + 1 := ⟨f - 1, by omega⟩
    obtain rfl : i = 80 := by omega
    refine ⟨ν, ?_, Fr.rf, hs, ht⟩
    rw [fn_Model_small_r0_L169, if_pos (by decide)]
  | succ m ih =>
    intro i f ν s t h0 hf hs ht
    obtain ⟨f, rfl⟩ : ∃ g, f = g + 1 := ⟨f - 1, by omega⟩
    obtain ⟨ν1, a1, a2, a3, a4⟩ := stM (a := 0) (by decide) (X := blR (nI (i / 16)) (s 1) (s 2) (s 3) + (ν.1 6 (tabX2 i).toNatClampNeg + tabX3 (i / 16))) (r := tabX4 i) (ν := ν)
    obtain ⟨ν2, b1, b2, b3, b4⟩ := stM (a := 5) (by decide) (X := blR (nI (4 - i / 16)) (t 1) (t 2) (t 3) + (ν.1 6 (tabX5 i).toNatClampNeg + tabX6 (i / 16))) (r := tabX7 i) (ν := ν1)
    have a1 : fn_Model_step_r0 0 _ _ ν = some ν1 := a1
    have b1 : fn_Model_step_r0 5 _ _ ν1 = some ν2 := b1
    obtain ⟨ν', e1, e2, e3, e4⟩ := ih (i + 1) f ν2 (rsR (nI (i / 16)) (ν.1 6 (tabX2 i).toNatClampNeg + tabX3 (i / 16)) (tabX4 i) s) (rsR (nI (4 - i / 16)) (ν.1 6 (tabX5 i).toNatClampNeg + tabX6 (i / 16)) (tabX7 i) t) (by omega) (by omega) (fun j hj => by
      have z := a3 j hj
      rw [Nat.zero_add] at z
      rw [b4 j (by omega), z]
      unfold rsR
      rw [rs0_c (s' := s) (fun k hk => by rw [Nat.zero_add]; exact hs k hk)]) (fun j hj => by
      rw [b3 j hj]
      unfold rsR
      rw [rs0_c (s' := t) (fun k hk => by rw [a4 (5 + k) (by omega)]; exact ht k hk)])
    have e6 : ν2.1 6 = ν.1 6 := by rw [b2.1 6 (by decide), a2.1 6 (by decide)]
    rw [e6] at e3 e4
    refine ⟨ν', ?_, (a2.tr b2).tr e2, e3, e4⟩
    have u6 : ν1.1 8 6 = t 1 := by rw [a4 6 (by omega)]; exact ht 1 (by decide)
    have u7 : ν1.1 8 7 = t 2 := by rw [a4 7 (by omega)]; exact ht 2 (by decide)
    have u8 : ν1.1 8 8 = t 3 := by rw [a4 8 (by omega)]; exact ht 3 (by decide)
    rw [srK (by omega), fn_Model_small_r0_J273, ix10_1, pb_gd, ix10_2, pb_gd, ix10_3, pb_gd, blR_m, pa_bi, tab12, tab24, tab35, tab47, pa_ix (by omega) (by decide), pb_gd, nI_clamp (by omega), (t2_ix i (by omega)).2.1, pb_gd, pb_gd, k1, k2, k3, hs 1 (by decide), hs 2 (by decide), hs 3 (by decide), Int32.add_assoc, a1, pa_bv, ix10_6, pb_gd, ix10_7, pb_gd, ix10_8, pb_gd, show (4 : Int32) - nI (i / 16) = nI (4 - i / 16) from pk_sub (a := 4) (by omega), blR_m, pa_bi, pb_gd, (t5_ix i (by omega)).2.1, pb_gd, pb_gd, k6, k7, k8, u6, u7, u8, a2.1 6 (by decide), Int32.add_assoc, b1, pa_bv, pl1, nI_add]
    exact e1
