/-! ripemd: rounds -/
def rtl (x r : Int32) : Int32 := (x <<< (r &&& 31)) ||| (sd_usr x (32 - r))
theorem rtl_m {x r : Int32} : sd_usr x (32 - r) ||| (x <<< ((32 - (32 - r)) &&& 31)) = rtl x r := by
  have e : (32 : Int32) - (32 - r) = r := by
    rw [Int32.sub_eq_add_neg, Int32.neg_sub, Int32.add_comm, Int32.sub_add_cancel]
  rw [e, Int32.or_comm]
  rfl
theorem rtl_22 {x : Int32} : sd_usr x 22 ||| (x <<< (((32 : Int32) - 22) &&& 31)) = rtl x 10 := by
  rw [Int32.or_comm]
  rfl
def blR (a x y z : Int32) : Int32 := if a = 0 then (x ^^^ y) ^^^ z else if a = 1 then (x &&& y) ||| ((x ^^^ (-1)) &&& z) else if a = 2 then (x ||| (y ^^^ (-1))) ^^^ z else if a = 3 then (x &&& z) ||| (y &&& (z ^^^ (-1))) else x ^^^ (y ||| (z ^^^ (-1)))
theorem blR_x {a x y z : Int32} {μ : sd_Me} : fn_Ripemd160_blend a x y z μ = some (blR a x y z, μ) := by
  unfold fn_Ripemd160_blend blR
  by_cases h0 : a = 0
  · rw [if_pos h0, if_pos h0]
  · rw [if_neg h0, if_neg h0]
    by_cases h1 : a = 1
    · rw [if_pos h1, if_pos h1]
    · rw [if_neg h1, if_neg h1]
      by_cases h2 : a = 2
      · rw [if_pos h2, if_pos h2]
      · rw [if_neg h2, if_neg h2]
        by_cases h3 : a = 3
        · rw [if_pos h3, if_pos h3]
        · rw [if_neg h3, if_neg h3]
theorem blR_m {a x y z : Int32} {μ : sd_Me} : fn_Model_mixed a x y z μ = some (blR a x y z, μ) := by
  unfold fn_Model_mixed blR
  by_cases h0 : a = 0
  · rw [if_pos h0, if_pos h0]
  · rw [if_neg h0, if_neg h0]
    by_cases h1 : a = 1
    · rw [if_pos h1, if_pos h1]
    · rw [if_neg h1, if_neg h1]
      by_cases h2 : a = 2
      · rw [if_pos h2, if_pos h2]
      · rw [if_neg h2, if_neg h2]
        by_cases h3 : a = 3
        · rw [if_pos h3, if_pos h3]
        · rw [if_neg h3, if_neg h3]
def rs0 (X r : Int32) (s : Nat → Int32) (j : Nat) : Int32 := if j = 0 then s 4 else if j = 1 then rtl (s 0 + X) r + s 4 else if j = 2 then s 1 else if j = 3 then rtl (s 2) 10 else s 3
def rsR (a x r : Int32) (s : Nat → Int32) : Nat → Int32 := rs0 (blR a (s 1) (s 2) (s 3) + x) r s
theorem rs0_c {X r : Int32} {s s' : Nat → Int32} (h : ∀ j, j < 5 → s j = s' j) : rs0 X r s = rs0 X r s' := by
  funext j
  unfold rs0
  rw [h 0 (by decide), h 1 (by decide), h 2 (by decide), h 3 (by decide), h 4 (by decide)]
theorem rsR_c {a x r : Int32} {s s' : Nat → Int32} (h : ∀ j, j < 5 → s j = s' j) : rsR a x r s = rsR a x r s' := by
  unfold rsR
  rw [h 1 (by decide), h 2 (by decide), h 3 (by decide), rs0_c h]
def rnL (w : Nat → Int32) : Nat → Nat → (Nat → Int32) → (Nat → Int32)
  | 0, _, s => s
  | m + 1, i, s => rnL w m (i + 1) (rsR (nI (i / 16)) (w (tabX2 i).toNatClampNeg + tabX3 (i / 16)) (tabX4 i) s)
def rnR (w : Nat → Int32) : Nat → Nat → (Nat → Int32) → (Nat → Int32)
  | 0, _, s => s
  | m + 1, i, s => rnR w m (i + 1) (rsR (nI (4 - i / 16)) (w (tabX5 i).toNatClampNeg + tabX6 (i / 16)) (tabX7 i) s)
theorem t2_ix : ∀ i, i < 80 → sd_ix (tabX2 i) 16 = true ∧ sd_ix (tabX2 i) 64 = true ∧ (tabX2 i).toNatClampNeg < 16 := by decide +kernel
theorem t5_ix : ∀ i, i < 80 → sd_ix (tabX5 i) 16 = true ∧ sd_ix (tabX5 i) 64 = true ∧ (tabX5 i).toNatClampNeg < 16 := by decide +kernel
theorem rnL_c {w w' : Nat → Int32} (hw : ∀ j, j < 16 → w j = w' j) : ∀ (m i : Nat) (s s' : Nat → Int32), i + m ≤ 80 → (∀ j, j < 5 → s j = s' j) → ∀ j, j < 5 → rnL w m i s j = rnL w' m i s' j := by
  intro m
  induction m with
  | zero => intro i s s' _ h j hj; exact h j hj
  | succ m ih =>
    intro i s s' hi h
    refine ih (i + 1) _ _ (by omega) fun j hj => ?_
    rw [hw _ (t2_ix i (by omega)).2.2, rsR_c h]
theorem rnR_c {w w' : Nat → Int32} (hw : ∀ j, j < 16 → w j = w' j) : ∀ (m i : Nat) (s s' : Nat → Int32), i + m ≤ 80 → (∀ j, j < 5 → s j = s' j) → ∀ j, j < 5 → rnR w m i s j = rnR w' m i s' j := by
  intro m
  induction m with
  | zero => intro i s s' _ h j hj; exact h j hj
  | succ m ih =>
    intro i s s' hi h
    refine ih (i + 1) _ _ (by omega) fun j hj => ?_
    rw [hw _ (t5_ix i (by omega)).2.2, rsR_c h]
theorem k0 : Int32.toNatClampNeg 0 = 0 := rfl
theorem k1 : Int32.toNatClampNeg 1 = 1 := rfl
theorem k2 : Int32.toNatClampNeg 2 = 2 := rfl
theorem k3 : Int32.toNatClampNeg 3 = 3 := rfl
theorem k4 : Int32.toNatClampNeg 4 = 4 := rfl
theorem k5 : Int32.toNatClampNeg 5 = 5 := rfl
theorem k6 : Int32.toNatClampNeg 6 = 6 := rfl
theorem k7 : Int32.toNatClampNeg 7 = 7 := rfl
theorem k8 : Int32.toNatClampNeg 8 = 8 := rfl
theorem k9 : Int32.toNatClampNeg 9 = 9 := rfl
theorem ix5_0 : sd_ix (0 : Int32) 5 = true := pa_ix (n := 0) (by decide) (by decide)
theorem ix5_1 : sd_ix (1 : Int32) 5 = true := pa_ix (n := 1) (by decide) (by decide)
theorem ix5_2 : sd_ix (2 : Int32) 5 = true := pa_ix (n := 2) (by decide) (by decide)
theorem ix5_3 : sd_ix (3 : Int32) 5 = true := pa_ix (n := 3) (by decide) (by decide)
theorem ix5_4 : sd_ix (4 : Int32) 5 = true := pa_ix (n := 4) (by decide) (by decide)
theorem ix8_0 : sd_ix (0 : Int32) 8 = true := pa_ix (n := 0) (by decide) (by decide)
theorem ix8_1 : sd_ix (1 : Int32) 8 = true := pa_ix (n := 1) (by decide) (by decide)
theorem ix8_2 : sd_ix (2 : Int32) 8 = true := pa_ix (n := 2) (by decide) (by decide)
theorem ix8_3 : sd_ix (3 : Int32) 8 = true := pa_ix (n := 3) (by decide) (by decide)
theorem ix8_4 : sd_ix (4 : Int32) 8 = true := pa_ix (n := 4) (by decide) (by decide)
theorem ix8_5 : sd_ix (5 : Int32) 8 = true := pa_ix (n := 5) (by decide) (by decide)
theorem ix8_6 : sd_ix (6 : Int32) 8 = true := pa_ix (n := 6) (by decide) (by decide)
theorem ix8_7 : sd_ix (7 : Int32) 8 = true := pa_ix (n := 7) (by decide) (by decide)
theorem ix10_0 : sd_ix (0 : Int32) 10 = true := pa_ix (n := 0) (by decide) (by decide)
theorem ix10_1 : sd_ix (1 : Int32) 10 = true := pa_ix (n := 1) (by decide) (by decide)
theorem ix10_2 : sd_ix (2 : Int32) 10 = true := pa_ix (n := 2) (by decide) (by decide)
theorem ix10_3 : sd_ix (3 : Int32) 10 = true := pa_ix (n := 3) (by decide) (by decide)
theorem ix10_4 : sd_ix (4 : Int32) 10 = true := pa_ix (n := 4) (by decide) (by decide)
theorem ix10_5 : sd_ix (5 : Int32) 10 = true := pa_ix (n := 5) (by decide) (by decide)
theorem ix10_6 : sd_ix (6 : Int32) 10 = true := pa_ix (n := 6) (by decide) (by decide)
theorem ix10_7 : sd_ix (7 : Int32) 10 = true := pa_ix (n := 7) (by decide) (by decide)
theorem ix10_8 : sd_ix (8 : Int32) 10 = true := pa_ix (n := 8) (by decide) (by decide)
theorem ix10_9 : sd_ix (9 : Int32) 10 = true := pa_ix (n := 9) (by decide) (by decide)
theorem stX19 {a x r : Int32} {μ : sd_Me} : ∃ μ', fn_Ripemd160_step_r19 a x r μ = some μ' ∧ Fr [19] μ μ' ∧ (∀ j, j < 5 → μ'.1 19 j = rsR a x r (μ.1 19) j) := by
  refine ⟨sd_st (sd_st (sd_st (sd_st (sd_st μ 19 0 (μ.1 19 4)) 19 4 (μ.1 19 3)) 19 3 (rtl (μ.1 19 2) 10)) 19 2 (μ.1 19 1)) 19 1 (rtl (μ.1 19 0 + (blR a (μ.1 19 1) (μ.1 19 2) (μ.1 19 3) + x)) r + μ.1 19 4), ?_, (Fr.st (by decide)).tr ((Fr.st (by decide)).tr ((Fr.st (by decide)).tr ((Fr.st (by decide)).tr (Fr.st (by decide))))), fun j hj => ?_⟩
  · unfold fn_Ripemd160_step_r19 fn_Ripemd160_turned
    simp (disch := decide) only [ix5_0, ix5_1, ix5_2, ix5_3, ix5_4, pa_gd, pa_let, pa_bi, blR_x, k0, k1, k2, k3, k4, pa_sn, pa_ss, ← Int32.add_assoc]
    rfl
  · unfold rsR rs0
    rcases (show j = 0 ∨ j = 1 ∨ j = 2 ∨ j = 3 ∨ j = 4 by omega) with rfl | rfl | rfl | rfl | rfl <;> simp (disch := decide) only [pa_sn, pa_ss] <;> rfl
theorem stX20 {a x r : Int32} {μ : sd_Me} : ∃ μ', fn_Ripemd160_step_r20 a x r μ = some μ' ∧ Fr [20] μ μ' ∧ (∀ j, j < 5 → μ'.1 20 j = rsR a x r (μ.1 20) j) := by
  refine ⟨sd_st (sd_st (sd_st (sd_st (sd_st μ 20 0 (μ.1 20 4)) 20 4 (μ.1 20 3)) 20 3 (rtl (μ.1 20 2) 10)) 20 2 (μ.1 20 1)) 20 1 (rtl (μ.1 20 0 + (blR a (μ.1 20 1) (μ.1 20 2) (μ.1 20 3) + x)) r + μ.1 20 4), ?_, (Fr.st (by decide)).tr ((Fr.st (by decide)).tr ((Fr.st (by decide)).tr ((Fr.st (by decide)).tr (Fr.st (by decide))))), fun j hj => ?_⟩
  · unfold fn_Ripemd160_step_r20 fn_Ripemd160_turned
    simp (disch := decide) only [ix5_0, ix5_1, ix5_2, ix5_3, ix5_4, pa_gd, pa_let, pa_bi, blR_x, k0, k1, k2, k3, k4, pa_sn, pa_ss, ← Int32.add_assoc]
    rfl
  · unfold rsR rs0
    rcases (show j = 0 ∨ j = 1 ∨ j = 2 ∨ j = 3 ∨ j = 4 by omega) with rfl | rfl | rfl | rfl | rfl <;> simp (disch := decide) only [pa_sn, pa_ss] <;> rfl
theorem rlL {kk : sd_Me → Option sd_Me} : ∀ (m i f : Nat) (μ : sd_Me) (s t : Nat → Int32), 80 = i + m → m < f → (∀ j, j < 5 → μ.1 19 j = s j) → (∀ j, j < 5 → μ.1 20 j = t j) → ∃ μ', fn_Ripemd160_mix_r14_L30 kk f (nI i) μ = kk μ' ∧ Fr [19, 20] μ μ' ∧ (∀ j, j < 5 → μ'.1 19 j = rnL (μ.1 17) m i s j) ∧ (∀ j, j < 5 → μ'.1 20 j = rnR (μ.1 17) m i t j) := by
  intro m
  induction m with
  | zero =>
    intro i f μ s t h0 hf hs ht
    obtain ⟨f, rfl⟩ : ∃ g, f = g + 1 := ⟨f - 1, by omega⟩
    obtain rfl : i = 80 := by omega
    refine ⟨μ, ?_, Fr.rf, hs, ht⟩
    rw [fn_Ripemd160_mix_r14_L30, if_pos (by decide)]
  | succ m ih =>
    intro i f μ s t h0 hf hs ht
    obtain ⟨f, rfl⟩ : ∃ g, f = g + 1 := ⟨f - 1, by omega⟩
    obtain ⟨μ1, a1, a2, a3⟩ := stX19 (a := nI (i / 16)) (x := μ.1 17 (tabX2 i).toNatClampNeg + tabX3 (i / 16)) (r := tabX4 i) (μ := μ)
    obtain ⟨μ2, b1, b2, b3⟩ := stX20 (a := nI (4 - i / 16)) (x := μ.1 17 (tabX5 i).toNatClampNeg + tabX6 (i / 16)) (r := tabX7 i) (μ := μ1)
    obtain ⟨μ', e1, e2, e3, e4⟩ := ih (i + 1) f μ2 (rsR (nI (i / 16)) (μ.1 17 (tabX2 i).toNatClampNeg + tabX3 (i / 16)) (tabX4 i) s) (rsR (nI (4 - i / 16)) (μ.1 17 (tabX5 i).toNatClampNeg + tabX6 (i / 16)) (tabX7 i) t) (by omega) (by omega) (fun j hj => by rw [b2.1 19 (by decide), a3 j hj, rsR_c hs]) (fun j hj => by rw [b3 j hj, a2.1 20 (by decide), rsR_c ht])
    have e17 : μ2.1 17 = μ.1 17 := by rw [b2.1 17 (by decide), a2.1 17 (by decide)]
    rw [e17] at e3 e4
    refine ⟨μ', ?_, ((a2.mono (by decide)).tr (b2.mono (by decide))).tr e2, e3, e4⟩
    rw [fn_Ripemd160_mix_r14_L30, pl80, if_neg (nI_ge' (by omega) (by omega)), pl16, pk_div (by omega) (by decide) (by decide), pb_let, pa_ix (by omega) (by decide), pb_gd, nI_clamp (by omega), (t2_ix i (by omega)).1, pb_gd, pa_ix (by omega) (by decide), pb_gd, pb_gd, nI_clamp (by omega), a1, pa_bv, pb_gd, (t5_ix i (by omega)).1, pb_gd, pb_gd, pb_gd, pl4, pk_sub (by omega), a2.1 17 (by decide), b1, pa_bv, pl1, nI_add]
    exact e1
def fnR (s l r : Nat → Int32) (j : Nat) : Int32 := if j = 0 then (s 1 + l 2) + r 3 else if j = 1 then (s 2 + l 3) + r 4 else if j = 2 then (s 3 + l 4) + r 0 else if j = 3 then (s 4 + l 0) + r 1 else (s 0 + l 1) + r 2
theorem fnR_c {s s' l l' r r' : Nat → Int32} (h1 : ∀ j, j < 5 → s j = s' j) (h2 : ∀ j, j < 5 → l j = l' j) (h3 : ∀ j, j < 5 → r j = r' j) : fnR s l r = fnR s' l' r' := by
  funext j
  unfold fnR
  rw [h1 0 (by decide), h1 1 (by decide), h1 2 (by decide), h1 3 (by decide), h1 4 (by decide), h2 0 (by decide), h2 1 (by decide), h2 2 (by decide), h2 3 (by decide), h2 4 (by decide), h3 0 (by decide), h3 1 (by decide), h3 2 (by decide), h3 3 (by decide), h3 4 (by decide)]
theorem mixR {μ : sd_Me} : ∃ μ', fn_Ripemd160_mix_r14 μ = some μ' ∧ Fr [18, 19, 20] μ μ' ∧ (∀ j, j < 5 → μ'.1 18 j = fnR (μ.1 18) (rnL (μ.1 17) 80 0 (μ.1 18)) (rnR (μ.1 17) 80 0 (μ.1 18)) j) := by
  have a1 : Fr [19, 20] μ (sd_mrow (sd_mrow μ 19 (va_cpy (μ.1 18) (μ.1 19) 0 0 5)) 20 (va_cpy (μ.1 18) (μ.1 20) 0 0 5)) := (Fr.row (by decide)).tr (Fr.row (by decide))
  obtain ⟨μ1, b1, b2, b3, b4⟩ := rlL (kk := fun m6 => sd_gd (sd_ix (1 : Int32) 5) (sd_gd (sd_ix (2 : Int32) 5) (sd_gd (sd_ix (3 : Int32) 5) (sd_let ((((m6.1 18 (Int32.toNatClampNeg (1 : Int32))) + (m6.1 19 (Int32.toNatClampNeg (2 : Int32)))) + (m6.1 20 (Int32.toNatClampNeg (3 : Int32))))) (fun x7 => sd_gd (sd_ix (2 : Int32) 5) (sd_gd (sd_ix (3 : Int32) 5) (sd_gd (sd_ix (4 : Int32) 5) (sd_gd (sd_ix (1 : Int32) 5) (sd_let (sd_st m6 18 (Int32.toNatClampNeg (1 : Int32)) (((m6.1 18 (Int32.toNatClampNeg (2 : Int32))) + (m6.1 19 (Int32.toNatClampNeg (3 : Int32)))) + (m6.1 20 (Int32.toNatClampNeg (4 : Int32))))) (fun m8 => sd_gd (sd_ix (3 : Int32) 5) (sd_gd (sd_ix (4 : Int32) 5) (sd_gd (sd_ix (0 : Int32) 5) (sd_gd (sd_ix (2 : Int32) 5) (sd_let (sd_st m8 18 (Int32.toNatClampNeg (2 : Int32)) (((m8.1 18 (Int32.toNatClampNeg (3 : Int32))) + (m8.1 19 (Int32.toNatClampNeg (4 : Int32)))) + (m8.1 20 (Int32.toNatClampNeg (0 : Int32))))) (fun m9 => sd_gd (sd_ix (4 : Int32) 5) (sd_gd (sd_ix (0 : Int32) 5) (sd_gd (sd_ix (1 : Int32) 5) (sd_gd (sd_ix (3 : Int32) 5) (sd_let (sd_st m9 18 (Int32.toNatClampNeg (3 : Int32)) (((m9.1 18 (Int32.toNatClampNeg (4 : Int32))) + (m9.1 19 (Int32.toNatClampNeg (0 : Int32)))) + (m9.1 20 (Int32.toNatClampNeg (1 : Int32))))) (fun m10 => sd_gd (sd_ix (0 : Int32) 5) (sd_gd (sd_ix (1 : Int32) 5) (sd_gd (sd_ix (2 : Int32) 5) (sd_gd (sd_ix (4 : Int32) 5) (sd_let (sd_st m10 18 (Int32.toNatClampNeg (4 : Int32)) (((m10.1 18 (Int32.toNatClampNeg (0 : Int32))) + (m10.1 19 (Int32.toNatClampNeg (1 : Int32)))) + (m10.1 20 (Int32.toNatClampNeg (2 : Int32))))) (fun m11 => sd_gd (sd_ix (0 : Int32) 5) (sd_let (sd_st m11 18 (Int32.toNatClampNeg (0 : Int32)) x7) (fun m12 => some m12))))))))))))))))))))))))))) 80 0 10000 (sd_mrow (sd_mrow μ 19 (va_cpy (μ.1 18) (μ.1 19) 0 0 5)) 20 (va_cpy (μ.1 18) (μ.1 20) 0 0 5)) (μ.1 18) (μ.1 18) (by omega) (by omega) (fun j hj => by rw [pa_rc _ _ _ _ (by decide), pa_rs, pk_cpy_in (by omega) (by omega), Nat.zero_add, Nat.sub_zero]) (fun j hj => by rw [pa_rs, pk_cpy_in (by omega) (by omega), Nat.zero_add, Nat.sub_zero])
  have e18 : μ1.1 18 = μ.1 18 := by rw [b2.1 18 (by decide), a1.1 18 (by decide)]
  rw [a1.1 17 (by decide)] at b3 b4
  generalize hl : rnL (μ.1 17) 80 0 (μ.1 18) = l at *
  generalize hr : rnR (μ.1 17) 80 0 (μ.1 18) = r at *
  refine ⟨sd_st (sd_st (sd_st (sd_st (sd_st μ1 18 1 ((μ.1 18 2 + l 3) + r 4)) 18 2 ((μ.1 18 3 + l 4) + r 0)) 18 3 ((μ.1 18 4 + l 0) + r 1)) 18 4 ((μ.1 18 0 + l 1) + r 2)) 18 0 ((μ.1 18 1 + l 2) + r 3), ?_, ((a1.mono (by decide)).tr (b2.mono (by decide))).tr ((Fr.st (by decide)).tr ((Fr.st (by decide)).tr ((Fr.st (by decide)).tr ((Fr.st (by decide)).tr (Fr.st (by decide)))))), fun j hj => ?_⟩
  · have cp : sd_cpOk 0 0 5 5 5 = true := by decide
    unfold fn_Ripemd160_mix_r14
    rw [cp, pb_gd, pb_let, pb_gd, pb_let]
    refine b1.trans ?_
    simp (disch := decide) only [ix5_0, ix5_1, ix5_2, ix5_3, ix5_4, pb_gd, pb_let, k0, k1, k2, k3, k4, pa_sn, pa_ss, pa_sc, e18, b3, b4]
  · unfold fnR
    rcases (show j = 0 ∨ j = 1 ∨ j = 2 ∨ j = 3 ∨ j = 4 by omega) with rfl | rfl | rfl | rfl | rfl <;> simp (disch := decide) only [pa_sn, pa_ss] <;> rfl
