/-! ripemd: block by block on both sides -/
theorem upR {ν : sd_Me} {s l r : Nat → Int32} {x y z : Int32} {kk' : Int32 → sd_Me → Option sd_Me} {g : Nat} (hs : ∀ j, j < 5 → ν.1 7 j = s j) (hl : ∀ j, j < 5 → ν.1 8 j = l j) (hr : ∀ j, j < 5 → ν.1 8 (5 + j) = r j) : ∃ ν', (fun x26 x27 x28 m29 => sd_gd (sd_ix (1 : Int32) 8) (sd_gd (sd_ix (2 : Int32) 10) (sd_gd (sd_ix (8 : Int32) 10) (sd_let ((((m29.1 7 (Int32.toNatClampNeg (1 : Int32))) + (m29.1 8 (Int32.toNatClampNeg (2 : Int32)))) + (m29.1 8 (Int32.toNatClampNeg (8 : Int32))))) (fun x30 => sd_gd (sd_ix (2 : Int32) 8) (sd_gd (sd_ix (3 : Int32) 10) (sd_gd (sd_ix (9 : Int32) 10) (sd_gd (sd_ix (1 : Int32) 8) (sd_let (sd_st m29 7 (Int32.toNatClampNeg (1 : Int32)) (((m29.1 7 (Int32.toNatClampNeg (2 : Int32))) + (m29.1 8 (Int32.toNatClampNeg (3 : Int32)))) + (m29.1 8 (Int32.toNatClampNeg (9 : Int32))))) (fun m31 => sd_gd (sd_ix (3 : Int32) 8) (sd_gd (sd_ix (4 : Int32) 10) (sd_gd (sd_ix (5 : Int32) 10) (sd_gd (sd_ix (2 : Int32) 8) (sd_let (sd_st m31 7 (Int32.toNatClampNeg (2 : Int32)) (((m31.1 7 (Int32.toNatClampNeg (3 : Int32))) + (m31.1 8 (Int32.toNatClampNeg (4 : Int32)))) + (m31.1 8 (Int32.toNatClampNeg (5 : Int32))))) (fun m32 => sd_gd (sd_ix (4 : Int32) 8) (sd_gd (sd_ix (0 : Int32) 10) (sd_gd (sd_ix (6 : Int32) 10) (sd_gd (sd_ix (3 : Int32) 8) (sd_let (sd_st m32 7 (Int32.toNatClampNeg (3 : Int32)) (((m32.1 7 (Int32.toNatClampNeg (4 : Int32))) + (m32.1 8 (Int32.toNatClampNeg (0 : Int32)))) + (m32.1 8 (Int32.toNatClampNeg (6 : Int32))))) (fun m33 => sd_gd (sd_ix (0 : Int32) 8) (sd_gd (sd_ix (1 : Int32) 10) (sd_gd (sd_ix (7 : Int32) 10) (sd_gd (sd_ix (4 : Int32) 8) (sd_let (sd_st m33 7 (Int32.toNatClampNeg (4 : Int32)) (((m33.1 7 (Int32.toNatClampNeg (0 : Int32))) + (m33.1 8 (Int32.toNatClampNeg (1 : Int32)))) + (m33.1 8 (Int32.toNatClampNeg (7 : Int32))))) (fun m34 => sd_gd (sd_ix (0 : Int32) 8) (sd_let (sd_st m34 7 (Int32.toNatClampNeg (0 : Int32)) x30) (fun m35 => fn_Model_small_r0_L49 kk' g (x26) (x27) ((x28 + (1 : Int32))) m35))))))))))))))))))))))))))) x y z ν = fn_Model_small_r0_L49 kk' g x y (z + 1) ν' ∧ Fr [7] ν ν' ∧ (∀ j, j < 5 → ν'.1 7 j = fnR s l r j) := by
  have s0 := hs 0 (by decide)
  have s1 := hs 1 (by decide)
  have s2 := hs 2 (by decide)
  have s3 := hs 3 (by decide)
  have s4 := hs 4 (by decide)
  have l0 := hl 0 (by decide)
  have l1 := hl 1 (by decide)
  have l2 := hl 2 (by decide)
  have l3 := hl 3 (by decide)
  have l4 := hl 4 (by decide)
  have r0 : ν.1 8 5 = r 0 := hr 0 (by decide)
  have r1 : ν.1 8 6 = r 1 := hr 1 (by decide)
  have r2 : ν.1 8 7 = r 2 := hr 2 (by decide)
  have r3 : ν.1 8 8 = r 3 := hr 3 (by decide)
  have r4 : ν.1 8 9 = r 4 := hr 4 (by decide)
  refine ⟨sd_st (sd_st (sd_st (sd_st (sd_st ν 7 1 ((s 2 + l 3) + r 4)) 7 2 ((s 3 + l 4) + r 0)) 7 3 ((s 4 + l 0) + r 1)) 7 4 ((s 0 + l 1) + r 2)) 7 0 ((s 1 + l 2) + r 3), ?_, (Fr.st (by decide)).tr ((Fr.st (by decide)).tr ((Fr.st (by decide)).tr ((Fr.st (by decide)).tr (Fr.st (by decide))))), fun j hj => ?_⟩
  · simp (disch := decide) only [ix8_0, ix8_1, ix8_2, ix8_3, ix8_4, ix10_0, ix10_1, ix10_2, ix10_3, ix10_4, ix10_5, ix10_6, ix10_7, ix10_8, ix10_9, pb_gd, pb_let, k0, k1, k2, k3, k4, k5, k6, k7, k8, k9, pa_sn, pa_ss, pa_sc, s0, s1, s2, s3, s4, l0, l1, l2, l3, l4, r0, r1, r2, r3, r4]
  · unfold fnR
    rcases (show j = 0 ∨ j = 1 ∨ j = 2 ∨ j = 3 ∨ j = 4 by omega) with rfl | rfl | rfl | rfl | rfl <;> simp (disch := decide) only [pa_sn, pa_ss] <;> rfl
theorem blkR {nb r : Nat} (hnb : nb ≤ 3) {kk : sd_Me → Option sd_Me} {kk' : Int32 → sd_Me → Option sd_Me} : ∀ (m b f g : Nat) (μ ν : sd_Me), nb = b + m → m < f → m < g → HF 14 μ → (∀ p, p < 192 → μ.1 15 p = ν.1 5 p) → (∀ j, j < 5 → μ.1 18 j = ν.1 7 j) → ∃ μ' ν', fn_BlockDigest_replaceTop_r14_r2_L31 kk f (nI (64 * nb)) (nI (64 * b)) μ = kk μ' ∧ fn_Model_small_r0_L49 kk' g (nI r) (nI nb) (nI b) ν = kk' (nI r) ν' ∧ Fr [17, 18, 19, 20] μ μ' ∧ Fr [6, 7, 8] ν ν' ∧ (∀ j, j < 5 → μ'.1 18 j = ν'.1 7 j) := by
  intro m
  induction m with
  | zero =>
    intro b f g μ ν h0 hf hg hh hp hs
    obtain ⟨f, rfl⟩ : ∃ g, f = g + 1 := ⟨f - 1, by omega⟩
    obtain ⟨g, rfl⟩ : ∃ h, g = h + 1 := ⟨g - 1, by omega⟩
    refine ⟨μ, ν, ?_, ?_, Fr.rf, Fr.rf, hs⟩
    · rw [fn_BlockDigest_replaceTop_r14_r2_L31, if_pos ((nI_leI (by omega) (by omega)).mpr (by omega))]
    · rw [fn_Model_small_r0_L49, if_pos ((nI_leI (by omega) (by omega)).mpr (by omega))]
  | succ m ih =>
    intro b f g μ ν h0 hf hg hh hp hs
    obtain ⟨f, rfl⟩ : ∃ g, f = g + 1 := ⟨f - 1, by omega⟩
    obtain ⟨g, rfl⟩ : ∃ h, g = h + 1 := ⟨g - 1, by omega⟩
    obtain ⟨μ1, a1, a2, a3⟩ := rdR (a := 64 * b) (by omega) hh
    obtain ⟨μ2, b1, b3, b4⟩ := mixR (μ := μ1)
    have e18 : μ1.1 18 = μ.1 18 := a2.1 18 (by decide)
    rw [e18] at b4
    obtain ⟨ν1, c1, c2, c3, c4⟩ := swL (b := b) (by omega) (x := nI r) (y := nI nb) (kk := fun x10 x11 x12 m13 => fn_Model_small_r0_L137 (fun x15 x16 x17 m18 => fn_Model_small_r0_L169 (fun x26 x27 x28 m29 => sd_gd (sd_ix (1 : Int32) 8) (sd_gd (sd_ix (2 : Int32) 10) (sd_gd (sd_ix (8 : Int32) 10) (sd_let ((((m29.1 7 (Int32.toNatClampNeg (1 : Int32))) + (m29.1 8 (Int32.toNatClampNeg (2 : Int32)))) + (m29.1 8 (Int32.toNatClampNeg (8 : Int32))))) (fun x30 => sd_gd (sd_ix (2 : Int32) 8) (sd_gd (sd_ix (3 : Int32) 10) (sd_gd (sd_ix (9 : Int32) 10) (sd_gd (sd_ix (1 : Int32) 8) (sd_let (sd_st m29 7 (Int32.toNatClampNeg (1 : Int32)) (((m29.1 7 (Int32.toNatClampNeg (2 : Int32))) + (m29.1 8 (Int32.toNatClampNeg (3 : Int32)))) + (m29.1 8 (Int32.toNatClampNeg (9 : Int32))))) (fun m31 => sd_gd (sd_ix (3 : Int32) 8) (sd_gd (sd_ix (4 : Int32) 10) (sd_gd (sd_ix (5 : Int32) 10) (sd_gd (sd_ix (2 : Int32) 8) (sd_let (sd_st m31 7 (Int32.toNatClampNeg (2 : Int32)) (((m31.1 7 (Int32.toNatClampNeg (3 : Int32))) + (m31.1 8 (Int32.toNatClampNeg (4 : Int32)))) + (m31.1 8 (Int32.toNatClampNeg (5 : Int32))))) (fun m32 => sd_gd (sd_ix (4 : Int32) 8) (sd_gd (sd_ix (0 : Int32) 10) (sd_gd (sd_ix (6 : Int32) 10) (sd_gd (sd_ix (3 : Int32) 8) (sd_let (sd_st m32 7 (Int32.toNatClampNeg (3 : Int32)) (((m32.1 7 (Int32.toNatClampNeg (4 : Int32))) + (m32.1 8 (Int32.toNatClampNeg (0 : Int32)))) + (m32.1 8 (Int32.toNatClampNeg (6 : Int32))))) (fun m33 => sd_gd (sd_ix (0 : Int32) 8) (sd_gd (sd_ix (1 : Int32) 10) (sd_gd (sd_ix (7 : Int32) 10) (sd_gd (sd_ix (4 : Int32) 8) (sd_let (sd_st m33 7 (Int32.toNatClampNeg (4 : Int32)) (((m33.1 7 (Int32.toNatClampNeg (0 : Int32))) + (m33.1 8 (Int32.toNatClampNeg (1 : Int32)))) + (m33.1 8 (Int32.toNatClampNeg (7 : Int32))))) (fun m34 => sd_gd (sd_ix (0 : Int32) 8) (sd_let (sd_st m34 7 (Int32.toNatClampNeg (0 : Int32)) x30) (fun m35 => fn_Model_small_r0_L49 kk' g (x26) (x27) ((x28 + (1 : Int32))) m35))))))))))))))))))))))))))) 10000 (x15) (x16) (x17) ((0 : Int32)) m18) 10000 (x10) (x11) (x12) ((0 : Int32)) m13) 16 0 10000 ν (by omega) (by omega)
    obtain ⟨ν2, d1, d2, d3, d4⟩ := svL (x := nI r) (y := nI nb) (z := nI b) (kk := fun x15 x16 x17 m18 => fn_Model_small_r0_L169 (fun x26 x27 x28 m29 => sd_gd (sd_ix (1 : Int32) 8) (sd_gd (sd_ix (2 : Int32) 10) (sd_gd (sd_ix (8 : Int32) 10) (sd_let ((((m29.1 7 (Int32.toNatClampNeg (1 : Int32))) + (m29.1 8 (Int32.toNatClampNeg (2 : Int32)))) + (m29.1 8 (Int32.toNatClampNeg (8 : Int32))))) (fun x30 => sd_gd (sd_ix (2 : Int32) 8) (sd_gd (sd_ix (3 : Int32) 10) (sd_gd (sd_ix (9 : Int32) 10) (sd_gd (sd_ix (1 : Int32) 8) (sd_let (sd_st m29 7 (Int32.toNatClampNeg (1 : Int32)) (((m29.1 7 (Int32.toNatClampNeg (2 : Int32))) + (m29.1 8 (Int32.toNatClampNeg (3 : Int32)))) + (m29.1 8 (Int32.toNatClampNeg (9 : Int32))))) (fun m31 => sd_gd (sd_ix (3 : Int32) 8) (sd_gd (sd_ix (4 : Int32) 10) (sd_gd (sd_ix (5 : Int32) 10) (sd_gd (sd_ix (2 : Int32) 8) (sd_let (sd_st m31 7 (Int32.toNatClampNeg (2 : Int32)) (((m31.1 7 (Int32.toNatClampNeg (3 : Int32))) + (m31.1 8 (Int32.toNatClampNeg (4 : Int32)))) + (m31.1 8 (Int32.toNatClampNeg (5 : Int32))))) (fun m32 => sd_gd (sd_ix (4 : Int32) 8) (sd_gd (sd_ix (0 : Int32) 10) (sd_gd (sd_ix (6 : Int32) 10) (sd_gd (sd_ix (3 : Int32) 8) (sd_let (sd_st m32 7 (Int32.toNatClampNeg (3 : Int32)) (((m32.1 7 (Int32.toNatClampNeg (4 : Int32))) + (m32.1 8 (Int32.toNatClampNeg (0 : Int32)))) + (m32.1 8 (Int32.toNatClampNeg (6 : Int32))))) (fun m33 => sd_gd (sd_ix (0 : Int32) 8) (sd_gd (sd_ix (1 : Int32) 10) (sd_gd (sd_ix (7 : Int32) 10) (sd_gd (sd_ix (4 : Int32) 8) (sd_let (sd_st m33 7 (Int32.toNatClampNeg (4 : Int32)) (((m33.1 7 (Int32.toNatClampNeg (0 : Int32))) + (m33.1 8 (Int32.toNatClampNeg (1 : Int32)))) + (m33.1 8 (Int32.toNatClampNeg (7 : Int32))))) (fun m34 => sd_gd (sd_ix (0 : Int32) 8) (sd_let (sd_st m34 7 (Int32.toNatClampNeg (0 : Int32)) x30) (fun m35 => fn_Model_small_r0_L49 kk' g (x26) (x27) ((x28 + (1 : Int32))) m35))))))))))))))))))))))))))) 10000 (x15) (x16) (x17) ((0 : Int32)) m18) 10 0 10000 ν1 (by omega) (by omega)
    obtain ⟨ν3, f1, f2, f3, f4⟩ := srL (x := nI r) (y := nI nb) (z := nI b) (kk := fun x26 x27 x28 m29 => sd_gd (sd_ix (1 : Int32) 8) (sd_gd (sd_ix (2 : Int32) 10) (sd_gd (sd_ix (8 : Int32) 10) (sd_let ((((m29.1 7 (Int32.toNatClampNeg (1 : Int32))) + (m29.1 8 (Int32.toNatClampNeg (2 : Int32)))) + (m29.1 8 (Int32.toNatClampNeg (8 : Int32))))) (fun x30 => sd_gd (sd_ix (2 : Int32) 8) (sd_gd (sd_ix (3 : Int32) 10) (sd_gd (sd_ix (9 : Int32) 10) (sd_gd (sd_ix (1 : Int32) 8) (sd_let (sd_st m29 7 (Int32.toNatClampNeg (1 : Int32)) (((m29.1 7 (Int32.toNatClampNeg (2 : Int32))) + (m29.1 8 (Int32.toNatClampNeg (3 : Int32)))) + (m29.1 8 (Int32.toNatClampNeg (9 : Int32))))) (fun m31 => sd_gd (sd_ix (3 : Int32) 8) (sd_gd (sd_ix (4 : Int32) 10) (sd_gd (sd_ix (5 : Int32) 10) (sd_gd (sd_ix (2 : Int32) 8) (sd_let (sd_st m31 7 (Int32.toNatClampNeg (2 : Int32)) (((m31.1 7 (Int32.toNatClampNeg (3 : Int32))) + (m31.1 8 (Int32.toNatClampNeg (4 : Int32)))) + (m31.1 8 (Int32.toNatClampNeg (5 : Int32))))) (fun m32 => sd_gd (sd_ix (4 : Int32) 8) (sd_gd (sd_ix (0 : Int32) 10) (sd_gd (sd_ix (6 : Int32) 10) (sd_gd (sd_ix (3 : Int32) 8) (sd_let (sd_st m32 7 (Int32.toNatClampNeg (3 : Int32)) (((m32.1 7 (Int32.toNatClampNeg (4 : Int32))) + (m32.1 8 (Int32.toNatClampNeg (0 : Int32)))) + (m32.1 8 (Int32.toNatClampNeg (6 : Int32))))) (fun m33 => sd_gd (sd_ix (0 : Int32) 8) (sd_gd (sd_ix (1 : Int32) 10) (sd_gd (sd_ix (7 : Int32) 10) (sd_gd (sd_ix (4 : Int32) 8) (sd_let (sd_st m33 7 (Int32.toNatClampNeg (4 : Int32)) (((m33.1 7 (Int32.toNatClampNeg (0 : Int32))) + (m33.1 8 (Int32.toNatClampNeg (1 : Int32)))) + (m33.1 8 (Int32.toNatClampNeg (7 : Int32))))) (fun m34 => sd_gd (sd_ix (0 : Int32) 8) (sd_let (sd_st m34 7 (Int32.toNatClampNeg (0 : Int32)) x30) (fun m35 => fn_Model_small_r0_L49 kk' g (x26) (x27) ((x28 + (1 : Int32))) m35))))))))))))))))))))))))))) 80 0 10000 ν2 (ν.1 7) (ν.1 7) (by omega) (by omega) (fun j hj => by rw [d4 j (by omega) (by omega), Nat.mod_eq_of_lt hj, c2.1 7 (by decide)]) (fun j hj => by rw [d4 (5 + j) (by omega) (by omega), show (5 + j) % 5 = j by omega, c2.1 7 (by decide)])
    have e7 : ν3.1 7 = ν.1 7 := by rw [f2.1 7 (by decide), d2.1 7 (by decide), c2.1 7 (by decide)]
    have e6 : ν2.1 6 = ν1.1 6 := d2.1 6 (by decide)
    rw [e6] at f3 f4
    obtain ⟨ν4, g1, g2, g4⟩ := upR (kk' := kk') (g := g) (x := nI r) (y := nI nb) (z := nI b) (fun j _ => by rw [e7]) f3 f4
    have hww : ∀ j, j < 16 → μ1.1 17 j = ν1.1 6 j := by
      intro j hj
      rw [a3 j hj, c4 j (by omega) hj]
      unfold wdR
      rw [hp _ (by omega), hp _ (by omega), hp _ (by omega), hp _ (by omega)]
    have hs' : ∀ j, j < 5 → μ2.1 18 j = ν4.1 7 j := by
      intro j hj
      rw [b4 j hj, g4 j hj]
      exact congrFun (fnR_c hs (rnL_c hww 80 0 _ _ (by omega) hs) (rnR_c hww 80 0 _ _ (by omega) hs)) j
    have hh2 : HF 14 μ2 := by
      unfold HF
      rw [b3.1 14 (by decide), a2.1 14 (by decide)]
      exact hh
    obtain ⟨μ', ν', i1, i2, i3, i4, i5⟩ := ih (b + 1) f g μ2 ν4 (by omega) (by omega) (by omega) hh2 (fun p hp' => by rw [b3.1 15 (by decide), a2.1 15 (by decide), g2.1 5 (by decide), f2.1 5 (by decide), d2.1 5 (by decide), c2.1 5 (by decide)]; exact hp p hp') hs'
    refine ⟨μ', ν', ?_, ?_, ((a2.mono (by decide)).tr (b3.mono (by decide))).tr i3, (((c2.mono (by decide)).tr (d2.mono (by decide))).tr ((f2.mono (by decide)).tr (g2.mono (by decide)))).tr i4, i5⟩
    · rw [fn_BlockDigest_replaceTop_r14_r2_L31, if_neg (nI_ge' (by omega) (by omega)), a1, pa_bv, b1, pa_bv, pl64, nI_add]
      exact i1
    · rw [fn_Model_small_r0_L49, if_neg (nI_ge' (by omega) (by omega))]
      refine c1.trans ?_
      refine d1.trans ?_
      refine f1.trans ?_
      refine g1.trans ?_
      rw [show nI b + 1 = nI (b + 1) from nI_add b 1]
      exact i2
def h0R (ν : sd_Me) : sd_Me := sd_st (sd_st (sd_st (sd_st (sd_st ν 7 0 1732584193) 7 1 (-271733879)) 7 2 (-1732584194)) 7 3 271733878) 7 4 (-1009589776)
theorem h0R_fr {ν : sd_Me} : Fr [7] ν (h0R ν) := (Fr.st (by decide)).tr ((Fr.st (by decide)).tr ((Fr.st (by decide)).tr ((Fr.st (by decide)).tr (Fr.st (by decide)))))
theorem h0R_at {ν : sd_Me} : ∀ j, j < 5 → (h0R ν).1 7 j = tabX0 j := by
  intro j hj
  unfold h0R
  rcases (show j = 0 ∨ j = 1 ∨ j = 2 ∨ j = 3 ∨ j = 4 by omega) with rfl | rfl | rfl | rfl | rfl <;> simp (disch := decide) only [pa_sn, pa_ss] <;> rfl
theorem small_eq {r : Int32} {ν : sd_Me} : fn_Model_small_r0 r ν = sd_bi (fn_Model_pad_r0 r (0 : Int32) ν) (fun x2 m1 => fn_Model_small_r0_L49 (fun x36 m37 => sd_gd (sd_ix x36 140) (sd_let (sd_st m37 2 (Int32.toNatClampNeg x36) (20 : Int32)) (fun m38 => fn_Model_small_r0_L538 (fun m40 => some m40) 10000 (x36) ((0 : Int32)) m38))) 10000 r (x2) ((0 : Int32)) (h0R m1)) := by
  unfold fn_Model_small_r0
  refine bi_ext fun x2 m1 => ?_
  rw [ix8_0, ix8_1, ix8_2, ix8_3, ix8_4, pb_gd, pb_let, pb_gd, pb_let, pb_gd, pb_let, pb_gd, pb_let, pb_gd, pb_let]
  rfl
theorem repR_eq {μ : sd_Me} : fn_BlockDigest_replaceTop_r14_r2 μ = sd_bi (fn_Elements_lengthAt_r2 (0 : Int32) μ) (fun x2 m1 => if x2 < (0 : Int32) then some m1 else if x2 ≤ (120 : Int32) then sd_bi (fn_BlockDigest_pad_r14_r2 x2 m1) (fun x4 m3 => sd_bv (fn_Ripemd160_begin_r14 m3) (fun m5 => fn_BlockDigest_replaceTop_r14_r2_L31 (fun m8 => fn_BlockDigest_replaceTop_r14_r2_L56 (fun m10 => sd_bv (fn_Elements_drop_r2 (1 : Int32) m10) (fun m11 => sd_bv (fn_Elements_push_r2_r16 (0 : Int32) (20 : Int32) m11) (fun m12 => some m12))) 10000 ((0 : Int32)) m8) 10000 (x4) ((0 : Int32)) m5)) else some m1) := by
  unfold fn_BlockDigest_replaceTop_r14_r2
  rfl
theorem sim_rip {μ ν : sd_Me} {S T : List El} {e : El} (hx : AX μ (e :: S) T) (hm : AM ν (e :: S) T) (hh : HF 14 μ) : ∃ (e' : El) (μ' ν' : sd_Me), fn_BlockDigest_replaceTop_r14_r2 μ = some μ' ∧ fn_Model_small_r0 (nI S.length) ν = some ν' ∧ AX μ' (e' :: S) T ∧ AM ν' (e' :: S) T ∧ Fr [2, 3, 4, 15, 16, 17, 18, 19, 20] μ μ' ∧ Fr [1, 2, 5, 6, 7, 8] ν ν' := by
  have hS : 0 < (e :: S).length := by rw [List.length_cons]; omega
  have h64 := hx.d.2.2
  rw [List.length_cons] at h64
  have hok : okE e := hx.ok hS
  have hR : Row ν S.length e := hm.2.2.2.1 0 hS
  have hnb : nbk e.length ≤ 3 ∧ 1 ≤ nbk e.length := by have := hok.1; unfold nbk; omega
  obtain ⟨μ1, a1, a2, a3⟩ := padRX hx hS hh
  have a1 : fn_BlockDigest_pad_r14_r2 (nI e.length) μ = some (nI (64 * nbk e.length), μ1) := a1
  have a3 : ∀ p, p < 192 → μ1.1 15 p = padR e p := a3
  obtain ⟨μ2, b1, b2, b3⟩ := beginR (μ := μ1)
  obtain ⟨ν1, c1, c2, c3⟩ := padRM (by omega) hok.1 hR
  have hh2 : HF 14 μ2 := by
    unfold HF
    rw [b2.1 14 (by decide), a2.1 14 (by decide)]
    exact hh
  obtain ⟨μ3, ν3, d1, d2, d3, d4, d5⟩ := blkR (nb := nbk e.length) (r := S.length) hnb.1 (kk := fun m8 => fn_BlockDigest_replaceTop_r14_r2_L56 (fun m10 => sd_bv (fn_Elements_drop_r2 (1 : Int32) m10) (fun m11 => sd_bv (fn_Elements_push_r2_r16 (0 : Int32) (20 : Int32) m11) (fun m12 => some m12))) 10000 ((0 : Int32)) m8) (kk' := fun x36 m37 => sd_gd (sd_ix x36 140) (sd_let (sd_st m37 2 (Int32.toNatClampNeg x36) (20 : Int32)) (fun m38 => fn_Model_small_r0_L538 (fun m40 => some m40) 10000 (x36) ((0 : Int32)) m38))) (nbk e.length) 0 10000 10000 μ2 (h0R ν1) (by omega) (by omega) (by omega) hh2 (fun p hp => by rw [b2.1 15 (by decide), h0R_fr.1 5 (by decide), a3 p hp, c3 p hp]) (fun j hj => by rw [b3 j hj, h0R_at j hj])
  have hh3 : HF 14 μ3 := by
    unfold HF
    rw [d3.1 14 (by decide)]
    exact hh2
  obtain ⟨μ4, f1, f2, f3, f4⟩ := outLR (kk := fun m10 => sd_bv (fn_Elements_drop_r2 (1 : Int32) m10) (fun m11 => sd_bv (fn_Elements_push_r2_r16 (0 : Int32) (20 : Int32) m11) (fun m12 => some m12))) 5 0 10000 μ3 (by omega) (by omega) hh3
  obtain ⟨ν4, g1, g2, g3, g4⟩ := moRL (r := S.length) (by omega) (kk := fun m40 => some m40) 20 0 10000 (sd_st ν3 2 S.length 20) (by omega) (by omega)
  have fr4 : Fr [15, 16, 17, 18, 19, 20] μ μ4 := ((a2.mono (by decide)).tr (b2.mono (by decide))).tr ((d3.mono (by decide)).tr (f2.mono (by decide)))
  have fn4 : Fr [1, 2, 5, 6, 7, 8] ν ν4 := ((c2.mono (by decide)).tr (h0R_fr.mono (by decide))).tr ((d4.mono (by decide)).tr ((Fr.st (by decide)).tr (g2.mono (by decide))))
  have hx4 := hx.fr fr4 (by decide) (by decide) (by decide) (by decide)
  have k1 := X_drop hx4 (n := 1) hS
  have k1 : fn_Elements_drop_r2 1 μ4 = some (sd_st μ4 2 4 (nI S.length)) := k1
  have k2 := AX_drop hx4 (n := 1) hS
  have k2 : AX (sd_st μ4 2 4 (nI S.length)) S T := k2
  have hb : ∀ k, k < 20 → μ4.1 16 k = sd_usr (ν3.1 7 (k / 4)) (shR (k % 4)) &&& 255 := by
    intro k hk
    have z := f4 (k / 4) (k % 4) (by omega) (by omega) (by omega)
    rw [show 4 * (k / 4) + k % 4 = k by omega, d5 (k / 4) (by omega)] at z
    exact z
  obtain ⟨μ5, l1, l2, l3⟩ := X_push16 k2 (by omega) (fun k hk => by rw [pa_sc _ _ _ _ _ (by decide), hb k hk]; exact b255 _)
  rw [pa_sc _ _ _ _ _ (by decide)] at l2
  refine ⟨cutE (μ4.1 16) 0 20, μ5, ν4, ?_, ?_, l2, ?_, (fr4.mono (by decide)).tr ((Fr.st (by decide)).tr (l3.mono (by decide))), fn4⟩
  · have e0 : fn_Elements_lengthAt_r2 0 μ = some (nI e.length, μ) := X_len hx (k := 0) hS
    have hl := hok.1
    rw [repR_eq, e0, pa_bi, if_neg (nI_pos (by omega)), if_pos (show nI e.length ≤ 120 from (nI_leI (b := 120) (by omega) (by omega)).mpr hl), a1, pa_bi, b1, pa_bv]
    refine d1.trans ?_
    refine f1.trans ?_
    show sd_bv (fn_Elements_drop_r2 (1 : Int32) μ4) (fun m11 => sd_bv (fn_Elements_push_r2_r16 (0 : Int32) (20 : Int32) m11) (fun m12 => some m12)) = some μ5
    rw [k1, pa_bv, l1, pa_bv]
  · rw [small_eq, c1, pa_bi]
    refine d2.trans ?_
    show (fun x36 m37 => sd_gd (sd_ix x36 140) (sd_let (sd_st m37 2 (Int32.toNatClampNeg x36) (20 : Int32)) (fun m38 => fn_Model_small_r0_L538 (fun m40 => some m40) 10000 (x36) ((0 : Int32)) m38))) (nI S.length) ν3 = some ν4
    show sd_gd (sd_ix (nI S.length) 140) (sd_let (sd_st ν3 2 (Int32.toNatClampNeg (nI S.length)) (20 : Int32)) (fun m38 => fn_Model_small_r0_L538 (fun m40 => some m40) 10000 (nI S.length) ((0 : Int32)) m38)) = some ν4
    rw [pa_ix (by omega) (by decide), pb_gd, pb_let, nI_clamp (by omega)]
    exact g1
  · have hd := AM_drop hm (n := 1) hS
    have hd : AM (sd_st ν 0 2 (nI S.length)) S T := hd
    refine AM_push hd (by omega) (cutE_ok (by decide) (fun k hk => by rw [Nat.zero_add, hb k hk]; exact b255 _)) ?_ ?_ ?_ ?_
    · rw [fn4.1 0 (by decide)]
      exact hm.1
    · rw [fn4.1 0 (by decide), pa_sn _ _ _ _ _ (by decide)]
    · refine ⟨?_, fun k hk => ?_⟩
      · rw [g2.1 2 (by decide), pa_ss, cutE_len]
        rfl
      · rw [cutE_len] at hk
        rw [g4 k (by omega) hk, cutE_get hk, Nat.zero_add, hb k hk, pa_sc _ _ _ _ _ (by decide)]
    · intro q hq hq2
      refine ⟨?_, fun k hk => ?_⟩
      · rw [g2.1 2 (by decide), pa_sn _ _ _ _ _ hq, d4.1 2 (by decide), h0R_fr.1 2 (by decide), c2.1 2 (by decide), pa_sc _ _ _ _ _ (by decide)]
      · rw [g3 _ (by omega), pa_sc _ _ _ _ _ (by decide), d4.1 1 (by decide), h0R_fr.1 1 (by decide), c2.1 1 (by decide), pa_sc _ _ _ _ _ (by decide)]

