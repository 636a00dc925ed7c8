/-! sha: block by block on both sides -/
theorem blkS {nb r : Nat} (hnb : nb ≤ 3) {kk : sd_Me → Option sd_Me} {kk' : Int32 → sd_Me → Option sd_Me} : ∀ (m b f g : Nat) (μ ν : sd_Me), nb = b + m → m < f → m < g → HF 9 μ → (∀ p, p < 192 → μ.1 10 p = ν.1 5 p) → (∀ j, j < 8 → μ.1 13 j = ν.1 7 j) → ∃ μ' ν', fn_BlockDigest_replaceTop_r9_r2_L31 kk f (nI (64 * nb)) (nI (64 * b)) μ = kk μ' ∧ fn_Model_wide_r0_L75 kk' g (nI r) (nI nb) (nI b) ν = kk' (nI r) ν' ∧ Fr [12, 13] μ μ' ∧ Fr [6, 7, 8] ν ν' ∧ (∀ j, j < 8 → μ'.1 13 j = ν'.1 7 j) := by
  intro m
  induction m with
  | zero =>
    intro b f g μ ν h0 hf hg hh hp hs
    obtain ⟨f, rfl⟩ : ∃ g, f = g + 1 := ⟨f - 1, by omega⟩
    obtain ⟨g, rfl⟩ : ∃ h, g = h + 1 := ⟨g - 1, by omega⟩
    refine ⟨μ, ν, ?_, ?_, Fr.rf, Fr.rf, hs⟩
    · rw [fn_BlockDigest_replaceTop_r9_r2_L31, if_pos ((nI_leI (by omega) (by omega)).mpr (by omega))]
    · rw [fn_Model_wide_r0_L75, if_pos ((nI_leI (by omega) (by omega)).mpr (by omega))]
  | succ m ih =>
    intro b f g μ ν h0 hf hg hh hp hs
    obtain ⟨f, rfl⟩ : ∃ g, f = g + 1 := ⟨f - 1, by omega⟩
    obtain ⟨g, rfl⟩ : ∃ h, g = h + 1 := ⟨g - 1, by omega⟩
    obtain ⟨μ1, a1, a2, a3⟩ := rdS (a := 64 * b) (by omega) hh
    obtain ⟨w, μ2, b1, b2, b3, b4⟩ := mixS (μ := μ1) (f := μ.1 10) (b := b) a3
    have e13 : μ1.1 13 = μ.1 13 := a2.1 13 (by decide)
    rw [e13] at b4
    obtain ⟨ν1, c1, c2, c3, c4, c5⟩ := mwL (b := b) (by omega) (x := nI r) (y := nI nb) (kk := fun x22 x23 x24 m25 => fn_Model_wide_r0_L282 (fun x27 x28 x29 m30 => fn_Model_wide_r0_L312 (fun x55 x56 x57 m58 => fn_Model_wide_r0_L554 (fun x60 x61 x62 m63 => fn_Model_wide_r0_L75 kk' g (x60) (x61) ((x62 + (1 : Int32))) m63) 10000 (x55) (x56) (x57) ((0 : Int32)) m58) 10000 (x27) (x28) (x29) ((0 : Int32)) m30) 10000 (x22) (x23) (x24) ((0 : Int32)) m25) 64 0 10000 ν (by omega) (by omega)
    obtain ⟨ν2, d1, d2, d3, d4⟩ := mvL (x := nI r) (y := nI nb) (z := nI b) (kk := fun x27 x28 x29 m30 => fn_Model_wide_r0_L312 (fun x55 x56 x57 m58 => fn_Model_wide_r0_L554 (fun x60 x61 x62 m63 => fn_Model_wide_r0_L75 kk' g (x60) (x61) ((x62 + (1 : Int32))) m63) 10000 (x55) (x56) (x57) ((0 : Int32)) m58) 10000 (x27) (x28) (x29) ((0 : Int32)) m30) 8 0 10000 ν1 (by omega) (by omega)
    obtain ⟨ν3, f1, f2, f3⟩ := mrL (x := nI r) (y := nI nb) (z := nI b) (kk := fun x55 x56 x57 m58 => fn_Model_wide_r0_L554 (fun x60 x61 x62 m63 => fn_Model_wide_r0_L75 kk' g (x60) (x61) ((x62 + (1 : Int32))) m63) 10000 (x55) (x56) (x57) ((0 : Int32)) m58) 64 0 10000 ν2 (ν2.1 8) (by omega) (by omega) (fun _ _ => rfl)
    obtain ⟨ν4, g1, g2, g3, g4⟩ := maL (x := nI r) (y := nI nb) (z := nI b) (kk := fun x60 x61 x62 m63 => fn_Model_wide_r0_L75 kk' g (x60) (x61) ((x62 + (1 : Int32))) m63) 8 0 10000 ν3 (by omega) (by omega)
    have hW : ISW (ν1.1 6) (ν.1 5) b := ⟨fun j hj => c4 j (by omega) hj, fun j h1 h2 => c5 j (by omega) h1 h2⟩
    have hww : ∀ j, j < 64 → w j = ν1.1 6 j := ISW.u (by omega) hp b2 hW 64 (Nat.le_refl _)
    have hs' : ∀ j, j < 8 → μ2.1 13 j = ν4.1 7 j := by
      intro j hj
      rw [b4 j hj, g4 j (by omega) hj, f3 j hj, f2.1 7 (by decide), d2.1 7 (by decide), c2.1 7 (by decide), hs j hj, d2.1 6 (by decide)]
      rw [rnS_c hww 64 0 (μ.1 13) (ν2.1 8) (by omega) (fun k hk => by rw [d4 k (by omega) hk, c2.1 7 (by decide), hs k hk]) j hj]
    have hh2 : HF 9 μ2 := by
      unfold HF
      rw [b3.1 9 (by decide), a2.1 9 (by decide)]
      exact hh
    obtain ⟨μ', ν', i1, i2, i3, i4, i5⟩ := ih (b + 1) f g μ2 ν4 (by omega) (by omega) (by omega) hh2 (fun p hp' => by rw [b3.1 10 (by decide), a2.1 10 (by decide), g2.1 5 (by decide), f2.1 5 (by decide), d2.1 5 (by decide), c2.1 5 (by decide)]; exact hp p hp') hs'
    refine ⟨μ', ν', ?_, ?_, ((a2.mono (by decide)).tr b3).tr i3, (((c2.mono (by decide)).tr (d2.mono (by decide))).tr ((f2.mono (by decide)).tr (g2.mono (by decide)))).tr i4, i5⟩
    · rw [fn_BlockDigest_replaceTop_r9_r2_L31, if_neg (nI_ge' (by omega) (by omega)), a1, pa_bv, b1, pa_bv, pl64, nI_add]
      exact i1
    · rw [fn_Model_wide_r0_L75, if_neg (nI_ge' (by omega) (by omega))]
      refine c1.trans ?_
      refine d1.trans ?_
      refine f1.trans ?_
      refine g1.trans ?_
      show fn_Model_wide_r0_L75 kk' g (nI r) (nI nb) (nI b + nI 1) ν4 = _
      rw [nI_add]
      exact i2
def h0S (ν : sd_Me) : sd_Me := sd_st (sd_st (sd_st (sd_st (sd_st (sd_st (sd_st (sd_st ν 7 0 1779033703) 7 1 (-1150833019)) 7 2 1013904242) 7 3 (-1521486534)) 7 4 1359893119) 7 5 (-1694144372)) 7 6 528734635) 7 7 1541459225
theorem h0S_fr {ν : sd_Me} : Fr [7] ν (h0S ν) := (Fr.st (by decide)).tr ((Fr.st (by decide)).tr ((Fr.st (by decide)).tr ((Fr.st (by decide)).tr ((Fr.st (by decide)).tr ((Fr.st (by decide)).tr ((Fr.st (by decide)).tr (Fr.st (by decide))))))))
theorem h0S_at {ν : sd_Me} : ∀ j, j < 8 → (h0S ν).1 7 j = tabX1 j := by
  intro j hj
  unfold h0S
  rcases (show j = 0 ∨ j = 1 ∨ j = 2 ∨ j = 3 ∨ j = 4 ∨ j = 5 ∨ j = 6 ∨ j = 7 by omega) with rfl | rfl | rfl | rfl | rfl | rfl | rfl | rfl <;> simp (disch := decide) only [pa_sn, pa_ss] <;> rfl
theorem wide_eq {r : Int32} {ν : sd_Me} : fn_Model_wide_r0 r ν = sd_bi (fn_Model_pad_r0 r (1 : Int32) ν) (fun x2 m1 => fn_Model_wide_r0_L75 (fun x64 m65 => sd_gd (sd_ix x64 140) (sd_let (sd_st m65 2 (Int32.toNatClampNeg x64) (32 : Int32)) (fun m66 => fn_Model_wide_r0_L605 (fun m68 => some m68) 10000 (x64) ((0 : Int32)) m66))) 10000 r (x2) ((0 : Int32)) (h0S m1)) := by
  unfold fn_Model_wide_r0
  refine bi_ext fun x2 m1 => ?_
  have i0 : sd_ix (0 : Int32) 8 = true := pa_ix (n := 0) (by decide) (by decide)
  have i1 : sd_ix (1 : Int32) 8 = true := pa_ix (n := 1) (by decide) (by decide)
  have i2 : sd_ix (2 : Int32) 8 = true := pa_ix (n := 2) (by decide) (by decide)
  have i3 : sd_ix (3 : Int32) 8 = true := pa_ix (n := 3) (by decide) (by decide)
  have i4 : sd_ix (4 : Int32) 8 = true := pa_ix (n := 4) (by decide) (by decide)
  have i5 : sd_ix (5 : Int32) 8 = true := pa_ix (n := 5) (by decide) (by decide)
  have i6 : sd_ix (6 : Int32) 8 = true := pa_ix (n := 6) (by decide) (by decide)
  have i7 : sd_ix (7 : Int32) 8 = true := pa_ix (n := 7) (by decide) (by decide)
  rw [i0, i1, i2, i3, i4, i5, i6, i7, pb_gd, pb_let, pb_gd, pb_let, pb_gd, pb_let, pb_gd, pb_let, pb_gd, pb_let, pb_gd, pb_let, pb_gd, pb_let, pb_gd, pb_let]
  rfl
theorem repS_eq {μ : sd_Me} : fn_BlockDigest_replaceTop_r9_r2 μ = sd_bi (fn_Elements_lengthAt_r2 (0 : Int32) μ) (fun x2 m1 => if x2 < (0 : Int32) then some m1 else if x2 ≤ (120 : Int32) then sd_bi (fn_BlockDigest_pad_r9_r2 x2 m1) (fun x4 m3 => sd_bv (fn_Sha256_begin_r9 m3) (fun m5 => fn_BlockDigest_replaceTop_r9_r2_L31 (fun m8 => fn_BlockDigest_replaceTop_r9_r2_L56 (fun m10 => sd_bv (fn_Elements_drop_r2 (1 : Int32) m10) (fun m11 => sd_bv (fn_Elements_push_r2_r11 (0 : Int32) (32 : Int32) m11) (fun m12 => some m12))) 10000 ((0 : Int32)) m8) 10000 (x4) ((0 : Int32)) m5)) else some m1) := by
  unfold fn_BlockDigest_replaceTop_r9_r2
  rfl
theorem sim_sha {μ ν : sd_Me} {S T : List El} {e : El} (hx : AX μ (e :: S) T) (hm : AM ν (e :: S) T) (hh : HF 9 μ) : ∃ (e' : El) (μ' ν' : sd_Me), fn_BlockDigest_replaceTop_r9_r2 μ = some μ' ∧ fn_Model_wide_r0 (nI S.length) ν = some ν' ∧ AX μ' (e' :: S) T ∧ AM ν' (e' :: S) T ∧ Fr [2, 3, 4, 10, 11, 12, 13] μ μ' ∧ Fr [1, 2, 5, 6, 7, 8] ν ν' := by
  have hS : 0 < (e :: S).length := by rw [List.length_cons]; omega
  have h64 := hx.d.2.2
  rw [List.length_cons] at h64
  have hok : okE e := hx.ok hS
  have hR : Row ν S.length e := hm.2.2.2.1 0 hS
  have hnb : nbk e.length ≤ 3 ∧ 1 ≤ nbk e.length := by have := hok.1; unfold nbk; omega
  obtain ⟨μ1, a1, a2, a3⟩ := padSX hx hS hh
  have a1 : fn_BlockDigest_pad_r9_r2 (nI e.length) μ = some (nI (64 * nbk e.length), μ1) := a1
  have a3 : ∀ p, p < 192 → μ1.1 10 p = padS e p := a3
  obtain ⟨μ2, b1, b2, b3⟩ := beginS (μ := μ1)
  obtain ⟨ν1, c1, c2, c3⟩ := padSM (by omega) hok.1 hR
  have hh2 : HF 9 μ2 := by
    unfold HF
    rw [b2.1 9 (by decide), a2.1 9 (by decide)]
    exact hh
  obtain ⟨μ3, ν3, d1, d2, d3, d4, d5⟩ := blkS (nb := nbk e.length) (r := S.length) hnb.1 (kk := fun m8 => fn_BlockDigest_replaceTop_r9_r2_L56 (fun m10 => sd_bv (fn_Elements_drop_r2 (1 : Int32) m10) (fun m11 => sd_bv (fn_Elements_push_r2_r11 (0 : Int32) (32 : Int32) m11) (fun m12 => some m12))) 10000 ((0 : Int32)) m8) (kk' := fun x64 m65 => sd_gd (sd_ix x64 140) (sd_let (sd_st m65 2 (Int32.toNatClampNeg x64) (32 : Int32)) (fun m66 => fn_Model_wide_r0_L605 (fun m68 => some m68) 10000 (x64) ((0 : Int32)) m66))) (nbk e.length) 0 10000 10000 μ2 (h0S ν1) (by omega) (by omega) (by omega) hh2 (fun p hp => by rw [b2.1 10 (by decide), h0S_fr.1 5 (by decide), a3 p hp, c3 p hp]) (fun j hj => by rw [b3 j hj, h0S_at j hj])
  have hh3 : HF 9 μ3 := by
    unfold HF
    rw [d3.1 9 (by decide)]
    exact hh2
  obtain ⟨μ4, f1, f2, f3, f4⟩ := outLS (kk := fun m10 => sd_bv (fn_Elements_drop_r2 (1 : Int32) m10) (fun m11 => sd_bv (fn_Elements_push_r2_r11 (0 : Int32) (32 : Int32) m11) (fun m12 => some m12))) 8 0 10000 μ3 (by omega) (by omega) hh3
  obtain ⟨ν4, g1, g2, g3, g4⟩ := moSL (r := S.length) (by omega) (kk := fun m68 => some m68) 32 0 10000 (sd_st ν3 2 S.length 32) (by omega) (by omega)
  have fr4 : Fr [10, 11, 12, 13] μ μ4 := ((a2.mono (by decide)).tr (b2.mono (by decide))).tr ((d3.mono (by decide)).tr (f2.mono (by decide)))
  have fn4 : Fr [1, 2, 5, 6, 7, 8] ν ν4 := ((c2.mono (by decide)).tr (h0S_fr.mono (by decide))).tr ((d4.mono (by decide)).tr ((Fr.st (by decide)).tr (g2.mono (by decide))))
  have hx4 := hx.fr fr4 (by decide) (by decide) (by decide) (by decide)
  have k1 := X_drop hx4 (n := 1) hS
  have k1 : fn_Elements_drop_r2 1 μ4 = some (sd_st μ4 2 4 (nI S.length)) := k1
  have k2 := AX_drop hx4 (n := 1) hS
  have k2 : AX (sd_st μ4 2 4 (nI S.length)) S T := k2
  have hb : ∀ k, k < 32 → μ4.1 11 k = sd_usr (ν3.1 7 (k / 4)) (shS (k % 4)) &&& 255 := by
    intro k hk
    have z := f4 (k / 4) (k % 4) (by omega) (by omega) (by omega)
    rw [show 4 * (k / 4) + k % 4 = k by omega, d5 (k / 4) (by omega)] at z
    exact z
  obtain ⟨μ5, l1, l2, l3⟩ := X_push11 k2 (by omega) (fun k hk => by rw [pa_sc _ _ _ _ _ (by decide), hb k hk]; exact b255 _)
  rw [pa_sc _ _ _ _ _ (by decide)] at l2
  refine ⟨cutE (μ4.1 11) 0 32, μ5, ν4, ?_, ?_, l2, ?_, (fr4.mono (by decide)).tr ((Fr.st (by decide)).tr (l3.mono (by decide))), fn4⟩
  · have e0 : fn_Elements_lengthAt_r2 0 μ = some (nI e.length, μ) := X_len hx (k := 0) hS
    have hl := hok.1
    rw [repS_eq, e0, pa_bi, if_neg (nI_pos (by omega)), if_pos (show nI e.length ≤ 120 from (nI_leI (b := 120) (by omega) (by omega)).mpr hl), a1, pa_bi, b1, pa_bv]
    refine d1.trans ?_
    refine f1.trans ?_
    show sd_bv (fn_Elements_drop_r2 (1 : Int32) μ4) (fun m11 => sd_bv (fn_Elements_push_r2_r11 (0 : Int32) (32 : Int32) m11) (fun m12 => some m12)) = some μ5
    rw [k1, pa_bv, l1, pa_bv]
  · rw [wide_eq, c1, pa_bi]
    refine d2.trans ?_
    show sd_gd (sd_ix (nI S.length) 140) (sd_let (sd_st ν3 2 (Int32.toNatClampNeg (nI S.length)) (32 : Int32)) (fun m66 => fn_Model_wide_r0_L605 (fun m68 => some m68) 10000 (nI S.length) ((0 : Int32)) m66)) = some ν4
    rw [pa_ix (by omega) (by decide), pb_gd, pb_let, nI_clamp (by omega)]
    exact g1
  · have hd := AM_drop hm (n := 1) hS
    have hd : AM (sd_st ν 0 2 (nI S.length)) S T := hd
    refine AM_push hd (by omega) (cutE_ok (by decide) (fun k hk => by rw [Nat.zero_add, hb k hk]; exact b255 _)) ?_ ?_ ?_ ?_
    · rw [fn4.1 0 (by decide)]
      exact hm.1
    · rw [fn4.1 0 (by decide), pa_sn _ _ _ _ _ (by decide)]
    · refine ⟨?_, fun k hk => ?_⟩
      · rw [g2.1 2 (by decide), pa_ss, cutE_len]
        rfl
      · rw [cutE_len] at hk
        rw [g4 k (by omega) hk, cutE_get hk, Nat.zero_add, hb k hk, pa_sc _ _ _ _ _ (by decide)]
    · intro q hq hq2
      refine ⟨?_, fun k hk => ?_⟩
      · rw [g2.1 2 (by decide), pa_sn _ _ _ _ _ hq, d4.1 2 (by decide), h0S_fr.1 2 (by decide), c2.1 2 (by decide), pa_sc _ _ _ _ _ (by decide)]
      · rw [g3 _ (by omega), pa_sc _ _ _ _ _ (by decide), d4.1 1 (by decide), h0S_fr.1 1 (by decide), c2.1 1 (by decide), pa_sc _ _ _ _ _ (by decide)]
