/-! sha: words, rounds, blocks -/
def rtr (x k : Int32) : Int32 := sd_usr x k ||| x <<< ((32 - k) &&& 31)
def rcS (w : Nat → Int32) (i : Nat) : Int32 := (((((rtr (w (i - 2)) 17) ^^^ (rtr (w (i - 2)) 19)) ^^^ (sd_usr (w (i - 2)) 10)) + w (i - 7)) + (((rtr (w (i - 15)) 7) ^^^ (rtr (w (i - 15)) 18)) ^^^ (sd_usr (w (i - 15)) 3))) + w (i - 16)
theorem rcS_c {w w' : Nat → Int32} {i : Nat} (hi : 16 ≤ i) (h : ∀ j, j < i → w j = w' j) : rcS w i = rcS w' i := by
  unfold rcS
  rw [h (i - 2) (by omega), h (i - 7) (by omega), h (i - 15) (by omega), h (i - 16) (by omega)]
def t1S (k w : Int32) (s : Nat → Int32) : Int32 := (((s 7 + (((rtr (s 4) 6) ^^^ (rtr (s 4) 11)) ^^^ (rtr (s 4) 25))) + ((s 4 &&& s 5) ^^^ ((s 4 ^^^ (-1)) &&& s 6))) + k) + w
def t2S (s : Nat → Int32) : Int32 := (((rtr (s 0) 2) ^^^ (rtr (s 0) 13)) ^^^ (rtr (s 0) 22)) + (((s 0 &&& s 1) ^^^ (s 0 &&& s 2)) ^^^ (s 1 &&& s 2))
def roS (k w : Int32) (s : Nat → Int32) (j : Nat) : Int32 := if j = 0 then t1S k w s + t2S s else if j = 4 then s 3 + t1S k w s else s (j - 1)
def rnS (w : Nat → Int32) : Nat → Nat → (Nat → Int32) → (Nat → Int32)
  | 0, _, s => s
  | m + 1, i, s => rnS w m (i + 1) (roS (tabX8 i) (w i) s)
theorem rnS_c {w w' : Nat → Int32} (hw : ∀ j, j < 64 → w j = w' j) : ∀ (m i : Nat) (s s' : Nat → Int32), i + m ≤ 64 → (∀ j, j < 8 → s j = s' j) → ∀ j, j < 8 → rnS w m i s j = rnS w' m i s' j := by
  intro m
  induction m with
  | zero => intro i s s' _ h j hj; exact h j hj
  | succ m ih =>
    intro i s s' hi h
    refine ih (i + 1) _ _ (by omega) fun j hj => ?_
    unfold roS t1S t2S
    rw [hw i (by omega), h 0 (by decide), h 1 (by decide), h 2 (by decide), h 3 (by decide), h 4 (by decide), h 5 (by decide), h 6 (by decide), h 7 (by decide)]
    by_cases c : j = 0
    · rw [if_pos c, if_pos c]
    · rw [if_neg c, if_neg c, h (j - 1) (by omega)]
theorem spL {kk : sd_Me → Option sd_Me} : ∀ (m i f : Nat) (μ : sd_Me), 64 = i + m → 16 ≤ i → m < f → ∃ μ', fn_Sha256_spreadWords_r9_L3 kk f (nI i) μ = kk μ' ∧ Fr [12] μ μ' ∧ (∀ p, p < i → μ'.1 12 p = μ.1 12 p) ∧ (∀ j, i ≤ j → j < 64 → μ'.1 12 j = rcS (μ'.1 12) j) := by
  intro m
  induction m with
  | zero =>
    intro i f μ h0 hi hf
    obtain ⟨f, rfl⟩ : ∃ g, f = g + 1 := ⟨f - 1, by omega⟩
    obtain rfl : i = 64 := by omega
    refine ⟨μ, ?_, Fr.rf, fun _ _ => rfl, fun j a b => by omega⟩
    rw [fn_Sha256_spreadWords_r9_L3, if_pos (by decide)]
  | succ m ih =>
    intro i f μ h0 hi hf
    obtain ⟨f, rfl⟩ : ∃ g, f = g + 1 := ⟨f - 1, by omega⟩
    obtain ⟨μ', e1, e2, e3, e4⟩ := ih (i + 1) f (sd_st μ 12 i (rcS (μ.1 12) i)) (by omega) (by omega) (by omega)
    refine ⟨μ', ?_, (Fr.st (by decide)).tr e2, fun p hp => ?_, fun k b c => ?_⟩
    · rw [fn_Sha256_spreadWords_r9_L3, pl64, if_neg (nI_ge' (by omega) (by omega))]
      rw [show nI i - 15 = nI (i - 15) from pk_sub (b := 15) (by omega), show nI i - 2 = nI (i - 2) from pk_sub (b := 2) (by omega), show nI i - 7 = nI (i - 7) from pk_sub (b := 7) (by omega), show nI i - 16 = nI (i - 16) from pk_sub (b := 16) (by omega)]
      rw [pa_ix (by omega) (by decide), pa_gd, pa_let, pa_ix (by omega) (by decide), pa_gd, pa_let, nI_clamp (by omega), nI_clamp (by omega)]
      unfold fn_Sha256_turned
      rw [pa_bi, pa_bi, pa_let, pa_bi, pa_bi, pa_let, pa_ix (by omega) (by decide), pa_gd, pa_ix (by omega) (by decide), pa_gd, pa_ix (by omega) (by decide), pa_gd, pa_let, nI_clamp (by omega), nI_clamp (by omega), nI_clamp (by omega), pl1, nI_add]
      exact e1
    · rw [e3 p (by omega), pa_sn _ _ _ _ _ (by omega)]
    · by_cases d : k = i
      · rw [d, e3 i (by omega), pa_ss]
        exact rcS_c hi (fun j hj => by rw [e3 j (by omega), pa_sn _ _ _ _ _ (by omega)])
      · exact e4 k (by omega) c
theorem mxL {kk : Int32 → Int32 → Int32 → Int32 → Int32 → Int32 → Int32 → Int32 → sd_Me → Option sd_Me} {μ : sd_Me} : ∀ (m i f : Nat) (s : Nat → Int32), 64 = i + m → m < f → fn_Sha256_mix_r9_L70 kk f (s 0) (s 1) (s 2) (s 3) (s 4) (s 5) (s 6) (s 7) (nI i) μ = kk (rnS (μ.1 12) m i s 0) (rnS (μ.1 12) m i s 1) (rnS (μ.1 12) m i s 2) (rnS (μ.1 12) m i s 3) (rnS (μ.1 12) m i s 4) (rnS (μ.1 12) m i s 5) (rnS (μ.1 12) m i s 6) (rnS (μ.1 12) m i s 7) μ := by
  intro m
  induction m with
  | zero =>
    intro i f s h0 hf
    obtain ⟨f, rfl⟩ : ∃ g, f = g + 1 := ⟨f - 1, by omega⟩
    obtain rfl : i = 64 := by omega
    rw [fn_Sha256_mix_r9_L70, if_pos (by decide)]
    rfl
  | succ m ih =>
    intro i f s h0 hf
    obtain ⟨f, rfl⟩ : ∃ g, f = g + 1 := ⟨f - 1, by omega⟩
    have e := ih (i + 1) f (roS (tabX8 i) (μ.1 12 i) s) (by omega) (by omega)
    rw [fn_Sha256_mix_r9_L70, pl64, if_neg (nI_ge' (by omega) (by omega))]
    unfold fn_Sha256_turned
    rw [pa_bi, pa_bi, pa_bi, pa_let, pa_ix (by omega) (by decide), pa_gd, pa_gd, pa_let, pa_bi, pa_bi, pa_bi, pa_let, pa_let, pa_let, pa_let, nI_clamp (by omega), pl1, nI_add]
    exact e
def ISW (w f : Nat → Int32) (b : Nat) : Prop := (∀ j, j < 16 → w j = wdS f (64 * b + 4 * j)) ∧ ∀ j, 16 ≤ j → j < 64 → w j = rcS w j
theorem ISW.u {w w' f f' : Nat → Int32} {b : Nat} (hb : b < 3) (hf : ∀ p, p < 192 → f p = f' p) (h : ISW w f b) (g : ISW w' f' b) : ∀ n, n ≤ 64 → ∀ j, j < n → w j = w' j := by
  intro n
  induction n with
  | zero => intro _ j hj; omega
  | succ n ih =>
    intro hn j hj
    have hp := ih (by omega)
    by_cases c : j < n
    · exact hp j c
    · obtain rfl : j = n := by omega
      by_cases d : j < 16
      · rw [h.1 j d, g.1 j d]
        unfold wdS
        rw [hf _ (by omega), hf _ (by omega), hf _ (by omega), hf _ (by omega)]
      · rw [h.2 j (by omega) (by omega), g.2 j (by omega) (by omega)]
        exact rcS_c (by omega) hp
theorem pb_gd {β : Type} (x : Option β) : sd_gd true x = x := (pa_gd x).trans rfl
theorem pb_let {α β : Type} (v : α) (b : α → β) : sd_let v b = b v := (pa_let v b).trans rfl
theorem mixS {μ : sd_Me} {f : Nat → Int32} {b : Nat} (hw : ∀ j, j < 16 → μ.1 12 j = wdS f (64 * b + 4 * j)) : ∃ (w : Nat → Int32) (μ' : sd_Me), fn_Sha256_mix_r9 μ = some μ' ∧ ISW w f b ∧ Fr [12, 13] μ μ' ∧ (∀ j, j < 8 → μ'.1 13 j = μ.1 13 j + rnS w 64 0 (μ.1 13) j) := by
  obtain ⟨μ1, a1, a2, a3, a4⟩ := spL (kk := fun m14 => some m14) 48 16 10000 μ (by omega) (by omega) (by omega)
  have a1 : fn_Sha256_spreadWords_r9 μ = some μ1 := a1
  have e13 : μ1.1 13 = μ.1 13 := a2.1 13 (by decide)
  refine ⟨μ1.1 12, sd_st (sd_st (sd_st (sd_st (sd_st (sd_st (sd_st (sd_st μ1 13 0 (μ.1 13 0 + rnS (μ1.1 12) 64 0 (μ.1 13) 0)) 13 1 (μ.1 13 1 + rnS (μ1.1 12) 64 0 (μ.1 13) 1)) 13 2 (μ.1 13 2 + rnS (μ1.1 12) 64 0 (μ.1 13) 2)) 13 3 (μ.1 13 3 + rnS (μ1.1 12) 64 0 (μ.1 13) 3)) 13 4 (μ.1 13 4 + rnS (μ1.1 12) 64 0 (μ.1 13) 4)) 13 5 (μ.1 13 5 + rnS (μ1.1 12) 64 0 (μ.1 13) 5)) 13 6 (μ.1 13 6 + rnS (μ1.1 12) 64 0 (μ.1 13) 6)) 13 7 (μ.1 13 7 + rnS (μ1.1 12) 64 0 (μ.1 13) 7), ?_, ⟨fun j hj => ?_, fun j h1 h2 => a4 j h1 h2⟩, ?_, fun j hj => ?_⟩
  · unfold fn_Sha256_mix_r9
    rw [a1, pa_bv, e13]
    have i0 : sd_ix (0 : Int32) 8 = true := pa_ix (n := 0) (by decide) (by decide)
    have i1 : sd_ix (1 : Int32) 8 = true := pa_ix (n := 1) (by decide) (by decide)
    have i2 : sd_ix (2 : Int32) 8 = true := pa_ix (n := 2) (by decide) (by decide)
    have i3 : sd_ix (3 : Int32) 8 = true := pa_ix (n := 3) (by decide) (by decide)
    have i4 : sd_ix (4 : Int32) 8 = true := pa_ix (n := 4) (by decide) (by decide)
    have i5 : sd_ix (5 : Int32) 8 = true := pa_ix (n := 5) (by decide) (by decide)
    have i6 : sd_ix (6 : Int32) 8 = true := pa_ix (n := 6) (by decide) (by decide)
    have i7 : sd_ix (7 : Int32) 8 = true := pa_ix (n := 7) (by decide) (by decide)
    rw [i0, i1, i2, i3, i4, i5, i6, i7]
    rw [pb_gd, pb_let, pb_gd, pb_let, pb_gd, pb_let, pb_gd, pb_let, pb_gd, pb_let, pb_gd, pb_let, pb_gd, pb_let, pb_gd, pb_let]
    refine (mxL (μ := μ1) 64 0 10000 (μ.1 13) (by omega) (by omega)).trans ?_
    have c0 : Int32.toNatClampNeg 0 = 0 := rfl
    have c1 : Int32.toNatClampNeg 1 = 1 := rfl
    have c2 : Int32.toNatClampNeg 2 = 2 := rfl
    have c3 : Int32.toNatClampNeg 3 = 3 := rfl
    have c4 : Int32.toNatClampNeg 4 = 4 := rfl
    have c5 : Int32.toNatClampNeg 5 = 5 := rfl
    have c6 : Int32.toNatClampNeg 6 = 6 := rfl
    have c7 : Int32.toNatClampNeg 7 = 7 := rfl
    simp (disch := decide) only [pb_gd, pb_let, c0, c1, c2, c3, c4, c5, c6, c7, pa_sn, e13]
  · rw [a3 j (by omega)]
    exact hw j hj
  · exact ((a2.mono (by decide)).tr (Fr.st (by decide))).tr ((Fr.st (by decide)).tr ((Fr.st (by decide)).tr ((Fr.st (by decide)).tr ((Fr.st (by decide)).tr ((Fr.st (by decide)).tr ((Fr.st (by decide)).tr (Fr.st (by decide))))))))
  · rcases (show j = 0 ∨ j = 1 ∨ j = 2 ∨ j = 3 ∨ j = 4 ∨ j = 5 ∨ j = 6 ∨ j = 7 by omega) with rfl | rfl | rfl | rfl | rfl | rfl | rfl | rfl <;> simp (disch := decide) only [pa_sn, pa_ss]
