/-! digests: the class's rows -/
def HF (D : Nat) (μ : sd_Me) : Prop := μ.1 D 2 = (if D = 9 then 1 else 0)
def shS (k : Nat) : Int32 := 24 - 8 * nI k
def shR (k : Nat) : Int32 := 8 * nI k
def nbk (l : Nat) : Nat := (l + 72) / 64
def padS (e : El) (p : Nat) : Int32 := if p < e.length then e.getD p 0 else if p = e.length then 128 else if p = 64 * nbk e.length - 1 then nI (8 * e.length % 256) else if p = 64 * nbk e.length - 2 then nI (8 * e.length / 256) else 0
def padR (e : El) (p : Nat) : Int32 := if p < e.length then e.getD p 0 else if p = e.length then 128 else if p = 64 * nbk e.length - 8 then nI (8 * e.length % 256) else if p = 64 * nbk e.length - 7 then nI (8 * e.length / 256) else 0
def wdS (f : Nat → Int32) (q : Nat) : Int32 := (((0 ||| f q <<< (shS 0 &&& 31)) ||| f (q + 1) <<< (shS 1 &&& 31)) ||| f (q + 2) <<< (shS 2 &&& 31)) ||| f (q + 3) <<< (shS 3 &&& 31)
def wdR (f : Nat → Int32) (q : Nat) : Int32 := (((0 ||| f q <<< (shR 0 &&& 31)) ||| f (q + 1) <<< (shR 1 &&& 31)) ||| f (q + 2) <<< (shR 2 &&& 31)) ||| f (q + 3) <<< (shR 3 &&& 31)
theorem Fr.at {L : List Nat} {μ μ' : sd_Me} (h : Fr L μ μ') {c : Nat} (hc : c ∉ L) (i : Nat) : μ'.1 c i = μ.1 c i := by rw [h.1 c hc]
theorem nI_ge' {a b : Nat} (h : a < b) (hb : b < 2 ^ 31) : ¬ nI b ≤ nI a := fun z => by have := (nI_leI hb (by omega)).mp z; omega
theorem byS : ∀ l, l < 121 → sd_usr (nI (8 * l)) (shS 0) &&& 255 = 0 ∧ sd_usr (nI (8 * l)) (shS 1) &&& 255 = 0 ∧ sd_usr (nI (8 * l)) (shS 2) &&& 255 = nI (8 * l / 256) ∧ sd_usr (nI (8 * l)) (shS 3) &&& 255 = nI (8 * l % 256) := by decide +kernel
theorem byR : ∀ l, l < 121 → sd_usr (nI (8 * l)) (shR 0) &&& 255 = nI (8 * l % 256) ∧ sd_usr (nI (8 * l)) (shR 1) &&& 255 = nI (8 * l / 256) ∧ sd_usr (nI (8 * l)) (shR 2) &&& 255 = 0 ∧ sd_usr (nI (8 * l)) (shR 3) &&& 255 = 0 := by decide +kernel
theorem b255 (x : Int32) : isB (x &&& 255) := pk_andE x 8 (by decide)
theorem fillS {kk : sd_Me → Option sd_Me} : ∀ (m i f : Nat) (μ : sd_Me), 192 = i + m → m < f → ∃ μ', fn_Arrays_fill_r10_L5 kk f 0 (nI i) (nI 192) μ = kk μ' ∧ Fr [10] μ μ' ∧ (∀ p, p < i → μ'.1 10 p = μ.1 10 p) ∧ (∀ p, i ≤ p → p < 192 → μ'.1 10 p = 0) := by
  intro m
  induction m with
  | zero =>
    intro i f μ h0 hf
    obtain ⟨f, rfl⟩ : ∃ g, f = g + 1 := ⟨f - 1, by omega⟩
    refine ⟨μ, ?_, Fr.rf, fun _ _ => rfl, fun p a b => by omega⟩
    rw [fn_Arrays_fill_r10_L5, if_pos ((nI_leI (by omega) (by omega)).mpr (by omega))]
  | succ m ih =>
    intro i f μ h0 hf
    obtain ⟨f, rfl⟩ : ∃ g, f = g + 1 := ⟨f - 1, by omega⟩
    obtain ⟨μ', e1, e2, e3, e4⟩ := ih (i + 1) f (sd_st μ 10 i 0) (by omega) (by omega)
    refine ⟨μ', ?_, (Fr.st (by decide)).tr e2, fun p hp => ?_, fun p a b => ?_⟩
    · rw [fn_Arrays_fill_r10_L5, if_neg (nI_ge' (by omega) (by omega)), pa_ix (by omega) (by decide), pa_gd, pa_let, nI_clamp (by omega), pl1, nI_add]
      exact e1
    · rw [e3 p (by omega), pa_sn _ _ _ _ _ (by omega)]
    · by_cases c : p = i
      · rw [e3 p (by omega), c, pa_ss]
      · exact e4 p (by omega) b
theorem shS_of {μ : sd_Me} (h : HF 9 μ) {k : Nat} : fn_BlockDigest_shiftOf_r9 (nI k) μ = some (shS k, μ) := by
  unfold fn_BlockDigest_shiftOf_r9
  rw [h]
  rfl
theorem wrLS10 {x : Int32} {a : Nat} (ha : a + 4 ≤ 192) {kk : sd_Me → Option sd_Me} : ∀ (m i f : Nat) (μ : sd_Me), 4 = i + m → m < f → HF 9 μ → ∃ μ', fn_BlockDigest_write_r9_r10_L16 kk f x (nI a) (nI i) μ = kk μ' ∧ Fr [10] μ μ' ∧ (∀ p, p < a + i ∨ a + 4 ≤ p → μ'.1 10 p = μ.1 10 p) ∧ (∀ k, i ≤ k → k < 4 → μ'.1 10 (a + k) = sd_usr x (shS k) &&& 255) := by
  intro m
  induction m with
  | zero =>
    intro i f μ h0 hf hh
    obtain ⟨f, rfl⟩ : ∃ g, f = g + 1 := ⟨f - 1, by omega⟩
    obtain rfl : i = 4 := by omega
    refine ⟨μ, ?_, Fr.rf, fun _ _ => rfl, fun k a b => by omega⟩
    rw [fn_BlockDigest_write_r9_r10_L16, if_pos (by decide)]
  | succ m ih =>
    intro i f μ h0 hf hh
    obtain ⟨f, rfl⟩ : ∃ g, f = g + 1 := ⟨f - 1, by omega⟩
    have hh' : HF 9 (sd_st μ 10 (a + i) (sd_usr x (shS i) &&& 255)) := by
      unfold HF
      rw [pa_sc _ _ _ _ _ (by decide)]
      exact hh
    obtain ⟨μ', e1, e2, e3, e4⟩ := ih (i + 1) f (sd_st μ 10 (a + i) (sd_usr x (shS i) &&& 255)) (by omega) (by omega) hh'
    refine ⟨μ', ?_, (Fr.st (by decide)).tr e2, fun p hp => ?_, fun k b c => ?_⟩
    · rw [fn_BlockDigest_write_r9_r10_L16, pl4, if_neg (nI_ge' (by omega) (by omega)), shS_of hh, pa_bi, nI_add, pa_ix (by omega) (by decide), pa_gd, pa_let, nI_clamp (by omega), pl1, nI_add]
      exact e1
    · rw [e3 p (by omega), pa_sn _ _ _ _ _ (by omega)]
    · by_cases d : k = i
      · rw [e3 (a + k) (by omega), d, pa_ss]
      · exact e4 k (by omega) c
theorem wrS10 {x : Int32} {a : Nat} (ha : a + 4 ≤ 192) {μ : sd_Me} (hh : HF 9 μ) : ∃ μ', fn_BlockDigest_write_r9_r10 x (nI a) μ = some μ' ∧ Fr [10] μ μ' ∧ (∀ p, p < a ∨ a + 4 ≤ p → μ'.1 10 p = μ.1 10 p) ∧ (∀ k, k < 4 → μ'.1 10 (a + k) = sd_usr x (shS k) &&& 255) := by
  obtain ⟨μ', e1, e2, e3, e4⟩ := wrLS10 ha (x := x) (kk := fun m4 => some m4) 4 0 10000 μ (by omega) (by omega) hh
  refine ⟨μ', ?_, e2, fun p hp => e3 p (by omega), fun k hk => e4 k (by omega) hk⟩
  unfold fn_BlockDigest_write_r9_r10
  rw [if_neg (nI_pos (by omega)), show (192 : Int32) - 4 = nI 188 from rfl, if_pos ((nI_leI (by omega) (by omega)).mpr (by omega))]
  exact e1
theorem wrLS11 {x : Int32} {a : Nat} (ha : a + 4 ≤ 32) {kk : sd_Me → Option sd_Me} : ∀ (m i f : Nat) (μ : sd_Me), 4 = i + m → m < f → HF 9 μ → ∃ μ', fn_BlockDigest_write_r9_r11_L16 kk f x (nI a) (nI i) μ = kk μ' ∧ Fr [11] μ μ' ∧ (∀ p, p < a + i ∨ a + 4 ≤ p → μ'.1 11 p = μ.1 11 p) ∧ (∀ k, i ≤ k → k < 4 → μ'.1 11 (a + k) = sd_usr x (shS k) &&& 255) := by
  intro m
  induction m with
  | zero =>
    intro i f μ h0 hf hh
    obtain ⟨f, rfl⟩ : ∃ g, f = g + 1 := ⟨f - 1, by omega⟩
    obtain rfl : i = 4 := by omega
    refine ⟨μ, ?_, Fr.rf, fun _ _ => rfl, fun k a b => by omega⟩
    rw [fn_BlockDigest_write_r9_r11_L16, if_pos (by decide)]
  | succ m ih =>
    intro i f μ h0 hf hh
    obtain ⟨f, rfl⟩ : ∃ g, f = g + 1 := ⟨f - 1, by omega⟩
    have hh' : HF 9 (sd_st μ 11 (a + i) (sd_usr x (shS i) &&& 255)) := by
      unfold HF
      rw [pa_sc _ _ _ _ _ (by decide)]
      exact hh
    obtain ⟨μ', e1, e2, e3, e4⟩ := ih (i + 1) f (sd_st μ 11 (a + i) (sd_usr x (shS i) &&& 255)) (by omega) (by omega) hh'
    refine ⟨μ', ?_, (Fr.st (by decide)).tr e2, fun p hp => ?_, fun k b c => ?_⟩
    · rw [fn_BlockDigest_write_r9_r11_L16, pl4, if_neg (nI_ge' (by omega) (by omega)), shS_of hh, pa_bi, nI_add, pa_ix (by omega) (by decide), pa_gd, pa_let, nI_clamp (by omega), pl1, nI_add]
      exact e1
    · rw [e3 p (by omega), pa_sn _ _ _ _ _ (by omega)]
    · by_cases d : k = i
      · rw [e3 (a + k) (by omega), d, pa_ss]
      · exact e4 k (by omega) c
theorem wrS11 {x : Int32} {a : Nat} (ha : a + 4 ≤ 32) {μ : sd_Me} (hh : HF 9 μ) : ∃ μ', fn_BlockDigest_write_r9_r11 x (nI a) μ = some μ' ∧ Fr [11] μ μ' ∧ (∀ p, p < a ∨ a + 4 ≤ p → μ'.1 11 p = μ.1 11 p) ∧ (∀ k, k < 4 → μ'.1 11 (a + k) = sd_usr x (shS k) &&& 255) := by
  obtain ⟨μ', e1, e2, e3, e4⟩ := wrLS11 ha (x := x) (kk := fun m4 => some m4) 4 0 10000 μ (by omega) (by omega) hh
  refine ⟨μ', ?_, e2, fun p hp => e3 p (by omega), fun k hk => e4 k (by omega) hk⟩
  unfold fn_BlockDigest_write_r9_r11
  rw [if_neg (nI_pos (by omega)), show (32 : Int32) - 4 = nI 28 from rfl, if_pos ((nI_leI (by omega) (by omega)).mpr (by omega))]
  exact e1
theorem cpLS {S T : List El} (hS : 0 < S.length) {y : Int32} {kk : Int32 → Int32 → sd_Me → Option (Int32 × sd_Me)} : ∀ (m i f : Nat) (μ : sd_Me), (S.getD 0 []).length = i + m → m < f → AX μ S T → ∃ μ', fn_BlockDigest_pad_r9_r2_L27 kk f (nI (S.getD 0 []).length) y (nI i) μ = kk (nI (S.getD 0 []).length) y μ' ∧ Fr [10] μ μ' ∧ (∀ p, p < i ∨ (S.getD 0 []).length ≤ p → μ'.1 10 p = μ.1 10 p) ∧ (∀ p, i ≤ p → p < (S.getD 0 []).length → μ'.1 10 p = (S.getD 0 []).getD p 0) := by
  intro m
  induction m with
  | zero =>
    intro i f μ h0 hf hx
    have hl := (hx.ok hS).1
    obtain ⟨f, rfl⟩ : ∃ g, f = g + 1 := ⟨f - 1, by omega⟩
    refine ⟨μ, ?_, Fr.rf, fun _ _ => rfl, fun k a b => by omega⟩
    rw [fn_BlockDigest_pad_r9_r2_L27, if_pos ((nI_leI (by omega) (by omega)).mpr (by omega))]
  | succ m ih =>
    intro i f μ h0 hf hx
    have hl := (hx.ok hS).1
    obtain ⟨f, rfl⟩ : ∃ g, f = g + 1 := ⟨f - 1, by omega⟩
    obtain ⟨μ', e1, e2, e3, e4⟩ := ih (i + 1) f (sd_st μ 10 i ((S.getD 0 []).getD i 0)) (by omega) (by omega) (hx.fr (L := [10]) (Fr.st (by decide)) (by decide) (by decide) (by decide) (by decide))
    refine ⟨μ', ?_, (Fr.st (by decide)).tr e2, fun p hp => ?_, fun k b c => ?_⟩
    · rw [fn_BlockDigest_pad_r9_r2_L27, if_neg (nI_ge' (by omega) (by omega)), pl0, X_oct hx hS (by omega), pa_bi, pa_ix (by omega) (by decide), pa_gd, pa_let, nI_clamp (by omega), pl1, nI_add]
      exact e1
    · rw [e3 p (by omega), pa_sn _ _ _ _ _ (by omega)]
    · by_cases d : k = i
      · rw [e3 k (by omega), d, pa_ss]
      · exact e4 k (by omega) c
theorem padSX {μ : sd_Me} {S T : List El} (hx : AX μ S T) (hS : 0 < S.length) (hh : HF 9 μ) : ∃ μ', fn_BlockDigest_pad_r9_r2 (nI (S.getD 0 []).length) μ = some (nI (64 * nbk (S.getD 0 []).length), μ') ∧ Fr [10] μ μ' ∧ (∀ p, p < 192 → μ'.1 10 p = padS (S.getD 0 []) p) := by
  have hl := (hx.ok hS).1
  obtain ⟨μ1, a1, a2, a3, a4⟩ := fillS (kk := fun m => some m) 192 0 10000 μ (by omega) (by omega)
  have hx1 := hx.fr a2 (by decide) (by decide) (by decide) (by decide)
  have a1 : fn_Arrays_fill_r10 0 μ = some μ1 := a1
  generalize hL : (S.getD 0 []).length = len at *
  have hnb : 64 * nbk len ≤ 192 ∧ len + 9 ≤ 64 * nbk len := by unfold nbk; omega
  have en : (((((nI len + 9) + 64) - 1) / 64) * 64 : Int32) = nI (64 * nbk len) := by
    show (nI len + nI 9 + nI 64 - nI 1) / nI 64 * nI 64 = _
    rw [nI_add, nI_add, pk_sub (by omega), pk_div (by omega) (by decide) (by decide), pk_mul]
    unfold nbk
    exact congrArg nI (by omega)
  obtain ⟨μ2, b1, b2, b3, b4⟩ := cpLS hS (y := nI (64 * nbk len)) (kk := fun x6 x7 m8 => sd_gd (sd_ix x6 192) (sd_let (sd_st m8 10 (Int32.toNatClampNeg x6) (128 : Int32)) (fun m9 => if (m9.1 9 2) = (0 : Int32) then sd_bv (fn_BlockDigest_write_r9_r10 ((8 : Int32) * x6) (x7 - (8 : Int32)) m9) (fun m10 => some (x7, m10)) else sd_bv (fn_BlockDigest_write_r9_r10 ((8 : Int32) * x6) (x7 - (4 : Int32)) m9) (fun m11 => some (x7, m11))))) len 0 10000 μ1 (by omega) (by omega) hx1
  rw [hL] at b1 b3 b4
  have hh3 : HF 9 (sd_st μ2 10 len 128) := by
    unfold HF
    rw [pa_sc _ _ _ _ _ (by decide), b2.1 9 (by decide), a2.1 9 (by decide)]
    exact hh
  obtain ⟨μ3, c1, c2, c3, c4⟩ := wrS10 (x := nI (8 * len)) (a := 64 * nbk len - 4) (by omega) hh3
  refine ⟨μ3, ?_, (a2.tr b2).tr ((Fr.st (by decide)).tr c2), fun p hp => ?_⟩
  · unfold fn_BlockDigest_pad_r9_r2
    rw [pa_let, en, a1, pa_bv]
    refine b1.trans ?_
    rw [pa_ix (by omega) (by decide), pa_gd, pa_let, nI_clamp (by omega), hh3, if_neg (by decide), pl8, pk_mul, pl4, pk_sub (by omega), c1, pa_bv]
  · have q := byS len (by omega)
    unfold padS
    rw [hL]
    by_cases d1 : p < len
    · rw [if_pos d1, c3 p (by omega), pa_sn _ _ _ _ _ (by omega), b4 p (by omega) d1]
    · rw [if_neg d1]
      by_cases d2 : p = len
      · rw [if_pos d2, c3 p (by omega), d2, pa_ss]
      · rw [if_neg d2]
        by_cases d3 : 64 * nbk len - 4 ≤ p ∧ p < 64 * nbk len - 4 + 4
        · have d4 : p = 64 * nbk len - 4 + (p - (64 * nbk len - 4)) := by omega
          rw [d4, c4 _ (by omega)]
          rcases (show p - (64 * nbk len - 4) = 0 ∨ p - (64 * nbk len - 4) = 1 ∨ p - (64 * nbk len - 4) = 2 ∨ p - (64 * nbk len - 4) = 3 by omega) with w | w | w | w
          · rw [w, q.1, if_neg (by omega), if_neg (by omega)]
          · rw [w, q.2.1, if_neg (by omega), if_neg (by omega)]
          · rw [w, q.2.2.1, if_neg (by omega), if_pos (by omega)]
          · rw [w, q.2.2.2, if_pos (by omega)]
        · rw [if_neg (by omega), if_neg (by omega), c3 p (by omega), pa_sn _ _ _ _ _ (by omega), b3 p (by omega), a4 p (by omega) hp]
theorem rdS1 {a w f : Nat} {kk : Int32 → Int32 → Int32 → sd_Me → Option sd_Me} {μ : sd_Me} (hh : HF 9 μ) (hq : a + 4 * w + 4 ≤ 192) : fn_BlockDigest_readBlock_r9_L35 kk (f + 5) (nI a) (nI w) 0 0 μ = kk (nI a) (nI w) (wdS (μ.1 10) (a + 4 * w)) μ := by
  have st : ∀ (g k : Nat) (x : Int32), k < 4 → fn_BlockDigest_readBlock_r9_L35 kk (g + 1) (nI a) (nI w) x (nI k) μ = fn_BlockDigest_readBlock_r9_L35 kk g (nI a) (nI w) (x ||| μ.1 10 (a + 4 * w + k) <<< (shS k &&& 31)) (nI (k + 1)) μ := by
    intro g k x hk
    rw [fn_BlockDigest_readBlock_r9_L35, pl4, if_neg (nI_ge' (by omega) (by omega)), pk_mul, nI_add, nI_add, pa_ix (by omega) (by decide), pa_gd, shS_of hh, pa_bi, pa_let, nI_clamp (by omega), pl1, nI_add]
  rw [show (fn_BlockDigest_readBlock_r9_L35 kk (f + 5) (nI a) (nI w) 0 0 μ) = _ from st (f + 4) 0 0 (by decide), st (f + 3) 1 _ (by decide), st (f + 2) 2 _ (by decide), st (f + 1) 3 _ (by decide), fn_BlockDigest_readBlock_r9_L35, if_pos (by decide)]
  rfl
theorem rdLS {a : Nat} (ha : a ≤ 128) {kk : sd_Me → Option sd_Me} : ∀ (m i f : Nat) (μ : sd_Me), 16 = i + m → m < f → HF 9 μ → ∃ μ', fn_BlockDigest_readBlock_r9_L24 kk f (nI a) (nI i) μ = kk μ' ∧ Fr [12] μ μ' ∧ (∀ p, p < i → μ'.1 12 p = μ.1 12 p) ∧ (∀ j, i ≤ j → j < 16 → μ'.1 12 j = wdS (μ.1 10) (a + 4 * j)) := by
  intro m
  induction m with
  | zero =>
    intro i f μ h0 hf hh
    obtain ⟨f, rfl⟩ : ∃ g, f = g + 1 := ⟨f - 1, by omega⟩
    obtain rfl : i = 16 := by omega
    refine ⟨μ, ?_, Fr.rf, fun _ _ => rfl, fun k a b => by omega⟩
    rw [fn_BlockDigest_readBlock_r9_L24, if_pos (by decide)]
  | succ m ih =>
    intro i f μ h0 hf hh
    obtain ⟨f, rfl⟩ : ∃ g, f = g + 1 := ⟨f - 1, by omega⟩
    have hh' : HF 9 (sd_st μ 12 i (wdS (μ.1 10) (a + 4 * i))) := by
      unfold HF
      rw [pa_sc _ _ _ _ _ (by decide)]
      exact hh
    obtain ⟨μ', e1, e2, e3, e4⟩ := ih (i + 1) f (sd_st μ 12 i (wdS (μ.1 10) (a + 4 * i))) (by omega) (by omega) hh'
    refine ⟨μ', ?_, (Fr.st (by decide)).tr e2, fun p hp => ?_, fun k b c => ?_⟩
    · rw [fn_BlockDigest_readBlock_r9_L24, pl16, if_neg (nI_ge' (by omega) (by omega))]
      refine (rdS1 (f := 9995) hh (by omega)).trans ?_
      rw [pa_ix (by omega) (by decide), pa_gd, pa_let, nI_clamp (by omega), pl1, nI_add]
      exact e1
    · rw [e3 p (by omega), pa_sn _ _ _ _ _ (by omega)]
    · by_cases d : k = i
      · rw [e3 k (by omega), d, pa_ss]
      · rw [e4 k (by omega) c, pa_sc _ _ _ _ _ (by decide)]
theorem rdS {a : Nat} (ha : a ≤ 128) {μ : sd_Me} (hh : HF 9 μ) : ∃ μ', fn_BlockDigest_readBlock_r9 (nI a) μ = some μ' ∧ Fr [12] μ μ' ∧ (∀ j, j < 16 → μ'.1 12 j = wdS (μ.1 10) (a + 4 * j)) := by
  obtain ⟨μ', e1, e2, e3, e4⟩ := rdLS ha (kk := fun m9 => some m9) 16 0 10000 μ (by omega) (by omega) hh
  refine ⟨μ', ?_, e2, fun j hj => e4 j (by omega) hj⟩
  unfold fn_BlockDigest_readBlock_r9
  rw [if_neg (nI_pos (by omega)), pl128, if_neg (nI_nlt (by omega) (by decide)), if_pos (by decide)]
  exact e1
theorem beginS {μ : sd_Me} : ∃ μ', fn_Sha256_begin_r9 μ = some μ' ∧ Fr [13] μ μ' ∧ (∀ j, j < 8 → μ'.1 13 j = tabX1 j) := by
  refine ⟨sd_mrow μ 13 (va_cpy tabX1 (μ.1 13) 0 0 8), rfl, Fr.row (by decide), fun j hj => ?_⟩
  rw [pa_rs, pk_cpy_in (by omega) (by omega), Nat.zero_add, Nat.sub_zero]
theorem outLS {kk : sd_Me → Option sd_Me} : ∀ (m i f : Nat) (μ : sd_Me), 8 = i + m → m < f → HF 9 μ → ∃ μ', fn_BlockDigest_replaceTop_r9_r2_L56 kk f (nI i) μ = kk μ' ∧ Fr [11] μ μ' ∧ (∀ p, p < 4 * i → μ'.1 11 p = μ.1 11 p) ∧ (∀ j k, i ≤ j → j < 8 → k < 4 → μ'.1 11 (4 * j + k) = sd_usr (μ.1 13 j) (shS k) &&& 255) := by
  intro m
  induction m with
  | zero =>
    intro i f μ h0 hf hh
    obtain ⟨f, rfl⟩ : ∃ g, f = g + 1 := ⟨f - 1, by omega⟩
    obtain rfl : i = 8 := by omega
    refine ⟨μ, ?_, Fr.rf, fun _ _ => rfl, fun j k a b => by omega⟩
    rw [fn_BlockDigest_replaceTop_r9_r2_L56, if_pos (by decide)]
  | succ m ih =>
    intro i f μ h0 hf hh
    obtain ⟨f, rfl⟩ : ∃ g, f = g + 1 := ⟨f - 1, by omega⟩
    obtain ⟨μ1, a1, a2, a3, a4⟩ := wrS11 (x := μ.1 13 i) (a := 4 * i) (by omega) hh
    have hh' : HF 9 μ1 := by
      unfold HF
      rw [a2.1 9 (by decide)]
      exact hh
    obtain ⟨μ', e1, e2, e3, e4⟩ := ih (i + 1) f μ1 (by omega) (by omega) hh'
    refine ⟨μ', ?_, a2.tr e2, fun p hp => ?_, fun j k b c d => ?_⟩
    · rw [fn_BlockDigest_replaceTop_r9_r2_L56, pl8, if_neg (nI_ge' (by omega) (by omega)), pa_ix (by omega) (by decide), pa_gd, nI_clamp (by omega), pl4, pk_mul, a1, pa_bv, pl1, nI_add]
      exact e1
    · rw [e3 p (by omega), a3 p (by omega)]
    · by_cases z : j = i
      · rw [e3 _ (by omega), z, a4 k d]
      · rw [e4 j k (by omega) c d, a2.1 13 (by decide)]
theorem fillR {kk : sd_Me → Option sd_Me} : ∀ (m i f : Nat) (μ : sd_Me), 192 = i + m → m < f → ∃ μ', fn_Arrays_fill_r15_L5 kk f 0 (nI i) (nI 192) μ = kk μ' ∧ Fr [15] μ μ' ∧ (∀ p, p < i → μ'.1 15 p = μ.1 15 p) ∧ (∀ p, i ≤ p → p < 192 → μ'.1 15 p = 0) := by
  intro m
  induction m with
  | zero =>
    intro i f μ h0 hf
    obtain ⟨f, rfl⟩ : ∃ g, f = g + 1 := ⟨f - 1, by omega⟩
    refine ⟨μ, ?_, Fr.rf, fun _ _ => rfl, fun p a b => by omega⟩
    rw [fn_Arrays_fill_r15_L5, if_pos ((nI_leI (by omega) (by omega)).mpr (by omega))]
  | succ m ih =>
    intro i f μ h0 hf
    obtain ⟨f, rfl⟩ : ∃ g, f = g + 1 := ⟨f - 1, by omega⟩
    obtain ⟨μ', e1, e2, e3, e4⟩ := ih (i + 1) f (sd_st μ 15 i 0) (by omega) (by omega)
    refine ⟨μ', ?_, (Fr.st (by decide)).tr e2, fun p hp => ?_, fun p a b => ?_⟩
    · rw [fn_Arrays_fill_r15_L5, if_neg (nI_ge' (by omega) (by omega)), pa_ix (by omega) (by decide), pa_gd, pa_let, nI_clamp (by omega), pl1, nI_add]
      exact e1
    · rw [e3 p (by omega), pa_sn _ _ _ _ _ (by omega)]
    · by_cases c : p = i
      · rw [e3 p (by omega), c, pa_ss]
      · exact e4 p (by omega) b
theorem shR_of {μ : sd_Me} (h : HF 14 μ) {k : Nat} : fn_BlockDigest_shiftOf_r14 (nI k) μ = some (shR k, μ) := by
  unfold fn_BlockDigest_shiftOf_r14
  rw [h]
  rfl
theorem wrLR15 {x : Int32} {a : Nat} (ha : a + 4 ≤ 192) {kk : sd_Me → Option sd_Me} : ∀ (m i f : Nat) (μ : sd_Me), 4 = i + m → m < f → HF 14 μ → ∃ μ', fn_BlockDigest_write_r14_r15_L16 kk f x (nI a) (nI i) μ = kk μ' ∧ Fr [15] μ μ' ∧ (∀ p, p < a + i ∨ a + 4 ≤ p → μ'.1 15 p = μ.1 15 p) ∧ (∀ k, i ≤ k → k < 4 → μ'.1 15 (a + k) = sd_usr x (shR k) &&& 255) := by
  intro m
  induction m with
  | zero =>
    intro i f μ h0 hf hh
    obtain ⟨f, rfl⟩ : ∃ g, f = g + 1 := ⟨f - 1, by omega⟩
    obtain rfl : i = 4 := by omega
    refine ⟨μ, ?_, Fr.rf, fun _ _ => rfl, fun k a b => by omega⟩
    rw [fn_BlockDigest_write_r14_r15_L16, if_pos (by decide)]
  | succ m ih =>
    intro i f μ h0 hf hh
    obtain ⟨f, rfl⟩ : ∃ g, f = g + 1 := ⟨f - 1, by omega⟩
    have hh' : HF 14 (sd_st μ 15 (a + i) (sd_usr x (shR i) &&& 255)) := by
      unfold HF
      rw [pa_sc _ _ _ _ _ (by decide)]
      exact hh
    obtain ⟨μ', e1, e2, e3, e4⟩ := ih (i + 1) f (sd_st μ 15 (a + i) (sd_usr x (shR i) &&& 255)) (by omega) (by omega) hh'
    refine ⟨μ', ?_, (Fr.st (by decide)).tr e2, fun p hp => ?_, fun k b c => ?_⟩
    · rw [fn_BlockDigest_write_r14_r15_L16, pl4, if_neg (nI_ge' (by omega) (by omega)), shR_of hh, pa_bi, nI_add, pa_ix (by omega) (by decide), pa_gd, pa_let, nI_clamp (by omega), pl1, nI_add]
      exact e1
    · rw [e3 p (by omega), pa_sn _ _ _ _ _ (by omega)]
    · by_cases d : k = i
      · rw [e3 (a + k) (by omega), d, pa_ss]
      · exact e4 k (by omega) c
theorem wrR15 {x : Int32} {a : Nat} (ha : a + 4 ≤ 192) {μ : sd_Me} (hh : HF 14 μ) : ∃ μ', fn_BlockDigest_write_r14_r15 x (nI a) μ = some μ' ∧ Fr [15] μ μ' ∧ (∀ p, p < a ∨ a + 4 ≤ p → μ'.1 15 p = μ.1 15 p) ∧ (∀ k, k < 4 → μ'.1 15 (a + k) = sd_usr x (shR k) &&& 255) := by
  obtain ⟨μ', e1, e2, e3, e4⟩ := wrLR15 ha (x := x) (kk := fun m4 => some m4) 4 0 10000 μ (by omega) (by omega) hh
  refine ⟨μ', ?_, e2, fun p hp => e3 p (by omega), fun k hk => e4 k (by omega) hk⟩
  unfold fn_BlockDigest_write_r14_r15
  rw [if_neg (nI_pos (by omega)), show (192 : Int32) - 4 = nI 188 from rfl, if_pos ((nI_leI (by omega) (by omega)).mpr (by omega))]
  exact e1
theorem wrLR16 {x : Int32} {a : Nat} (ha : a + 4 ≤ 20) {kk : sd_Me → Option sd_Me} : ∀ (m i f : Nat) (μ : sd_Me), 4 = i + m → m < f → HF 14 μ → ∃ μ', fn_BlockDigest_write_r14_r16_L16 kk f x (nI a) (nI i) μ = kk μ' ∧ Fr [16] μ μ' ∧ (∀ p, p < a + i ∨ a + 4 ≤ p → μ'.1 16 p = μ.1 16 p) ∧ (∀ k, i ≤ k → k < 4 → μ'.1 16 (a + k) = sd_usr x (shR k) &&& 255) := by
  intro m
  induction m with
  | zero =>
    intro i f μ h0 hf hh
    obtain ⟨f, rfl⟩ : ∃ g, f = g + 1 := ⟨f - 1, by omega⟩
    obtain rfl : i = 4 := by omega
    refine ⟨μ, ?_, Fr.rf, fun _ _ => rfl, fun k a b => by omega⟩
    rw [fn_BlockDigest_write_r14_r16_L16, if_pos (by decide)]
  | succ m ih =>
    intro i f μ h0 hf hh
    obtain ⟨f, rfl⟩ : ∃ g, f = g + 1 := ⟨f - 1, by omega⟩
    have hh' : HF 14 (sd_st μ 16 (a + i) (sd_usr x (shR i) &&& 255)) := by
      unfold HF
      rw [pa_sc _ _ _ _ _ (by decide)]
      exact hh
    obtain ⟨μ', e1, e2, e3, e4⟩ := ih (i + 1) f (sd_st μ 16 (a + i) (sd_usr x (shR i) &&& 255)) (by omega) (by omega) hh'
    refine ⟨μ', ?_, (Fr.st (by decide)).tr e2, fun p hp => ?_, fun k b c => ?_⟩
    · rw [fn_BlockDigest_write_r14_r16_L16, pl4, if_neg (nI_ge' (by omega) (by omega)), shR_of hh, pa_bi, nI_add, pa_ix (by omega) (by decide), pa_gd, pa_let, nI_clamp (by omega), pl1, nI_add]
      exact e1
    · rw [e3 p (by omega), pa_sn _ _ _ _ _ (by omega)]
    · by_cases d : k = i
      · rw [e3 (a + k) (by omega), d, pa_ss]
      · exact e4 k (by omega) c
theorem wrR16 {x : Int32} {a : Nat} (ha : a + 4 ≤ 20) {μ : sd_Me} (hh : HF 14 μ) : ∃ μ', fn_BlockDigest_write_r14_r16 x (nI a) μ = some μ' ∧ Fr [16] μ μ' ∧ (∀ p, p < a ∨ a + 4 ≤ p → μ'.1 16 p = μ.1 16 p) ∧ (∀ k, k < 4 → μ'.1 16 (a + k) = sd_usr x (shR k) &&& 255) := by
  obtain ⟨μ', e1, e2, e3, e4⟩ := wrLR16 ha (x := x) (kk := fun m4 => some m4) 4 0 10000 μ (by omega) (by omega) hh
  refine ⟨μ', ?_, e2, fun p hp => e3 p (by omega), fun k hk => e4 k (by omega) hk⟩
  unfold fn_BlockDigest_write_r14_r16
  rw [if_neg (nI_pos (by omega)), show (20 : Int32) - 4 = nI 16 from rfl, if_pos ((nI_leI (by omega) (by omega)).mpr (by omega))]
  exact e1
theorem cpLR {S T : List El} (hS : 0 < S.length) {y : Int32} {kk : Int32 → Int32 → sd_Me → Option (Int32 × sd_Me)} : ∀ (m i f : Nat) (μ : sd_Me), (S.getD 0 []).length = i + m → m < f → AX μ S T → ∃ μ', fn_BlockDigest_pad_r14_r2_L27 kk f (nI (S.getD 0 []).length) y (nI i) μ = kk (nI (S.getD 0 []).length) y μ' ∧ Fr [15] μ μ' ∧ (∀ p, p < i ∨ (S.getD 0 []).length ≤ p → μ'.1 15 p = μ.1 15 p) ∧ (∀ p, i ≤ p → p < (S.getD 0 []).length → μ'.1 15 p = (S.getD 0 []).getD p 0) := by
  intro m
  induction m with
  | zero =>
    intro i f μ h0 hf hx
    have hl := (hx.ok hS).1
    obtain ⟨f, rfl⟩ : ∃ g, f = g + 1 := ⟨f - 1, by omega⟩
    refine ⟨μ, ?_, Fr.rf, fun _ _ => rfl, fun k a b => by omega⟩
    rw [fn_BlockDigest_pad_r14_r2_L27, if_pos ((nI_leI (by omega) (by omega)).mpr (by omega))]
  | succ m ih =>
    intro i f μ h0 hf hx
    have hl := (hx.ok hS).1
    obtain ⟨f, rfl⟩ : ∃ g, f = g + 1 := ⟨f - 1, by omega⟩
    obtain ⟨μ', e1, e2, e3, e4⟩ := ih (i + 1) f (sd_st μ 15 i ((S.getD 0 []).getD i 0)) (by omega) (by omega) (hx.fr (L := [15]) (Fr.st (by decide)) (by decide) (by decide) (by decide) (by decide))
    refine ⟨μ', ?_, (Fr.st (by decide)).tr e2, fun p hp => ?_, fun k b c => ?_⟩
    · rw [fn_BlockDigest_pad_r14_r2_L27, if_neg (nI_ge' (by omega) (by omega)), pl0, X_oct hx hS (by omega), pa_bi, pa_ix (by omega) (by decide), pa_gd, pa_let, nI_clamp (by omega), pl1, nI_add]
      exact e1
    · rw [e3 p (by omega), pa_sn _ _ _ _ _ (by omega)]
    · by_cases d : k = i
      · rw [e3 k (by omega), d, pa_ss]
      · exact e4 k (by omega) c
theorem padRX {μ : sd_Me} {S T : List El} (hx : AX μ S T) (hS : 0 < S.length) (hh : HF 14 μ) : ∃ μ', fn_BlockDigest_pad_r14_r2 (nI (S.getD 0 []).length) μ = some (nI (64 * nbk (S.getD 0 []).length), μ') ∧ Fr [15] μ μ' ∧ (∀ p, p < 192 → μ'.1 15 p = padR (S.getD 0 []) p) := by
  have hl := (hx.ok hS).1
  obtain ⟨μ1, a1, a2, a3, a4⟩ := fillR (kk := fun m => some m) 192 0 10000 μ (by omega) (by omega)
  have hx1 := hx.fr a2 (by decide) (by decide) (by decide) (by decide)
  have a1 : fn_Arrays_fill_r15 0 μ = some μ1 := a1
  generalize hL : (S.getD 0 []).length = len at *
  have hnb : 64 * nbk len ≤ 192 ∧ len + 9 ≤ 64 * nbk len := by unfold nbk; omega
  have en : (((((nI len + 9) + 64) - 1) / 64) * 64 : Int32) = nI (64 * nbk len) := by
    show (nI len + nI 9 + nI 64 - nI 1) / nI 64 * nI 64 = _
    rw [nI_add, nI_add, pk_sub (by omega), pk_div (by omega) (by decide) (by decide), pk_mul]
    unfold nbk
    exact congrArg nI (by omega)
  obtain ⟨μ2, b1, b2, b3, b4⟩ := cpLR hS (y := nI (64 * nbk len)) (kk := fun x6 x7 m8 => sd_gd (sd_ix x6 192) (sd_let (sd_st m8 15 (Int32.toNatClampNeg x6) (128 : Int32)) (fun m9 => if (m9.1 14 2) = (0 : Int32) then sd_bv (fn_BlockDigest_write_r14_r15 ((8 : Int32) * x6) (x7 - (8 : Int32)) m9) (fun m10 => some (x7, m10)) else sd_bv (fn_BlockDigest_write_r14_r15 ((8 : Int32) * x6) (x7 - (4 : Int32)) m9) (fun m11 => some (x7, m11))))) len 0 10000 μ1 (by omega) (by omega) hx1
  rw [hL] at b1 b3 b4
  have hh3 : HF 14 (sd_st μ2 15 len 128) := by
    unfold HF
    rw [pa_sc _ _ _ _ _ (by decide), b2.1 14 (by decide), a2.1 14 (by decide)]
    exact hh
  obtain ⟨μ3, c1, c2, c3, c4⟩ := wrR15 (x := nI (8 * len)) (a := 64 * nbk len - 8) (by omega) hh3
  refine ⟨μ3, ?_, (a2.tr b2).tr ((Fr.st (by decide)).tr c2), fun p hp => ?_⟩
  · unfold fn_BlockDigest_pad_r14_r2
    rw [pa_let, en, a1, pa_bv]
    refine b1.trans ?_
    rw [pa_ix (by omega) (by decide), pa_gd, pa_let, nI_clamp (by omega), hh3, if_pos (by decide), pl8, pk_mul, pk_sub (by omega), c1, pa_bv]
  · have q := byR len (by omega)
    unfold padR
    rw [hL]
    by_cases d1 : p < len
    · rw [if_pos d1, c3 p (by omega), pa_sn _ _ _ _ _ (by omega), b4 p (by omega) d1]
    · rw [if_neg d1]
      by_cases d2 : p = len
      · rw [if_pos d2, c3 p (by omega), d2, pa_ss]
      · rw [if_neg d2]
        by_cases d3 : 64 * nbk len - 8 ≤ p ∧ p < 64 * nbk len - 8 + 4
        · have d4 : p = 64 * nbk len - 8 + (p - (64 * nbk len - 8)) := by omega
          rw [d4, c4 _ (by omega)]
          rcases (show p - (64 * nbk len - 8) = 0 ∨ p - (64 * nbk len - 8) = 1 ∨ p - (64 * nbk len - 8) = 2 ∨ p - (64 * nbk len - 8) = 3 by omega) with w | w | w | w
          · rw [w, q.1, if_pos (by omega)]
          · rw [w, q.2.1, if_neg (by omega), if_pos (by omega)]
          · rw [w, q.2.2.1, if_neg (by omega), if_neg (by omega)]
          · rw [w, q.2.2.2, if_neg (by omega), if_neg (by omega)]
        · rw [if_neg (by omega), if_neg (by omega), c3 p (by omega), pa_sn _ _ _ _ _ (by omega), b3 p (by omega), a4 p (by omega) hp]
theorem rdR1 {a w f : Nat} {kk : Int32 → Int32 → Int32 → sd_Me → Option sd_Me} {μ : sd_Me} (hh : HF 14 μ) (hq : a + 4 * w + 4 ≤ 192) : fn_BlockDigest_readBlock_r14_L35 kk (f + 5) (nI a) (nI w) 0 0 μ = kk (nI a) (nI w) (wdR (μ.1 15) (a + 4 * w)) μ := by
  have st : ∀ (g k : Nat) (x : Int32), k < 4 → fn_BlockDigest_readBlock_r14_L35 kk (g + 1) (nI a) (nI w) x (nI k) μ = fn_BlockDigest_readBlock_r14_L35 kk g (nI a) (nI w) (x ||| μ.1 15 (a + 4 * w + k) <<< (shR k &&& 31)) (nI (k + 1)) μ := by
    intro g k x hk
    rw [fn_BlockDigest_readBlock_r14_L35, pl4, if_neg (nI_ge' (by omega) (by omega)), pk_mul, nI_add, nI_add, pa_ix (by omega) (by decide), pa_gd, shR_of hh, pa_bi, pa_let, nI_clamp (by omega), pl1, nI_add]
  rw [show (fn_BlockDigest_readBlock_r14_L35 kk (f + 5) (nI a) (nI w) 0 0 μ) = _ from st (f + 4) 0 0 (by decide), st (f + 3) 1 _ (by decide), st (f + 2) 2 _ (by decide), st (f + 1) 3 _ (by decide), fn_BlockDigest_readBlock_r14_L35, if_pos (by decide)]
  rfl
theorem rdLR {a : Nat} (ha : a ≤ 128) {kk : sd_Me → Option sd_Me} : ∀ (m i f : Nat) (μ : sd_Me), 16 = i + m → m < f → HF 14 μ → ∃ μ', fn_BlockDigest_readBlock_r14_L24 kk f (nI a) (nI i) μ = kk μ' ∧ Fr [17] μ μ' ∧ (∀ p, p < i → μ'.1 17 p = μ.1 17 p) ∧ (∀ j, i ≤ j → j < 16 → μ'.1 17 j = wdR (μ.1 15) (a + 4 * j)) := by
  intro m
  induction m with
  | zero =>
    intro i f μ h0 hf hh
    obtain ⟨f, rfl⟩ : ∃ g, f = g + 1 := ⟨f - 1, by omega⟩
    obtain rfl : i = 16 := by omega
    refine ⟨μ, ?_, Fr.rf, fun _ _ => rfl, fun k a b => by omega⟩
    rw [fn_BlockDigest_readBlock_r14_L24, if_pos (by decide)]
  | succ m ih =>
    intro i f μ h0 hf hh
    obtain ⟨f, rfl⟩ : ∃ g, f = g + 1 := ⟨f - 1, by omega⟩
    have hh' : HF 14 (sd_st μ 17 i (wdR (μ.1 15) (a + 4 * i))) := by
      unfold HF
      rw [pa_sc _ _ _ _ _ (by decide)]
      exact hh
    obtain ⟨μ', e1, e2, e3, e4⟩ := ih (i + 1) f (sd_st μ 17 i (wdR (μ.1 15) (a + 4 * i))) (by omega) (by omega) hh'
    refine ⟨μ', ?_, (Fr.st (by decide)).tr e2, fun p hp => ?_, fun k b c => ?_⟩
    · rw [fn_BlockDigest_readBlock_r14_L24, pl16, if_neg (nI_ge' (by omega) (by omega))]
      refine (rdR1 (f := 9995) hh (by omega)).trans ?_
      rw [pa_ix (by omega) (by decide), pa_gd, pa_let, nI_clamp (by omega), pl1, nI_add]
      exact e1
    · rw [e3 p (by omega), pa_sn _ _ _ _ _ (by omega)]
    · by_cases d : k = i
      · rw [e3 k (by omega), d, pa_ss]
      · rw [e4 k (by omega) c, pa_sc _ _ _ _ _ (by decide)]
theorem rdR {a : Nat} (ha : a ≤ 128) {μ : sd_Me} (hh : HF 14 μ) : ∃ μ', fn_BlockDigest_readBlock_r14 (nI a) μ = some μ' ∧ Fr [17] μ μ' ∧ (∀ j, j < 16 → μ'.1 17 j = wdR (μ.1 15) (a + 4 * j)) := by
  obtain ⟨μ', e1, e2, e3, e4⟩ := rdLR ha (kk := fun m9 => some m9) 16 0 10000 μ (by omega) (by omega) hh
  refine ⟨μ', ?_, e2, fun j hj => e4 j (by omega) hj⟩
  unfold fn_BlockDigest_readBlock_r14
  rw [if_neg (nI_pos (by omega)), pl128, if_neg (nI_nlt (by omega) (by decide)), if_pos (by decide)]
  exact e1
theorem beginR {μ : sd_Me} : ∃ μ', fn_Ripemd160_begin_r14 μ = some μ' ∧ Fr [18] μ μ' ∧ (∀ j, j < 5 → μ'.1 18 j = tabX0 j) := by
  refine ⟨sd_mrow μ 18 (va_cpy tabX0 (μ.1 18) 0 0 5), rfl, Fr.row (by decide), fun j hj => ?_⟩
  rw [pa_rs, pk_cpy_in (by omega) (by omega), Nat.zero_add, Nat.sub_zero]
theorem outLR {kk : sd_Me → Option sd_Me} : ∀ (m i f : Nat) (μ : sd_Me), 5 = i + m → m < f → HF 14 μ → ∃ μ', fn_BlockDigest_replaceTop_r14_r2_L56 kk f (nI i) μ = kk μ' ∧ Fr [16] μ μ' ∧ (∀ p, p < 4 * i → μ'.1 16 p = μ.1 16 p) ∧ (∀ j k, i ≤ j → j < 5 → k < 4 → μ'.1 16 (4 * j + k) = sd_usr (μ.1 18 j) (shR k) &&& 255) := by
  intro m
  induction m with
  | zero =>
    intro i f μ h0 hf hh
    obtain ⟨f, rfl⟩ : ∃ g, f = g + 1 := ⟨f - 1, by omega⟩
    obtain rfl : i = 5 := by omega
    refine ⟨μ, ?_, Fr.rf, fun _ _ => rfl, fun j k a b => by omega⟩
    rw [fn_BlockDigest_replaceTop_r14_r2_L56, if_pos (by decide)]
  | succ m ih =>
    intro i f μ h0 hf hh
    obtain ⟨f, rfl⟩ : ∃ g, f = g + 1 := ⟨f - 1, by omega⟩
    obtain ⟨μ1, a1, a2, a3, a4⟩ := wrR16 (x := μ.1 18 i) (a := 4 * i) (by omega) hh
    have hh' : HF 14 μ1 := by
      unfold HF
      rw [a2.1 14 (by decide)]
      exact hh
    obtain ⟨μ', e1, e2, e3, e4⟩ := ih (i + 1) f μ1 (by omega) (by omega) hh'
    refine ⟨μ', ?_, a2.tr e2, fun p hp => ?_, fun j k b c d => ?_⟩
    · rw [fn_BlockDigest_replaceTop_r14_r2_L56, pl5, if_neg (nI_ge' (by omega) (by omega)), pa_ix (by omega) (by decide), pa_gd, nI_clamp (by omega), pl4, pk_mul, a1, pa_bv, pl1, nI_add]
      exact e1
    · rw [e3 p (by omega), a3 p (by omega)]
    · by_cases z : j = i
      · rw [e3 _ (by omega), z, a4 k d]
      · rw [e4 j k (by omega) c d, a2.1 18 (by decide)]
