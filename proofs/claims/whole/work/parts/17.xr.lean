theorem X_pnL {a t : Nat} (ha : a < 2 ^ 62) (ht : t < 64) {x : Int64} {kk : Int64 → Int32 → Int32 → Int32 → sd_Me → Option sd_Me} : ∀ (m j f : Nat) (μ : sd_Me), nd a = j + m → m < f → fn_Elements_pushNumber_r2_L48 kk f x (nI t) (nI (t * 120)) (lN (a / 256 ^ j)) (nI j) μ = kk x (nI t) (nI (t * 120)) (nI (nd a)) (sd_mrow μ 3 (fun p => if t * 120 + j ≤ p ∧ p < t * 120 + nd a then nI (a / 256 ^ (p - t * 120) % 256) else μ.1 3 p)) := by
  have h8 : nd a ≤ 8 := nd_le 8 a (by omega)
  intro m
  induction m with
  | zero =>
    intro j f μ h0 hf
    obtain ⟨f, rfl⟩ : ∃ g, f = g + 1 := ⟨f - 1, by omega⟩
    obtain rfl : j = nd a := by omega
    have e : (fun p => if t * 120 + nd a ≤ p ∧ p < t * 120 + nd a then nI (a / 256 ^ (p - t * 120) % 256) else μ.1 3 p) = μ.1 3 := funext (fun p => if_neg (by omega))
    rw [e, mrow_self, fn_Elements_pushNumber_r2_L48, nd_end, lgc_0]
    by_cases c : (8 : Int32) ≤ nI (nd a)
    · rw [if_pos c]
    · rw [if_neg c, if_pos (by decide)]
  | succ m ih =>
    intro j f μ h0 hf
    obtain ⟨f, rfl⟩ : ∃ g, f = g + 1 := ⟨f - 1, by omega⟩
    have hp := nd_lt_pos (a := a) (k := j) (by omega)
    have hle : a / 256 ^ j ≤ a := Nat.div_le_self _ _
    rw [fn_Elements_pushNumber_r2_L48, pl8, if_neg (fun z => by have := (nI_leI (by omega) (by omega)).mp z; omega), lgc_pos hp (by omega), if_neg (by decide), nI_add, pa_ix (by omega) (by decide), pa_gd, pa_let, pa_let, nI_clamp (by omega), lN_and255 _ (by omega), ← pl8, lN_shr8 _ (by omega), pl1, nI_add, Nat.div_div_eq_div_mul, ← Nat.pow_succ, ih (j + 1) f _ (by omega) (by omega), mrow_st]
    congr 2
    funext p
    by_cases c1 : t * 120 + j ≤ p ∧ p < t * 120 + nd a
    · rw [if_pos c1]
      by_cases c2 : t * 120 + (j + 1) ≤ p ∧ p < t * 120 + nd a
      · rw [if_pos c2]
      · rw [if_neg c2]
        obtain rfl : p = t * 120 + j := by omega
        rw [pa_ss, Nat.add_sub_cancel_left]
    · rw [if_neg c1, if_neg (by omega), pa_sn _ _ _ _ _ (by omega)]
/-- the memory behind a push of a number -/
def pnM (μ : sd_Me) (a : Nat) (neg : Bool) (t d : Nat) : sd_Me := sd_st (sd_st (sd_mrow μ 3 (fun p => if t * 120 ≤ p ∧ p < t * 120 + nm_ a then nI (encB a neg (p - t * 120)) else μ.1 3 p)) 4 t (nI (nm_ a))) 2 4 (nI (d + 1))
theorem pnM_AX {μ : sd_Me} {S T : List El} (h : AX μ S T) (hn : S.length + T.length < 64) {a : Nat} {neg : Bool} (ha : a < 2 ^ 62) : ∃ t : Nat, t < 64 ∧ μ.1 5 S.length = nI t ∧ AX (pnM μ a neg t S.length) (enc a neg :: S) T ∧ Fr [2, 3, 4] μ (pnM μ a neg t S.length) := by
  obtain ⟨t, h1, h2, h3⟩ := AX_push h hn
  have h8 : nd a ≤ 8 := nd_le 8 a (by omega)
  have h9 := nm_le (a := a)
  refine ⟨t, h1, h2, h3 _ _ (enc_ok (by omega)) ?_ ?_ ?_ ?_ ?_, ?_⟩
  · unfold pnM; rw [pa_ss]
  · unfold pnM; rw [pa_sn _ _ _ _ _ (by decide), pa_sc _ _ _ _ _ (by decide), pa_rc _ _ _ _ (by decide)]
  · unfold pnM; rw [pa_sc _ _ _ _ _ (by decide), pa_sc _ _ _ _ _ (by decide), pa_rc _ _ _ _ (by decide)]
  · refine ⟨?_, fun k hk => ?_⟩
    · unfold pnM; rw [pa_sc _ _ _ _ _ (by decide), pa_ss, enc_len]
    · rw [enc_len] at hk
      unfold pnM
      rw [pa_sc _ _ _ _ _ (by decide), pa_sc _ _ _ _ _ (by decide), pa_rs, if_pos (by omega), enc_get hk]
      congr 2
      omega
  · intro t' ht hlt
    unfold pnM
    rw [pa_sc _ _ _ _ _ (by decide), pa_sn _ _ _ _ _ ht, pa_rc _ _ _ _ (by decide)]
    refine ⟨rfl, fun k hk => ?_⟩
    rw [pa_sc _ _ _ _ _ (by decide), pa_sc _ _ _ _ _ (by decide), pa_rs, if_neg (by omega)]
  · exact ((Fr.row (by decide)).tr (Fr.st (by decide))).tr (Fr.st (by decide))
theorem X_pn158 {μ : sd_Me} {t n d : Nat} (ht : t < 64) (hd : μ.1 2 4 = nI d) : fn_Elements_pushNumber_r2_J158 (nI t) (nI n) μ = some (sd_st (sd_st μ 4 t (nI n)) 2 4 (nI (d + 1))) := by
  unfold fn_Elements_pushNumber_r2_J158
  have e : (sd_st μ 4 t (nI n)).1 2 4 = nI d := by rw [pa_sc _ _ _ _ _ (by decide)]; exact hd
  rw [pa_ix ht (by decide), pa_gd, pa_let, pa_let, nI_clamp (by omega), e, pl1, nI_add]
def sgn (a : Nat) (neg : Bool) : Int64 := if neg = true then -lN a else lN a
/-- the bytes without the sign -/
theorem X_pn129 {μ : sd_Me} {a t d : Nat} {neg : Bool} (ha : a < 2 ^ 62) (hneg : neg = true → 0 < a) (ht : t < 64) (hd : μ.1 2 4 = nI d) : fn_Elements_pushNumber_r2_J129 (sgn a neg) (nI t) (nI (t * 120)) (nI (nm_ a)) (sd_mrow μ 3 (fun p => if t * 120 ≤ p ∧ p < t * 120 + nm_ a then nI (if p - t * 120 < nd a then a / 256 ^ (p - t * 120) % 256 else 0) else μ.1 3 p)) = some (pnM μ a neg t d) := by
  have h8 : nd a ≤ 8 := nd_le 8 a (by omega)
  have h9 := nm_le (a := a)
  have hd2 : ∀ f, (sd_mrow μ 3 f).1 2 4 = nI d := fun f => by rw [pa_rc _ _ _ _ (by decide)]; exact hd
  unfold fn_Elements_pushNumber_r2_J129
  cases neg with
  | false =>
    have e0 : (0 : Int32) ≤ lg_cmp (sgn a false) 0 := by
      show (0 : Int32) ≤ lg_cmp (lN a) 0
      rcases Nat.eq_zero_or_pos a with z | z
      · rw [z, lgc_0]; decide
      · rw [lgc_pos z (by omega)]; decide
    rw [if_pos e0, X_pn158 ht (hd2 _)]
    unfold pnM
    refine congrArg (fun f => some (sd_st (sd_st (sd_mrow μ 3 f) 4 t (nI (nm_ a))) 2 4 (nI (d + 1)))) (funext fun p => ?_)
    by_cases c : t * 120 ≤ p ∧ p < t * 120 + nm_ a
    · rw [if_pos c, if_pos c]
      unfold encB
      simp
    · rw [if_neg c, if_neg c]
  | true =>
    have hp := hneg rfl
    have hnd : 0 < nd a := by
      rw [nd_s (by omega)]; omega
    have e0 : ¬ (0 : Int32) ≤ lg_cmp (sgn a true) 0 := by
      show ¬ (0 : Int32) ≤ lg_cmp (-lN a) 0
      rw [lgc_neg hp (by omega)]; decide
    have e1 : nI (t * 120) + nI (nm_ a) - 1 = nI (t * 120 + nm_ a - 1) := by rw [nI_add, pl1, pk_sub (by omega)]
    have et := enc_top hnd
    have e3 : (sd_mrow μ 3 (fun p => if t * 120 ≤ p ∧ p < t * 120 + nm_ a then nI (if p - t * 120 < nd a then a / 256 ^ (p - t * 120) % 256 else 0) else μ.1 3 p)).1 3 (t * 120 + nm_ a - 1) = nI (if nm_ a - 1 < nd a then a / 256 ^ (nm_ a - 1) % 256 else 0) := by
      rw [pa_rs, if_pos (by omega), show t * 120 + nm_ a - 1 - t * 120 = nm_ a - 1 by omega]
    rw [if_neg e0, if_neg (nI_nle (by omega) (by omega)), e1, pa_ix (by omega) (by decide), pa_gd, pa_gd, pa_let, nI_clamp (by omega), e3, or128 _ et, st_mrow, X_pn158 ht (hd2 _)]
    unfold pnM
    refine congrArg (fun f => some (sd_st (sd_st (sd_mrow μ 3 f) 4 t (nI (nm_ a))) 2 4 (nI (d + 1)))) (funext fun p => ?_)
    unfold upd
    dsimp only
    by_cases c : t * 120 ≤ p ∧ p < t * 120 + nm_ a
    · rw [if_pos c]
      unfold encB
      by_cases c2 : p = t * 120 + nm_ a - 1
      · rw [if_pos c2, show p - t * 120 = nm_ a - 1 by omega, if_pos (show true = true ∧ nm_ a - 1 + 1 = nm_ a from ⟨rfl, by omega⟩), if_pos c]
      · rw [if_neg c2, if_pos c, if_neg (show ¬ (true = true ∧ p - t * 120 + 1 = nm_ a) from fun z => c2 (by omega)), Nat.add_zero]
    · rw [if_neg c, if_neg (show ¬ p = t * 120 + nm_ a - 1 by omega), if_neg c]
theorem X_pn92 {μ : sd_Me} {a t d : Nat} {neg : Bool} (ha : a < 2 ^ 62) (hneg : neg = true → 0 < a) (ht : t < 64) (hd : μ.1 2 4 = nI d) : fn_Elements_pushNumber_r2_J92 (sgn a neg) (nI t) (nI (t * 120)) (nI (nd a)) (sd_mrow μ 3 (fun p => if t * 120 + 0 ≤ p ∧ p < t * 120 + nd a then nI (a / 256 ^ (p - t * 120) % 256) else μ.1 3 p)) = some (pnM μ a neg t d) := by
  have h8 : nd a ≤ 8 := nd_le 8 a (by omega)
  have h9 := nm_le (a := a)
  have main := X_pn129 (neg := neg) ha hneg ht hd
  unfold fn_Elements_pushNumber_r2_J92
  by_cases c : nd a = 0
  · have e : (fun p => if t * 120 + 0 ≤ p ∧ p < t * 120 + nd a then nI (a / 256 ^ (p - t * 120) % 256) else μ.1 3 p) = (fun p => if t * 120 ≤ p ∧ p < t * 120 + nm_ a then nI (if p - t * 120 < nd a then a / 256 ^ (p - t * 120) % 256 else 0) else μ.1 3 p) := by
      funext p
      rw [if_neg (by omega), if_neg (by rw [nm_0 c]; omega)]
    rw [e, if_pos (by rw [c]; decide)]
    rw [nm_0 c] at main ⊢
    rw [c] at main ⊢
    exact main
  · have e1 : nI (t * 120) + nI (nd a) - 1 = nI (t * 120 + nd a - 1) := by rw [nI_add, pl1, pk_sub (by omega)]
    have e3 : (sd_mrow μ 3 (fun p => if t * 120 + 0 ≤ p ∧ p < t * 120 + nd a then nI (a / 256 ^ (p - t * 120) % 256) else μ.1 3 p)).1 3 (t * 120 + nd a - 1) = nI (a / 256 ^ (nd a - 1) % 256) := by
      rw [pa_rs, if_pos (by omega), show t * 120 + nd a - 1 - t * 120 = nd a - 1 by omega]
    rw [if_neg (nI_nle (by omega) (by omega)), e1, pa_ix (by omega) (by decide), pa_gd, nI_clamp (by omega), e3, pl128]
    by_cases c2 : a / 256 ^ (nd a - 1) % 256 < 128
    · have em : nm_ a = nd a := by
        unfold nm_
        rw [if_neg (by omega)]
      have e : (fun p => if t * 120 + 0 ≤ p ∧ p < t * 120 + nd a then nI (a / 256 ^ (p - t * 120) % 256) else μ.1 3 p) = (fun p => if t * 120 ≤ p ∧ p < t * 120 + nm_ a then nI (if p - t * 120 < nd a then a / 256 ^ (p - t * 120) % 256 else 0) else μ.1 3 p) := by
        funext p
        rw [em, Nat.add_zero]
        by_cases c3 : t * 120 ≤ p ∧ p < t * 120 + nd a
        · rw [if_pos c3, if_pos c3, if_pos (by omega)]
        · rw [if_neg c3, if_neg c3]
      rw [if_pos ((nI_ltI (by omega) (by omega)).mpr c2), e]
      rw [em] at main ⊢
      exact main
    · have em : nm_ a = nd a + 1 := by
        unfold nm_
        rw [if_pos (by omega)]
      have e : upd (fun p => if t * 120 + 0 ≤ p ∧ p < t * 120 + nd a then nI (a / 256 ^ (p - t * 120) % 256) else μ.1 3 p) (t * 120 + nd a) 0 = (fun p => if t * 120 ≤ p ∧ p < t * 120 + nm_ a then nI (if p - t * 120 < nd a then a / 256 ^ (p - t * 120) % 256 else 0) else μ.1 3 p) := by
        funext p
        unfold upd
        rw [em, Nat.add_zero]
        by_cases c4 : p = t * 120 + nd a
        · rw [if_pos c4, if_pos (by omega), if_neg (by omega)]; rfl
        · rw [if_neg c4]
          dsimp only
          by_cases c3 : t * 120 ≤ p ∧ p < t * 120 + nd a
          · rw [if_pos c3, if_pos (by omega), if_pos (by omega)]
          · rw [if_neg c3, if_neg (by omega)]
      rw [if_neg (fun z => c2 ((nI_ltI (by omega) (by omega)).mp z)), nI_add, pa_ix (by omega) (by decide), pa_gd, pa_let, nI_clamp (by omega), st_mrow, e, pl1, nI_add]
      rw [em] at main ⊢
      exact main
theorem X_pushNum {μ : sd_Me} {S T : List El} (h : AX μ S T) (hn : S.length + T.length < 64) {a : Nat} {neg : Bool} (ha : a < 2 ^ 62) (hneg : neg = true → 0 < a) : ∃ μ', fn_Elements_pushNumber_r2 (sgn a neg) μ = some μ' ∧ AX μ' (enc a neg :: S) T ∧ Fr [2, 3, 4] μ μ' := by
  obtain ⟨t, h1, h2, h3, h4⟩ := pnM_AX h hn (neg := neg) ha
  obtain ⟨g1, g2, g3⟩ := h.d
  have h8 : nd a ≤ 8 := nd_le 8 a (by omega)
  have hJ : ∀ x : Int64, x = sgn a neg → fn_Elements_pushNumber_r2_J43 x (nI t) (nI (t * 120)) (lN a) μ = some (pnM μ a neg t S.length) := by
    intro x hx
    unfold fn_Elements_pushNumber_r2_J43
    have e := X_pnL (a := a) (t := t) (x := x) ha h1 (kk := fun x5 x6 x7 x8 m9 => fn_Elements_pushNumber_r2_J92 (x5) (x6) (x7) (x8) m9) (nd a) 0 10000 μ (by omega) (by omega)
    rw [Nat.pow_zero, Nat.div_one] at e
    rw [pl0, e, hx]
    exact X_pn92 ha hneg h1 g1
  refine ⟨_, ?_, h3, h4⟩
  unfold fn_Elements_pushNumber_r2
  rw [g1, g2, nI_add, pl64, if_pos ((nI_ltI (by omega) (by omega)).mpr hn), pa_ix (by omega) (by decide), pa_gd, pa_let, pa_let, nI_clamp (by omega), h2, pl120, pk_mul]
  cases neg with
  | false =>
    have e0 : (0 : Int32) ≤ lg_cmp (sgn a false) 0 := by
      show (0 : Int32) ≤ lg_cmp (lN a) 0
      rcases Nat.eq_zero_or_pos a with z | z
      · rw [z, lgc_0]; decide
      · rw [lgc_pos z (by omega)]; decide
    rw [if_pos e0]
    exact hJ _ rfl
  | true =>
    have e0 : ¬ (0 : Int32) ≤ lg_cmp (sgn a true) 0 := by
      show ¬ (0 : Int32) ≤ lg_cmp (-lN a) 0
      rw [lgc_neg (hneg rfl) (by omega)]; decide
    have en : -sgn a true = lN a := by
      show - -lN a = lN a
      rw [Int64.neg_neg]
    rw [if_neg e0, en]
    exact hJ _ rfl
