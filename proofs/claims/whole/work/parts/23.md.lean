/-! the reference's numbers -/
theorem lN_rem256 {a : Nat} (h : a < 2 ^ 62) : (lN a - lN a / 256 * 256).toInt32 = nI (a % 256) := by
  rw [show (256 : Int64) = lN 256 from rfl, pk_lRem (by omega) (by omega) (by omega), lN_i]
theorem lN_div256 {a : Nat} (h : a < 2 ^ 62) : lN a / 256 = lN (a / 256) := by
  rw [show (256 : Int64) = lN 256 from rfl, pk_lDiv (by omega) (by omega) (by omega)]
theorem M_pnL {a t : Nat} (ha : a < 2 ^ 62) (ht : t < 64) {x : Int64} {kk : Int64 → Int32 → sd_Me → Option sd_Me} : ∀ (m j f : Nat) (μ : sd_Me), nd a = j + m → m < f → μ.1 0 2 = nI t → fn_Model_pushNumber_r0_L16 kk f x (lN (a / 256 ^ j)) (nI j) μ = kk x (nI (nd a)) (sd_mrow μ 1 (fun p => if t * 120 + j ≤ p ∧ p < t * 120 + nd a then nI (a / 256 ^ (p - t * 120) % 256) else μ.1 1 p)) := by
  have h8 : nd a ≤ 8 := nd_le 8 a (by omega)
  intro m
  induction m with
  | zero =>
    intro j f μ h0 hf hs
    obtain ⟨f, rfl⟩ : ∃ g, f = g + 1 := ⟨f - 1, by omega⟩
    obtain rfl : j = nd a := by omega
    have e : (fun p => if t * 120 + nd a ≤ p ∧ p < t * 120 + nd a then nI (a / 256 ^ (p - t * 120) % 256) else μ.1 1 p) = μ.1 1 := funext (fun p => if_neg (by omega))
    rw [e, mrow_self, fn_Model_pushNumber_r0_L16, nd_end, lgc_0, if_pos (by decide)]
  | succ m ih =>
    intro j f μ h0 hf hs
    obtain ⟨f, rfl⟩ : ∃ g, f = g + 1 := ⟨f - 1, by omega⟩
    have hp := nd_lt_pos (a := a) (k := j) (by omega)
    have hle : a / 256 ^ j ≤ a := Nat.div_le_self _ _
    rw [fn_Model_pushNumber_r0_L16, lgc_pos hp (by omega), if_neg (by decide), hs, pl120, pk_mul, nI_add, pa_ix (by omega) (by decide), pa_gd, pa_let, pa_let, nI_clamp (by omega), lN_rem256 (by omega), lN_div256 (by omega), pl1, nI_add, Nat.div_div_eq_div_mul, ← Nat.pow_succ, ih (j + 1) f _ (by omega) (by omega) (by rw [pa_sc _ _ _ _ _ (by decide)]; exact hs), mrow_st]
    refine congrArg (fun g => kk x (nI (nd a)) (sd_mrow μ 1 g)) (funext fun p => ?_)
    by_cases c1 : t * 120 + j ≤ p ∧ p < t * 120 + nd a
    · rw [if_pos c1]
      by_cases c2 : t * 120 + (j + 1) ≤ p ∧ p < t * 120 + nd a
      · rw [if_pos c2]
      · rw [if_neg c2]
        obtain rfl : p = 120 * t + j := by omega
        rw [pa_ss, show 120 * t + j - t * 120 = j by omega]
    · rw [if_neg c1, if_neg (by omega), pa_sn _ _ _ _ _ (by omega)]
def pnMM (ν : sd_Me) (a : Nat) (neg : Bool) (t : Nat) : sd_Me := sd_st (sd_st (sd_mrow ν 1 (fun p => if t * 120 ≤ p ∧ p < t * 120 + nm_ a then nI (encB a neg (p - t * 120)) else ν.1 1 p)) 2 t (nI (nm_ a))) 0 2 (nI (t + 1))
theorem M_pn130 {μ : sd_Me} {t n : Nat} (ht : t < 64) (hd : μ.1 0 2 = nI t) : fn_Model_pushNumber_r0_J130 (nI n) μ = some (sd_st (sd_st μ 2 t (nI n)) 0 2 (nI (t + 1))) := by
  unfold fn_Model_pushNumber_r0_J130
  have e : (sd_st μ 2 t (nI n)).1 0 2 = nI t := by rw [pa_sc _ _ _ _ _ (by decide)]; exact hd
  rw [hd, pa_ix (by omega) (by decide), pa_gd, pa_let, pa_let, nI_clamp (by omega), e, pl1, nI_add]
theorem add128 {b : Nat} : nI b + 128 = nI (b + 128) := nI_add b 128
theorem M_pn101 {μ : sd_Me} {a t : Nat} {neg : Bool} (ha : a < 2 ^ 62) (hneg : neg = true → 0 < a) (ht : t < 64) (hd : μ.1 0 2 = nI t) : fn_Model_pushNumber_r0_J101 (sgn a neg) (nI (nm_ a)) (sd_mrow μ 1 (fun p => if t * 120 ≤ p ∧ p < t * 120 + nm_ a then nI (if p - t * 120 < nd a then a / 256 ^ (p - t * 120) % 256 else 0) else μ.1 1 p)) = some (pnMM μ a neg t) := by
  have h8 : nd a ≤ 8 := nd_le 8 a (by omega)
  have h9 := nm_le (a := a)
  have hd2 : ∀ f, (sd_mrow μ 1 f).1 0 2 = nI t := fun f => by rw [pa_rc _ _ _ _ (by decide)]; exact hd
  unfold fn_Model_pushNumber_r0_J101
  cases neg with
  | false =>
    have e0 : (0 : Int32) ≤ lg_cmp (sgn a false) 0 := by
      show (0 : Int32) ≤ lg_cmp (lN a) 0
      rcases Nat.eq_zero_or_pos a with z | z
      · rw [z, lgc_0]; decide
      · rw [lgc_pos z (by omega)]; decide
    rw [if_pos e0, M_pn130 ht (hd2 _)]
    unfold pnMM
    refine congrArg (fun f => some (sd_st (sd_st (sd_mrow μ 1 f) 2 t (nI (nm_ a))) 0 2 (nI (t + 1)))) (funext fun p => ?_)
    by_cases c : t * 120 ≤ p ∧ p < t * 120 + nm_ a
    · rw [if_pos c, if_pos c]
      unfold encB
      simp
    · rw [if_neg c, if_neg c]
  | true =>
    have hp := hneg rfl
    have hnd : 0 < nd a := by
      rw [nd_s (by omega)]; omega
    have e0 : ¬ (0 : Int32) ≤ lg_cmp (sgn a true) 0 := by
      show ¬ (0 : Int32) ≤ lg_cmp (-lN a) 0
      rw [lgc_neg hp (by omega)]; decide
    have e1 : nI 120 * nI t + nI (nm_ a) - 1 = nI (t * 120 + nm_ a - 1) := by rw [pk_mul, nI_add, pl1, pk_sub (by omega), Nat.mul_comm]
    have e3 : (sd_mrow μ 1 (fun p => if t * 120 ≤ p ∧ p < t * 120 + nm_ a then nI (if p - t * 120 < nd a then a / 256 ^ (p - t * 120) % 256 else 0) else μ.1 1 p)).1 1 (t * 120 + nm_ a - 1) = nI (if nm_ a - 1 < nd a then a / 256 ^ (nm_ a - 1) % 256 else 0) := by
      rw [pa_rs, if_pos (by omega), show t * 120 + nm_ a - 1 - t * 120 = nm_ a - 1 by omega]
    rw [if_neg e0, hd2, pl120, e1, pa_ix (by omega) (by decide), pa_gd, pa_gd, pa_let, nI_clamp (by omega), e3, add128, st_mrow, M_pn130 ht (hd2 _)]
    unfold pnMM
    refine congrArg (fun f => some (sd_st (sd_st (sd_mrow μ 1 f) 2 t (nI (nm_ a))) 0 2 (nI (t + 1)))) (funext fun p => ?_)
    unfold upd
    dsimp only
    by_cases c : t * 120 ≤ p ∧ p < t * 120 + nm_ a
    · rw [if_pos c]
      unfold encB
      by_cases c2 : p = t * 120 + nm_ a - 1
      · rw [if_pos c2, show p - t * 120 = nm_ a - 1 by omega, if_pos (show true = true ∧ nm_ a - 1 + 1 = nm_ a from ⟨rfl, by omega⟩), if_pos c]
      · rw [if_neg c2, if_pos c, if_neg (show ¬ (true = true ∧ p - t * 120 + 1 = nm_ a) from fun z => c2 (by omega)), Nat.add_zero]
    · rw [if_neg c, if_neg (show ¬ p = t * 120 + nm_ a - 1 by omega), if_neg c]
theorem M_pn12 {μ : sd_Me} {a t : Nat} {neg : Bool} (ha : a < 2 ^ 62) (hneg : neg = true → 0 < a) (ht : t < 64) (hd : μ.1 0 2 = nI t) : fn_Model_pushNumber_r0_J12 (sgn a neg) (lN a) μ = some (pnMM μ a neg t) := by
  have h8 : nd a ≤ 8 := nd_le 8 a (by omega)
  have h9 := nm_le (a := a)
  have main := M_pn101 (neg := neg) ha hneg ht hd
  unfold fn_Model_pushNumber_r0_J12
  have eL := M_pnL (a := a) (t := t) (x := sgn a neg) ha ht (kk := fun x3 x4 m5 => if x4 ≤ (0 : Int32) then fn_Model_pushNumber_r0_J101 (x3) (x4) m5 else sd_gd (sd_ix ((((120 : Int32) * (m5.1 0 2)) + x4) - (1 : Int32)) 16800) (if (m5.1 1 (Int32.toNatClampNeg ((((120 : Int32) * (m5.1 0 2)) + x4) - (1 : Int32)))) ≤ (127 : Int32) then fn_Model_pushNumber_r0_J101 (x3) (x4) m5 else sd_gd (sd_ix (((120 : Int32) * (m5.1 0 2)) + x4) 16800) (sd_let (sd_st m5 1 (Int32.toNatClampNeg (((120 : Int32) * (m5.1 0 2)) + x4)) (0 : Int32)) (fun m9 => fn_Model_pushNumber_r0_J101 (x3) ((x4 + (1 : Int32))) m9)))) (nd a) 0 10000 μ (by omega) (by omega) hd
  rw [Nat.pow_zero, Nat.div_one] at eL
  refine Eq.trans eL ?_
  have hd2 : ∀ f, (sd_mrow μ 1 f).1 0 2 = nI t := fun f => by rw [pa_rc _ _ _ _ (by decide)]; exact hd
  by_cases c : nd a = 0
  · have e : (fun p => if t * 120 + 0 ≤ p ∧ p < t * 120 + nd a then nI (a / 256 ^ (p - t * 120) % 256) else μ.1 1 p) = (fun p => if t * 120 ≤ p ∧ p < t * 120 + nm_ a then nI (if p - t * 120 < nd a then a / 256 ^ (p - t * 120) % 256 else 0) else μ.1 1 p) := by
      funext p
      rw [if_neg (by omega), if_neg (by rw [nm_0 c]; omega)]
    rw [e, if_pos (by rw [c]; decide)]
    rw [nm_0 c] at main ⊢
    rw [c] at main ⊢
    exact main
  · have e1 : nI 120 * nI t + nI (nd a) - 1 = nI (t * 120 + nd a - 1) := by rw [pk_mul, nI_add, pl1, pk_sub (by omega), Nat.mul_comm]
    have e3 : (sd_mrow μ 1 (fun p => if t * 120 + 0 ≤ p ∧ p < t * 120 + nd a then nI (a / 256 ^ (p - t * 120) % 256) else μ.1 1 p)).1 1 (t * 120 + nd a - 1) = nI (a / 256 ^ (nd a - 1) % 256) := by
      rw [pa_rs, if_pos (by omega), show t * 120 + nd a - 1 - t * 120 = nd a - 1 by omega]
    rw [if_neg (nI_nle (by omega) (by omega)), hd2, pl120, e1, pa_ix (by omega) (by decide), pa_gd, nI_clamp (by omega), e3, pl127]
    by_cases c2 : a / 256 ^ (nd a - 1) % 256 ≤ 127
    · have em : nm_ a = nd a := by
        unfold nm_
        rw [if_neg (by omega)]
      have e : (fun p => if t * 120 + 0 ≤ p ∧ p < t * 120 + nd a then nI (a / 256 ^ (p - t * 120) % 256) else μ.1 1 p) = (fun p => if t * 120 ≤ p ∧ p < t * 120 + nm_ a then nI (if p - t * 120 < nd a then a / 256 ^ (p - t * 120) % 256 else 0) else μ.1 1 p) := by
        funext p
        rw [em, Nat.add_zero]
        by_cases c3 : t * 120 ≤ p ∧ p < t * 120 + nd a
        · rw [if_pos c3, if_pos c3, if_pos (by omega)]
        · rw [if_neg c3, if_neg c3]
      rw [if_pos ((nI_leI (by omega) (by omega)).mpr c2), e]
      rw [em] at main ⊢
      exact main
    · have em : nm_ a = nd a + 1 := by
        unfold nm_
        rw [if_pos (by omega)]
      have e : upd (fun p => if t * 120 + 0 ≤ p ∧ p < t * 120 + nd a then nI (a / 256 ^ (p - t * 120) % 256) else μ.1 1 p) (120 * t + nd a) 0 = (fun p => if t * 120 ≤ p ∧ p < t * 120 + nm_ a then nI (if p - t * 120 < nd a then a / 256 ^ (p - t * 120) % 256 else 0) else μ.1 1 p) := by
        funext p
        unfold upd
        rw [em, Nat.add_zero]
        by_cases c4 : p = 120 * t + nd a
        · rw [if_pos c4, if_pos (by omega), if_neg (by omega)]; rfl
        · rw [if_neg c4]
          dsimp only
          by_cases c3 : t * 120 ≤ p ∧ p < t * 120 + nd a
          · rw [if_pos c3, if_pos (by omega), if_pos (by omega)]
          · rw [if_neg c3, if_neg (by omega)]
      rw [if_neg (fun z => c2 ((nI_leI (by omega) (by omega)).mp z)), pk_mul, nI_add, pa_ix (by omega) (by decide), pa_gd, pa_let, nI_clamp (by omega), st_mrow, e, pl1, nI_add]
      rw [em] at main ⊢
      exact main
theorem M_pushNum {ν : sd_Me} {S T : List El} (h : AM ν S T) (hn : S.length + T.length < 64) {a : Nat} {neg : Bool} (ha : a < 2 ^ 62) (hneg : neg = true → 0 < a) : ∃ ν', fn_Model_pushNumber_r0 (sgn a neg) ν = some ν' ∧ AM ν' (enc a neg :: S) T ∧ KM [2] ν ν' ∧ ν'.2 = ν.2 := by
  have h8 : nd a ≤ 8 := nd_le 8 a (by omega)
  have h9 := nm_le (a := a)
  refine ⟨pnMM ν a neg S.length, ?_, ?_, ?_, rfl⟩
  · unfold fn_Model_pushNumber_r0
    cases neg with
    | false =>
      have e0 : (0 : Int32) ≤ lg_cmp (sgn a false) 0 := by
        show (0 : Int32) ≤ lg_cmp (lN a) 0
        rcases Nat.eq_zero_or_pos a with z | z
        · rw [z, lgc_0]; decide
        · rw [lgc_pos z (by omega)]; decide
      rw [if_pos e0]
      exact M_pn12 ha hneg (by omega) h.1
    | true =>
      have e0 : ¬ (0 : Int32) ≤ lg_cmp (sgn a true) 0 := by
        show ¬ (0 : Int32) ≤ lg_cmp (-lN a) 0
        rw [lgc_neg (hneg rfl) (by omega)]; decide
      have en : -sgn a true = lN a := by
        show - -lN a = lN a
        rw [Int64.neg_neg]
      rw [if_neg e0, en]
      exact M_pn12 ha hneg (by omega) h.1
  · refine AM_push h hn (enc_ok (by omega)) ?_ ?_ ⟨?_, fun k hk => ?_⟩ ?_
    · unfold pnMM; rw [pa_ss]
    · unfold pnMM; rw [pa_sn _ _ _ _ _ (by decide), pa_sc _ _ _ _ _ (by decide), pa_rc _ _ _ _ (by decide)]
    · unfold pnMM; rw [pa_sc _ _ _ _ _ (by decide), pa_ss, enc_len]
    · rw [enc_len] at hk
      unfold pnMM
      rw [pa_sc _ _ _ _ _ (by decide), pa_sc _ _ _ _ _ (by decide), pa_rs, if_pos (by omega), enc_get hk]
      congr 2
      omega
    · intro r hr hlt
      unfold pnMM
      rw [pa_sc _ _ _ _ _ (by decide), pa_sn _ _ _ _ _ hr, pa_rc _ _ _ _ (by decide)]
      refine ⟨rfl, fun k hk => ?_⟩
      rw [pa_sc _ _ _ _ _ (by decide), pa_sc _ _ _ _ _ (by decide), pa_rs, if_neg (by omega)]
  · exact ((KM.row (by decide) (by decide) (by decide)).tr (KM.stc (by decide) (by decide) (by decide))).tr (KM.st0 (by decide))
