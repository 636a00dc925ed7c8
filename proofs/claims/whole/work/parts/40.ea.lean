/-! digests as operations; signatures -/
def HX (μ ν : sd_Me) : Prop := HF 9 μ ∧ HF 14 μ ∧ (μ.1 8 0).toInt64 = ν.2 0
def OpX (fx : sd_Me → Option (Int32 × sd_Me)) (c : Int32) : Prop := ∀ (μ ν : sd_Me) (S T : List El), AX μ S T → AM ν S T → S.length + T.length ≤ 60 → ν.1 0 7 = 0 → CN μ ν → HX μ ν → SimO (fx μ) (fn_Model_operation_r0 c ν) μ ν
theorem OpS.x {fx : sd_Me → Option (Int32 × sd_Me)} {c : Int32} (h : OpS fx c) : OpX fx c := fun μ ν S T a b d e f _ => h μ ν S T a b d e f
theorem HX.keep {μ ν μ' ν' : sd_Me} (h : HX μ ν) (k : KX μ μ') (l : ν'.2 0 = ν.2 0) : HX μ' ν' := ⟨by unfold HF; rw [k.2.2.2.2.1]; exact h.1, by unfold HF; rw [k.2.2.2.2.2]; exact h.2.1, by rw [k.2.2.2.1, l]; exact h.2.2⟩
/-- one digest on both sides -/
def Dg (fx : sd_Me → Option sd_Me) (fm : Int32 → sd_Me → Option sd_Me) : Prop := ∀ (μ ν : sd_Me) (S T : List El) (e : El), AX μ (e :: S) T → AM ν (e :: S) T → CN μ ν → HX μ ν → ∃ (e' : El) (μ' ν' : sd_Me), fx μ = some μ' ∧ fm (nI S.length) ν = some ν' ∧ AX μ' (e' :: S) T ∧ AM ν' (e' :: S) T ∧ KX μ μ' ∧ KM [] ν ν' ∧ CN μ' ν'
theorem KM.fr {P : List Nat} {ν ν' : sd_Me} (h : Fr [1, 2, 5, 6, 7, 8] ν ν') : KM P ν ν' := ⟨fun _ _ => by rw [h.1 0 (by decide)], h.1 3 (by decide), h.1 4 (by decide), by rw [h.2]⟩
theorem dg_sha : Dg fn_BlockDigest_replaceTop_r9_r2 fn_Model_wide_r0 := by
  intro μ ν S T e hx hm hc hh
  obtain ⟨e', μ', ν', h1, h2, h3, h4, h5, h6⟩ := sim_sha hx hm hh.1
  exact ⟨e', μ', ν', h1, h2, h3, h4, ⟨h5.1 0 (by decide), h5.1 1 (by decide), h5.1 7 (by decide), by rw [h5.1 8 (by decide)], h5.1 9 (by decide), h5.1 14 (by decide)⟩, KM.fr h6, ⟨by rw [h5.1 6 (by decide), h6.1 0 (by decide)]; exact hc.1, by rw [h5.1 8 (by decide), h6.1 0 (by decide)]; exact hc.2⟩⟩
theorem dg_rip : Dg fn_BlockDigest_replaceTop_r14_r2 fn_Model_small_r0 := by
  intro μ ν S T e hx hm hc hh
  obtain ⟨e', μ', ν', h1, h2, h3, h4, h5, h6⟩ := sim_rip hx hm hh.2.1
  exact ⟨e', μ', ν', h1, h2, h3, h4, ⟨h5.1 0 (by decide), h5.1 1 (by decide), h5.1 7 (by decide), by rw [h5.1 8 (by decide)], h5.1 9 (by decide), h5.1 14 (by decide)⟩, KM.fr h6, ⟨by rw [h5.1 6 (by decide), h6.1 0 (by decide)]; exact hc.1, by rw [h5.1 8 (by decide), h6.1 0 (by decide)]; exact hc.2⟩⟩
theorem op_dg1 {c : Int32} {fx : sd_Me → Option sd_Me} {fm : Int32 → sd_Me → Option sd_Me} (hd : Dg fx fm) (h1 : ∀ μ, fn_Desk_performDigest_r0 c μ = if (1 : Int32) ≤ μ.1 2 4 then sd_bv (fx μ) (fun m => some (0, m)) else some (5, μ)) (h2 : ∀ ν, fn_Model_operation_r0 c ν = sd_bv (sd_bi (fn_Model_has_r0 1 ν) (fun x2 m1 => if x2 = (0 : Int32) then some m1 else sd_bi (fn_Model_top_r0 (0 : Int32) m1) (fun x10 m9 => sd_bv (fm x10 m9) (fun m11 => some m11)))) (fun m => some m)) : OpX (fn_Desk_performDigest_r0 c) c := by
  intro μ ν S T hx hm hl h7 hc hh
  have hle : ((1 : Int32) ≤ μ.1 2 4) ↔ 1 ≤ S.length := xle hx (n := 1) (by decide)
  rw [h1, h2]
  cases S with
  | nil =>
    have e1 : fn_Model_has_r0 1 ν = some (0, sd_st ν 0 7 5) := M_hasF hm h7 (by decide) (by decide)
    exact sim_f (f := 5) (by decide) hc (by rw [if_neg (fun z => absurd (hle.mp z) (by decide))]) hx Fr.rf (by rw [e1, pa_bi, if_pos (by decide), pa_bv]) (KM.st0 (by decide)) (pa_ss _ _ _ _) (by omega)
  | cons e S =>
    have hS : 1 ≤ (e :: S).length := by rw [List.length_cons]; omega
    have e1 : fn_Model_has_r0 1 ν = some (1, ν) := M_hasT hm h7 hS
    have e2 : fn_Model_top_r0 0 ν = some (nI S.length, ν) := M_top hm (k := 0) hS
    obtain ⟨e', μ', ν', a1, a2, a3, a4, a5, a6, a7⟩ := hd μ ν S T e hx hm hc hh
    rw [if_pos (hle.mpr hS), a1, pa_bv, e1, pa_bi, if_neg (by decide), e2, pa_bi, a2, pa_bv, pa_bv]
    exact ⟨0, μ', ν', rfl, rfl, by rw [a6.1 7 (by decide)]; exact h7, Or.inl rfl, a5, a6.mono (by decide), a7, fun _ => Or.inl (a6.1 9 (by decide)), e' :: S, T, a3, by rw [List.length_cons] at hl ⊢; omega, fun _ => a4⟩
theorem op_dg2 {c : Int32} {fx fy : sd_Me → Option sd_Me} {fm gm : Int32 → sd_Me → Option sd_Me} (hd : Dg fx fm) (hg : Dg fy gm) (h1 : ∀ μ, fn_Desk_performDigest_r0 c μ = if (1 : Int32) ≤ μ.1 2 4 then sd_bv (fx μ) (fun m4 => sd_bv (fy m4) (fun m => some (0, m))) else some (5, μ)) (h2 : ∀ ν, fn_Model_operation_r0 c ν = sd_bv (sd_bi (fn_Model_has_r0 1 ν) (fun x2 m1 => if x2 = (0 : Int32) then some m1 else sd_bi (fn_Model_top_r0 (0 : Int32) m1) (fun x10 m9 => sd_bv (fm x10 m9) (fun m11 => sd_bi (fn_Model_top_r0 (0 : Int32) m11) (fun x4 m3 => sd_bv (gm x4 m3) (fun m5 => some m5)))))) (fun m => some m)) : OpX (fn_Desk_performDigest_r0 c) c := by
  intro μ ν S T hx hm hl h7 hc hh
  have hle : ((1 : Int32) ≤ μ.1 2 4) ↔ 1 ≤ S.length := xle hx (n := 1) (by decide)
  rw [h1, h2]
  cases S with
  | nil =>
    have e1 : fn_Model_has_r0 1 ν = some (0, sd_st ν 0 7 5) := M_hasF hm h7 (by decide) (by decide)
    exact sim_f (f := 5) (by decide) hc (by rw [if_neg (fun z => absurd (hle.mp z) (by decide))]) hx Fr.rf (by rw [e1, pa_bi, if_pos (by decide), pa_bv]) (KM.st0 (by decide)) (pa_ss _ _ _ _) (by omega)
  | cons e S =>
    have hS : 1 ≤ (e :: S).length := by rw [List.length_cons]; omega
    have e1 : fn_Model_has_r0 1 ν = some (1, ν) := M_hasT hm h7 hS
    have e2 : fn_Model_top_r0 0 ν = some (nI S.length, ν) := M_top hm (k := 0) hS
    obtain ⟨e', μ', ν', a1, a2, a3, a4, a5, a6, a7⟩ := hd μ ν S T e hx hm hc hh
    have e3 : fn_Model_top_r0 0 ν' = some (nI S.length, ν') := M_top a4 (k := 0) (by rw [List.length_cons]; omega)
    obtain ⟨e'', μ'', ν'', b1, b2, b3, b4, b5, b6, b7⟩ := hg μ' ν' S T e' a3 a4 a7 (hh.keep a5 a6.2.2.2)
    rw [if_pos (hle.mpr hS), a1, pa_bv, b1, pa_bv, e1, pa_bi, if_neg (by decide), e2, pa_bi, a2, pa_bv, e3, pa_bi, b2, pa_bv, pa_bv]
    exact ⟨0, μ'', ν'', rfl, rfl, by rw [b6.1 7 (by decide), a6.1 7 (by decide)]; exact h7, Or.inl rfl, a5.tr b5, (a6.mono (by decide)).tr (b6.mono (by decide)), b7, fun _ => Or.inl (by rw [b6.1 9 (by decide), a6.1 9 (by decide)]), e'' :: S, T, b3, by rw [List.length_cons] at hl ⊢; omega, fun _ => b4⟩
theorem op_166 : OpX (fn_Desk_performDigest_r0 166) 166 := op_dg1 dg_rip (fun _ => rfl) (fun _ => rfl)
theorem op_168 : OpX (fn_Desk_performDigest_r0 168) 168 := op_dg1 dg_sha (fun _ => rfl) (fun _ => rfl)
theorem op_169 : OpX (fn_Desk_performDigest_r0 169) 169 := op_dg2 dg_sha dg_rip (fun _ => rfl) (fun _ => rfl)
theorem op_170 : OpX (fn_Desk_performDigest_r0 170) 170 := op_dg2 dg_sha dg_sha (fun _ => rfl) (fun _ => rfl)
theorem op_167 : OpX (fn_Desk_performDigest_r0 167) 167 := (op_no (fun _ => rfl) (fun _ => rfl)).x
/-! one signature -/
def fitX (sec : Int64) (e d : El) : Int64 := (sec + (e.getD 0 0).toInt64 * (d.getD (d.length - 1) 0).toInt64) + (e.getD (e.length - 1) 0).toInt64
def fitB (sec : Int64) (e d : El) : Bool := decide (0 < e.length) && decide (0 < d.length) && decide (lg_cmp (fitX sec e d - fitX sec e d / 3 * 3) 0 = 0)
theorem isB_mul {x y : Int32} (h : isB x) (g : isB y) : (x * y).toInt64 = x.toInt64 * y.toInt64 := by
  obtain ⟨a, ha, rfl⟩ := h
  obtain ⟨b, hb, rfl⟩ := g
  have : a * b < 256 * 256 := Nat.mul_lt_mul'' ha hb
  rw [pk_mul, nI_l (by omega), nI_l (by omega), nI_l (by omega), lN_mul]
theorem X_fits {μ : sd_Me} {S T : List El} (h : AX μ S T) {a b : Nat} (ha : a < S.length) (hb : b < S.length) : fn_Signatures_fits_r8_r2 (nI a) (nI b) μ = some (bI (fitB (μ.1 8 0).toInt64 (S.getD a []) (S.getD b [])), sd_st μ 8 1 (μ.1 8 1 + 1)) := by
  have h1 : AX (sd_st μ 8 1 (μ.1 8 1 + 1)) S T := h.fr (L := [8]) (Fr.st (by decide)) (by decide) (by decide) (by decide) (by decide)
  have ea := (h.ok ha).1
  have eb := (h.ok hb).1
  have e8 : (sd_st μ 8 1 (μ.1 8 1 + 1)).1 8 0 = μ.1 8 0 := pa_sn _ _ _ _ _ (by decide)
  unfold fn_Signatures_fits_r8_r2
  rw [pa_let]
  generalize sd_st μ 8 1 (μ.1 8 1 + 1) = μ1 at h1 e8 ⊢
  rw [X_len h1 ha, pa_bi, X_len h1 hb, pa_bi]
  by_cases c : 0 < (S.getD a []).length
  · rw [if_neg (show ¬ nI (S.getD a []).length < 1 from fun z => by have := (nI_ltI (b := 1) (by omega) (by omega)).mp z; omega)]
    by_cases d : 0 < (S.getD b []).length
    · rw [if_pos (show (1 : Int32) ≤ nI (S.getD b []).length from (nI_leI (a := 1) (by omega) (by omega)).mpr d), pl0, X_oct h1 ha c, pa_bi, pa_let, pl1, pk_sub (by omega), X_oct h1 ha (by omega), pa_bi, pa_let, pk_sub (by omega), X_oct h1 hb (by omega), pa_bi, pa_let, e8]
      have hf : fitB (μ.1 8 0).toInt64 (S.getD a []) (S.getD b []) = decide (lg_cmp (fitX (μ.1 8 0).toInt64 (S.getD a []) (S.getD b []) - fitX (μ.1 8 0).toInt64 (S.getD a []) (S.getD b []) / 3 * 3) 0 = 0) := by
        unfold fitB
        rw [decide_eq_true c, decide_eq_true d, Bool.true_and, Bool.true_and]
      rw [hf]
      show (if lg_cmp (fitX (μ.1 8 0).toInt64 (S.getD a []) (S.getD b []) - fitX (μ.1 8 0).toInt64 (S.getD a []) (S.getD b []) / 3 * 3) 0 = 0 then _ else _) = _
      by_cases z : lg_cmp (fitX (μ.1 8 0).toInt64 (S.getD a []) (S.getD b []) - fitX (μ.1 8 0).toInt64 (S.getD a []) (S.getD b []) / 3 * 3) 0 = 0
      · rw [if_pos z, decide_eq_true z]; rfl
      · rw [if_neg z, decide_eq_false z]; rfl
    · rw [if_neg (show ¬ (1 : Int32) ≤ nI (S.getD b []).length from fun z => d ((nI_leI (a := 1) (by omega) (by omega)).mp z))]
      unfold fitB
      rw [decide_eq_false d, Bool.and_false, Bool.false_and]
      rfl
  · rw [if_pos (show nI (S.getD a []).length < 1 from (nI_ltI (b := 1) (by omega) (by omega)).mpr (by omega))]
    unfold fitB
    rw [decide_eq_false c, Bool.false_and, Bool.false_and]
    rfl
theorem M_fit {ν : sd_Me} {r q : Nat} {e d : El} (hr : r < 64) (hq : q < 64) (h : Row ν r e) (g : Row ν q d) (he : okE e) (hd : okE d) : fn_Model_fit_r0 (nI r) (nI q) ν = some (bI (fitB (ν.2 0) e d), sd_st ν 0 10 (ν.1 0 10 + 1)) := by
  have h1 : Row (sd_st ν 0 10 (ν.1 0 10 + 1)) r e := h.rs he.1 RS.st0
  have g1 : Row (sd_st ν 0 10 (ν.1 0 10 + 1)) q d := g.rs hd.1 RS.st0
  have ea := he.1
  have eb := hd.1
  have s0 : (sd_st ν 0 10 (ν.1 0 10 + 1)).2 0 = ν.2 0 := rfl
  unfold fn_Model_fit_r0
  rw [pa_let]
  generalize sd_st ν 0 10 (ν.1 0 10 + 1) = ν1 at h1 g1 s0 ⊢
  rw [pa_ix (by omega) (by decide), pa_gd, nI_clamp (by omega), h1.1]
  by_cases c : 0 < e.length
  · rw [if_neg (nI_ne0 c (by omega)), pa_ix (by omega) (by decide), pa_gd, nI_clamp (by omega), g1.1]
    by_cases z : 0 < d.length
    · have p1 := h1.2 0 c
      have p2 := h1.2 (e.length - 1) (by omega)
      have p3 := g1.2 (d.length - 1) (by omega)
      rw [Nat.add_zero] at p1
      rw [show 120 * r + (e.length - 1) = 120 * r + e.length - 1 by omega] at p2
      rw [show 120 * q + (d.length - 1) = 120 * q + d.length - 1 by omega] at p3
      rw [if_neg (nI_ne0 z (by omega)), pl120, pk_mul, pk_mul, nI_add, nI_add, pl1, pk_sub (by omega), pk_sub (by omega), pa_ix (by omega) (by decide), pa_gd, pa_gd, pa_ix (by omega) (by decide), pa_gd, pa_gd, pa_ix (by omega) (by decide), pa_gd, pa_let, nI_clamp (by omega), nI_clamp (by omega), nI_clamp (by omega), p1, p2, p3, s0, isB_mul (he.2 0 c) (hd.2 _ (by omega))]
      have hf : fitB (ν.2 0) e d = decide (lg_cmp (fitX (ν.2 0) e d - fitX (ν.2 0) e d / 3 * 3) 0 = 0) := by
        unfold fitB
        rw [decide_eq_true c, decide_eq_true z, Bool.true_and, Bool.true_and]
      rw [hf]
      show (if lg_cmp (fitX (ν.2 0) e d - fitX (ν.2 0) e d / 3 * 3) 0 = 0 then _ else _) = _
      by_cases w : lg_cmp (fitX (ν.2 0) e d - fitX (ν.2 0) e d / 3 * 3) 0 = 0
      · rw [if_pos w, decide_eq_true w]; rfl
      · rw [if_neg w, decide_eq_false w]; rfl
    · rw [if_pos (by rw [show d.length = 0 by omega]; rfl)]
      unfold fitB
      rw [decide_eq_false z, Bool.and_false, Bool.false_and]
      rfl
  · rw [if_pos (by rw [show e.length = 0 by omega]; rfl)]
    unfold fitB
    rw [decide_eq_false c, Bool.false_and, Bool.false_and]
    rfl
