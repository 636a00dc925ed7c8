theorem lst_lst {ν : sd_Me} {x y : Int64} : sd_lst (sd_lst ν 1 x) 1 y = sd_lst ν 1 y := by
  unfold sd_lst
  refine Prod.ext rfl ?_
  funext k
  by_cases h : k = 1 <;> simp [h]
theorem lst_self {ν : sd_Me} : sd_lst ν 1 (ν.2 1) = ν := by
  unfold sd_lst
  refine Prod.ext rfl ?_
  funext k
  by_cases h : k = 1 <;> simp [h]
theorem lst_get {ν : sd_Me} {x : Int64} : (sd_lst ν 1 x).2 1 = x := by simp [sd_lst]
theorem rem128 : ∀ b, b < 256 → nI b - nI b / 128 * 128 = nI b &&& 127 := by decide +kernel
theorem M_hasT {ν : sd_Me} {S T : List El} (h : AM ν S T) (h7 : ν.1 0 7 = 0) {n : Nat} (hn : n ≤ S.length) : fn_Model_has_r0 (nI n) ν = some (1, ν) := by
  have := h.2.2.1
  rw [M_has h h7 (by omega), if_pos hn]
  simp [bI, hn]
theorem M_hasF {ν : sd_Me} {S T : List El} (h : AM ν S T) (h7 : ν.1 0 7 = 0) {n : Nat} (hn : ¬ n ≤ S.length) (hb : n < 2 ^ 20) : fn_Model_has_r0 (nI n) ν = some (0, sd_st ν 0 7 5) := by
  rw [M_has h h7 hb, if_neg hn]
  simp [bI, hn]
theorem M_readL {q : Nat} {e : El} (hq : q < 140) (hl : e.length ≤ 4) (hB : okE e) {kk : Int32 → sd_Me → Option (Int32 × sd_Me)} : ∀ (r f : Nat) (ν : sd_Me), Row ν q e → r ≤ e.length → r < f → ν.2 1 = vg e (e.length - r) → fn_Model_reads_r0_L50 kk f (nI q) (nI r + (-1)) ν = kk (nI q) (sd_lst ν 1 (vg e e.length)) := by
  intro r
  induction r with
  | zero =>
    intro f ν hR h1 h2 h3
    obtain ⟨f, rfl⟩ : ∃ g, f = g + 1 := ⟨f - 1, by omega⟩
    rw [fn_Model_reads_r0_L50, if_pos (by decide)]
    rw [Nat.sub_zero] at h3
    rw [← h3, lst_self]
  | succ r ih =>
    intro f ν hR h1 h2 h3
    obtain ⟨f, rfl⟩ : ∃ g, f = g + 1 := ⟨f - 1, by omega⟩
    have e1 : nI e.length - 1 = nI (e.length - 1) := by rw [pl1, pk_sub (by omega)]
    obtain ⟨z, hz⟩ : ∃ z, e.length - (r + 1) = z := ⟨_, rfl⟩
    rw [hz] at h3
    have hR2 : ∀ x, Row (sd_lst ν 1 x) q e := fun x => hR
    rw [fn_Model_reads_r0_L50, pk_m1, if_neg (nI_pos (by omega)), pl120, pk_mul, nI_add, pa_ix (by omega) (by decide), pa_gd, pa_let, nI_clamp (n := 120 * q + r) (by omega), hR.2 r (by omega), pa_ix hq (by decide), pa_gd, nI_clamp (n := q) (by omega), hR.1, e1]
    by_cases c : r = e.length - 1
    · obtain ⟨b, hb, hbe⟩ := hB.2 r (by omega)
      have ev : ν.2 1 * 256 + Int32.toInt64 (e.getD r 0 - e.getD r 0 / 128 * 128) = vg e (e.length - r) := by
        rw [show e.length - r = z + 1 by omega, vg, if_pos (by omega), h3, ← c, hbe, rem128 b hb]
      rw [if_pos (by rw [c]), pa_let, ev, ih f _ (hR2 _) (by omega) (by omega) lst_get, lst_lst]
    · have ev : ν.2 1 * 256 + Int32.toInt64 (e.getD r 0) = vg e (e.length - r) := by
        rw [show e.length - r = z + 1 by omega, vg, if_neg (by omega), h3, show e.length - 1 - z = r by omega]
      rw [if_neg (fun w => c ((nI_eq (by omega) (by omega)).mp w)), pa_let, ev, ih f _ (hR2 _) (by omega) (by omega) lst_get, lst_lst]
theorem le127 {x : Int32} : x ≤ 127 ↔ x < 128 := by
  rw [Int32.le_iff_toInt_le, Int32.lt_iff_toInt_lt]
  have h1 : (127 : Int32).toInt = 127 := by decide
  have h2 : (128 : Int32).toInt = 128 := by decide
  omega
/-- the fault of reading a number -/
def rf (S : List El) (k : Nat) : Int32 := if k < S.length then (if (S.getD k []).length ≤ 4 then 0 else 6) else 5
theorem M_reads {ν : sd_Me} {S T : List El} (h : AM ν S T) (h7 : ν.1 0 7 = 0) {k : Nat} (hk : k < 2 ^ 16) : ∃ ν', fn_Model_reads_r0 (nI k) ν = some (bI (decide (rf S k = 0)), ν') ∧ ν'.1 0 7 = rf S k ∧ KM [7] ν ν' ∧ (rf S k = 0 → ν'.1 = ν.1 ∧ ν'.2 1 = vnum (S.getD k []) ∧ AM ν' S T) := by
  unfold fn_Model_reads_r0 rf
  rw [pl1, nI_add]
  by_cases c : k < S.length
  · have hok := h.ok c
    have hR := h.2.2.2.1 k c
    rw [M_hasT h h7 (by omega), pa_bi, if_neg (by decide), M_top h c, pa_bi, pa_ix (by have := h.2.2.1; omega) (by decide), pa_gd, nI_clamp (by have := h.2.2.1; omega), hR.1, pl4, if_pos c]
    by_cases d : (S.getD k []).length ≤ 4
    · rw [if_pos ((nI_leI (by omega) (by omega)).mpr d), if_pos d, pa_let, pa_gd, pa_let]
      have hR2 : ∀ x, Row (sd_lst ν 1 x) (S.length - 1 - k) (S.getD k []) := fun x => hR
      have hq : S.length - 1 - k < 140 := by have := h.2.2.1; omega
      rw [(hR2 0).1, ← pl1, pa_subm, M_readL hq d hok (S.getD k []).length 10000 _ (hR2 0) (Nat.le_refl _) (by omega) (by rw [lst_get, Nat.sub_self]; rfl), lst_lst, pa_ix hq (by decide), pa_gd, nI_clamp (by omega), (hR2 _).1, lst_get]
      have fin : ∀ x : Int64, x = vnum (S.getD k []) → ∃ ν', some ((1 : Int32), sd_lst ν 1 x) = some (bI (decide ((0 : Int32) = 0)), ν') ∧ ν'.1 0 7 = 0 ∧ KM [7] ν ν' ∧ ((0 : Int32) = 0 → ν'.1 = ν.1 ∧ ν'.2 1 = vnum (S.getD k []) ∧ AM ν' S T) := by
        intro x hx
        exact ⟨_, rfl, h7, KM.lst, fun _ => ⟨rfl, by rw [lst_get]; exact hx, h.eq rfl rfl rfl rfl⟩⟩
      by_cases c0 : (S.getD k []).length = 0
      · rw [if_pos (by rw [c0]; decide), pa_let, lst_lst]
        exact fin (vg (S.getD k []) (S.getD k []).length) (by unfold vnum; rw [if_pos c0, c0]; rfl)
      · rw [if_neg (nI_nle (by omega) (by omega)), pl120, pk_mul, nI_add, pl1, pk_sub (by omega), pa_ix (by omega) (by decide), pa_gd, nI_clamp (by omega), show 120 * (S.length - 1 - k) + (S.getD k []).length - 1 = 120 * (S.length - 1 - k) + ((S.getD k []).length - 1) by omega, (hR2 _).2 _ (by omega)]
        by_cases c1 : (S.getD k []).getD ((S.getD k []).length - 1) 0 < 128
        · rw [if_pos (le127.mpr c1), pa_let, lst_lst]
          exact fin _ (by unfold vnum; rw [if_neg c0, if_pos c1])
        · rw [if_neg (fun z => c1 (le127.mp z)), pa_let, lst_lst]
          exact fin _ (by unfold vnum; rw [if_neg c0, if_neg c1])
    · have hl := hok.1
      rw [if_neg (fun z => d ((nI_leI (by omega) (by omega)).mp z)), if_neg d, M_fails h7, pa_bv]
      exact ⟨_, rfl, pa_ss _ _ _ _, KM.st0 (by decide), fun z => absurd z (by decide)⟩
  · rw [M_hasF h h7 (by omega) (by omega), pa_bi, if_pos (by decide), if_neg c]
    exact ⟨_, rfl, pa_ss _ _ _ _, KM.st0 (by decide), fun z => absurd z (by decide)⟩
/-! truths -/
theorem nd_1 : nd 1 = 1 := by rw [nd_s (by decide), show 1 / 256 = 0 from rfl, nd_0]
theorem enc_0 {b : Bool} : enc 0 b = [] := by
  have : nm_ 0 = 0 := nm_0 nd_0
  simp [enc, this]
theorem enc_1 : enc 1 false = [1] := by
  have h : nm_ 1 = 1 := by
    unfold nm_
    rw [nd_1]
    rfl
  have e : encB 1 false 0 = 1 := by
    unfold encB
    rw [nd_1]
    rfl
  unfold enc
  rw [h]
  show [nI (encB 1 false 0)] = [1]
  rw [e]
  rfl
def b2n (b : Bool) : Nat := if b then 1 else 0
def tE (b : Bool) : El := enc (b2n b) false
theorem trB_tE {b : Bool} : trB (tE b) = b := by
  cases b
  · show trB (enc 0 false) = false
    rw [enc_0]; rfl
  · show trB (enc 1 false) = true
    rw [enc_1]; rfl
theorem M_truth {ν : sd_Me} {S T : List El} (h : AM ν S T) (hn : S.length + T.length < 64) {b : Bool} : ∃ ν', fn_Model_pushTruth_r0 (bI b) ν = some ν' ∧ AM ν' (tE b :: S) T ∧ KM [2] ν ν' ∧ ν'.2 = ν.2 := by
  obtain ⟨ν', e1, e2, e3, e4⟩ := M_pushNum h hn (a := b2n b) (neg := false) (by cases b <;> decide) (fun z => by cases z)
  refine ⟨ν', ?_, e2, e3, e4⟩
  unfold fn_Model_pushTruth_r0
  cases b
  · rw [if_pos (by decide)]
    have : fn_Model_pushNumber_r0 0 ν = some ν' := e1
    rw [this, pa_bv]
  · rw [if_neg (by decide)]
    have : fn_Model_pushNumber_r0 1 ν = some ν' := e1
    rw [this, pa_bv]
theorem X_truth {μ : sd_Me} {S T : List El} (h : AX μ S T) {n : Nat} (hn : n ≤ S.length) (hl : S.length - n + T.length < 64) {b : Bool} : ∃ μ', fn_Elements_replaceByTruth_r2 (nI n) (bI b) μ = some μ' ∧ AX μ' (tE b :: S.drop n) T ∧ Fr [2, 3, 4] μ μ' := by
  have hd := AX_drop h hn
  obtain ⟨μ', e1, e2, e3⟩ := X_pushNum hd (by rw [List.length_drop]; omega) (a := b2n b) (neg := false) (by cases b <;> decide) (fun z => by cases z)
  refine ⟨μ', ?_, e2, (Fr.st (by decide)).tr e3⟩
  unfold fn_Elements_replaceByTruth_r2
  rw [X_drop h hn, pa_bv]
  cases b
  · rw [if_pos (by decide)]
    have : fn_Elements_pushNumber_r2 0 (sd_st μ 2 4 (nI (S.length - n))) = some μ' := e1
    rw [this, pa_bv]
  · rw [if_neg (by decide)]
    have : fn_Elements_pushNumber_r2 1 (sd_st μ 2 4 (nI (S.length - n))) = some μ' := e1
    rw [this, pa_bv]
theorem M_must {ν : sd_Me} {S T : List El} {e : El} (h : AM ν (e :: S) T) (h7 : ν.1 0 7 = 0) : ∃ ν', fn_Model_mustBeTrue_r0 ν = some ν' ∧ ν'.1 0 7 = (if trB e then 0 else 8) ∧ KM [2, 7] ν ν' ∧ AM ν' S T := by
  have hd := AM_drop h (n := 1) (by rw [List.length_cons]; omega)
  have hR := h.2.2.2.1 0 (by rw [List.length_cons]; omega)
  have hok := h.ok (k := 0) (by rw [List.length_cons]; omega)
  have a1 := h.1
  have a3 := h.2.2.1
  rw [List.length_cons] at hd hR a1 a3
  rw [show S.length + 1 - 1 - 0 = S.length by omega] at hR
  have hR : Row ν S.length e := hR
  have hok : okE e := hok
  unfold fn_Model_mustBeTrue_r0
  have hR2 : Row (sd_st ν 0 2 (nI (S.length + 1 - 1))) S.length e := hR.rs hok.1 RS.st0
  rw [pl1, M_hasT h h7 (by rw [List.length_cons]; omega), pa_bi, if_neg (by decide), pa_let, a1, pk_sub (by omega), pa_ss, M_true (e := e) (by rw [Nat.add_sub_cancel] at hR2 ⊢; exact hR2) (by omega) hok.1, pa_bi]
  cases hb : trB e
  · rw [if_pos (by decide), M_fails (by rw [pa_sn _ _ _ _ _ (by decide)]; exact h7), pa_bv]
    refine ⟨_, rfl, ?_, (KM.st0 (by decide)).tr (KM.st0 (by decide)), ?_⟩
    · rw [pa_ss]; rfl
    · exact hd.eq (by rw [pa_sn _ _ _ _ _ (by decide)]) (by rw [pa_sn _ _ _ _ _ (by decide)]) (by rw [pa_sc _ _ _ _ _ (by decide)]) (by rw [pa_sc _ _ _ _ _ (by decide)])
  · rw [if_neg (by decide)]
    exact ⟨_, rfl, by rw [pa_sn _ _ _ _ _ (by decide)]; exact h7, KM.st0 (by decide), hd⟩
theorem M_must0 {ν : sd_Me} {T : List El} (h : AM ν [] T) (h7 : ν.1 0 7 = 0) : ∃ ν', fn_Model_mustBeTrue_r0 ν = some ν' ∧ ν'.1 0 7 = 5 ∧ KM [2, 7] ν ν' := by
  unfold fn_Model_mustBeTrue_r0
  rw [pl1, M_hasF h h7 (by decide) (by decide), pa_bi, if_pos (by decide)]
  exact ⟨_, rfl, pa_ss _ _ _ _, KM.st0 (by decide)⟩
