/-! one step of a run on both sides -/
def SC (L : Nat) (μ ν : sd_Me) : Prop := L ≤ 200 ∧ ν.1 0 5 = nI L ∧ ∀ k, k < L → isB (ν.1 3 k) ∧ μ.1 1 k = ν.1 3 k
def KS2 (μ μ' : sd_Me) : Prop := (∀ j, j ≠ 2 → μ'.1 0 j = μ.1 0 j) ∧ μ'.1 1 = μ.1 1 ∧ μ'.1 8 0 = μ.1 8 0 ∧ μ'.1 9 = μ.1 9 ∧ μ'.1 14 = μ.1 14
theorem KS.w {μ μ' : sd_Me} (h : KS μ μ') : KS2 μ μ' := ⟨fun j _ => by rw [h.1], h.2⟩
theorem KS2.tr {a b c : sd_Me} (h : KS2 a b) (g : KS2 b c) : KS2 a c := ⟨fun j hj => (g.1 j hj).trans (h.1 j hj), g.2.1.trans h.2.1, g.2.2.1.trans h.2.2.1, g.2.2.2.1.trans h.2.2.2.1, g.2.2.2.2.trans h.2.2.2.2⟩
theorem KS2.s02 {μ : sd_Me} {v : Int32} : KS2 μ (sd_st μ 0 2 v) := ⟨fun j hj => pa_sn _ _ _ _ _ hj, pa_sc _ _ _ _ _ (by decide), by rw [pa_sc _ _ _ _ _ (by decide)], pa_sc _ _ _ _ _ (by decide), pa_sc _ _ _ _ _ (by decide)⟩
theorem KS.s6 {μ : sd_Me} {v : Int32} : KS μ (sd_st μ 6 0 v) := KS.fr (L := [6]) (Fr.st (by decide)) (by decide) (by decide) (by decide) (by decide) (by decide)
def StR (L p : Nat) (o q : Option (Int32 × sd_Me)) (μ ν : sd_Me) : Prop := ∃ (f x : Int32) (μ' ν' : sd_Me), o = some (f, μ') ∧ q = some (x, ν') ∧ ν'.1 0 7 = f ∧ (f = 0 ∨ 0 < f) ∧ KS2 μ μ' ∧ KN ν ν' ∧ CN μ' ν' ∧ ∃ S T, AX μ' S T ∧ S.length + T.length ≤ 63 ∧ (f = 0 → AM ν' S T ∧ ν'.1 0 9 ≤ 100 ∧ ∃ p', p < p' ∧ p' ≤ L ∧ x = nI p' ∧ μ'.1 0 2 = nI p' ∧ FL p' μ' ν')
theorem OpR.st {L p : Nat} {o : Option (Int32 × sd_Me)} {q : Option sd_Me} {μ ν μ1 ν1 : sd_Me} (h : OpR (p + 1) o q μ1 ν1) (h2 : μ1.1 0 2 = nI (p + 1)) (hp : p + 1 ≤ L) (k : KS2 μ μ1) (l : KN ν ν1) : StR L p o (sd_bv q (fun m => some (nI p + 1, m))) μ ν := by
  obtain ⟨f, μ', ν', a1, a2, a3, a4, a5, a6, a7, S, T, a8, a9, a10⟩ := h
  refine ⟨f, nI p + 1, μ', ν', a1, by rw [a2, pa_bv], a3, a4, k.tr a5.w, l.tr a6, a7, S, T, a8, a9, fun z => ?_⟩
  obtain ⟨b1, b2, b3⟩ := a10 z
  exact ⟨b1, b3, p + 1, by omega, hp, nI_add p 1, by rw [a5.1]; exact h2, b2⟩
theorem Pre.s02 {b : Nat} {S T : List El} {μ ν : sd_Me} (h : Pre b S T μ ν) {v : Int32} : Pre b S T (sd_st μ 0 2 v) ν := by
  obtain ⟨h1, h2, h3, h4, h5, h6, ⟨d, f, hd, hfl⟩, h8⟩ := h
  refine ⟨h1.fr (L := [0]) (Fr.st (by decide)) (by decide) (by decide) (by decide) (by decide), h2, h3, h4, ⟨by rw [pa_sc _ _ _ _ _ (by decide)]; exact h5.1, by rw [pa_sc _ _ _ _ _ (by decide)]; exact h5.2⟩, ⟨?_, ?_, ?_⟩, ⟨d, f, hd, hfl.eq (pa_sc _ _ _ _ _ (by decide)) rfl rfl⟩, h8⟩
  · unfold HF; rw [pa_sc _ _ _ _ _ (by decide)]; exact h6.1
  · unfold HF; rw [pa_sc _ _ _ _ _ (by decide)]; exact h6.2.1
  · rw [pa_sc _ _ _ _ _ (by decide)]; exact h6.2.2
theorem Pre.s9 {b : Nat} {S T : List El} {μ ν : sd_Me} (h : Pre b S T μ ν) {x : Int32} (hx : ν.1 0 9 + x ≤ 100) : Pre b S T (sd_st μ 6 0 (μ.1 6 0 + x)) (sd_st ν 0 9 (ν.1 0 9 + x)) := by
  obtain ⟨h1, h2, h3, h4, h5, h6, ⟨d, f, hd, hfl⟩, h8⟩ := h
  refine ⟨h1.s6, h2.s0 (by decide) (by decide), h3, by rw [pa_sn _ _ _ _ _ (by decide)]; exact h4, h5.ops, h6.keep KX.s60 rfl, ⟨d, f, hd, hfl.eq (pa_sc _ _ _ _ _ (by decide)) (pa_sn _ _ _ _ _ (by decide)) (pa_sc _ _ _ _ _ (by decide))⟩, by rw [pa_ss]; exact hx⟩
theorem st_self {μ : sd_Me} {c i : Nat} : sd_st μ c i (μ.1 c i) = μ := by
  unfold sd_st
  have e : upd (μ.1 c) i (μ.1 c i) = μ.1 c := by
    funext j
    by_cases h : j = i
    · rw [h, pk_us]
    · rw [pk_un h]
  rw [e, mrow_self]
theorem step_perf {L p k : Nat} (hL : L ≤ 200) (hp : p < L) (h78 : 78 ≤ k) (h256 : k < 256) {S T : List El} {μ ν : sd_Me} (h : Pre p S T μ ν) (hk : ν.1 3 p = nI k) : StR L p (fn_Desk_perform_r0 (nI k) (sd_st μ 0 2 (nI (p + 1)))) (fn_Model_next_r0 (nI p) ν) μ ν := by
  obtain ⟨d, f, hd, hfl⟩ := h.2.2.2.2.2.2.1
  obtain ⟨e1, e2⟩ := hfl.done (by omega)
  have h02 := h.s02 (v := nI (p + 1))
  have hdn : ∀ μ', μ'.1 7 = μ.1 7 → fn_Flow_isDone_r7 μ' = some (bI (decide (f = 0)), μ') := fun μ' z => ((hfl.eq (ν' := ν) z rfl rfl).done (by omega)).1
  unfold fn_Desk_perform_r0 fn_Model_next_r0
  rw [pa_ix (by omega) (by decide), pa_gd, pa_let, nI_clamp (by omega), hk, e2, pa_bi, if_pos (show (78 : Int32) ≤ nI k from (nI_leI (a := 78) (by omega) (by omega)).mpr h78)]
  by_cases c : k ≤ 96
  · rw [if_pos (show nI k ≤ 96 from (nI_leI (b := 96) (by omega) (by omega)).mpr c), if_pos (show nI k ≤ 96 from (nI_leI (b := 96) (by omega) (by omega)).mpr c), J134_eq, st_self, if_pos h.2.2.2.2.2.2.2]
    obtain ⟨q, q1, q2⟩ := perf (by omega) h78 h256 h02 (hdn _ (pa_sc _ _ _ _ _ (by decide)))
    rw [q2]
    exact q1.st (pa_ss _ _ _ _) (by omega) KS2.s02 KN.rf
  · have n96 : ¬ nI k ≤ 96 := nI_ge' (a := 96) (by omega) (by omega)
    rw [if_neg n96, if_neg n96, J134_eq, pa_ss]
    unfold fn_Tally_passesLimit_r6
    have c6 : (sd_st μ 0 2 (nI (p + 1))).1 6 0 = ν.1 0 9 := h02.2.2.2.2.1.1
    rw [pa_let, pa_ss]
    by_cases ct : ν.1 0 9 + 1 ≤ 100
    · have h9 := h02.s9 (x := 1) ct
      obtain ⟨q, q1, q2⟩ := perf (by omega) h78 h256 h9 (hdn _ (by rw [pa_sc _ _ _ _ _ (by decide), pa_sc _ _ _ _ _ (by decide)]))
      rw [if_pos ct, q2, if_pos (show (sd_st μ 0 2 (nI (p + 1))).1 6 0 + 1 ≤ 100 by rw [c6]; exact ct), pa_bi, if_pos (show (0 : Int32) = 0 from rfl)]
      exact q1.st (by rw [pa_sc _ _ _ _ _ (by decide), pa_ss]) (by omega) (KS2.s02.tr KS.s6.w) (KN.st0 (by decide))
    · rw [if_neg ct, if_neg (show ¬ (sd_st μ 0 2 (nI (p + 1))).1 6 0 + 1 ≤ 100 by rw [c6]; exact ct), pa_bi, if_neg (show ¬ (1 : Int32) = 0 by decide), M_fails (by rw [pa_sn _ _ _ _ _ (by decide)]; exact h.2.2.2.1), pa_bv]
      exact ⟨3, _, _, _, rfl, rfl, pa_ss _ _ _ _, Or.inr (by decide), KS2.s02.tr KS.s6.w, (KN.st0 (by decide)).tr (KN.st0 (by decide)), h02.2.2.2.2.1.ops.keep Fr.rf (KM.st0 (by decide)), S, T, h02.1.s6, by have := h.2.2.1; omega, fun z => absurd z (by decide)⟩
/-! pushes -/
theorem puL {a n sz : Nat} (ha : a + n ≤ 200) (hn : n ≤ 120) (hs : sz < 64) {kk : Int32 → Int32 → sd_Me → Option (Int32 × sd_Me)} : ∀ (m i f : Nat) (ν : sd_Me), n = i + m → m < f → ν.1 0 2 = nI sz → ∃ ν', fn_Model_pushes_r0_L51 kk f (nI a) (nI n) (nI i) ν = kk (nI a) (nI n) ν' ∧ Fr [1] ν ν' ∧ (∀ j, i ≤ j → j < n → ν'.1 1 (120 * sz + j) = ν.1 3 (a + j)) ∧ (∀ q, q < 120 * sz + i ∨ 120 * sz + n ≤ q → ν'.1 1 q = ν.1 1 q) := by
  intro m
  induction m with
  | zero =>
    intro i f ν h0 hf h2
    obtain ⟨f, rfl⟩ : ∃ g, f = g + 1 := ⟨f - 1, by omega⟩
    refine ⟨ν, ?_, Fr.rf, fun j a b => by omega, fun _ _ => rfl⟩
    rw [fn_Model_pushes_r0_L51, if_pos ((nI_leI (by omega) (by omega)).mpr (by omega))]
  | succ m ih =>
    intro i f ν h0 hf h2
    obtain ⟨f, rfl⟩ : ∃ g, f = g + 1 := ⟨f - 1, by omega⟩
    obtain ⟨ν', e1, e2, e3, e4⟩ := ih (i + 1) f (sd_st ν 1 (120 * sz + i) (ν.1 3 (a + i))) (by omega) (by omega) (by rw [pa_sc _ _ _ _ _ (by decide)]; exact h2)
    refine ⟨ν', ?_, (Fr.st (by decide)).tr e2, fun j b c => ?_, fun q hq => ?_⟩
    · rw [fn_Model_pushes_r0_L51, if_neg (nI_ge' (by omega) (by omega)), h2, nI_add, pl120, pk_mul, nI_add, pa_ix (by omega) (by decide), pa_gd, pa_ix (by omega) (by decide), pa_gd, pa_let, nI_clamp (by omega), nI_clamp (by omega), pl1, nI_add]
      exact e1
    · by_cases d : j = i
      · rw [d, e4 _ (by omega), pa_ss]
      · rw [e3 j (by omega) c, pa_sc _ _ _ _ _ (by decide)]
    · rw [e4 q (by omega), pa_sn _ _ _ _ _ (by omega)]
theorem step_n {L p a n : Nat} {S T : List El} {μ ν : sd_Me} (h : Pre p S T μ ν) (hsc : SC L μ ν) (hp : p < a) (ha : a ≤ L) (hn : n < 2 ^ 17) {t : Bool} (ht : ∀ μ', μ'.1 7 = μ.1 7 → fn_Flow_isDone_r7 μ' = some (bI t, μ')) : StR L p (fn_Desk_pushFromScript_r0_J73 (nI L) (nI a) (nI n) (sd_st μ 0 2 (nI (p + 1)))) (fn_Model_pushes_r0 (nI a) (nI n) (bI t) ν) μ ν := by
  obtain ⟨c1, c2, c3⟩ := hsc
  have h02 := h.s02 (v := nI (a + n))
  obtain ⟨h1, h2, h3, h4, h5, h6, ⟨d, f, hd, hfl⟩, h8⟩ := id h
  have h0p := h.s02 (v := nI (p + 1))
  have h64 := h1.d.2.2
  unfold fn_Desk_pushFromScript_r0_J73 fn_Model_pushes_r0
  rw [pk_sub ha, c2, nI_add]
  by_cases e1 : a + n ≤ L
  · rw [if_pos ((nI_leI (by omega) (by omega)).mpr (show n ≤ L - a by omega)), if_pos ((nI_leI (by omega) (by omega)).mpr e1)]
    by_cases e2 : n ≤ 120
    · have es : sd_st (sd_st μ 0 2 (nI (p + 1))) 0 2 (nI (a + n)) = sd_st μ 0 2 (nI (a + n)) := by
        show sd_st (sd_mrow μ 0 (upd (μ.1 0) 2 (nI (p + 1)))) 0 2 (nI (a + n)) = sd_mrow μ 0 (upd (μ.1 0) 2 (nI (a + n)))
        rw [st_mrow]
        refine congrArg (sd_mrow μ 0) (funext fun j => ?_)
        by_cases q : j = 2
        · rw [q, pk_us, pk_us]
        · rw [pk_un q, pk_un q, pk_un q]
      rw [if_pos (show nI n ≤ 120 from (nI_leI (b := 120) (by omega) (by omega)).mpr e2), if_pos (show nI n ≤ 120 from (nI_leI (b := 120) (by omega) (by omega)).mpr e2), pa_let, es, ht _ (pa_sc _ _ _ _ _ (by decide)), pa_bi]
      cases t with
      | false =>
        rw [if_pos (show bI false = 0 by decide), if_pos (show bI false = 0 by decide)]
        exact ⟨0, _, _, ν, rfl, rfl, h4, Or.inl rfl, KS2.s02, KN.rf, h02.2.2.2.2.1, S, T, h02.1, by omega, fun _ => ⟨h2, h8, a + n, by omega, e1, rfl, pa_ss _ _ _ _, h02.2.2.2.2.2.2.1.mono (by omega)⟩⟩
      | true =>
        have b1 : ∀ k, k < n → (sd_st μ 0 2 (nI (a + n))).1 1 (a + k) = ν.1 3 (a + k) := fun k hk => by
          rw [pa_sc _ _ _ _ _ (by decide)]
          exact (c3 (a + k) (by omega)).2
        have b2 : ∀ k, k < n → isB ((sd_st μ 0 2 (nI (a + n))).1 1 (a + k)) := fun k hk => by
          rw [b1 k hk]
          exact (c3 (a + k) (by omega)).1
        obtain ⟨μ', g1, g2, g3⟩ := X_push1 h02.1 (by omega) e2 (by omega) b2
        obtain ⟨ν', k1, k2, k3, k4⟩ := puL (a := a) (n := n) (sz := S.length) (by omega) e2 (by omega) (kk := fun x3 x4 m5 => sd_let (sd_st m5 0 2 ((m5.1 0 2) + (1 : Int32))) (fun m6 => some ((x3 + x4), m6))) n 0 10000 (sd_st ν 2 S.length (nI n)) (by omega) (by omega) (by rw [pa_sc _ _ _ _ _ (by decide)]; exact h2.1)
        have v0 : ν'.1 0 = ν.1 0 := by rw [k2.1 0 (by decide), pa_sc _ _ _ _ _ (by decide)]
        rw [if_neg (show ¬ bI true = 0 by decide), if_neg (show ¬ bI true = 0 by decide), g1, pa_bv, h2.1, pa_ix (by omega) (by decide), pa_gd, pa_let, nI_clamp (by omega)]
        refine ⟨0, nI (a + n), μ', sd_st ν' 0 2 (nI (S.length + 1)), rfl, ?_, ?_, Or.inl rfl, KS2.s02.tr (KS.fr g3 (by decide) (by decide) (by decide) (by decide) (by decide)).w, ?_, ?_, _, T, g2, by rw [List.length_cons]; omega, fun _ => ⟨?_, ?_, a + n, by omega, e1, rfl, by rw [g3.1 0 (by decide), pa_ss], ⟨d, f, by omega, hfl.eq (by rw [g3.1 7 (by decide), pa_sc _ _ _ _ _ (by decide)]) (by rw [pa_sn _ _ _ _ _ (by decide), v0]) (by rw [pa_sc _ _ _ _ _ (by decide), k2.1 4 (by decide), pa_sc _ _ _ _ _ (by decide)])⟩⟩⟩
        · refine k1.trans ?_
          rw [pb_let, v0, h2.1, pl1, nI_add, nI_add]
        · rw [pa_sn _ _ _ _ _ (by decide), v0]; exact h4
        · exact ⟨by rw [pa_sc _ _ _ _ _ (by decide), k2.1 3 (by decide), pa_sc _ _ _ _ _ (by decide)], by rw [pa_sn _ _ _ _ _ (by decide), v0], by show ν'.2 0 = _; rw [k2.2]; rfl⟩
        · exact ⟨by rw [g3.1 6 (by decide), pa_sn _ _ _ _ _ (by decide), v0]; exact h02.2.2.2.2.1.1, by rw [g3.1 8 (by decide), pa_sn _ _ _ _ _ (by decide), v0]; exact h02.2.2.2.2.1.2⟩
        · refine AM_push h2 (by omega) (cutE_ok e2 b2) (pa_ss _ _ _ _) (by rw [pa_sn _ _ _ _ _ (by decide), v0]) ?_ ?_
          · refine ⟨?_, fun k hk => ?_⟩
            · rw [pa_sc _ _ _ _ _ (by decide), k2.1 2 (by decide), pa_ss, cutE_len]
            · rw [cutE_len] at hk
              rw [pa_sc _ _ _ _ _ (by decide), k3 k (by omega) hk, cutE_get hk, b1 k hk, pa_sc _ _ _ _ _ (by decide)]
          · intro q hq _
            refine ⟨?_, fun k hk => ?_⟩
            · rw [pa_sc _ _ _ _ _ (by decide), k2.1 2 (by decide), pa_sn _ _ _ _ _ hq]
            · rw [pa_sc _ _ _ _ _ (by decide), k4 _ (by omega), pa_sc _ _ _ _ _ (by decide)]
        · rw [pa_sn _ _ _ _ _ (by decide), v0]; exact h8
    · rw [if_neg (show ¬ nI n ≤ 120 from nI_ge' (a := 120) (by omega) (by omega)), if_neg (show ¬ nI n ≤ 120 from nI_ge' (a := 120) (by omega) (by omega)), M_fails h4, pa_bv]
      exact ⟨2, _, _, _, rfl, rfl, pa_ss _ _ _ _, Or.inr (by decide), KS2.s02, KN.st0 (by decide), h0p.2.2.2.2.1.keep Fr.rf (KM.st0 (by decide)), S, T, h0p.1, by omega, fun z => absurd z (by decide)⟩
  · rw [if_neg (nI_ge' (show L - a < n by omega) (by omega)), if_neg (nI_ge' (by omega) (by omega)), M_fails h4, pa_bv]
    exact ⟨1, _, _, _, rfl, rfl, pa_ss _ _ _ _, Or.inr (by decide), KS2.s02, KN.st0 (by decide), h0p.2.2.2.2.1.keep Fr.rf (KM.st0 (by decide)), S, T, h0p.1, by omega, fun z => absurd z (by decide)⟩
