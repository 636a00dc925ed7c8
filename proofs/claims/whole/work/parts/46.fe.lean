/-- a push from the script -/
theorem step_push {L p k : Nat} (hp : p < L) (h78 : k < 78) {S T : List El} {μ ν : sd_Me} (h : Pre p S T μ ν) (hsc : SC L μ ν) (hk : ν.1 3 p = nI k) : StR L p (fn_Desk_pushFromScript_r0 (nI k) (nI p) (nI L) (sd_st μ 0 2 (nI (p + 1)))) (fn_Model_next_r0 (nI p) ν) μ ν := by
  obtain ⟨c1, c2, c3⟩ := id hsc
  obtain ⟨d, f, hd, hfl⟩ := h.2.2.2.2.2.2.1
  obtain ⟨e1, e2⟩ := hfl.done (by omega)
  have hdn : ∀ μ', μ'.1 7 = μ.1 7 → fn_Flow_isDone_r7 μ' = some (bI (decide (f = 0)), μ') := fun μ' z => ((hfl.eq (ν' := ν) z rfl rfl).done (by omega)).1
  have h0p := h.s02 (v := nI (p + 1))
  have h4 := h.2.2.2.1
  have h3 := h.2.2.1
  have cl1 : ∀ w : Nat, w ≤ 2 → ¬ p + 1 + w ≤ L → StR L p (some (1, sd_st μ 0 2 (nI (p + 1)))) (sd_bv (fn_Model_fails_r0 (1 : Int32) ν) (fun m16 => some ((m16.1 0 5), m16))) μ ν := by
    intro w hw hc
    rw [M_fails h4, pa_bv]
    exact ⟨1, _, _, _, rfl, rfl, pa_ss _ _ _ _, Or.inr (by decide), KS2.s02, KN.st0 (by decide), h0p.2.2.2.2.1.keep Fr.rf (KM.st0 (by decide)), S, T, h0p.1, by omega, fun z => absurd z (by decide)⟩
  have m1 : (sd_st μ 0 2 (nI (p + 1))).1 1 = μ.1 1 := pa_sc _ _ _ _ _ (by decide)
  unfold fn_Desk_pushFromScript_r0 fn_Model_next_r0
  rw [pa_ix (by omega) (by decide), pa_gd, pa_let, nI_clamp (by omega), hk, e2, pa_bi, if_neg (show ¬ (78 : Int32) ≤ nI k from nI_ge' (b := 78) (by omega) (by omega))]
  by_cases c75 : k ≤ 75
  · rw [if_neg (show ¬ (75 : Int32) < nI k from nI_nlt (a := 75) c75 (by decide)), if_neg (show ¬ (76 : Int32) ≤ nI k from nI_ge' (b := 76) (by omega) (by omega))]
    unfold fn_Desk_pushFromScript_r0_J14 fn_Model_next_r0_J32
    rw [pa_let, show nI p + 1 + 0 = nI (p + 1) by rw [pl1, pl0, nI_add, nI_add, Nat.add_zero], c2]
    by_cases g : p + 1 ≤ L
    · rw [if_pos ((nI_leI (by omega) (by omega)).mpr g), if_pos (show (0 : Int32) ≤ 0 by decide), if_pos ((nI_leI (by omega) (by omega)).mpr g), if_neg (show ¬ (76 : Int32) ≤ nI k from nI_ge' (b := 76) (by omega) (by omega)), fn_Model_next_r0_J98, bi_id, show nI p + 1 + 0 = nI (p + 1) by rw [pl1, pl0, nI_add, nI_add, Nat.add_zero]]
      exact step_n h hsc (by omega) g (by omega) hdn
    · omega
  · rw [if_pos (show (75 : Int32) < nI k from nI_lt (a := 75) (by omega) (by omega)), if_pos (show (76 : Int32) ≤ nI k from (nI_leI (a := 76) (by omega) (by omega)).mpr (by omega)), show nI k - 75 = nI (k - 75) from pk_sub (b := 75) (by omega)]
    unfold fn_Desk_pushFromScript_r0_J14 fn_Model_next_r0_J32
    rw [pa_let, show nI p + 1 + nI (k - 75) = nI (p + 1 + (k - 75)) by rw [pl1, nI_add, nI_add], c2]
    by_cases g : p + 1 + (k - 75) ≤ L
    · obtain ⟨⟨b1, hb1, eb1⟩, x1⟩ := c3 (p + 1) (by omega)
      rw [if_pos ((nI_leI (by omega) (by omega)).mpr g), if_neg (nI_nle (by omega) (by omega)), if_pos ((nI_leI (by omega) (by omega)).mpr g), if_pos (show (76 : Int32) ≤ nI k from (nI_leI (a := 76) (by omega) (by omega)).mpr (by omega)), show nI p + 1 = nI (p + 1) from nI_add p 1, show nI p + 2 = nI (p + 2) from nI_add p 2, pa_ix (by omega) (by decide), pa_gd, pa_gd, nI_clamp (by omega), m1, x1, eb1]
      by_cases c77 : k = 77
      · subst c77
        obtain ⟨⟨b2, hb2, eb2⟩, x2⟩ := c3 (p + 2) (by omega)
        rw [if_pos (show nI (77 - 75) = 2 from rfl), if_pos (show nI (77 - 75) = 2 from rfl), pa_ix (by omega) (by decide), pa_gd, pa_gd, nI_clamp (by omega), x2, eb2, fn_Desk_pushFromScript_r0_J70, pa_let, fn_Model_next_r0_J97, fn_Model_next_r0_J98, bi_id, show (256 : Int32) * nI b2 = nI (256 * b2) from pk_mul 256 b2, nI_add, show nI p + 1 = nI (p + 1) from nI_add p 1, nI_add]
        exact step_n h hsc (by omega) g (by omega) hdn
      · obtain rfl : k = 76 := by omega
        rw [if_neg (show ¬ nI (76 - 75) = 2 by decide), if_neg (show ¬ nI (76 - 75) = 2 by decide), fn_Desk_pushFromScript_r0_J70, pa_let, fn_Model_next_r0_J97, fn_Model_next_r0_J98, bi_id, show nI b1 + 0 = nI b1 from nI_add b1 0, show nI p + 1 = nI (p + 1) from nI_add p 1, nI_add]
        exact step_n h hsc (by omega) g (by omega) hdn
    · rw [if_neg (nI_ge' (by omega) (by omega)), if_neg (nI_ge' (by omega) (by omega))]
      exact cl1 (k - 75) (by omega) g
theorem step {L p k : Nat} (hp : p < L) (h256 : k < 256) {S T : List El} {μ ν : sd_Me} (h : Pre p S T μ ν) (hsc : SC L μ ν) (hk : ν.1 3 p = nI k) : StR L p (if (77 : Int32) < nI k then fn_Desk_perform_r0 (nI k) (sd_st μ 0 2 (nI (p + 1))) else fn_Desk_pushFromScript_r0 (nI k) (nI p) (nI L) (sd_st μ 0 2 (nI (p + 1)))) (fn_Model_next_r0 (nI p) ν) μ ν := by
  by_cases c : k < 78
  · rw [if_neg (show ¬ (77 : Int32) < nI k from nI_nlt (a := 77) (by omega) (by decide))]
    exact step_push hp c h hsc hk
  · rw [if_pos (show (77 : Int32) < nI k from nI_lt (a := 77) (by omega) (by omega))]
    exact step_perf hsc.1 hp (by omega) h256 h hk
/-! the run -/
theorem pos_nle {f : Int32} (h : 0 < f) : ¬ f ≤ 0 := Int32.not_le.mpr h
theorem pos_ne {f : Int32} (h : 0 < f) : ¬ f = 0 := fun z => by rw [z] at h; exact absurd h (by decide)
theorem run_stopX {kk : Int32 → Int32 → Int32 → sd_Me → Option (Int32 × sd_Me)} {f : Nat} {v1 v2 v3 v4 : Int32} {μ : sd_Me} (h : ¬ v3 = 0) : fn_Desk_run_r0_L16 kk (f + 1) v1 v2 v3 v4 μ = kk v1 v2 v3 μ := by
  rw [fn_Desk_run_r0_L16]
  by_cases c : (200 : Int32) ≤ v4
  · rw [if_pos c]
  · rw [if_neg c]
    by_cases d : v1 ≤ μ.1 0 2
    · rw [if_pos d]
    · rw [if_neg d, if_neg h]
theorem run_stopM {kk : sd_Me → Option (Int32 × sd_Me)} {f : Nat} {v1 : Int32} {ν : sd_Me} (h : ¬ ν.1 0 7 = 0) : fn_Model_run_r0_L32 kk (f + 1) v1 ν = kk ν := by
  rw [fn_Model_run_r0_L32]
  by_cases c : ν.1 0 5 ≤ v1
  · rw [if_pos c]
  · rw [if_neg c, if_neg h]
theorem runL {L : Nat} {kk : Int32 → Int32 → Int32 → sd_Me → Option (Int32 × sd_Me)} {kk' : sd_Me → Option (Int32 × sd_Me)} : ∀ (m p i f g : Nat) (v2 : Int32) (μ ν : sd_Me) (S T : List El), L ≤ p + m → p ≤ L → m < f → m < g → i ≤ p → Pre p S T μ ν → SC L μ ν → μ.1 0 2 = nI p → ν.1 0 8 = -1 → ∃ (w flt : Int32) (μ' ν' : sd_Me), fn_Desk_run_r0_L16 kk f (nI L) v2 0 (nI i) μ = kk (nI L) w flt μ' ∧ fn_Model_run_r0_L32 kk' g (nI p) ν = kk' ν' ∧ ν'.1 0 7 = flt ∧ (flt = 0 ∨ 0 < flt) ∧ KS2 μ μ' ∧ KN ν ν' ∧ CN μ' ν' ∧ (flt = 0 → ν'.1 0 8 = -1) ∧ (0 < flt → ν'.1 0 8 = w) ∧ ∃ S T, AX μ' S T ∧ S.length + T.length ≤ 63 ∧ (flt = 0 → AM ν' S T ∧ S.length + T.length ≤ 60 ∧ FL 200 μ' ν') := by
  intro m
  induction m with
  | zero =>
    intro p i f g v2 μ ν S T h0 hpL hf hg hi h hsc h2 h8
    obtain ⟨f, rfl⟩ : ∃ g, f = g + 1 := ⟨f - 1, by omega⟩
    obtain ⟨g, rfl⟩ : ∃ h, g = h + 1 := ⟨g - 1, by omega⟩
    have hL := hsc.1
    refine ⟨v2, 0, μ, ν, ?_, ?_, h.2.2.2.1, Or.inl rfl, ⟨fun _ _ => rfl, rfl, rfl, rfl, rfl⟩, KN.rf, h.2.2.2.2.1, fun _ => h8, fun z => absurd z (by decide), S, T, h.1, by have := h.2.2.1; omega, fun _ => ⟨h.2.1, h.2.2.1, h.2.2.2.2.2.2.1.mono (by omega)⟩⟩
    · rw [fn_Desk_run_r0_L16, h2]
      by_cases c : (200 : Int32) ≤ nI i
      · rw [if_pos c]
      · rw [if_neg c, if_pos ((nI_leI (by omega) (by omega)).mpr (by omega))]
    · rw [fn_Model_run_r0_L32, hsc.2.1, if_pos ((nI_leI (by omega) (by omega)).mpr (by omega))]
  | succ m ih =>
    intro p i f g v2 μ ν S T h0 hpL hf hg hi h hsc h2 h8
    obtain ⟨f, rfl⟩ : ∃ g, f = g + 1 := ⟨f - 1, by omega⟩
    obtain ⟨g, rfl⟩ : ∃ h, g = h + 1 := ⟨g - 1, by omega⟩
    have hL := hsc.1
    by_cases c : p = L
    · refine ⟨v2, 0, μ, ν, ?_, ?_, h.2.2.2.1, Or.inl rfl, ⟨fun _ _ => rfl, rfl, rfl, rfl, rfl⟩, KN.rf, h.2.2.2.2.1, fun _ => h8, fun z => absurd z (by decide), S, T, h.1, by have := h.2.2.1; omega, fun _ => ⟨h.2.1, h.2.2.1, h.2.2.2.2.2.2.1.mono (by omega)⟩⟩
      · rw [fn_Desk_run_r0_L16, h2]
        by_cases c : (200 : Int32) ≤ nI i
        · rw [if_pos c]
        · rw [if_neg c, if_pos ((nI_leI (by omega) (by omega)).mpr (by omega))]
      · rw [fn_Model_run_r0_L32, hsc.2.1, if_pos ((nI_leI (by omega) (by omega)).mpr (by omega))]
    · obtain ⟨⟨k, hk, ek⟩, ex⟩ := hsc.2.2 p (by omega)
      obtain ⟨fl, x, μ1, ν1, s1, s2, s3, s4, s5, s6, s7, S1, T1, s8, s9, s10⟩ := step (by omega) hk h hsc ek
      have e1 : fn_Desk_run_r0_L16 kk (f + 1) (nI L) v2 0 (nI i) μ = fn_Desk_run_r0_J80 (fn_Desk_run_r0_L16 kk f) (nI L) (nI p) (nI i) fl μ1 := by
        rw [fn_Desk_run_r0_L16, h2, if_neg (show ¬ (200 : Int32) ≤ nI i from nI_ge' (b := 200) (by omega) (by omega)), if_neg (nI_ge' (by omega) (by omega)), if_pos (show (0 : Int32) = 0 from rfl), pa_let, pa_let, pa_ix (by omega) (by decide), pa_gd, pa_let, nI_clamp (by omega), pa_sc _ _ _ _ _ (by decide), ex, ek, show nI p + 1 = nI (p + 1) from nI_add p 1]
        by_cases c77 : (77 : Int32) < nI k
        · rw [if_pos c77] at s1 ⊢
          rw [s1, pa_bi]
        · rw [if_neg c77] at s1 ⊢
          rw [s1, pa_bi]
      have e2 : fn_Model_run_r0_L32 kk' (g + 1) (nI p) ν = if (ν1.1 0 7) = (0 : Int32) then if ((ν1.1 0 2) + (ν1.1 0 3)) ≤ (60 : Int32) then fn_Model_run_r0_J82 (fn_Model_run_r0_L32 kk' g) x (nI p) ν1 else sd_bv (fn_Model_fails_r0 (11 : Int32) ν1) (fun m11 => fn_Model_run_r0_J82 (fn_Model_run_r0_L32 kk' g) x (nI p) m11) else fn_Model_run_r0_J82 (fn_Model_run_r0_L32 kk' g) x (nI p) ν1 := by
        rw [fn_Model_run_r0_L32, hsc.2.1, if_neg (nI_ge' (by omega) (by omega)), if_pos h.2.2.2.1, s2, pa_bi]
      rw [e1, e2]
      obtain ⟨f, rfl⟩ : ∃ g, f = g + 1 := ⟨f - 1, by omega⟩
      obtain ⟨g, rfl⟩ : ∃ h, g = h + 1 := ⟨g - 1, by omega⟩
      -- a fault ends both loops
      have ende : ∀ (fl : Int32) (ν2 : sd_Me), 0 < fl → ν2.1 0 7 = fl → KN ν ν2 → CN μ1 ν2 → ∃ (w flt : Int32) (μ' ν' : sd_Me), fn_Desk_run_r0_L16 kk (f + 1) (nI L) (nI p) fl (nI i + 1) μ1 = kk (nI L) w flt μ' ∧ fn_Model_run_r0_J82 (fn_Model_run_r0_L32 kk' (g + 1)) x (nI p) ν2 = kk' ν' ∧ ν'.1 0 7 = flt ∧ (flt = 0 ∨ 0 < flt) ∧ KS2 μ μ' ∧ KN ν ν' ∧ CN μ' ν' ∧ (flt = 0 → ν'.1 0 8 = -1) ∧ (0 < flt → ν'.1 0 8 = w) ∧ ∃ S T, AX μ' S T ∧ S.length + T.length ≤ 63 ∧ (flt = 0 → AM ν' S T ∧ S.length + T.length ≤ 60 ∧ FL 200 μ' ν') := by
        intro fl ν2 hfl h7 hkn hcn
        have q7 : (sd_st ν2 0 8 (nI p)).1 0 7 = fl := by rw [pa_sn _ _ _ _ _ (by decide)]; exact h7
        refine ⟨nI p, fl, μ1, sd_st ν2 0 8 (nI p), run_stopX (pos_ne hfl), ?_, q7, Or.inr hfl, s5, hkn.tr (KN.st0 (by decide)), ⟨by rw [pa_sn _ _ _ _ _ (by decide)]; exact hcn.1, by rw [pa_sn _ _ _ _ _ (by decide)]; exact hcn.2⟩, fun z => absurd z (pos_ne hfl), fun _ => pa_ss _ _ _ _, S1, T1, s8, s9, fun z => absurd z (pos_ne hfl)⟩
        unfold fn_Model_run_r0_J82
        rw [h7, if_neg (pos_nle hfl), pa_let]
        exact run_stopM (by rw [q7]; exact pos_ne hfl)
      unfold fn_Desk_run_r0_J80
      rw [s3]
      rcases s4 with rfl | s4
      · obtain ⟨t1, t2, p', t3, t4, t5, t6, t7⟩ := s10 rfl
        have h60 : (60 : Int32) = nI 60 := rfl
        rw [if_pos (show (0 : Int32) = 0 from rfl), if_pos (show (0 : Int32) = 0 from rfl), X_many s8, pa_bi, t1.1, t1.2.1, nI_add]
        by_cases d : S1.length + T1.length ≤ 60
        · rw [decide_eq_false (by omega), if_pos (show bI false = 0 by decide), if_pos (show nI (S1.length + T1.length) ≤ 60 from (nI_leI (b := 60) (by omega) (by omega)).mpr d)]
          unfold fn_Model_run_r0_J82
          rw [s3, if_pos (show (0 : Int32) ≤ 0 by decide), pa_let, show nI i + 1 = nI (i + 1) from nI_add i 1, t5]
          have pre2 : Pre p' S1 T1 μ1 (sd_st ν1 0 8 (-1)) := by
            obtain ⟨dd, ff, hdd, hfl⟩ := t7
            refine ⟨s8, t1.s0 (by decide) (by decide), d, by rw [pa_sn _ _ _ _ _ (by decide)]; exact s3, ⟨by rw [pa_sn _ _ _ _ _ (by decide)]; exact s7.1, by rw [pa_sn _ _ _ _ _ (by decide)]; exact s7.2⟩, ⟨?_, ?_, ?_⟩, ⟨dd, ff, hdd, hfl.eq rfl (pa_sn _ _ _ _ _ (by decide)) (pa_sc _ _ _ _ _ (by decide))⟩, by rw [pa_sn _ _ _ _ _ (by decide)]; exact t2⟩
            · unfold HF; rw [s5.2.2.2.1]; exact h.2.2.2.2.2.1.1
            · unfold HF; rw [s5.2.2.2.2]; exact h.2.2.2.2.2.1.2.1
            · rw [s5.2.2.1]
              show _ = ν1.2 0
              rw [s6.2.2]
              exact h.2.2.2.2.2.1.2.2
          have sc2 : SC L μ1 (sd_st ν1 0 8 (-1)) := ⟨hL, by rw [pa_sn _ _ _ _ _ (by decide), s6.2.1]; exact hsc.2.1, fun k hk => by rw [pa_sc _ _ _ _ _ (by decide), s6.1, s5.2.1]; exact hsc.2.2 k hk⟩
          obtain ⟨w, flt, μ', ν', r1, r2, r3, r4, r5, r6, r7, r8, r9, r10⟩ := ih p' (i + 1) (f + 1) (g + 1) (nI p) μ1 (sd_st ν1 0 8 (-1)) S1 T1 (by omega) t4 (by omega) (by omega) (by omega) pre2 sc2 t6 (pa_ss _ _ _ _)
          exact ⟨w, flt, μ', ν', r1, r2, r3, r4, s5.tr r5, (s6.tr (KN.st0 (by decide))).tr r6, r7, r8, r9, r10⟩
        · rw [decide_eq_true (show 60 < S1.length + T1.length by omega), if_neg (show ¬ bI true = 0 by decide), if_neg (show ¬ nI (S1.length + T1.length) ≤ 60 from nI_ge' (a := 60) (by omega) (by omega)), M_fails s3, pa_bv]
          exact ende 11 (sd_st ν1 0 7 11) (by decide) (pa_ss _ _ _ _) (s6.tr (KN.st0 (by decide))) (s7.keep Fr.rf (KM.st0 (by decide)))
      · rw [if_neg (pos_ne s4), if_neg (pos_ne s4)]
        exact ende fl ν1 s4 s3 s6 s7
