/-- a part turns or ends -/
theorem pt_1 {f k : Nat} (h : f = 0 ∨ k + 1 < f) : pt f k = 1 := by unfold pt; rw [if_pos h]
theorem pt_2 {f k : Nat} (h : k + 1 = f) : pt f k = 2 := by unfold pt; rw [if_neg (by omega), if_pos h]
theorem pt_3 {f k : Nat} (h : 0 < f) (g : f < k + 1) : pt f k = 3 := by unfold pt; rw [if_neg (by omega), if_neg (by omega)]
theorem flow_out {w c : Int32} (hwc : (w = 0 ∧ c = 103) ∨ (w = 1 ∧ c = 104)) {μ ν : sd_Me} {S T : List El} {b : Nat} (hb : b ≤ 199) (hx : AX μ S T) (hm : AM ν S T) (hl : S.length + T.length ≤ 60) (h7 : ν.1 0 7 = 0) (hc : CN μ ν) (hf : FL b μ ν) (h9 : ν.1 0 9 ≤ 100) : OpR (b + 1) (fn_Desk_leavePart_r0 w μ) (fn_Model_flow_r0 c ν) μ ν := by
  obtain ⟨d, f, hd, f1, f2, f3, f4, f5⟩ := hf
  have hne : ¬ c = 99 ∧ ¬ c = 100 := by rcases hwc with ⟨-, rfl⟩ | ⟨-, rfl⟩ <;> exact ⟨by decide, by decide⟩
  unfold fn_Desk_leavePart_r0 fn_Model_flow_r0 fn_Flow_isInside_r7
  rw [if_neg hne.1, if_neg hne.2, f1, f3]
  by_cases z : d = 0
  · rw [z, if_pos (show nI 0 ≤ 0 by decide), pa_bi, if_pos (show (0 : Int32) = 0 from rfl), if_pos (show nI 0 = 0 from rfl), M_fails h7, pa_bv]
    exact ⟨10, μ, _, rfl, rfl, pa_ss _ _ _ _, Or.inr (by decide), ⟨rfl, rfl, rfl, rfl, rfl⟩, KN.st0 (by decide), ⟨by rw [pa_sn _ _ _ _ _ (by decide)]; exact hc.1, by rw [pa_sn _ _ _ _ _ (by decide)]; exact hc.2⟩, S, T, hx, by omega, fun y => absurd y (by decide)⟩
  · rw [if_neg (nI_nle (by omega) (by omega)), pa_bi, if_neg (show ¬ (1 : Int32) = 0 by decide), if_neg (nI_ne0 (by omega) (by omega))]
    have kx7 : ∀ μ', Fr [7] μ μ' → KS μ μ' := fun μ' h => KS.fr h (by decide) (by decide) (by decide) (by decide) (by decide)
    have ax7 : ∀ μ', Fr [7] μ μ' → AX μ' S T := fun μ' h => hx.fr h (by decide) (by decide) (by decide) (by decide)
    have cn7 : ∀ μ' ν', Fr [7] μ μ' → ν'.1 0 9 = ν.1 0 9 → ν'.1 0 10 = ν.1 0 10 → CN μ' ν' := fun μ' ν' h a e => ⟨by rw [h.1 6 (by decide), a]; exact hc.1, by rw [h.1 8 (by decide), e]; exact hc.2⟩
    rcases hwc with ⟨rfl, rfl⟩ | ⟨rfl, rfl⟩
    · rw [if_pos (show (0 : Int32) = 0 from rfl), if_neg (show ¬ (103 : Int32) = 104 by decide), pl1, pk_sub (by omega), pa_ix (by omega) (by decide), pa_gd, pa_let, nI_clamp (by omega), f5 (d - 1) (by omega)]
      unfold fn_Flow_turn_r7
      rw [f2, f1]
      have fin : ∀ (μ' : sd_Me) (v : Int32) (g : Nat), Fr [7] μ μ' → μ'.1 7 0 = nI d → μ'.1 7 1 = nI g → g ≤ d → v = pt g (d - 1) → (∀ k, k < d - 1 → pt f k = pt g k) → OpR (b + 1) (some (0, μ')) (some (sd_st ν 4 (d - 1) v)) μ ν := by
        intro μ' v g h1 h2 h3 h4 h5 h6
        have e0 : (sd_st ν 4 (d - 1) v).1 0 = ν.1 0 := pa_sc _ _ _ _ _ (by decide)
        refine ⟨0, μ', _, rfl, rfl, by rw [e0]; exact h7, Or.inl rfl, kx7 _ h1, KN.st4, cn7 _ _ h1 (by rw [e0]) (by rw [e0]), S, T, ax7 _ h1, by omega, fun _ => ⟨hm.eq (by rw [e0]) (by rw [e0]) (pa_sc _ _ _ _ _ (by decide)) (pa_sc _ _ _ _ _ (by decide)), ⟨d, g, by omega, h2, h3, by rw [e0]; exact f3, h4, fun k hk => ?_⟩, by rw [e0]; exact h9⟩⟩
        by_cases q : k = d - 1
        · rw [q, pa_ss, h5]
        · rw [pa_sn _ _ _ _ _ q, f5 k hk, h6 k (by omega)]
      by_cases c0 : f = 0
      · rw [if_pos (show nI f = 0 by rw [c0]; rfl), pa_let, pa_bv, pt_1 (Or.inl c0), if_neg (by decide), pa_gd, pa_let]
        exact fin _ _ d (Fr.st (by decide)) (by rw [pa_sn _ _ _ _ _ (by decide)]; exact f1) (pa_ss _ _ _ _) (Nat.le_refl _) (by rw [pt_2 (by omega)]; rfl) (fun k hk => by rw [pt_1 (Or.inl c0), pt_1 (Or.inr (by omega))])
      · rw [if_neg (nI_ne0 (by omega) (by omega))]
        by_cases c1 : f = d
        · rw [if_pos (show nI f = nI d by rw [c1]), pa_let, pa_bv, pt_2 (show d - 1 + 1 = f by omega), if_neg (by decide), pa_gd, pa_let]
          exact fin _ _ 0 (Fr.st (by decide)) (by rw [pa_sn _ _ _ _ _ (by decide)]; exact f1) (pa_ss _ _ _ _) (Nat.zero_le _) (by rw [pt_1 (Or.inl rfl)]; rfl) (fun k hk => by rw [pt_1 (Or.inl rfl), pt_1 (Or.inr (by omega))])
        · rw [if_neg (fun y => c1 ((nI_eq (by omega) (by omega)).mp y)), pa_bv, pt_3 (show 0 < f by omega) (show f < d - 1 + 1 by omega), if_pos (show (3 : Int32) = 3 from rfl), pa_gd, pa_let]
          exact fin _ _ f Fr.rf f1 f2 f4 (by rw [pt_3 (by omega) (by omega)]) (fun k hk => rfl)
    · rw [if_neg (show ¬ (1 : Int32) = 0 by decide), if_pos (show (104 : Int32) = 104 from rfl), pa_let, pl1, pk_sub (by omega)]
      unfold fn_Flow_end_r7
      rw [f2, f1]
      have fin : ∀ (μ' : sd_Me) (g : Nat), Fr [7] μ μ' → μ'.1 7 0 = nI (d - 1) → μ'.1 7 1 = nI g → g ≤ d - 1 → (∀ k, k < d - 1 → pt f k = pt g k) → OpR (b + 1) (some (0, μ')) (some (sd_st ν 0 11 (nI (d - 1)))) μ ν := by
        intro μ' g h1 h2 h3 h4 h6
        refine ⟨0, μ', _, rfl, rfl, by rw [pa_sn _ _ _ _ _ (by decide)]; exact h7, Or.inl rfl, kx7 _ h1, KN.st0 (by decide), cn7 _ _ h1 (pa_sn _ _ _ _ _ (by decide)) (pa_sn _ _ _ _ _ (by decide)), S, T, ax7 _ h1, by omega, fun _ => ⟨hm.s0 (by decide) (by decide), ⟨d - 1, g, by omega, h2, h3, pa_ss _ _ _ _, h4, fun k hk => ?_⟩, by rw [pa_sn _ _ _ _ _ (by decide)]; exact h9⟩⟩
        rw [pa_sc _ _ _ _ _ (by decide), f5 k (by omega), h6 k (by omega)]
      by_cases c1 : f = d
      · rw [if_pos (show nI f = nI d by rw [c1]), pa_let, pa_let, pa_bv, pa_sn _ _ _ _ _ (by decide), f1, pl1, pk_sub (by omega)]
        exact fin _ 0 ((Fr.st (by decide)).tr (Fr.st (by decide))) (pa_ss _ _ _ _) (by rw [pa_sn _ _ _ _ _ (by decide), pa_ss]; rfl) (Nat.zero_le _) (fun k hk => by rw [pt_1 (Or.inl rfl), pt_1 (Or.inr (by omega))])
      · rw [if_neg (fun y => c1 ((nI_eq (by omega) (by omega)).mp y)), pa_let, pa_bv, pl1, pk_sub (by omega)]
        exact fin _ f (Fr.st (by decide)) (pa_ss _ _ _ _) (by rw [pa_sn _ _ _ _ _ (by decide)]; exact f2) (by omega) (fun k hk => rfl)
/-! one code that is no push from the script, on both sides -/
/-- before a code: all that must agree -/
def Pre (b : Nat) (S T : List El) (μ ν : sd_Me) : Prop := AX μ S T ∧ AM ν S T ∧ S.length + T.length ≤ 60 ∧ ν.1 0 7 = 0 ∧ CN μ ν ∧ HX μ ν ∧ FL b μ ν ∧ ν.1 0 9 ≤ 100
theorem FL.mono {a b : Nat} {μ ν : sd_Me} (h : FL a μ ν) (hab : a ≤ b) : FL b μ ν := by
  obtain ⟨d, f, hd, h⟩ := h
  exact ⟨d, f, by omega, h⟩
theorem Pre.done {b : Nat} {S T : List El} {μ ν : sd_Me} (h : Pre b S T μ ν) (hb : b ≤ 199) : ∃ t : Bool, fn_Flow_isDone_r7 μ = some (bI t, μ) ∧ fn_Model_isDone_r0 ν = some (bI t, ν) := by
  obtain ⟨d, f, hd, hfl⟩ := h.2.2.2.2.2.2.1
  exact ⟨_, hfl.done (by omega)⟩
theorem Pre.no {b : Nat} {S T : List El} {μ ν : sd_Me} (h : Pre b S T μ ν) : OpR (b + 1) (some (0, μ)) (some ν) μ ν := by
  obtain ⟨h1, h2, h3, h4, h5, h6, h7, h8⟩ := h
  exact ⟨0, μ, ν, rfl, rfl, h4, Or.inl rfl, ⟨rfl, rfl, rfl, rfl, rfl⟩, KN.rf, h5, S, T, h1, by omega, fun _ => ⟨h2, h7.mono (by omega), h8⟩⟩
theorem Pre.op {b : Nat} {S T : List El} {μ ν : sd_Me} (h : Pre b S T μ ν) {fx : sd_Me → Option (Int32 × sd_Me)} {c : Int32} (ho : OpX fx c) : OpR (b + 1) (fx μ) (fn_Model_operation_r0 c ν) μ ν := by
  obtain ⟨h1, h2, h3, h4, h5, h6, h7, h8⟩ := h
  exact (ho μ ν S T h1 h2 h3 h4 h5 h6).r (h7.mono (by omega)) h8
/-- a small number -/
theorem Pre.num {b : Nat} {S T : List El} {μ ν : sd_Me} (h : Pre b S T μ ν) {v : Int64} (hv : bnd2 v) : OpR (b + 1) (sd_bv (fn_Elements_pushNumber_r2 v μ) (fun m1 => some ((0 : Int32), m1))) (fn_Model_pushNumber_r0 v ν) μ ν := by
  obtain ⟨h1, h2, h3, h4, h5, h6, h7, h8⟩ := h
  obtain ⟨e, μ', ν', f1, f2, f3, f4, f5, f6⟩ := sim_push h1 h2 (by omega) hv
  have hs : SimO (sd_bv (fn_Elements_pushNumber_r2 v μ) (fun m1 => some ((0 : Int32), m1))) (fn_Model_pushNumber_r0 v ν) μ ν := sim_k h5 (by rw [f1, pa_bv]) f3 (f5.mono (by decide)) f2 (f6.mono (by decide)) (by rw [f6.1 7 (by decide)]; exact h4) f4 (by rw [List.length_cons]; omega)
  exact hs.r (h7.mono (by omega)) h8
