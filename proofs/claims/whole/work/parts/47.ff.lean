/-! put -/
theorem b255_l : ∀ i, i < 64 → 8 ≤ i → (255#64).getLsbD i = false := by decide
theorem sh_and {x : BitVec 64} {s : Nat} (hs : s ≤ 56) : x.ushiftRight s &&& 255#64 = x.sshiftRight s &&& 255#64 := by
  apply BitVec.eq_of_getLsbD_eq
  intro i hi
  rw [BitVec.getLsbD_and, BitVec.getLsbD_and]
  by_cases c : i < 8
  · have e1 : (x.ushiftRight s).getLsbD i = x.getLsbD (s + i) := BitVec.getLsbD_ushiftRight x s i
    have e2 : (x.sshiftRight s).getLsbD i = (!decide (64 ≤ i) && if s + i < 64 then x.getLsbD (s + i) else x.msb) := BitVec.getLsbD_sshiftRight x s i
    rw [e1, e2, if_pos (by omega), decide_eq_false (by omega)]
    rfl
  · rw [b255_l i hi (by omega), Bool.and_false, Bool.and_false]
theorem sh_eq {v : Int64} {j : Nat} (hj : j < 8) : sd_lusr v (nI (8 * j)) &&& 255 = sd_lsr v (nI (8 * j)) &&& 255 := by
  apply Int64.toBitVec_inj.mp
  rw [Int64.toBitVec_and, Int64.toBitVec_and]
  have e1 : (sd_lusr v (nI (8 * j))).toBitVec = v.toBitVec.ushiftRight (8 * j) := by
    rcases (show j = 0 ∨ j = 1 ∨ j = 2 ∨ j = 3 ∨ j = 4 ∨ j = 5 ∨ j = 6 ∨ j = 7 by omega) with rfl | rfl | rfl | rfl | rfl | rfl | rfl | rfl <;> rfl
  have e2 : (sd_lsr v (nI (8 * j))).toBitVec = v.toBitVec.sshiftRight (8 * j) := by
    rcases (show j = 0 ∨ j = 1 ∨ j = 2 ∨ j = 3 ∨ j = 4 ∨ j = 5 ∨ j = 6 ∨ j = 7 by omega) with rfl | rfl | rfl | rfl | rfl | rfl | rfl | rfl <;> rfl
  rw [e1, e2]
  exact sh_and (by omega)
theorem l255 (x : Int64) : isB (x &&& 255).toInt32 := by
  refine ⟨x.toBitVec.toNat % 256, by omega, ?_⟩
  have e : x &&& 255 = lN (x.toBitVec.toNat % 256) := by
    apply Int64.toBitVec_inj.mp
    rw [Int64.toBitVec_and]
    show x.toBitVec &&& BitVec.ofNat 64 255 = BitVec.ofNat 64 (x.toBitVec.toNat % 256)
    apply BitVec.eq_of_toNat_eq
    rw [BitVec.toNat_and, BitVec.toNat_ofNat, BitVec.toNat_ofNat]
    rw [Nat.mod_eq_of_lt (show 255 < 2 ^ 64 by decide), Nat.mod_eq_of_lt (show x.toBitVec.toNat % 256 < 2 ^ 64 by omega)]
    exact Nat.and_two_pow_sub_one_eq_mod _ 8
  rw [e, lN_i]
theorem nI_m8 {m : Nat} : nI (8 * (m + 1)) + (-8) = nI (8 * m) := by
  rw [show 8 * (m + 1) = 8 * m + 8 by omega, ← nI_add, Int32.add_assoc, show nI 8 + (-8) = 0 by decide, Int32.add_zero]
theorem putL {v : Int64} {kk kk' : sd_Me → Option (Int32 × sd_Me)} : ∀ (m L f g : Nat) (μ ν : sd_Me), m ≤ 8 → L + m ≤ 200 → m < f → m < g → SC L μ ν → μ.1 0 1 = nI L → ∃ μ' ν', fn_Desk_put_r0_L33 kk f v (nI (8 * m) + (-8)) μ = kk μ' ∧ fn_Model_put_r0_L30 kk' g v (nI m + (-1)) ν = kk' ν' ∧ SC (L + m) μ' ν' ∧ μ'.1 0 1 = nI (L + m) ∧ Fr [0, 1] μ μ' ∧ (∀ j, j ≠ 1 → μ'.1 0 j = μ.1 0 j) ∧ Fr [0, 3] ν ν' ∧ (∀ j, j ≠ 5 → ν'.1 0 j = ν.1 0 j) := by
  intro m
  induction m with
  | zero =>
    intro L f g μ ν hm hL hf hg hsc h1
    obtain ⟨f, rfl⟩ : ∃ g, f = g + 1 := ⟨f - 1, by omega⟩
    obtain ⟨g, rfl⟩ : ∃ h, g = h + 1 := ⟨g - 1, by omega⟩
    refine ⟨μ, ν, ?_, ?_, hsc, h1, Fr.rf, fun _ _ => rfl, Fr.rf, fun _ _ => rfl⟩
    · rw [fn_Desk_put_r0_L33, if_pos (show nI (8 * 0) + (-8) < 0 by decide)]
    · rw [fn_Model_put_r0_L30, if_pos (show nI 0 + (-1) < 0 by decide)]
  | succ m ih =>
    intro L f g μ ν hm hL hf hg hsc h1
    obtain ⟨f, rfl⟩ : ∃ g, f = g + 1 := ⟨f - 1, by omega⟩
    obtain ⟨g, rfl⟩ : ∃ h, g = h + 1 := ⟨g - 1, by omega⟩
    obtain ⟨c1, c2, c3⟩ := id hsc
    have hsc' : SC (L + 1) (sd_st (sd_st μ 1 L (sd_lusr v (nI (8 * m)) &&& 255).toInt32) 0 1 (nI (L + 1))) (sd_st (sd_st ν 3 L (sd_lusr v (nI (8 * m)) &&& 255).toInt32) 0 5 (nI (L + 1))) := by
      refine ⟨by omega, pa_ss _ _ _ _, fun k hk => ?_⟩
      rw [pa_sc (sd_st ν 3 L _) 0 3 5 _ (by decide), pa_sc (sd_st μ 1 L _) 0 1 1 _ (by decide)]
      by_cases q : k = L
      · rw [q, pa_ss, pa_ss]
        exact ⟨l255 _, rfl⟩
      · rw [pa_sn _ _ _ _ _ q, pa_sn _ _ _ _ _ q]
        exact c3 k (by omega)
    obtain ⟨μ', ν', e1, e2, e3, e4, e5, e6, e7, e8⟩ := ih (L + 1) f g (sd_st (sd_st μ 1 L (sd_lusr v (nI (8 * m)) &&& 255).toInt32) 0 1 (nI (L + 1))) (sd_st (sd_st ν 3 L (sd_lusr v (nI (8 * m)) &&& 255).toInt32) 0 5 (nI (L + 1))) (by omega) (by omega) (by omega) (by omega) hsc' (pa_ss _ _ _ _)
    rw [show L + 1 + m = L + (m + 1) by omega] at e3 e4
    refine ⟨μ', ν', ?_, ?_, e3, e4, ((Fr.st (by decide)).tr (Fr.st (by decide))).tr e5, fun j hj => ?_, ((Fr.st (by decide)).tr (Fr.st (by decide))).tr e7, fun j hj => ?_⟩
    · rw [fn_Desk_put_r0_L33, nI_m8, if_neg (nI_pos (by omega)), h1, pa_ix (by omega) (by decide), pa_gd, pa_let, nI_clamp (by omega), pa_let, pa_sc _ _ _ _ _ (by decide), h1, pl1, nI_add]
      exact e1
    · rw [fn_Model_put_r0_L30, pk_m1, if_neg (nI_pos (by omega)), c2, pa_ix (by omega) (by decide), pa_gd, pa_let, nI_clamp (by omega), pa_let, pa_sc _ _ _ _ _ (by decide), c2, pl1, nI_add, show (8 : Int32) * nI m = nI (8 * m) from pk_mul 8 m, ← sh_eq (by omega)]
      exact e2
    · rw [e6 j hj, pa_sn _ _ _ _ _ hj, pa_sc _ _ _ _ _ (by decide)]
    · rw [e8 j hj, pa_sn _ _ _ _ _ hj, pa_sc _ _ _ _ _ (by decide)]
/-! the relation between two calls -/
def RelW (μ ν : sd_Me) : Prop := ∃ (S : List El) (L : Nat), AX μ S [] ∧ AM (sd_st ν 0 3 0) S [] ∧ S.length ≤ 60 ∧ SC L μ ν ∧ μ.1 0 1 = nI L ∧ μ.1 0 3 = ν.1 0 8 ∧ HX μ ν ∧ CN μ ν
theorem AM.fr3 {ν ν' : sd_Me} {S : List El} (h : AM (sd_st ν 0 3 0) S []) (h2 : ν'.1 0 2 = ν.1 0 2) (h1 : ν'.1 1 = ν.1 1) (h3 : ν'.1 2 = ν.1 2) : AM (sd_st ν' 0 3 0) S [] := h.eq (by rw [pa_sn _ _ _ _ _ (by decide), pa_sn _ _ _ _ _ (by decide), h2]) (by rw [pa_ss, pa_ss]) (by rw [pa_sc _ _ _ _ _ (by decide), pa_sc _ _ _ _ _ (by decide), h1]) (by rw [pa_sc _ _ _ _ _ (by decide), pa_sc _ _ _ _ _ (by decide), h3])
theorem call_put {μ ν : sd_Me} (h : RelW μ ν) (a0 : Int64) (a1 : Int32) : ∃ (r : Int32) (μ' ν' : sd_Me), fn_Desk_put_r0 a0 a1 μ = some (r, μ') ∧ fn_Model_put_r0 a0 a1 ν = some (r, ν') ∧ RelW μ' ν' := by
  obtain ⟨S, L, h1, h2, h3, h4, h5, h6, h7, h8⟩ := id h
  unfold fn_Desk_put_r0 fn_Model_put_r0
  by_cases c : a1 < 1
  · rw [if_pos c, if_pos c]
    exact ⟨0, μ, ν, rfl, rfl, h⟩
  · rw [if_neg c, if_neg c]
    by_cases d : (8 : Int32) < a1
    · rw [if_pos d, if_pos d]
      exact ⟨0, μ, ν, rfl, rfl, h⟩
    · rw [if_neg d, if_neg d]
      have nn : ¬ a1 < 0 := by
        intro z
        apply c
        rw [Int32.lt_iff_toInt_lt] at z ⊢
        have h0 : (0 : Int32).toInt = 0 := by decide
        have h1' : (1 : Int32).toInt = 1 := by decide
        omega
      obtain ⟨n, hn, rfl⟩ := nI_of2 (x := a1) (M := 8) (n := 8) (by decide) nn (Int32.not_lt.mp d)
      have hn1 : 1 ≤ n := by
        by_cases z : n = 0
        · exact absurd (by rw [z]; decide) c
        · omega
      have hL := h4.1
      rw [h5, h4.2.1, nI_add]
      by_cases e : L + n ≤ 200
      · rw [if_pos (show nI (L + n) ≤ 200 from (nI_leI (b := 200) (by omega) (by omega)).mpr e), if_pos (show nI (L + n) ≤ 200 from (nI_leI (b := 200) (by omega) (by omega)).mpr e), pa_let, pa_let]
        obtain ⟨μ', ν', e1, e2, e3, e4, e5, e6, e7, e8⟩ := putL (v := a0) (kk := fun m4 => some ((1 : Int32), m4)) (kk' := fun m4 => some ((1 : Int32), m4)) n L 10000 10000 μ ν (by omega) (by omega) (by omega) (by omega) h4 h5
        have x1 : (8 : Int32) * (nI n - 1) = nI (8 * n) + (-8) := by
          obtain ⟨k, rfl⟩ : ∃ k, n = k + 1 := ⟨n - 1, by omega⟩
          rw [nI_m8, nI_pred]
          exact pk_mul 8 k
        have x2 : nI n - 1 = nI n + (-1) := pa_subm
        rw [x1, x2]
        refine ⟨1, μ', ν', e1, e2, S, L + n, h1.fr e5 (by decide) (by decide) (by decide) (by decide), h2.fr3 (e8 2 (by decide)) (e7.1 1 (by decide)) (e7.1 2 (by decide)), h3, e3, e4, by rw [e6 3 (by decide), e8 8 (by decide)]; exact h6, ⟨?_, ?_, ?_⟩, ⟨by rw [e5.1 6 (by decide), e8 9 (by decide)]; exact h8.1, by rw [e5.1 8 (by decide), e8 10 (by decide)]; exact h8.2⟩⟩
        · unfold HF; rw [e5.1 9 (by decide)]; exact h7.1
        · unfold HF; rw [e5.1 14 (by decide)]; exact h7.2.1
        · rw [e5.1 8 (by decide), e7.2]; exact h7.2.2
      · rw [if_neg (show ¬ nI (L + n) ≤ 200 from nI_ge' (a := 200) (by omega) (by omega)), if_neg (show ¬ nI (L + n) ≤ 200 from nI_ge' (a := 200) (by omega) (by omega))]
        exact ⟨0, μ, ν, rfl, rfl, h⟩
