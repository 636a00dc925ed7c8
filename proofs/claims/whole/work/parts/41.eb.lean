/-! signatures as operations -/
theorem KX.s81 {μ : sd_Me} {v : Int32} : KX μ (sd_st μ 8 1 v) := ⟨pa_sc _ _ _ _ _ (by decide), pa_sc _ _ _ _ _ (by decide), pa_sc _ _ _ _ _ (by decide), pa_sn _ _ _ _ _ (by decide), pa_sc _ _ _ _ _ (by decide), pa_sc _ _ _ _ _ (by decide)⟩
theorem KX.s60 {μ : sd_Me} {v : Int32} : KX μ (sd_st μ 6 0 v) := ⟨pa_sc _ _ _ _ _ (by decide), pa_sc _ _ _ _ _ (by decide), pa_sc _ _ _ _ _ (by decide), by rw [pa_sc _ _ _ _ _ (by decide)], pa_sc _ _ _ _ _ (by decide), pa_sc _ _ _ _ _ (by decide)⟩
theorem CN.fit {μ ν : sd_Me} (h : CN μ ν) : CN (sd_st μ 8 1 (μ.1 8 1 + 1)) (sd_st ν 0 10 (ν.1 0 10 + 1)) := ⟨by rw [pa_sc _ _ _ _ _ (by decide), pa_sn _ _ _ _ _ (by decide)]; exact h.1, by rw [pa_ss, pa_ss, h.2]⟩
theorem CN.ops {μ ν : sd_Me} (h : CN μ ν) {x : Int32} : CN (sd_st μ 6 0 (μ.1 6 0 + x)) (sd_st ν 0 9 (ν.1 0 9 + x)) := ⟨by rw [pa_ss, pa_ss, h.1], by rw [pa_sc _ _ _ _ _ (by decide), pa_sn _ _ _ _ _ (by decide)]; exact h.2⟩
theorem AM.s0 {ν : sd_Me} {S T : List El} (h : AM ν S T) {j : Nat} {v : Int32} (h2 : j ≠ 2) (h3 : j ≠ 3) : AM (sd_st ν 0 j v) S T := h.eq (pa_sn _ _ _ _ _ (Ne.symm h2)) (pa_sn _ _ _ _ _ (Ne.symm h3)) (pa_sc _ _ _ _ _ (by decide)) (pa_sc _ _ _ _ _ (by decide))
theorem AX.s8 {μ : sd_Me} {S T : List El} (h : AX μ S T) {j : Nat} {v : Int32} : AX (sd_st μ 8 j v) S T := h.fr (L := [8]) (Fr.st (by decide)) (by decide) (by decide) (by decide) (by decide)
theorem AX.s6 {μ : sd_Me} {S T : List El} (h : AX μ S T) {j : Nat} {v : Int32} : AX (sd_st μ 6 j v) S T := h.fr (L := [6]) (Fr.st (by decide)) (by decide) (by decide) (by decide) (by decide)
def sgE (w : Int32) (ν : sd_Me) : Option sd_Me := if w = (0 : Int32) then some ν else sd_bv (fn_Model_mustBeTrue_r0 ν) (fun m11 => some m11)
/-- a truth in the place of n elements, and then what the code asks -/
theorem sig_end {w : Int32} (hw : w = 0 ∨ w = 1) {μ ν : sd_Me} {S T : List El} (hx : AX μ S T) (hm : AM ν S T) {n : Nat} (hn : n ≤ S.length) (h1n : 1 ≤ n) (hl : S.length + T.length ≤ 60) (h7 : ν.1 0 7 = 0) (hc : CN μ ν) (b : Bool) : SimO (sd_bi (sd_bv (fn_Elements_replaceByTruth_r2 (nI n) (bI b) μ) (fun m3 => some ((0 : Int32), m3))) (fun x m => fn_Signatures_perform_r8_r2_r6_J58 x w m)) (sd_bv (fn_Model_pushTruth_r0 (bI b) (sd_st ν 0 2 (nI (S.length - n)))) (fun m10 => sgE w m10)) μ ν := by
  obtain ⟨μ', ν', f1, f2, f3, f4, f5, f6, f7, f8⟩ := sim_truth hx hm hn h1n hl h7 b
  rw [f1, pa_bv, pa_bi, f2, pa_bv]
  rcases hw with rfl | rfl
  · exact sim_k hc rfl f3 f5 rfl f6 f7 f4 (by omega)
  · have e1 : fn_Signatures_perform_r8_r2_r6_J58 0 1 μ' = sd_bi (fn_Elements_takeTrue_r2 μ') (fun x4 m3 => some (x4, m3)) := rfl
    have e2 : sgE 1 ν' = sd_bv (fn_Model_mustBeTrue_r0 ν') (fun m11 => some m11) := rfl
    rw [e1, e2, bi_id, bv_id]
    exact (sim_must f3 f4 (by omega) f7 (hc.keep f5 f6)).then (KX.fr f5) (f6.mono (by decide))
theorem sig_f {w f : Int32} (hf : 0 < f) {μ : sd_Me} : sd_bi (some (f, μ)) (fun x m => fn_Signatures_perform_r8_r2_r6_J58 x w m) = some (f, μ) := by
  rw [pa_bi]
  unfold fn_Signatures_perform_r8_r2_r6_J58
  rw [if_neg (fun z => by rw [z] at hf; exact absurd hf (by decide))]
theorem sim_one {w : Int32} (hw : w = 0 ∨ w = 1) {μ ν : sd_Me} {S T : List El} (hx : AX μ S T) (hm : AM ν S T) (hl : S.length + T.length ≤ 60) (h7 : ν.1 0 7 = 0) (hc : CN μ ν) (hh : HX μ ν) : SimO (sd_bi (fn_Signatures_askOne_r8_r2 μ) (fun x m => fn_Signatures_perform_r8_r2_r6_J58 x w m)) (fn_Model_one_r0 w ν) μ ν := by
  have hle : ((2 : Int32) ≤ μ.1 2 4) ↔ 2 ≤ S.length := xle hx (n := 2) (by decide)
  unfold fn_Signatures_askOne_r8_r2 fn_Model_one_r0
  by_cases d : 2 ≤ S.length
  · have e1 : fn_Model_has_r0 2 ν = some (1, ν) := M_hasT hm h7 d
    have e2 : fn_Model_top_r0 0 ν = some (nI (S.length - 1 - 0), ν) := M_top hm (k := 0) (by omega)
    have e3 : fn_Model_top_r0 1 ν = some (nI (S.length - 1 - 1), ν) := M_top hm (k := 1) (by omega)
    have e4 := M_fit (by omega) (by omega) (hm.2.2.2.1 1 (by omega)) (hm.2.2.2.1 0 (by omega)) (hm.ok (by omega)) (hm.ok (by omega))
    have e5 : fn_Signatures_fits_r8_r2 1 0 μ = _ := X_fits hx (a := 1) (b := 0) (by omega) (by omega)
    rw [if_pos (hle.mpr d), e5, pa_bi, e1, pa_bi, if_neg (by decide), e3, pa_bi, e2, pa_bi, e4, pa_bi, pa_let, hh.2.2, pa_sn _ _ _ _ _ (by decide), hm.1, pl2, pk_sub d]
    have h := sig_end hw (hx.s8 (j := 1) (v := μ.1 8 1 + 1)) (hm.s0 (j := 10) (v := ν.1 0 10 + 1) (by decide) (by decide)) (n := 2) d (by decide) hl (by rw [pa_sn _ _ _ _ _ (by decide)]; exact h7) hc.fit (fitB (ν.2 0) (S.getD 1 []) (S.getD 0 []))
    exact h.then KX.s81 (KM.st0 (by decide))
  · have e1 : fn_Model_has_r0 2 ν = some (0, sd_st ν 0 7 5) := M_hasF hm h7 d (by decide)
    rw [if_neg (fun z => d (hle.mp z)), sig_f (by decide)]
    exact sim_f (f := 5) (by decide) hc rfl hx Fr.rf (by rw [e1, pa_bi, if_pos (by decide)]) (KM.st0 (by decide)) (pa_ss _ _ _ _) (by omega)
theorem op_172 : OpX (fn_Signatures_perform_r8_r2_r6 172) 172 := by
  intro μ ν S T hx hm hl h7 hc hh
  have e1 : fn_Signatures_perform_r8_r2_r6 172 μ = sd_bi (fn_Signatures_askOne_r8_r2 μ) (fun x m => fn_Signatures_perform_r8_r2_r6_J58 x 0 m) := rfl
  have e2 : fn_Model_operation_r0 172 ν = sd_bv (fn_Model_one_r0 0 ν) (fun m => some m) := rfl
  rw [e1, e2, bv_id]
  exact sim_one (Or.inl rfl) hx hm hl h7 hc hh
theorem op_173 : OpX (fn_Signatures_perform_r8_r2_r6 173) 173 := by
  intro μ ν S T hx hm hl h7 hc hh
  have e1 : fn_Signatures_perform_r8_r2_r6 173 μ = sd_bi (fn_Signatures_askOne_r8_r2 μ) (fun x m => fn_Signatures_perform_r8_r2_r6_J58 x 1 m) := rfl
  have e2 : fn_Model_operation_r0 173 ν = sd_bv (fn_Model_one_r0 1 ν) (fun m => some m) := rfl
  rw [e1, e2, bv_id]
  exact sim_one (Or.inr rfl) hx hm hl h7 hc hh
/-! several signatures -/
theorem fitL {n m : Nat} (hn : n ≤ 8) (hmn : m ≤ n) {y : Int32} {S T : List El} (hS : n + m + 3 ≤ S.length) {kk : Int32 → Int32 → sd_Me → Option (Int32 × sd_Me)} {kk' : Int32 → Int32 → Int32 → Int32 → sd_Me → Option sd_Me} : ∀ (k i j f g : Nat) (μ ν : sd_Me), n = i + k → j ≤ m → k < f → k < g → AX μ S T → AM ν S T → CN μ ν → (μ.1 8 0).toInt64 = ν.2 0 → ∃ (j' : Nat) (μ' ν' : sd_Me), j' ≤ m ∧ fn_Signatures_allFit_r8_r2_L6 kk f (nI n) (nI m) (nI j) (nI i) μ = kk (nI m) (nI j') μ' ∧ fn_Model_several_r0_L139 kk' g y (nI n) (nI m) (nI (n - i)) (nI (m - j)) ν = kk' y (nI n) (nI m) (nI (m - j')) ν' ∧ AX μ' S T ∧ AM ν' S T ∧ CN μ' ν' ∧ KX μ μ' ∧ KM [10] ν ν' := by
  intro k
  induction k with
  | zero =>
    intro i j f g μ ν h0 hj hf hg hx hm hc h8
    obtain ⟨f, rfl⟩ : ∃ g, f = g + 1 := ⟨f - 1, by omega⟩
    obtain ⟨g, rfl⟩ : ∃ h, g = h + 1 := ⟨g - 1, by omega⟩
    refine ⟨j, μ, ν, hj, ?_, ?_, hx, hm, hc, KX.rf, KM.rf⟩
    · rw [fn_Signatures_allFit_r8_r2_L6, if_pos ((nI_leI (by omega) (by omega)).mpr (by omega))]
    · rw [fn_Model_several_r0_L139]
      by_cases c : m - j = 0
      · rw [if_pos (by rw [c]; decide)]
      · rw [if_neg (nI_nle (by omega) (by omega)), if_pos ((nI_ltI (by omega) (by omega)).mpr (by omega))]
  | succ k ih =>
    intro i j f g μ ν h0 hj hf hg hx hm hc h8
    obtain ⟨f, rfl⟩ : ∃ g, f = g + 1 := ⟨f - 1, by omega⟩
    obtain ⟨g, rfl⟩ : ∃ h, g = h + 1 := ⟨g - 1, by omega⟩
    have h64 := hx.d.2.2
    by_cases c : m ≤ j
    · refine ⟨j, μ, ν, hj, ?_, ?_, hx, hm, hc, KX.rf, KM.rf⟩
      · rw [fn_Signatures_allFit_r8_r2_L6, if_neg (nI_ge' (by omega) (by omega)), if_pos ((nI_leI (by omega) (by omega)).mpr c)]
      · rw [fn_Model_several_r0_L139, if_pos (by rw [show m - j = 0 by omega]; decide)]
    · by_cases d : n - i < m - j
      · refine ⟨j, μ, ν, hj, ?_, ?_, hx, hm, hc, KX.rf, KM.rf⟩
        · rw [fn_Signatures_allFit_r8_r2_L6, if_neg (nI_ge' (by omega) (by omega)), if_neg (nI_ge' (by omega) (by omega)), pk_sub (by omega), pk_sub (by omega), if_pos ((nI_ltI (by omega) (by omega)).mpr d)]
        · rw [fn_Model_several_r0_L139, if_neg (nI_nle (by omega) (by omega)), if_pos ((nI_ltI (by omega) (by omega)).mpr d)]
      · have e4 := M_fit (by omega) (by omega) (hm.2.2.2.1 (n + 2 + j) (by omega)) (hm.2.2.2.1 (1 + i) (by omega)) (hm.ok (by omega)) (hm.ok (by omega))
        have e5 := X_fits hx (a := n + 2 + j) (b := 1 + i) (by omega) (by omega)
        have t1 := M_top hm (k := n + 2 + j) (by omega)
        have t2 := M_top hm (k := 1 + i) (by omega)
        have p1 : nI n + 1 + nI m - nI (m - j) + 1 = nI (n + 2 + j) := by
          rw [pl1, nI_add, nI_add, pk_sub (by omega), nI_add]
          exact congrArg nI (by omega)
        have p2 : nI n - nI (n - i) + 1 = nI (1 + i) := by
          rw [pl1, pk_sub (by omega), nI_add]
          exact congrArg nI (by omega)
        have p3 : nI (n - i) + (-1) = nI (n - (i + 1)) := by
          rw [show n - i = (n - (i + 1)) + 1 by omega]
          exact pk_m1 _
        have hx1 := hx.s8 (j := 1) (v := μ.1 8 1 + 1)
        have hm1 := hm.s0 (j := 10) (v := ν.1 0 10 + 1) (by decide) (by decide)
        have h81 : ((sd_st μ 8 1 (μ.1 8 1 + 1)).1 8 0).toInt64 = (sd_st ν 0 10 (ν.1 0 10 + 1)).2 0 := by
          rw [pa_sn _ _ _ _ _ (by decide)]
          exact h8
        obtain ⟨j', μ', ν', r0, r1, r2, r3, r4, r5, r6, r7⟩ := ih (i + 1) (if fitB (ν.2 0) (S.getD (n + 2 + j) []) (S.getD (1 + i) []) = true then j + 1 else j) f g (sd_st μ 8 1 (μ.1 8 1 + 1)) (sd_st ν 0 10 (ν.1 0 10 + 1)) (by omega) (by split <;> omega) (by omega) (by omega) hx1 hm1 hc.fit h81
        refine ⟨j', μ', ν', r0, ?_, ?_, r3, r4, r5, KX.s81.tr r6, (KM.st0 (by decide)).tr r7⟩
        · rw [fn_Signatures_allFit_r8_r2_L6, if_neg (nI_ge' (by omega) (by omega)), if_neg (nI_ge' (by omega) (by omega)), pk_sub (by omega), pk_sub (by omega), if_neg (nI_nlt (by omega) (by omega)), show nI n + 2 + nI j = nI (n + 2 + j) by rw [pl2, nI_add, nI_add], show (1 : Int32) + nI i = nI (1 + i) from nI_add 1 i, e5, pa_bi, h8]
          by_cases z : fitB (ν.2 0) (S.getD (n + 2 + j) []) (S.getD (1 + i) []) = true
          · rw [if_pos z] at r1
            rw [z, if_neg (by decide), show nI j + 1 = nI (j + 1) from nI_add j 1, show nI i + 1 = nI (i + 1) from nI_add i 1]
            exact r1
          · rw [if_neg z] at r1
            rw [Bool.eq_false_iff.mpr z, if_pos (by decide), show nI i + 1 = nI (i + 1) from nI_add i 1]
            exact r1
        · rw [fn_Model_several_r0_L139, if_neg (nI_nle (by omega) (by omega)), if_neg (nI_nlt (by omega) (by omega)), p1, t1, pa_bi, p2, t2, pa_bi, e4, pa_bi, p3]
          by_cases z : fitB (ν.2 0) (S.getD (n + 2 + j) []) (S.getD (1 + i) []) = true
          · rw [if_pos z] at r2
            rw [z, if_neg (by decide), pa_let, show nI (m - j) - 1 = nI (m - (j + 1)) from (pk_sub (b := 1) (by omega)).trans (congrArg nI (by omega))]
            exact r2
          · rw [if_neg z] at r2
            rw [Bool.eq_false_iff.mpr z, if_pos (by decide)]
            exact r2
/-- the class's look at an amount -/
theorem X_amt {μ : sd_Me} {S T : List El} (h : AX μ S T) {k lim : Nat} (hk : k < 2 ^ 16) (hL : lim < 2 ^ 16) : fn_Signatures_faultOfAmount_r2 (nI k) (nI lim) μ = some (if rf S k = 0 then (if lg_cmp (vnum (S.getD k [])) 0 < 0 then 7 else if lg_cmp (vnum (S.getD k [])) (lN lim) ≤ 0 then 0 else 7) else rf S k, μ) := by
  unfold fn_Signatures_faultOfAmount_r2
  rw [X_fN h (by omega), pa_bi]
  by_cases z : rf S k = 0
  · obtain ⟨k0, l0⟩ := rf_0 z
    rw [if_pos z, if_pos z, X_num h k0 l0, pa_bl, nI_l (by omega)]
    by_cases c : lg_cmp (vnum (S.getD k [])) 0 < 0
    · rw [if_pos c, if_pos c]
    · rw [if_neg c, if_neg c]
      by_cases d : lg_cmp (vnum (S.getD k [])) (lN lim) ≤ 0
      · rw [if_pos d, if_pos d]
      · rw [if_neg d, if_neg d]
  · rw [if_neg z, if_neg z]
theorem amt_of {v : Int64} {lim : Nat} (hL : lim < 2 ^ 16) (c : ¬ lg_cmp v 0 < 0) (d : lg_cmp v (lN lim) ≤ 0) : ∃ n : Nat, n ≤ lim ∧ v = lN n := by
  obtain ⟨n, hn, rfl⟩ := lgc_nneg c
  exact ⟨n, (pk_lLE hn (by omega)).mp (lgc_le.mp d), rfl⟩
theorem sim_many {w : Int32} (hw : w = 0 ∨ w = 1) {μ ν : sd_Me} {S T : List El} (hx : AX μ S T) (hm : AM ν S T) (hl : S.length + T.length ≤ 60) (h7 : ν.1 0 7 = 0) (hc : CN μ ν) (hh : HX μ ν) : SimO (sd_bi (fn_Signatures_askMany_r8_r2_r6 μ) (fun x m => fn_Signatures_perform_r8_r2_r6_J58 x w m)) (fn_Model_several_r0 w ν) μ ν := by
  have a0 : fn_Signatures_faultOfAmount_r2 0 8 μ = _ := X_amt hx (k := 0) (lim := 8) (by decide) (by decide)
  obtain ⟨m1, m2⟩ := M_rd hm h7 (k := 0) (by decide)
  unfold fn_Signatures_askMany_r8_r2_r6 fn_Model_several_r0
  rw [a0, pa_bi]
  by_cases z : rf S 0 = 0
  · obtain ⟨k0, l0⟩ := rf_0 z
    obtain ⟨ν1, q1, q2, q3, q4, q5⟩ := m1 z
    have q1 : fn_Model_reads_r0 0 ν = some (1, ν1) := q1
    have e0 : fn_Elements_numberAt_r2 0 μ = some (vnum (S.getD 0 []), μ) := X_num hx k0 l0
    have hc1 : CN μ ν1 := hc.keep Fr.rf (q3.mono (by decide))
    rw [if_pos z, q1, pa_bi, if_neg (show ¬ (1 : Int32) = 0 by decide), q4]
    by_cases c0 : lg_cmp (vnum (S.getD 0 [])) 0 < 0
    · rw [if_pos c0, if_pos c0, if_neg (by decide), sig_f (by decide), M_fails q2, pa_bv]
      exact sim_f (f := 7) (by decide) hc rfl hx Fr.rf rfl ((q3.mono (by decide)).tr (KM.st0 (by decide))) (pa_ss _ _ _ _) (by omega)
    · rw [if_neg c0, if_neg c0]
      by_cases c1 : lg_cmp (vnum (S.getD 0 [])) (lN 8) ≤ 0
      · obtain ⟨n, hn, hv⟩ := amt_of (by decide) c0 c1
        rw [if_pos c1, if_pos (show (0 : Int32) = 0 from rfl), if_pos (show lg_cmp (vnum (S.getD 0 [])) 8 ≤ 0 from c1), e0, pa_bl, pa_let, pa_let, pa_let, hv, lN_i]
        unfold fn_Tally_passesLimit_r6
        rw [pa_let, pa_ss, pa_ss, hc1.1]
        have hcn : CN (sd_st μ 6 0 (ν1.1 0 9 + nI n)) (sd_st ν1 0 9 (ν1.1 0 9 + nI n)) := by
          have := hc1.ops (x := nI n)
          rw [hc1.1] at this
          exact this
        have hx2 := hx.s6 (j := 0) (v := ν1.1 0 9 + nI n)
        have hm2 := q5.s0 (j := 9) (v := ν1.1 0 9 + nI n) (by decide) (by decide)
        have q72 : (sd_st ν1 0 9 (ν1.1 0 9 + nI n)).1 0 7 = 0 := by rw [pa_sn _ _ _ _ _ (by decide)]; exact q2
        have h20 : (sd_st ν1 0 9 (ν1.1 0 9 + nI n)).2 0 = ν.2 0 := q3.2.2.2
        have kx2 : KX μ (sd_st μ 6 0 (ν1.1 0 9 + nI n)) := KX.s60
        have km2 : KM [2, 3, 7, 9, 10] ν (sd_st ν1 0 9 (ν1.1 0 9 + nI n)) := (q3.mono (by decide)).tr (KM.st0 (by decide))
        have h82 : ((sd_st μ 6 0 (ν1.1 0 9 + nI n)).1 8 0).toInt64 = (sd_st ν1 0 9 (ν1.1 0 9 + nI n)).2 0 := by
          rw [h20, kx2.2.2.2.1]
          exact hh.2.2
        have h9t : (sd_st ν1 0 9 (ν1.1 0 9 + nI n)).1 0 9 = ν1.1 0 9 + nI n := pa_ss _ _ _ _
        generalize ν1.1 0 9 + nI n = tt at h9t hcn hx2 hm2 q72 h20 kx2 km2 h82 ⊢
        generalize sd_st μ 6 0 tt = μ2 at hcn hx2 kx2 h82 ⊢
        generalize sd_st ν1 0 9 tt = ν2 at h9t hcn hm2 q72 h20 km2 h82 ⊢
        by_cases ct : tt ≤ 100
        · have h92 : ν2.1 0 9 ≤ 100 := by rw [h9t]; exact ct
          rw [if_pos ct, if_pos ct, pa_bi, if_pos (show (0 : Int32) = 0 from rfl), show nI n + 1 = nI (n + 1) from nI_add n 1, X_amt hx2 (by omega) (by omega), pa_bi]
          by_cases y : rf S (n + 1) = 0
          · obtain ⟨k1, l1⟩ := rf_0 y
            obtain ⟨ν3, r1, r2, r3, r4, r5⟩ := (M_rd hm2 q72 (k := n + 1) (by omega)).1 y
            have km3 : KM [2, 3, 7, 9, 10] ν ν3 := km2.tr (r3.mono (by decide))
            have h93 : ν3.1 0 9 ≤ 100 := by rw [r3.1 9 (by decide)]; exact h92
            have hc3 : CN μ2 ν3 := hcn.keep Fr.rf (r3.mono (by decide))
            rw [if_pos y, M_hasT hm2 q72 (n := n + 1) (by omega), pa_bi, if_neg (show ¬ (1 : Int32) = 0 by decide), r1, pa_bi, if_neg (show ¬ (1 : Int32) = 0 by decide), r4]
            by_cases d0 : lg_cmp (vnum (S.getD (n + 1) [])) 0 < 0
            · rw [if_pos d0, if_pos d0, if_neg (by decide), sig_f (by decide), M_fails r2, pa_bv]
              exact (sim_f (f := 7) (by decide) hc3 rfl hx2 Fr.rf rfl (KM.st0 (by decide)) (pa_ss _ _ _ _) (by omega)).then9 kx2 km3 h93
            · rw [if_neg d0, if_neg d0, nI_l (by omega)]
              by_cases d1 : lg_cmp (vnum (S.getD (n + 1) [])) (lN n) ≤ 0
              · obtain ⟨m, hmn, hv2⟩ := amt_of (by omega) d0 d1
                have e1 : fn_Elements_numberAt_r2 (nI (n + 1)) μ2 = some (vnum (S.getD (n + 1) []), μ2) := X_num hx2 k1 l1
                rw [if_pos d1, if_pos (show (0 : Int32) = 0 from rfl), if_pos d1, e1, pa_bl, pa_let, pa_let, pa_let, hv2, lN_i, show nI n + nI m + 3 = nI (n + m + 3) by rw [pl3, nI_add, nI_add]]
                by_cases d3 : n + m + 3 ≤ S.length
                · have hle : nI (n + m + 3) ≤ μ2.1 2 4 := (xle hx2 (by omega)).mpr d3
                  obtain ⟨j', μ4, ν4, s0, s1, s2, s3, s4, s5, s6, s7⟩ := fitL (y := w) hn hmn d3 (kk := fun x3 x4 m5 => if x4 = x3 then some ((1 : Int32), m5) else some ((0 : Int32), m5)) (kk' := fun x21 x22 x23 x24 m25 => fn_Model_several_r0_J199 (x21) (x22) (x23) (x24) m25) n 0 0 10000 10000 μ2 ν3 (by omega) (by omega) (by omega) (by omega) hx2 r5 hc3 (by rw [h82, r3.2.2.2])
                  have s1 : fn_Signatures_allFit_r8_r2 (nI n) (nI m) μ2 = _ := s1
                  rw [if_pos hle, s1, M_hasT r5 r2 d3, pa_bi, if_neg (show ¬ (1 : Int32) = 0 by decide)]
                  have s2 : fn_Model_several_r0_L139 (fun x21 x22 x23 x24 m25 => fn_Model_several_r0_J199 (x21) (x22) (x23) (x24) m25) 10000 w (nI n) (nI m) (nI n) (nI m) ν3 = fn_Model_several_r0_J199 w (nI n) (nI m) (nI (m - j')) ν4 := s2
                  rw [s2]
                  have e7 : ν4.1 0 7 = 0 := by rw [s7.1 7 (by decide)]; exact r2
                  have hj : (if nI j' = nI m then some ((1 : Int32), μ4) else some ((0 : Int32), μ4)) = some (bI (decide (j' = m)), μ4) := by
                    by_cases c : j' = m
                    · rw [if_pos (by rw [c]), decide_eq_true c]; rfl
                    · rw [if_neg (fun v => c ((nI_eq (by omega) (by omega)).mp v)), decide_eq_false c]; rfl
                  have hJ : fn_Model_several_r0_J199 w (nI n) (nI m) (nI (m - j')) ν4 = sd_bv (fn_Model_pushTruth_r0 (bI (decide (j' = m))) (sd_st ν4 0 2 (nI (S.length - (n + m + 3))))) (fun m10 => sgE w m10) := by
                    unfold fn_Model_several_r0_J199 sgE
                    rw [pa_let, s4.1, show nI n + nI m + 3 = nI (n + m + 3) by rw [pl3, nI_add, nI_add], pk_sub d3]
                    by_cases c : j' = m
                    · rw [if_pos (by rw [show m - j' = 0 by omega]; rfl), decide_eq_true c]
                      rfl
                    · rw [if_neg (nI_ne0 (by omega) (by omega)), decide_eq_false c]
                      rfl
                  rw [hJ]
                  show SimO (sd_bi (sd_bi (if nI j' = nI m then some ((1 : Int32), μ4) else some ((0 : Int32), μ4)) _) _) _ μ ν
                  rw [hj, pa_bi]
                  exact (sig_end hw s3 s4 d3 (by omega) hl e7 s5 _).then9 (kx2.tr s6) (km3.tr (s7.mono (by decide))) (by rw [s7.1 9 (by decide)]; exact h93)
                · have hle : ¬ nI (n + m + 3) ≤ μ2.1 2 4 := fun v => d3 ((xle hx2 (by omega)).mp v)
                  rw [if_neg hle, sig_f (by decide), M_hasF r5 r2 d3 (by omega), pa_bi, if_pos (show (0 : Int32) = 0 from rfl)]
                  exact (sim_f (f := 5) (by decide) hc3 rfl hx2 Fr.rf rfl (KM.st0 (by decide)) (pa_ss _ _ _ _) (by omega)).then9 kx2 km3 h93
              · rw [if_neg d1, if_neg (show ¬ (7 : Int32) = 0 by decide), sig_f (by decide), if_neg d1, M_fails r2, pa_bv]
                exact (sim_f (f := 7) (by decide) hc3 rfl hx2 Fr.rf rfl (KM.st0 (by decide)) (pa_ss _ _ _ _) (by omega)).then9 kx2 km3 h93
          · obtain ⟨ν3, r1, r2, r3⟩ := (M_rd hm2 q72 (k := n + 1) (by omega)).2 y
            rw [if_neg y, if_neg y, sig_f (rf_pos y)]
            by_cases g0 : n + 1 ≤ S.length
            · rw [M_hasT hm2 q72 (n := n + 1) g0, pa_bi, if_neg (show ¬ (1 : Int32) = 0 by decide), r1, pa_bi, if_pos (show (0 : Int32) = 0 from rfl)]
              exact (sim_f (rf_pos y) hcn rfl hx2 Fr.rf rfl (r3.mono (by decide)) r2 (by omega)).then9 kx2 km2 h92
            · have g1 : rf S (n + 1) = 5 := by unfold rf; rw [if_neg (by omega)]
              rw [M_hasF hm2 q72 (n := n + 1) g0 (by omega), pa_bi, if_pos (show (0 : Int32) = 0 from rfl), g1]
              exact (sim_f (f := 5) (by decide) hcn rfl hx2 Fr.rf rfl (KM.st0 (by decide)) (pa_ss _ _ _ _) (by omega)).then9 kx2 km2 h92
        · rw [if_neg ct, if_neg ct, pa_bi, if_neg (show ¬ (1 : Int32) = 0 by decide), sig_f (by decide), M_fails q72, pa_bv]
          exact ⟨3, μ2, sd_st ν2 0 7 3, rfl, rfl, pa_ss _ _ _ _, Or.inr (by decide), kx2, km2.tr (KM.st0 (by decide)), hcn.keep Fr.rf (KM.st0 (by decide)), fun z => absurd z (by decide), S, T, hx2, by omega, fun z => absurd z (by decide)⟩
      · rw [if_neg c1, if_neg (show ¬ (7 : Int32) = 0 by decide), sig_f (by decide), if_neg (show ¬ lg_cmp (vnum (S.getD 0 [])) 8 ≤ 0 from c1), M_fails q2, pa_bv]
        exact sim_f (f := 7) (by decide) hc rfl hx Fr.rf rfl ((q3.mono (by decide)).tr (KM.st0 (by decide))) (pa_ss _ _ _ _) (by omega)
  · obtain ⟨ν1, q1, q2, q3⟩ := m2 z
    have q1 : fn_Model_reads_r0 0 ν = some (0, ν1) := q1
    rw [if_neg z, if_neg z, sig_f (rf_pos z), q1, pa_bi, if_pos (show (0 : Int32) = 0 from rfl)]
    exact sim_f (rf_pos z) hc rfl hx Fr.rf rfl (q3.mono (by decide)) q2 (by omega)
theorem op_174 : OpX (fn_Signatures_perform_r8_r2_r6 174) 174 := by
  intro μ ν S T hx hm hl h7 hc hh
  have e1 : fn_Signatures_perform_r8_r2_r6 174 μ = sd_bi (fn_Signatures_askMany_r8_r2_r6 μ) (fun x m => fn_Signatures_perform_r8_r2_r6_J58 x 0 m) := rfl
  have e2 : fn_Model_operation_r0 174 ν = sd_bv (fn_Model_several_r0 0 ν) (fun m => some m) := rfl
  rw [e1, e2, bv_id]
  exact sim_many (Or.inl rfl) hx hm hl h7 hc hh
theorem op_175 : OpX (fn_Signatures_perform_r8_r2_r6 175) 175 := by
  intro μ ν S T hx hm hl h7 hc hh
  have e1 : fn_Signatures_perform_r8_r2_r6 175 μ = sd_bi (fn_Signatures_askMany_r8_r2_r6 μ) (fun x m => fn_Signatures_perform_r8_r2_r6_J58 x 1 m) := rfl
  have e2 : fn_Model_operation_r0 175 ν = sd_bv (fn_Model_several_r0 1 ν) (fun m => some m) := rfl
  rw [e1, e2, bv_id]
  exact sim_many (Or.inr rfl) hx hm hl h7 hc hh
