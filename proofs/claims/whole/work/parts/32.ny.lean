/-! three operands; pick; codes that do not exist -/
def g3 (x lo hi : Int64) : Int64 := if (0 : Int32) < lg_cmp lo x then 0 else if (0 : Int32) ≤ lg_cmp x hi then 0 else 1
theorem g3_bnd {x lo hi : Int64} : bnd2 (g3 x lo hi) := by
  unfold g3
  by_cases h0 : (0 : Int32) < lg_cmp lo x
  · rw [if_pos h0]; exact bnd2_of bnd_0
  · rw [if_neg h0]
    by_cases h1 : (0 : Int32) ≤ lg_cmp x hi
    · rw [if_pos h1]; exact bnd2_of bnd_0
    · rw [if_neg h1]; exact bnd2_of bnd_1
theorem N_res3 {μ : sd_Me} {S T : List El} (hx : AX μ S T) (k0 : 0 < S.length) (l0 : (S.getD 0 []).length ≤ 4) (k1 : 1 < S.length) (l1 : (S.getD 1 []).length ≤ 4) (k2 : 2 < S.length) (l2 : (S.getD 2 []).length ≤ 4) {c : Int32} : fn_Numbers_resultOf_r2 c (nI 3) μ = some (g3 (vnum (S.getD 2 [])) (vnum (S.getD 1 [])) (vnum (S.getD 0 [])), μ) := by
  have e0 : fn_Elements_numberAt_r2 0 μ = some (vnum (S.getD 0 []), μ) := X_num hx k0 l0
  have e1 : fn_Elements_numberAt_r2 1 μ = some (vnum (S.getD 1 []), μ) := X_num hx k1 l1
  have e2 : fn_Elements_numberAt_r2 2 μ = some (vnum (S.getD 2 []), μ) := X_num hx k2 l2
  unfold fn_Numbers_resultOf_r2 g3
  rw [e0, pa_bl, if_neg (by decide), e1, pa_bl, if_pos (by decide), e2, pa_bl]
  by_cases h0 : (0 : Int32) < lg_cmp (vnum (S.getD 1 [])) (vnum (S.getD 2 []))
  · rw [if_pos h0, if_pos h0]
  · rw [if_neg h0, if_neg h0]
    by_cases h1 : (0 : Int32) ≤ lg_cmp (vnum (S.getD 2 [])) (vnum (S.getD 0 []))
    · rw [if_pos h1, if_pos h1]
    · rw [if_neg h1, if_neg h1]
theorem mo_165 {ν : sd_Me} : fn_Model_operation_r0 165 ν = sd_bi (fn_Model_reads_r0 0 ν) (fun x2 m1 => if x2 = (0 : Int32) then some m1 else sd_bi (fn_Model_reads_r0 1 m1) (fun x5 m4 => if x5 = (0 : Int32) then some m4 else sd_bi (fn_Model_reads_r0 2 m4) (fun x37 m36 => if x37 = (0 : Int32) then some m36 else fn_Model_pushNumber_r0 (g3 (m36.2 1) (m4.2 1) (m1.2 1)) (sd_st m36 0 2 ((m36.1 0 2) - (3 : Int32)))))) := by
  have e0 : fn_Model_operation_r0 165 ν = sd_bv (fn_Model_numberOfTwo_r0 165 ν) (fun m => some m) := rfl
  rw [e0, bv_id, fn_Model_numberOfTwo_r0]
  refine bi_ext fun x2 m1 => ?_
  by_cases c : x2 = 0
  · rw [if_pos c, if_pos c]
  · rw [if_neg c, if_neg c, pa_let]
    refine bi_ext fun x5 m4 => ?_
    by_cases d : x5 = 0
    · rw [if_pos d, if_pos d]
    · rw [if_neg d, if_neg d, pa_let, if_pos (show (165 : Int32) = 165 from rfl)]
      refine bi_ext fun x6 m6 => ?_
      by_cases e : x6 = 0
      · rw [if_pos e, if_pos e]
      · rw [if_neg e, if_neg e, pa_let]
        show _ = fn_Model_pushNumber_r0 (if (0 : Int32) < lg_cmp (m4.2 1) (m6.2 1) then 0 else if (0 : Int32) ≤ lg_cmp (m6.2 1) (m1.2 1) then 0 else 1) (sd_st m6 0 2 ((m6.1 0 2) - (3 : Int32)))
        show (if (0 : Int32) < lg_cmp (m4.2 1) (m6.2 1) then _ else if (0 : Int32) ≤ lg_cmp (m6.2 1) (m1.2 1) then _ else _) = _
        by_cases h0 : (0 : Int32) < lg_cmp (m4.2 1) (m6.2 1)
        · rw [if_pos h0, if_pos h0]
          exact (bv_id _).trans (bv_id _)
        · rw [if_neg h0, if_neg h0]
          by_cases h1 : (0 : Int32) ≤ lg_cmp (m6.2 1) (m1.2 1)
          · rw [if_pos h1, if_pos h1]
            exact (bv_id _).trans (bv_id _)
          · rw [if_neg h1, if_neg h1]
            exact (bv_id _).trans (bv_id _)
theorem op_165 : OpS (fn_Numbers_perform_r2 165) 165 := by
  intro μ ν S T hx hm hl h7 hc
  have s0 := N_step hx (kk := nK) (c := 165) (n := 3) (i := 0) (f := 9999) (by decide) (by decide)
  have s1 := N_step hx (kk := nK) (c := 165) (n := 3) (i := 1) (f := 9998) (by decide) (by decide)
  have s2 := N_step hx (kk := nK) (c := 165) (n := 3) (i := 2) (f := 9997) (by decide) (by decide)
  have s3 := N_end (kk := nK) (c := 165) (n := 3) (f := 9996) (μ := μ) (by decide)
  have ho : fn_Numbers_operandsOf 165 μ = some (3, μ) := rfl
  rw [N_perf, ho, pa_bi, if_neg (by decide), show fn_Numbers_perform_r2_L13 nK 10000 165 3 0 μ = _ from s0, mo_165]
  obtain ⟨m1, m2⟩ := M_rd hm h7 (k := 0) (by decide)
  by_cases z : rf S 0 = 0
  · obtain ⟨ν1, q1, q2, q3, q4, q5⟩ := m1 z
    have q1 : fn_Model_reads_r0 0 ν = some (1, ν1) := q1
    rw [if_pos z, show fn_Numbers_perform_r2_L13 nK 9999 165 (nI 3) (nI (0 + 1)) μ = _ from s1, q1, pa_bi, if_neg (show ¬ (1 : Int32) = 0 by decide)]
    obtain ⟨n1, n2⟩ := M_rd q5 q2 (k := 1) (by decide)
    by_cases w : rf S 1 = 0
    · obtain ⟨ν2, r1, r2, r3, r4, r5⟩ := n1 w
      have r1 : fn_Model_reads_r0 1 ν1 = some (1, ν2) := r1
      rw [if_pos w, show fn_Numbers_perform_r2_L13 nK 9998 165 (nI 3) (nI (1 + 1)) μ = _ from s2, r1, pa_bi, if_neg (show ¬ (1 : Int32) = 0 by decide)]
      obtain ⟨o1, o2⟩ := M_rd r5 r2 (k := 2) (by decide)
      by_cases v : rf S 2 = 0
      · obtain ⟨ν3, t1, t2, t3, t4, t5⟩ := o1 v
        have t1 : fn_Model_reads_r0 2 ν2 = some (1, ν3) := t1
        obtain ⟨k0, l0⟩ := rf_0 z
        obtain ⟨k1, l1⟩ := rf_0 w
        obtain ⟨k2, l2⟩ := rf_0 v
        rw [if_pos v, show fn_Numbers_perform_r2_L13 nK 9997 165 (nI 3) (nI (2 + 1)) μ = _ from s3, nK, N_res3 hx k0 l0 k1 l1 k2 l2, pa_bl, t1, pa_bi, if_neg (show ¬ (1 : Int32) = 0 by decide), q4, r4, t4, t5.1, pl3, pk_sub (by omega)]
        exact (sim_res hx t5 (n := 3) (by omega) (by decide) hl t2 (c := 165) (((hc.keep Fr.rf (q3.mono (by decide))).keep Fr.rf (r3.mono (by decide))).keep Fr.rf (t3.mono (by decide))) g3_bnd (by decide)).then KX.rf (((q3.mono (by decide)).tr (r3.mono (by decide))).tr (t3.mono (by decide)))
      · obtain ⟨ν3, t1, t2, t3⟩ := o2 v
        have t1 : fn_Model_reads_r0 2 ν2 = some (0, ν3) := t1
        rw [if_neg v, t1, pa_bi, if_pos (show (0 : Int32) = 0 from rfl)]
        exact sim_f (rf_pos v) hc rfl hx Fr.rf rfl (((q3.mono (by decide)).tr (r3.mono (by decide))).tr (t3.mono (by decide))) t2 (by omega)
    · obtain ⟨ν2, r1, r2, r3⟩ := n2 w
      have r1 : fn_Model_reads_r0 1 ν1 = some (0, ν2) := r1
      rw [if_neg w, r1, pa_bi, if_pos (show (0 : Int32) = 0 from rfl)]
      exact sim_f (rf_pos w) hc rfl hx Fr.rf rfl ((q3.mono (by decide)).tr (r3.mono (by decide))) r2 (by omega)
  · obtain ⟨ν1, q1, q2, q3⟩ := m2 z
    have q1 : fn_Model_reads_r0 0 ν = some (0, ν1) := q1
    rw [if_neg z, q1, pa_bi, if_pos (by decide)]
    exact sim_f (rf_pos z) hc rfl hx Fr.rf rfl (q3.mono (by decide)) q2 (by omega)
/-! pick -/
theorem lgc_nneg {v : Int64} (h : ¬ lg_cmp v 0 < 0) : ∃ n : Nat, n < 2 ^ 63 ∧ v = lN n := pk_lOf (fun z => h (lgc_lt.mpr z))
theorem sim_pick {w : Int32} {μ ν : sd_Me} {S T : List El} (hx : AX μ S T) (hm : AM ν S T) (hl : S.length + T.length ≤ 60) (h7 : ν.1 0 7 = 0) (hc : CN μ ν) : SimO (fn_Moves_pick_r2 w μ) (fn_Model_pick_r0 w ν) μ ν := by
  obtain ⟨m1, m2⟩ := M_rd hm h7 (k := 0) (by decide)
  have eF : fn_Elements_faultOfNumber_r2 0 μ = some (rf S 0, μ) := X_fN hx (k := 0) (by decide)
  unfold fn_Moves_pick_r2 fn_Model_pick_r0
  rw [eF, pa_bi]
  by_cases z : rf S 0 = 0
  · obtain ⟨k0, l0⟩ := rf_0 z
    obtain ⟨ν1, q1, q2, q3, q4, q5⟩ := m1 z
    have q1 : fn_Model_reads_r0 0 ν = some (1, ν1) := q1
    have e0 : fn_Elements_numberAt_r2 0 μ = some (vnum (S.getD 0 []), μ) := X_num hx k0 l0
    have hq : (sd_st ν1 0 2 (nI (S.length - 1))).2 1 = vnum (S.getD 0 []) := q4
    have kk : KM [2, 3, 7] ν (sd_st ν1 0 2 (nI (S.length - 1))) := (q3.mono (by decide)).tr (KM.st0 (by decide))
    have f7 : (sd_st ν1 0 2 (nI (S.length - 1))).1 0 7 = 0 := by rw [pa_sn _ _ _ _ _ (by decide)]; exact q2
    rw [if_pos z, e0, pa_bl, q1, pa_bi, if_neg (show ¬ (1 : Int32) = 0 by decide), pa_let, q5.1, pl1, pk_sub k0, hq, pa_ss]
    by_cases c0 : lg_cmp (vnum (S.getD 0 [])) 0 < 0
    · rw [if_pos c0, if_pos c0, M_fails f7, pa_bv]
      exact sim_f (f := 7) (by decide) hc rfl hx Fr.rf rfl (kk.tr (KM.st0 (by decide))) (pa_ss _ _ _ _) (by omega)
    · obtain ⟨n, hn, hv⟩ := lgc_nneg c0
      rw [if_neg c0, if_neg c0, hv, hx.d.1, pk_sub k0, nI_l (by omega)]
      by_cases d : n < S.length - 1
      · have d1 : lg_cmp (lN n) (lN (S.length - 1)) < 0 := lgc_lt.mpr ((pk_lLT hn (by omega)).mpr d)
        have d2 : lg_cmp (lN n) (nI (S.length - 1) - nI 1).toInt64 ≤ 0 := by
          rw [pk_sub (by omega), nI_l (by omega)]
          exact lgc_le.mpr ((pk_lLE hn (by omega)).mpr (by omega))
        have g2 := AX_drop hx (n := 1) k0
        have hd := AM_drop q5 (n := 1) k0
        have hlen : (S.drop 1).length = S.length - 1 := List.length_drop
        rw [if_pos d1, if_pos d2, X_drop hx k0, pa_bv, pa_let, lN_i]
        rw [M_top hd (k := n) (by omega), pa_bi, pl134, M_copy (by omega) (by omega) (by omega), pa_bv, hlen]
        have hRow := copyM_row (a := 134) (hd.2.2.2.1 n (by omega)) (hd.ok (by omega)).1
        rw [hlen] at hRow
        have hd2 : AM (copyM (sd_st ν1 0 2 (nI (S.length - 1))) 134 (S.length - 1 - 1 - n)) (S.drop 1) T := by
          obtain ⟨a1, a2, a3, a4, a5, a6, a7⟩ := hd
          refine ⟨by rw [copyM_0]; exact a1, by rw [copyM_0]; exact a2, a3, ?_, ?_, a6, a7⟩
          · intro i hi
            exact (a4 i hi).rs (a6 i hi).1 (copyM_rs (by omega))
          · intro j hj
            exact (a5 j hj).rs (a7 j hj).1 (copyM_rs (by omega))
        have hok := hd.ok (k := n) (by omega)
        by_cases ww : w = 0
        · obtain ⟨μ', f1, f2, f3⟩ := X_pushCopy g2 (by rw [hlen]; omega) (k := n) (by omega)
          obtain ⟨ν', p1, p2, p3, p4, p5⟩ := M_push hd2 (by rw [hlen]; omega) (r := 134) (by decide) (by omega) hRow hok
          rw [if_pos ww, if_pos ww, f1, pa_bv, p1, pa_bv]
          exact sim_k hc rfl f2 ((Fr.st (by decide)).tr (f3.mono (by decide))) rfl ((kk.tr copyM_KM).tr (p3.mono (by decide))) (by rw [p3.1 7 (by decide), copyM_0]; exact f7) p2 (by rw [List.length_cons, hlen]; omega)
        · obtain ⟨μ', f1, f2, f3⟩ := X_lift g2 (k := n) (by omega)
          obtain ⟨ν', p1, p2, p3, p4, p5⟩ := M_takeOut hd2 (n := n) (by omega)
          have hle : ((S.drop 1).eraseIdx n).length = S.length - 1 - 1 := by rw [List.length_eraseIdx_of_lt (by omega), hlen]
          obtain ⟨ν'', r1, r2, r3, r4, r5⟩ := M_push p2 (by rw [hle]; omega) (r := 134) (by decide) (by omega) (hRow.rs hok.1 (p4 134 (by omega))) hok
          rw [if_neg ww, if_neg ww, f1, pa_bv, p1, pa_bv, r1, pa_bv]
          exact sim_k hc rfl f2 ((Fr.st (by decide)).tr (f3.mono (by decide))) rfl (((kk.tr copyM_KM).tr (p3.mono (by decide))).tr (r3.mono (by decide))) (by rw [r3.1 7 (by decide), p3.1 7 (by decide), copyM_0]; exact f7) r2 (by rw [lifted_len (by omega), hlen]; omega)
      · have d1 : ¬ lg_cmp (lN n) (lN (S.length - 1)) < 0 := fun y => d ((pk_lLT hn (by omega)).mp (lgc_lt.mp y))
        have d2 : ¬ lg_cmp (lN n) (nI (S.length - 1) - nI 1).toInt64 ≤ 0 := by
          intro y
          have y2 := lgc_le.mp y
          by_cases e : S.length - 1 = 0
          · rw [e] at y2
            have : (nI 0 - nI 1).toInt64 = -1 := by decide
            rw [this, Int64.le_iff_toInt_le, pk_lT hn] at y2
            have : (-1 : Int64).toInt = -1 := by decide
            omega
          · rw [pk_sub (by omega), nI_l (by omega)] at y2
            have := (pk_lLE hn (by omega)).mp y2
            omega
        rw [if_neg d1, if_neg d2, M_fails f7, pa_bv]
        exact sim_f (f := 7) (by decide) hc rfl hx Fr.rf rfl (kk.tr (KM.st0 (by decide))) (pa_ss _ _ _ _) (by omega)
  · obtain ⟨ν1, q1, q2, q3⟩ := m2 z
    have q1 : fn_Model_reads_r0 0 ν = some (0, ν1) := q1
    rw [if_neg z, q1, pa_bi, if_pos (by decide)]
    exact sim_f (rf_pos z) hc rfl hx Fr.rf rfl (q3.mono (by decide)) q2 (by omega)
theorem op_121 : OpS (fn_Moves_perform_r2 121) 121 := by
  intro μ ν S T hx hm hl h7 hc
  have e1 : fn_Moves_perform_r2 121 μ = sd_bi (fn_Moves_pick_r2 0 μ) (fun x m => some (x, m)) := rfl
  have e2 : fn_Model_operation_r0 121 ν = sd_bv (sd_bv (fn_Model_pick_r0 0 ν) (fun m => some m)) (fun m => some m) := rfl
  rw [e1, e2, bi_id, bv_id, bv_id]
  exact sim_pick hx hm hl h7 hc
theorem op_122 : OpS (fn_Moves_perform_r2 122) 122 := by
  intro μ ν S T hx hm hl h7 hc
  have e1 : fn_Moves_perform_r2 122 μ = sd_bi (fn_Moves_pick_r2 1 μ) (fun x m => some (x, m)) := rfl
  have e2 : fn_Model_operation_r0 122 ν = sd_bv (sd_bv (fn_Model_pick_r0 1 ν) (fun m => some m)) (fun m => some m) := rfl
  rw [e1, e2, bi_id, bv_id, bv_id]
  exact sim_pick hx hm hl h7 hc
theorem op_98 : OpS (fn_Desk_performPlain_r0 98) 98 := op_no (fun _ => rfl) (fun _ => rfl)
theorem op_101 : OpS (fn_Desk_performPlain_r0 101) 101 := op_no (fun _ => rfl) (fun _ => rfl)
theorem op_102 : OpS (fn_Desk_performPlain_r0 102) 102 := op_no (fun _ => rfl) (fun _ => rfl)
theorem op_126 : OpS (fn_Moves_perform_r2 126) 126 := op_no (fun _ => rfl) (fun _ => rfl)
theorem op_127 : OpS (fn_Moves_perform_r2 127) 127 := op_no (fun _ => rfl) (fun _ => rfl)
theorem op_128 : OpS (fn_Moves_perform_r2 128) 128 := op_no (fun _ => rfl) (fun _ => rfl)
theorem op_129 : OpS (fn_Moves_perform_r2 129) 129 := op_no (fun _ => rfl) (fun _ => rfl)
theorem op_131 : OpS (fn_Moves_perform_r2 131) 131 := op_no (fun _ => rfl) (fun _ => rfl)
theorem op_132 : OpS (fn_Moves_perform_r2 132) 132 := op_no (fun _ => rfl) (fun _ => rfl)
theorem op_133 : OpS (fn_Moves_perform_r2 133) 133 := op_no (fun _ => rfl) (fun _ => rfl)
theorem op_134 : OpS (fn_Moves_perform_r2 134) 134 := op_no (fun _ => rfl) (fun _ => rfl)
theorem op_137 : OpS (fn_Numbers_perform_r2 137) 137 := op_no (fun _ => rfl) (fun _ => rfl)
theorem op_138 : OpS (fn_Numbers_perform_r2 138) 138 := op_no (fun _ => rfl) (fun _ => rfl)
theorem op_141 : OpS (fn_Numbers_perform_r2 141) 141 := op_no (fun _ => rfl) (fun _ => rfl)
theorem op_142 : OpS (fn_Numbers_perform_r2 142) 142 := op_no (fun _ => rfl) (fun _ => rfl)
theorem op_149 : OpS (fn_Numbers_perform_r2 149) 149 := op_no (fun _ => rfl) (fun _ => rfl)
theorem op_150 : OpS (fn_Numbers_perform_r2 150) 150 := op_no (fun _ => rfl) (fun _ => rfl)
theorem op_151 : OpS (fn_Numbers_perform_r2 151) 151 := op_no (fun _ => rfl) (fun _ => rfl)
theorem op_152 : OpS (fn_Numbers_perform_r2 152) 152 := op_no (fun _ => rfl) (fun _ => rfl)
theorem op_153 : OpS (fn_Numbers_perform_r2 153) 153 := op_no (fun _ => rfl) (fun _ => rfl)
