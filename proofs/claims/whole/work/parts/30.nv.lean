/-! two operands -/
/-- the class's result of two numbers (top first), by its code -/
def tail2 (c : Int32) (x2 x4 : Int64) (m3 : sd_Me) : Option (Int64 × sd_Me) := if c = (147 : Int32) then fn_Numbers_resultOf_r2_J71 (c) (x2) (x4) m3 else if c = (148 : Int32) then fn_Numbers_resultOf_r2_J71 (c) (x2) (x4) m3 else if c = (163 : Int32) then fn_Numbers_resultOf_r2_J104 (c) (x2) (x4) m3 else if c = (164 : Int32) then fn_Numbers_resultOf_r2_J104 (c) (x2) (x4) m3 else sd_bi (fn_Numbers_compare c x4 x2 m3) (fun x6 m5 => if x6 = (0 : Int32) then some ((0 : Int64), m5) else some ((1 : Int64), m5))
theorem N_res2 {μ : sd_Me} {S T : List El} (hx : AX μ S T) (k0 : 0 < S.length) (l0 : (S.getD 0 []).length ≤ 4) (k1 : 1 < S.length) (l1 : (S.getD 1 []).length ≤ 4) {c : Int32} : fn_Numbers_resultOf_r2 c (nI 2) μ = tail2 c (vnum (S.getD 0 [])) (vnum (S.getD 1 [])) μ := by
  have e0 : fn_Elements_numberAt_r2 0 μ = some (vnum (S.getD 0 []), μ) := X_num hx k0 l0
  have e1 : fn_Elements_numberAt_r2 1 μ = some (vnum (S.getD 1 []), μ) := X_num hx k1 l1
  unfold fn_Numbers_resultOf_r2 tail2
  rw [e0, pa_bl, if_neg (by decide), e1, pa_bl, if_neg (by decide)]
/-- the reference's tail of two numbers a (under), b (top) -/
theorem num2 {c : Int32} {g : Int64 → Int64 → Int64} (tl : Int64 → Int64 → sd_Me → Option sd_Me) (h1 : ∀ μ, fn_Numbers_operandsOf c μ = some (2, μ)) (h2 : ∀ b a μ, tail2 c b a μ = some (g a b, μ)) (hb : ∀ a b, bnd a → bnd b → bnd2 (g a b)) (h4 : ∀ ν, fn_Model_operation_r0 c ν = sd_bi (fn_Model_reads_r0 0 ν) (fun x2 m1 => if x2 = (0 : Int32) then some m1 else sd_bi (fn_Model_reads_r0 1 m1) (fun x5 m4 => if x5 = (0 : Int32) then some m4 else tl (m4.2 1) (m1.2 1) (sd_st m4 0 2 ((m4.1 0 2) - (2 : Int32))))))
    (h5 : ∀ (μ ν : sd_Me) (S T : List El) (a b : Int64), AX μ S T → AM ν S T → 2 ≤ S.length → S.length + T.length ≤ 60 → ν.1 0 7 = 0 → CN μ ν → bnd2 (g a b) → SimO (nTail c (nI 2) (g a b) μ) (tl a b (sd_st ν 0 2 (nI (S.length - 2)))) μ ν) : OpS (fn_Numbers_perform_r2 c) c := by
  intro μ ν S T hx hm hl h7 hc
  have s0 := N_step hx (kk := nK) (c := c) (n := 2) (i := 0) (f := 9999) (by decide) (by decide)
  have s1 := N_step hx (kk := nK) (c := c) (n := 2) (i := 1) (f := 9998) (by decide) (by decide)
  have s2 := N_end (kk := nK) (c := c) (n := 2) (f := 9997) (μ := μ) (by decide)
  rw [N_perf, h1, pa_bi, if_neg (by decide), show fn_Numbers_perform_r2_L13 nK 10000 c 2 0 μ = _ from s0, h4]
  obtain ⟨m1, m2⟩ := M_rd hm h7 (k := 0) (by decide)
  by_cases z : rf S 0 = 0
  · obtain ⟨ν1, q1, q2, q3, q4, q5⟩ := m1 z
    have q1 : fn_Model_reads_r0 0 ν = some (1, ν1) := q1
    rw [if_pos z, show fn_Numbers_perform_r2_L13 nK 9999 c (nI 2) (nI (0 + 1)) μ = _ from s1, q1, pa_bi, if_neg (show ¬ (1 : Int32) = 0 by decide)]
    obtain ⟨n1, n2⟩ := M_rd q5 q2 (k := 1) (by decide)
    by_cases w : rf S 1 = 0
    · obtain ⟨ν2, r1, r2, r3, r4, r5⟩ := n1 w
      have r1 : fn_Model_reads_r0 1 ν1 = some (1, ν2) := r1
      obtain ⟨k0, l0⟩ := rf_0 z
      obtain ⟨k1, l1⟩ := rf_0 w
      rw [if_pos w, show fn_Numbers_perform_r2_L13 nK 9998 c (nI 2) (nI (1 + 1)) μ = _ from s2, nK, N_res2 hx k0 l0 k1 l1, h2, pa_bl, r1, pa_bi, if_neg (show ¬ (1 : Int32) = 0 by decide), q4, r4, r5.1, pl2, pk_sub (by omega)]
      exact (h5 μ ν2 S T _ _ hx r5 (by omega) hl r2 ((hc.keep Fr.rf (q3.mono (by decide))).keep Fr.rf (r3.mono (by decide))) (hb _ _ (vnum_bnd (hx.ok k1) l1) (vnum_bnd (hx.ok k0) l0))).then KX.rf ((q3.mono (by decide)).tr (r3.mono (by decide)))
    · obtain ⟨ν2, r1, r2, r3⟩ := n2 w
      have r1 : fn_Model_reads_r0 1 ν1 = some (0, ν2) := r1
      rw [if_neg w, r1, pa_bi, if_pos (show (0 : Int32) = 0 from rfl)]
      exact sim_f (rf_pos w) hc rfl hx Fr.rf rfl ((q3.mono (by decide)).tr (r3.mono (by decide))) r2 (by omega)
  · obtain ⟨ν1, q1, q2, q3⟩ := m2 z
    have q1 : fn_Model_reads_r0 0 ν = some (0, ν1) := q1
    rw [if_neg z, q1, pa_bi, if_pos (by decide)]
    exact sim_f (rf_pos z) hc rfl hx Fr.rf rfl (q3.mono (by decide)) q2 (by omega)
/-- a number pushed -/
theorem h5_num {c : Int32} {g : Int64 → Int64 → Int64} (h3 : c ≠ 157) : ∀ (μ ν : sd_Me) (S T : List El) (a b : Int64), AX μ S T → AM ν S T → 2 ≤ S.length → S.length + T.length ≤ 60 → ν.1 0 7 = 0 → CN μ ν → bnd2 (g a b) → SimO (nTail c (nI 2) (g a b) μ) ((fun a b m => fn_Model_pushNumber_r0 (g a b) m) a b (sd_st ν 0 2 (nI (S.length - 2)))) μ ν :=
  fun μ ν S T a b hx hm hn hl h7 hc hb => sim_res hx hm hn (by decide) hl h7 hc hb h3
/-- a number that must be true, pushed -/
theorem h5_must {g : Int64 → Int64 → Int64} : ∀ (μ ν : sd_Me) (S T : List El) (a b : Int64), AX μ S T → AM ν S T → 2 ≤ S.length → S.length + T.length ≤ 60 → ν.1 0 7 = 0 → CN μ ν → bnd2 (g a b) → SimO (nTail 157 (nI 2) (g a b) μ) ((fun a b m => sd_bv (fn_Model_pushNumber_r0 (g a b) m) (fun m20 => fn_Model_mustBeTrue_r0 m20)) a b (sd_st ν 0 2 (nI (S.length - 2)))) μ ν := by
  intro μ ν S T a b hx hm hn hl h7 hc hb
  obtain ⟨e, μ', ν', f1, f2, f3, f4, f5, f6⟩ := sim_push (AX_drop hx hn) (AM_drop hm hn) (by rw [List.length_drop]; omega) hb
  have k1 : Fr [2, 3, 4, 5] μ μ' := (Fr.st (by decide)).tr (f5.mono (by decide))
  have k2 : KM [2, 3, 7] ν ν' := (KM.st0 (by decide)).tr (f6.mono (by decide))
  have h := sim_must f3 f4 (by rw [List.length_cons, List.length_drop]; omega) (by rw [f6.1 7 (by decide), pa_sn _ _ _ _ _ (by decide)]; exact h7) (hc.keep k1 k2)
  unfold nTail
  rw [X_drop hx hn, pa_bv, f1, pa_bv, if_pos rfl, bi_id]
  show SimO _ (sd_bv (fn_Model_pushNumber_r0 (g a b) _) _) μ ν
  rw [f2, pa_bv]
  exact h.then (KX.fr k1) (k2.mono (by decide))
