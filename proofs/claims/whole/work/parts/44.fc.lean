/-! the dispatch of both sides -/
def jT (v1 v2 v3 : Int32) (m4 : sd_Me) : Option (Int32 × sd_Me) := if v2 = (99 : Int32) then sd_bv (fn_Model_flow_r0 v2 m4) (fun m5 => some ((v1 + (1 : Int32)), m5)) else if v2 = (100 : Int32) then sd_bv (fn_Model_flow_r0 v2 m4) (fun m6 => some ((v1 + (1 : Int32)), m6)) else if v2 = (103 : Int32) then sd_bv (fn_Model_flow_r0 v2 m4) (fun m7 => some ((v1 + (1 : Int32)), m7)) else if v2 = (104 : Int32) then sd_bv (fn_Model_flow_r0 v2 m4) (fun m12 => some ((v1 + (1 : Int32)), m12)) else if v3 = (0 : Int32) then fn_Model_next_r0_J206 (v1) (v2) (v3) m4 else if v2 = (79 : Int32) then sd_bv (fn_Model_pushNumber_r0 (-1 : Int64) m4) (fun m11 => some ((v1 + (1 : Int32)), m11)) else fn_Model_next_r0_J206 (v1) (v2) (v3) m4
theorem J134_eq {v1 v2 v3 s1 : Int32} {ν : sd_Me} : fn_Model_next_r0_J134 v1 v2 v3 s1 ν = if (sd_st ν 0 9 s1).1 0 9 ≤ (100 : Int32) then jT v1 v2 v3 (sd_st ν 0 9 s1) else sd_bv (fn_Model_fails_r0 (3 : Int32) (sd_st ν 0 9 s1)) (fun m13 => some ((v1 + (1 : Int32)), m13)) := by
  unfold fn_Model_next_r0_J134 jT
  rw [pa_let]
theorem nbd {k : Nat} (h1 : 81 ≤ k) (h2 : k ≤ 96) : bnd2 ((nI k - 80).toInt64) := by
  rw [show nI k - 80 = nI (k - 80) from pk_sub (b := 80) (by omega), nI_l (by omega)]
  unfold bnd2
  rw [pk_lT (by omega)]
  omega
theorem perf {b k : Nat} (hb : b ≤ 199) (h78 : 78 ≤ k) (h256 : k < 256) {S T : List El} {μ ν : sd_Me} (h : Pre b S T μ ν) {t : Bool} (ht : fn_Flow_isDone_r7 μ = some (bI t, μ)) : ∃ q, OpR (b + 1) (fn_Desk_perform_r0_J19 (nI k) μ) q μ ν ∧ ∀ v1 : Int32, jT v1 (nI k) (bI t) ν = sd_bv q (fun m => some (v1 + 1, m)) := by
  have ne : ∀ {n : Nat}, k ≠ n → n < 1000 → ¬ nI k = nI n := fun hn h1 z => hn ((nI_eq (by omega) (by omega)).mp z)
  obtain ⟨h1, h2, h3, h4, h5, h6, h7, h8⟩ := id h
  by_cases c99 : k = 99
  · subst c99
    have e : fn_Desk_perform_r0_J19 (nI 99) μ = sd_bi (fn_Desk_enterPart_r0 1 μ) (fun x m => some (x, m)) := rfl
    rw [e, bi_id]
    exact ⟨fn_Model_flow_r0_J12 99 ν, flow_in (Or.inl ⟨rfl, rfl⟩) hb h1 h2 h3 h4 h5 h7 h8 (w := 1) (c := 99), fun v1 => rfl⟩
  by_cases c100 : k = 100
  · subst c100
    have e : fn_Desk_perform_r0_J19 (nI 100) μ = sd_bi (fn_Desk_enterPart_r0 0 μ) (fun x m => some (x, m)) := rfl
    rw [e, bi_id]
    exact ⟨fn_Model_flow_r0_J12 100 ν, flow_in (Or.inr ⟨rfl, rfl⟩) hb h1 h2 h3 h4 h5 h7 h8 (w := 0) (c := 100), fun v1 => rfl⟩
  by_cases c103 : k = 103
  · subst c103
    have e : fn_Desk_perform_r0_J19 (nI 103) μ = sd_bi (fn_Desk_leavePart_r0 0 μ) (fun x m => some (x, m)) := rfl
    rw [e, bi_id]
    exact ⟨fn_Model_flow_r0 103 ν, flow_out (Or.inl ⟨rfl, rfl⟩) hb h1 h2 h3 h4 h5 h7 h8 (w := 0) (c := 103), fun v1 => rfl⟩
  by_cases c104 : k = 104
  · subst c104
    have e : fn_Desk_perform_r0_J19 (nI 104) μ = sd_bi (fn_Desk_leavePart_r0 1 μ) (fun x m => some (x, m)) := rfl
    rw [e, bi_id]
    exact ⟨fn_Model_flow_r0 104 ν, flow_out (Or.inr ⟨rfl, rfl⟩) hb h1 h2 h3 h4 h5 h7 h8 (w := 1) (c := 104), fun v1 => rfl⟩
  unfold fn_Desk_perform_r0_J19 jT
  rw [if_neg (show ¬ nI k = 99 from ne c99 (by decide)), if_neg (show ¬ nI k = 100 from ne c100 (by decide)), if_neg (show ¬ nI k = 103 from ne c103 (by decide)), if_neg (show ¬ nI k = 104 from ne c104 (by decide)), ht, pa_bi]
  cases t with
  | false =>
    rw [if_pos (show bI false = 0 by decide)]
    refine ⟨some ν, h.no, fun v1 => ?_⟩
    rw [if_neg (show ¬ nI k = 99 from ne c99 (by decide)), if_neg (show ¬ nI k = 100 from ne c100 (by decide)), if_neg (show ¬ nI k = 103 from ne c103 (by decide)), if_neg (show ¬ nI k = 104 from ne c104 (by decide)), if_pos (show bI false = 0 by decide), fn_Model_next_r0_J206, if_pos (show bI false = 0 by decide), fn_Model_next_r0_J234, if_pos (show bI false = 0 by decide), fn_Model_next_r0_J252, if_pos (show bI false = 0 by decide), pa_bv]
  | true =>
    rw [if_neg (show ¬ bI true = 0 by decide)]
    have jm : ∀ v1 : Int32, (if nI k = (99 : Int32) then sd_bv (fn_Model_flow_r0 (nI k) ν) (fun m5 => some ((v1 + (1 : Int32)), m5)) else if nI k = (100 : Int32) then sd_bv (fn_Model_flow_r0 (nI k) ν) (fun m6 => some ((v1 + (1 : Int32)), m6)) else if nI k = (103 : Int32) then sd_bv (fn_Model_flow_r0 (nI k) ν) (fun m7 => some ((v1 + (1 : Int32)), m7)) else if nI k = (104 : Int32) then sd_bv (fn_Model_flow_r0 (nI k) ν) (fun m12 => some ((v1 + (1 : Int32)), m12)) else if bI true = (0 : Int32) then fn_Model_next_r0_J206 (v1) (nI k) (bI true) ν else if nI k = (79 : Int32) then sd_bv (fn_Model_pushNumber_r0 (-1 : Int64) ν) (fun m11 => some ((v1 + (1 : Int32)), m11)) else fn_Model_next_r0_J206 (v1) (nI k) (bI true) ν) = if nI k = (79 : Int32) then sd_bv (fn_Model_pushNumber_r0 (-1 : Int64) ν) (fun m11 => some ((v1 + (1 : Int32)), m11)) else if nI k ≤ (80 : Int32) then fn_Model_next_r0_J234 (v1) (nI k) (bI true) ν else if (97 : Int32) ≤ nI k then fn_Model_next_r0_J234 (v1) (nI k) (bI true) ν else sd_bv (fn_Model_pushNumber_r0 (Int32.toInt64 (nI k - (80 : Int32))) ν) (fun m10 => some ((v1 + (1 : Int32)), m10)) := by
      intro v1
      rw [if_neg (show ¬ nI k = 99 from ne c99 (by decide)), if_neg (show ¬ nI k = 100 from ne c100 (by decide)), if_neg (show ¬ nI k = 103 from ne c103 (by decide)), if_neg (show ¬ nI k = 104 from ne c104 (by decide)), if_neg (show ¬ bI true = 0 by decide), fn_Model_next_r0_J206, if_neg (show ¬ bI true = 0 by decide)]
    by_cases c96 : k ≤ 96
    · rw [if_neg (show ¬ (96 : Int32) < nI k from nI_nlt (a := 96) c96 (by decide)), bi_id]
      unfold fn_Desk_pushSmallNumber_r0 fn_Desk_pushSmallNumber_r0_J14
      by_cases c79 : k = 79
      · subst c79
        refine ⟨fn_Model_pushNumber_r0 (-1) ν, ?_, fun v1 => ?_⟩
        · rw [if_pos (show nI 79 = 79 from rfl)]
          exact h.num (v := -1) (by unfold bnd2; decide)
        · rw [jm v1, if_pos (show nI 79 = 79 from rfl)]
      · rw [if_neg (show ¬ nI k = 79 from ne c79 (by decide))]
        by_cases c81 : 81 ≤ k
        · rw [if_pos (show (81 : Int32) ≤ nI k from (nI_leI (a := 81) (by omega) (by omega)).mpr c81)]
          refine ⟨_, h.num (nbd c81 c96), fun v1 => ?_⟩
          rw [jm v1, if_neg (show ¬ nI k = 79 from ne c79 (by decide)), if_neg (show ¬ nI k ≤ 80 from nI_ge' (a := 80) (by omega) (by omega)), if_neg (show ¬ (97 : Int32) ≤ nI k from nI_ge' (b := 97) (by omega) (by omega))]
        · rw [if_neg (show ¬ (81 : Int32) ≤ nI k from nI_ge' (b := 81) (by omega) (by omega))]
          refine ⟨fn_Model_fails_r0 4 ν, ?_, fun v1 => ?_⟩
          · rw [M_fails h4]
            exact (sim_f (f := 4) (by decide) h5 rfl h1 Fr.rf rfl (KM.st0 (by decide)) (pa_ss _ _ _ _) (by omega)).r (h7.mono (by omega)) h8
          · rw [jm v1, if_neg (show ¬ nI k = 79 from ne c79 (by decide)), if_pos (show nI k ≤ 80 from (nI_leI (b := 80) (by omega) (by omega)).mpr (by omega)), fn_Model_next_r0_J234, if_neg (show ¬ bI true = 0 by decide), if_neg (show ¬ (97 : Int32) ≤ nI k from nI_ge' (b := 97) (by omega) (by omega))]
    · refine ⟨fn_Model_operation_r0 (nI k) ν, ?_, fun v1 => ?_⟩
      · rw [if_pos (show (96 : Int32) < nI k from nI_lt (a := 96) (by omega) (by omega))]
        by_cases a1 : k ≤ 108
        · rw [if_neg (show ¬ (108 : Int32) < nI k from nI_nlt (a := 108) a1 (by decide)), bi_id]
          exact h.op (op_plain (by omega) a1 c99 c100 c103 c104)
        · rw [if_pos (show (108 : Int32) < nI k from nI_lt (a := 108) (by omega) (by omega))]
          by_cases a2 : k ≤ 136
          · rw [if_neg (show ¬ (136 : Int32) < nI k from nI_nlt (a := 136) a2 (by decide)), bi_id]
            exact h.op (op_moves (by omega) a2)
          · rw [if_pos (show (136 : Int32) < nI k from nI_lt (a := 136) (by omega) (by omega))]
            by_cases a3 : k ≤ 165
            · rw [if_neg (show ¬ (165 : Int32) < nI k from nI_nlt (a := 165) a3 (by decide)), bi_id]
              exact h.op (op_numbers (by omega) a3)
            · rw [if_pos (show (165 : Int32) < nI k from nI_lt (a := 165) (by omega) (by omega))]
              by_cases a4 : k ≤ 170
              · rw [if_neg (show ¬ (170 : Int32) < nI k from nI_nlt (a := 170) a4 (by decide)), bi_id]
                exact h.op (op_digest (by omega) a4)
              · rw [if_pos (show (170 : Int32) < nI k from nI_lt (a := 170) (by omega) (by omega)), bi_id]
                exact h.op (op_sig (by omega) h256)
      · rw [jm v1, if_neg (show ¬ nI k = 79 from ne (n := 79) (by omega) (by decide)), if_neg (show ¬ nI k ≤ 80 from nI_ge' (a := 80) (by omega) (by omega)), if_pos (show (97 : Int32) ≤ nI k from (nI_leI (a := 97) (by omega) (by omega)).mpr (by omega)), fn_Model_next_r0_J234, if_neg (show ¬ bI true = 0 by decide), if_pos (show (97 : Int32) ≤ nI k from (nI_leI (a := 97) (by omega) (by omega)).mpr (by omega)), fn_Model_next_r0_J252, if_neg (show ¬ bI true = 0 by decide)]
