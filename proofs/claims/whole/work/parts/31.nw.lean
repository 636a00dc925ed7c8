theorem op_147 : OpS (fn_Numbers_perform_r2 147) 147 := num2 (g := fun a b => a + b) (fun a b m => fn_Model_pushNumber_r0 (a + b) m) (fun _ => rfl) (fun _ _ _ => rfl) (fun a b ha hb => bnd2_add ha hb) (fun ν => by
  have e0 : fn_Model_operation_r0 147 ν = sd_bv (fn_Model_numberOfTwo_r0 147 ν) (fun m => some m) := rfl
  rw [e0, bv_id, fn_Model_numberOfTwo_r0]
  refine bi_ext fun x2 m1 => ?_
  by_cases c : x2 = 0
  · rw [if_pos c, if_pos c]
  · rw [if_neg c, if_neg c, pa_let]
    refine bi_ext fun x5 m4 => ?_
    by_cases d : x5 = 0
    · rw [if_pos d, if_pos d]
    · rw [if_neg d, if_neg d, pa_let, if_neg (show ¬ (147 : Int32) = 165 by decide), pa_let, if_pos (show (147 : Int32) = 147 from rfl)]
      exact bv_id _) (h5_num (g := fun a b => a + b) (by decide))
theorem op_148 : OpS (fn_Numbers_perform_r2 148) 148 := num2 (g := fun a b => a - b) (fun a b m => fn_Model_pushNumber_r0 (a - b) m) (fun _ => rfl) (fun _ _ _ => rfl) (fun a b ha hb => bnd2_sub ha hb) (fun ν => by
  have e0 : fn_Model_operation_r0 148 ν = sd_bv (fn_Model_numberOfTwo_r0 148 ν) (fun m => some m) := rfl
  rw [e0, bv_id, fn_Model_numberOfTwo_r0]
  refine bi_ext fun x2 m1 => ?_
  by_cases c : x2 = 0
  · rw [if_pos c, if_pos c]
  · rw [if_neg c, if_neg c, pa_let]
    refine bi_ext fun x5 m4 => ?_
    by_cases d : x5 = 0
    · rw [if_pos d, if_pos d]
    · rw [if_neg d, if_neg d, pa_let, if_neg (show ¬ (148 : Int32) = 165 by decide), pa_let, if_neg (show ¬ (148 : Int32) = 147 by decide), if_pos (show (148 : Int32) = 148 from rfl)]
      exact bv_id _) (h5_num (g := fun a b => a - b) (by decide))
theorem op_154 : OpS (fn_Numbers_perform_r2 154) 154 := num2 (g := fun a b => (if lg_cmp a 0 = 0 then 0 else (if lg_cmp b 0 = 0 then 0 else 1))) (fun a b m => fn_Model_pushNumber_r0 ((if lg_cmp a 0 = 0 then 0 else (if lg_cmp b 0 = 0 then 0 else 1))) m) (fun _ => rfl) (fun b a m => by
  show sd_bi (if lg_cmp a 0 = 0 then some ((0 : Int32), m) else (if lg_cmp b 0 = 0 then some ((0 : Int32), m) else some ((1 : Int32), m))) (fun x6 m5 => if x6 = (0 : Int32) then some ((0 : Int64), m5) else some ((1 : Int64), m5)) = some ((if lg_cmp a 0 = 0 then 0 else (if lg_cmp b 0 = 0 then 0 else 1)), m)
  by_cases h0 : lg_cmp a 0 = 0
  · rw [if_pos h0, if_pos h0]
    rfl
  · rw [if_neg h0, if_neg h0]
    by_cases h1 : lg_cmp b 0 = 0
    · rw [if_pos h1, if_pos h1]
      rfl
    · rw [if_neg h1, if_neg h1]
      rfl
  ) (fun a b ha hb => by
  show bnd2 (if lg_cmp a 0 = 0 then 0 else (if lg_cmp b 0 = 0 then 0 else 1))
  by_cases h0 : lg_cmp a 0 = 0
  · rw [if_pos h0]
    exact bnd2_of bnd_0
  · rw [if_neg h0]
    by_cases h1 : lg_cmp b 0 = 0
    · rw [if_pos h1]
      exact bnd2_of bnd_0
    · rw [if_neg h1]
      exact bnd2_of bnd_1
  ) (fun ν => by
  have e0 : fn_Model_operation_r0 154 ν = sd_bv (fn_Model_numberOfTwo_r0 154 ν) (fun m => some m) := rfl
  rw [e0, bv_id, fn_Model_numberOfTwo_r0]
  refine bi_ext fun x2 m1 => ?_
  by_cases c : x2 = 0
  · rw [if_pos c, if_pos c]
  · rw [if_neg c, if_neg c, pa_let]
    refine bi_ext fun x5 m4 => ?_
    by_cases d : x5 = 0
    · rw [if_pos d, if_pos d]
    · rw [if_neg d, if_neg d, pa_let, if_neg (show ¬ (154 : Int32) = 165 by decide), pa_let, if_neg (show ¬ (154 : Int32) = 147 by decide), if_neg (show ¬ (154 : Int32) = 148 by decide), if_pos (show (154 : Int32) = 154 from rfl)]
      show _ = fn_Model_pushNumber_r0 (if lg_cmp (m4.2 1) 0 = 0 then 0 else (if lg_cmp (m1.2 1) 0 = 0 then 0 else 1)) (sd_st m4 0 2 (m4.1 0 2 - 2))
      by_cases h0 : lg_cmp (m4.2 1) 0 = 0
      · rw [if_pos h0, if_pos h0]
        exact (bv_id _).trans (bv_id _)
      · rw [if_neg h0, if_neg h0]
        by_cases h1 : lg_cmp (m1.2 1) 0 = 0
        · rw [if_pos h1, if_pos h1]
          exact (bv_id _).trans (bv_id _)
        · rw [if_neg h1, if_neg h1]
          exact (bv_id _).trans (bv_id _)
      ) (h5_num (g := fun a b => (if lg_cmp a 0 = 0 then 0 else (if lg_cmp b 0 = 0 then 0 else 1))) (by decide))
theorem op_155 : OpS (fn_Numbers_perform_r2 155) 155 := num2 (g := fun a b => (if lg_cmp a 0 = 0 then (if lg_cmp b 0 = 0 then 0 else 1) else 1)) (fun a b m => fn_Model_pushNumber_r0 ((if lg_cmp a 0 = 0 then (if lg_cmp b 0 = 0 then 0 else 1) else 1)) m) (fun _ => rfl) (fun b a m => by
  show sd_bi (if lg_cmp a 0 = 0 then (if lg_cmp b 0 = 0 then some ((0 : Int32), m) else some ((1 : Int32), m)) else some ((1 : Int32), m)) (fun x6 m5 => if x6 = (0 : Int32) then some ((0 : Int64), m5) else some ((1 : Int64), m5)) = some ((if lg_cmp a 0 = 0 then (if lg_cmp b 0 = 0 then 0 else 1) else 1), m)
  by_cases h0 : lg_cmp a 0 = 0
  · rw [if_pos h0, if_pos h0]
    by_cases h1 : lg_cmp b 0 = 0
    · rw [if_pos h1, if_pos h1]
      rfl
    · rw [if_neg h1, if_neg h1]
      rfl
  · rw [if_neg h0, if_neg h0]
    rfl
  ) (fun a b ha hb => by
  show bnd2 (if lg_cmp a 0 = 0 then (if lg_cmp b 0 = 0 then 0 else 1) else 1)
  by_cases h0 : lg_cmp a 0 = 0
  · rw [if_pos h0]
    by_cases h1 : lg_cmp b 0 = 0
    · rw [if_pos h1]
      exact bnd2_of bnd_0
    · rw [if_neg h1]
      exact bnd2_of bnd_1
  · rw [if_neg h0]
    exact bnd2_of bnd_1
  ) (fun ν => by
  have e0 : fn_Model_operation_r0 155 ν = sd_bv (fn_Model_numberOfTwo_r0 155 ν) (fun m => some m) := rfl
  rw [e0, bv_id, fn_Model_numberOfTwo_r0]
  refine bi_ext fun x2 m1 => ?_
  by_cases c : x2 = 0
  · rw [if_pos c, if_pos c]
  · rw [if_neg c, if_neg c, pa_let]
    refine bi_ext fun x5 m4 => ?_
    by_cases d : x5 = 0
    · rw [if_pos d, if_pos d]
    · rw [if_neg d, if_neg d, pa_let, if_neg (show ¬ (155 : Int32) = 165 by decide), pa_let, if_neg (show ¬ (155 : Int32) = 147 by decide), if_neg (show ¬ (155 : Int32) = 148 by decide), if_neg (show ¬ (155 : Int32) = 154 by decide), if_pos (show (155 : Int32) = 155 from rfl)]
      show _ = fn_Model_pushNumber_r0 (if lg_cmp (m4.2 1) 0 = 0 then (if lg_cmp (m1.2 1) 0 = 0 then 0 else 1) else 1) (sd_st m4 0 2 (m4.1 0 2 - 2))
      by_cases h0 : lg_cmp (m4.2 1) 0 = 0
      · rw [if_pos h0, if_pos h0]
        by_cases h1 : lg_cmp (m1.2 1) 0 = 0
        · rw [if_pos h1, if_pos h1]
          exact (bv_id _).trans (bv_id _)
        · rw [if_neg h1, if_neg h1]
          exact (bv_id _).trans (bv_id _)
      · rw [if_neg h0, if_neg h0]
        exact (bv_id _).trans (bv_id _)
      ) (h5_num (g := fun a b => (if lg_cmp a 0 = 0 then (if lg_cmp b 0 = 0 then 0 else 1) else 1)) (by decide))
theorem op_156 : OpS (fn_Numbers_perform_r2 156) 156 := num2 (g := fun a b => (if lg_cmp a b = 0 then 1 else 0)) (fun a b m => fn_Model_pushNumber_r0 ((if lg_cmp a b = 0 then 1 else 0)) m) (fun _ => rfl) (fun b a m => by
  show sd_bi (if lg_cmp a b = 0 then some ((1 : Int32), m) else some ((0 : Int32), m)) (fun x6 m5 => if x6 = (0 : Int32) then some ((0 : Int64), m5) else some ((1 : Int64), m5)) = some ((if lg_cmp a b = 0 then 1 else 0), m)
  by_cases h0 : lg_cmp a b = 0
  · rw [if_pos h0, if_pos h0]
    rfl
  · rw [if_neg h0, if_neg h0]
    rfl
  ) (fun a b ha hb => by
  show bnd2 (if lg_cmp a b = 0 then 1 else 0)
  by_cases h0 : lg_cmp a b = 0
  · rw [if_pos h0]
    exact bnd2_of bnd_1
  · rw [if_neg h0]
    exact bnd2_of bnd_0
  ) (fun ν => by
  have e0 : fn_Model_operation_r0 156 ν = sd_bv (fn_Model_numberOfTwo_r0 156 ν) (fun m => some m) := rfl
  rw [e0, bv_id, fn_Model_numberOfTwo_r0]
  refine bi_ext fun x2 m1 => ?_
  by_cases c : x2 = 0
  · rw [if_pos c, if_pos c]
  · rw [if_neg c, if_neg c, pa_let]
    refine bi_ext fun x5 m4 => ?_
    by_cases d : x5 = 0
    · rw [if_pos d, if_pos d]
    · rw [if_neg d, if_neg d, pa_let, if_neg (show ¬ (156 : Int32) = 165 by decide), pa_let, if_neg (show ¬ (156 : Int32) = 147 by decide), if_neg (show ¬ (156 : Int32) = 148 by decide), if_neg (show ¬ (156 : Int32) = 154 by decide), if_neg (show ¬ (156 : Int32) = 155 by decide), if_pos (show (156 : Int32) = 156 from rfl)]
      show _ = fn_Model_pushNumber_r0 (if lg_cmp (m4.2 1) (m1.2 1) = 0 then 1 else 0) (sd_st m4 0 2 (m4.1 0 2 - 2))
      by_cases h0 : lg_cmp (m4.2 1) (m1.2 1) = 0
      · rw [if_pos h0, if_pos h0]
        exact (bv_id _).trans (bv_id _)
      · rw [if_neg h0, if_neg h0]
        exact (bv_id _).trans (bv_id _)
      ) (h5_num (g := fun a b => (if lg_cmp a b = 0 then 1 else 0)) (by decide))
theorem op_158 : OpS (fn_Numbers_perform_r2 158) 158 := num2 (g := fun a b => (if lg_cmp a b = 0 then 0 else 1)) (fun a b m => fn_Model_pushNumber_r0 ((if lg_cmp a b = 0 then 0 else 1)) m) (fun _ => rfl) (fun b a m => by
  show sd_bi (if lg_cmp a b = 0 then some ((0 : Int32), m) else some ((1 : Int32), m)) (fun x6 m5 => if x6 = (0 : Int32) then some ((0 : Int64), m5) else some ((1 : Int64), m5)) = some ((if lg_cmp a b = 0 then 0 else 1), m)
  by_cases h0 : lg_cmp a b = 0
  · rw [if_pos h0, if_pos h0]
    rfl
  · rw [if_neg h0, if_neg h0]
    rfl
  ) (fun a b ha hb => by
  show bnd2 (if lg_cmp a b = 0 then 0 else 1)
  by_cases h0 : lg_cmp a b = 0
  · rw [if_pos h0]
    exact bnd2_of bnd_0
  · rw [if_neg h0]
    exact bnd2_of bnd_1
  ) (fun ν => by
  have e0 : fn_Model_operation_r0 158 ν = sd_bv (fn_Model_numberOfTwo_r0 158 ν) (fun m => some m) := rfl
  rw [e0, bv_id, fn_Model_numberOfTwo_r0]
  refine bi_ext fun x2 m1 => ?_
  by_cases c : x2 = 0
  · rw [if_pos c, if_pos c]
  · rw [if_neg c, if_neg c, pa_let]
    refine bi_ext fun x5 m4 => ?_
    by_cases d : x5 = 0
    · rw [if_pos d, if_pos d]
    · rw [if_neg d, if_neg d, pa_let, if_neg (show ¬ (158 : Int32) = 165 by decide), pa_let, if_neg (show ¬ (158 : Int32) = 147 by decide), if_neg (show ¬ (158 : Int32) = 148 by decide), if_neg (show ¬ (158 : Int32) = 154 by decide), if_neg (show ¬ (158 : Int32) = 155 by decide), if_neg (show ¬ (158 : Int32) = 156 by decide), if_neg (show ¬ (158 : Int32) = 157 by decide), if_pos (show (158 : Int32) = 158 from rfl)]
      show _ = fn_Model_pushNumber_r0 (if lg_cmp (m4.2 1) (m1.2 1) = 0 then 0 else 1) (sd_st m4 0 2 (m4.1 0 2 - 2))
      by_cases h0 : lg_cmp (m4.2 1) (m1.2 1) = 0
      · rw [if_pos h0, if_pos h0]
        exact (bv_id _).trans (bv_id _)
      · rw [if_neg h0, if_neg h0]
        exact (bv_id _).trans (bv_id _)
      ) (h5_num (g := fun a b => (if lg_cmp a b = 0 then 0 else 1)) (by decide))
theorem op_159 : OpS (fn_Numbers_perform_r2 159) 159 := num2 (g := fun a b => (if (0 : Int32) ≤ lg_cmp a b then 0 else 1)) (fun a b m => fn_Model_pushNumber_r0 ((if (0 : Int32) ≤ lg_cmp a b then 0 else 1)) m) (fun _ => rfl) (fun b a m => by
  show sd_bi (if (0 : Int32) ≤ lg_cmp a b then some ((0 : Int32), m) else some ((1 : Int32), m)) (fun x6 m5 => if x6 = (0 : Int32) then some ((0 : Int64), m5) else some ((1 : Int64), m5)) = some ((if (0 : Int32) ≤ lg_cmp a b then 0 else 1), m)
  by_cases h0 : (0 : Int32) ≤ lg_cmp a b
  · rw [if_pos h0, if_pos h0]
    rfl
  · rw [if_neg h0, if_neg h0]
    rfl
  ) (fun a b ha hb => by
  show bnd2 (if (0 : Int32) ≤ lg_cmp a b then 0 else 1)
  by_cases h0 : (0 : Int32) ≤ lg_cmp a b
  · rw [if_pos h0]
    exact bnd2_of bnd_0
  · rw [if_neg h0]
    exact bnd2_of bnd_1
  ) (fun ν => by
  have e0 : fn_Model_operation_r0 159 ν = sd_bv (fn_Model_numberOfTwo_r0 159 ν) (fun m => some m) := rfl
  rw [e0, bv_id, fn_Model_numberOfTwo_r0]
  refine bi_ext fun x2 m1 => ?_
  by_cases c : x2 = 0
  · rw [if_pos c, if_pos c]
  · rw [if_neg c, if_neg c, pa_let]
    refine bi_ext fun x5 m4 => ?_
    by_cases d : x5 = 0
    · rw [if_pos d, if_pos d]
    · rw [if_neg d, if_neg d, pa_let, if_neg (show ¬ (159 : Int32) = 165 by decide), pa_let, if_neg (show ¬ (159 : Int32) = 147 by decide), if_neg (show ¬ (159 : Int32) = 148 by decide), if_neg (show ¬ (159 : Int32) = 154 by decide), if_neg (show ¬ (159 : Int32) = 155 by decide), if_neg (show ¬ (159 : Int32) = 156 by decide), if_neg (show ¬ (159 : Int32) = 157 by decide), if_neg (show ¬ (159 : Int32) = 158 by decide), if_pos (show (159 : Int32) = 159 from rfl)]
      show _ = fn_Model_pushNumber_r0 (if (0 : Int32) ≤ lg_cmp (m4.2 1) (m1.2 1) then 0 else 1) (sd_st m4 0 2 (m4.1 0 2 - 2))
      by_cases h0 : (0 : Int32) ≤ lg_cmp (m4.2 1) (m1.2 1)
      · rw [if_pos h0, if_pos h0]
        exact (bv_id _).trans (bv_id _)
      · rw [if_neg h0, if_neg h0]
        exact (bv_id _).trans (bv_id _)
      ) (h5_num (g := fun a b => (if (0 : Int32) ≤ lg_cmp a b then 0 else 1)) (by decide))
theorem op_160 : OpS (fn_Numbers_perform_r2 160) 160 := num2 (g := fun a b => (if lg_cmp a b ≤ 0 then 0 else 1)) (fun a b m => fn_Model_pushNumber_r0 ((if lg_cmp a b ≤ 0 then 0 else 1)) m) (fun _ => rfl) (fun b a m => by
  show sd_bi (if lg_cmp a b ≤ 0 then some ((0 : Int32), m) else some ((1 : Int32), m)) (fun x6 m5 => if x6 = (0 : Int32) then some ((0 : Int64), m5) else some ((1 : Int64), m5)) = some ((if lg_cmp a b ≤ 0 then 0 else 1), m)
  by_cases h0 : lg_cmp a b ≤ 0
  · rw [if_pos h0, if_pos h0]
    rfl
  · rw [if_neg h0, if_neg h0]
    rfl
  ) (fun a b ha hb => by
  show bnd2 (if lg_cmp a b ≤ 0 then 0 else 1)
  by_cases h0 : lg_cmp a b ≤ 0
  · rw [if_pos h0]
    exact bnd2_of bnd_0
  · rw [if_neg h0]
    exact bnd2_of bnd_1
  ) (fun ν => by
  have e0 : fn_Model_operation_r0 160 ν = sd_bv (fn_Model_numberOfTwo_r0 160 ν) (fun m => some m) := rfl
  rw [e0, bv_id, fn_Model_numberOfTwo_r0]
  refine bi_ext fun x2 m1 => ?_
  by_cases c : x2 = 0
  · rw [if_pos c, if_pos c]
  · rw [if_neg c, if_neg c, pa_let]
    refine bi_ext fun x5 m4 => ?_
    by_cases d : x5 = 0
    · rw [if_pos d, if_pos d]
    · rw [if_neg d, if_neg d, pa_let, if_neg (show ¬ (160 : Int32) = 165 by decide), pa_let, if_neg (show ¬ (160 : Int32) = 147 by decide), if_neg (show ¬ (160 : Int32) = 148 by decide), if_neg (show ¬ (160 : Int32) = 154 by decide), if_neg (show ¬ (160 : Int32) = 155 by decide), if_neg (show ¬ (160 : Int32) = 156 by decide), if_neg (show ¬ (160 : Int32) = 157 by decide), if_neg (show ¬ (160 : Int32) = 158 by decide), if_neg (show ¬ (160 : Int32) = 159 by decide), if_pos (show (160 : Int32) = 160 from rfl)]
      show _ = fn_Model_pushNumber_r0 (if lg_cmp (m4.2 1) (m1.2 1) ≤ 0 then 0 else 1) (sd_st m4 0 2 (m4.1 0 2 - 2))
      by_cases h0 : lg_cmp (m4.2 1) (m1.2 1) ≤ 0
      · rw [if_pos h0, if_pos h0]
        exact (bv_id _).trans (bv_id _)
      · rw [if_neg h0, if_neg h0]
        exact (bv_id _).trans (bv_id _)
      ) (h5_num (g := fun a b => (if lg_cmp a b ≤ 0 then 0 else 1)) (by decide))
theorem op_161 : OpS (fn_Numbers_perform_r2 161) 161 := num2 (g := fun a b => (if (0 : Int32) < lg_cmp a b then 0 else 1)) (fun a b m => fn_Model_pushNumber_r0 ((if (0 : Int32) < lg_cmp a b then 0 else 1)) m) (fun _ => rfl) (fun b a m => by
  show sd_bi (if (0 : Int32) < lg_cmp a b then some ((0 : Int32), m) else some ((1 : Int32), m)) (fun x6 m5 => if x6 = (0 : Int32) then some ((0 : Int64), m5) else some ((1 : Int64), m5)) = some ((if (0 : Int32) < lg_cmp a b then 0 else 1), m)
  by_cases h0 : (0 : Int32) < lg_cmp a b
  · rw [if_pos h0, if_pos h0]
    rfl
  · rw [if_neg h0, if_neg h0]
    rfl
  ) (fun a b ha hb => by
  show bnd2 (if (0 : Int32) < lg_cmp a b then 0 else 1)
  by_cases h0 : (0 : Int32) < lg_cmp a b
  · rw [if_pos h0]
    exact bnd2_of bnd_0
  · rw [if_neg h0]
    exact bnd2_of bnd_1
  ) (fun ν => by
  have e0 : fn_Model_operation_r0 161 ν = sd_bv (fn_Model_numberOfTwo_r0 161 ν) (fun m => some m) := rfl
  rw [e0, bv_id, fn_Model_numberOfTwo_r0]
  refine bi_ext fun x2 m1 => ?_
  by_cases c : x2 = 0
  · rw [if_pos c, if_pos c]
  · rw [if_neg c, if_neg c, pa_let]
    refine bi_ext fun x5 m4 => ?_
    by_cases d : x5 = 0
    · rw [if_pos d, if_pos d]
    · rw [if_neg d, if_neg d, pa_let, if_neg (show ¬ (161 : Int32) = 165 by decide), pa_let, if_neg (show ¬ (161 : Int32) = 147 by decide), if_neg (show ¬ (161 : Int32) = 148 by decide), if_neg (show ¬ (161 : Int32) = 154 by decide), if_neg (show ¬ (161 : Int32) = 155 by decide), if_neg (show ¬ (161 : Int32) = 156 by decide), if_neg (show ¬ (161 : Int32) = 157 by decide), if_neg (show ¬ (161 : Int32) = 158 by decide), if_neg (show ¬ (161 : Int32) = 159 by decide), if_neg (show ¬ (161 : Int32) = 160 by decide), if_pos (show (161 : Int32) = 161 from rfl)]
      show _ = fn_Model_pushNumber_r0 (if (0 : Int32) < lg_cmp (m4.2 1) (m1.2 1) then 0 else 1) (sd_st m4 0 2 (m4.1 0 2 - 2))
      by_cases h0 : (0 : Int32) < lg_cmp (m4.2 1) (m1.2 1)
      · rw [if_pos h0, if_pos h0]
        exact (bv_id _).trans (bv_id _)
      · rw [if_neg h0, if_neg h0]
        exact (bv_id _).trans (bv_id _)
      ) (h5_num (g := fun a b => (if (0 : Int32) < lg_cmp a b then 0 else 1)) (by decide))
theorem op_162 : OpS (fn_Numbers_perform_r2 162) 162 := num2 (g := fun a b => (if lg_cmp a b < 0 then 0 else 1)) (fun a b m => fn_Model_pushNumber_r0 ((if lg_cmp a b < 0 then 0 else 1)) m) (fun _ => rfl) (fun b a m => by
  show sd_bi (if lg_cmp a b < 0 then some ((0 : Int32), m) else some ((1 : Int32), m)) (fun x6 m5 => if x6 = (0 : Int32) then some ((0 : Int64), m5) else some ((1 : Int64), m5)) = some ((if lg_cmp a b < 0 then 0 else 1), m)
  by_cases h0 : lg_cmp a b < 0
  · rw [if_pos h0, if_pos h0]
    rfl
  · rw [if_neg h0, if_neg h0]
    rfl
  ) (fun a b ha hb => by
  show bnd2 (if lg_cmp a b < 0 then 0 else 1)
  by_cases h0 : lg_cmp a b < 0
  · rw [if_pos h0]
    exact bnd2_of bnd_0
  · rw [if_neg h0]
    exact bnd2_of bnd_1
  ) (fun ν => by
  have e0 : fn_Model_operation_r0 162 ν = sd_bv (fn_Model_numberOfTwo_r0 162 ν) (fun m => some m) := rfl
  rw [e0, bv_id, fn_Model_numberOfTwo_r0]
  refine bi_ext fun x2 m1 => ?_
  by_cases c : x2 = 0
  · rw [if_pos c, if_pos c]
  · rw [if_neg c, if_neg c, pa_let]
    refine bi_ext fun x5 m4 => ?_
    by_cases d : x5 = 0
    · rw [if_pos d, if_pos d]
    · rw [if_neg d, if_neg d, pa_let, if_neg (show ¬ (162 : Int32) = 165 by decide), pa_let, if_neg (show ¬ (162 : Int32) = 147 by decide), if_neg (show ¬ (162 : Int32) = 148 by decide), if_neg (show ¬ (162 : Int32) = 154 by decide), if_neg (show ¬ (162 : Int32) = 155 by decide), if_neg (show ¬ (162 : Int32) = 156 by decide), if_neg (show ¬ (162 : Int32) = 157 by decide), if_neg (show ¬ (162 : Int32) = 158 by decide), if_neg (show ¬ (162 : Int32) = 159 by decide), if_neg (show ¬ (162 : Int32) = 160 by decide), if_neg (show ¬ (162 : Int32) = 161 by decide), if_pos (show (162 : Int32) = 162 from rfl)]
      show _ = fn_Model_pushNumber_r0 (if lg_cmp (m4.2 1) (m1.2 1) < 0 then 0 else 1) (sd_st m4 0 2 (m4.1 0 2 - 2))
      by_cases h0 : lg_cmp (m4.2 1) (m1.2 1) < 0
      · rw [if_pos h0, if_pos h0]
        exact (bv_id _).trans (bv_id _)
      · rw [if_neg h0, if_neg h0]
        exact (bv_id _).trans (bv_id _)
      ) (h5_num (g := fun a b => (if lg_cmp a b < 0 then 0 else 1)) (by decide))
theorem op_163 : OpS (fn_Numbers_perform_r2 163) 163 := num2 (g := fun a b => if (0 : Int32) ≤ lg_cmp a b then b else a) (fun a b m => fn_Model_pushNumber_r0 (if (0 : Int32) ≤ lg_cmp a b then b else a) m) (fun _ => rfl) (fun b a m => by
  show some ((if b < a then b else a), m) = some (if (0 : Int32) ≤ lg_cmp a b then b else a, m)
  by_cases h0 : (0 : Int32) ≤ lg_cmp a b
  · rw [if_pos h0]
    by_cases h1 : b < a
    · rw [if_pos h1]
    · rw [if_neg h1]
      have := lgc_ge.mp h0
      have e : a = b := by
        apply Int64.toInt_inj.mp
        have h2 := Int64.le_iff_toInt_le.mp this
        have h3 : ¬ b.toInt < a.toInt := fun z => h1 (Int64.lt_iff_toInt_lt.mpr z)
        omega
      rw [e]
  · rw [if_neg h0, if_neg (fun z => h0 (lgc_ge.mpr (Int64.le_iff_toInt_le.mpr (by have := Int64.lt_iff_toInt_lt.mp z; omega))))]
  ) (fun a b ha hb => by
  show bnd2 (if (0 : Int32) ≤ lg_cmp a b then b else a)
  split
  · exact bnd2_of hb
  · exact bnd2_of ha
  ) (fun ν => by
  have e0 : fn_Model_operation_r0 163 ν = sd_bv (fn_Model_numberOfTwo_r0 163 ν) (fun m => some m) := rfl
  rw [e0, bv_id, fn_Model_numberOfTwo_r0]
  refine bi_ext fun x2 m1 => ?_
  by_cases c : x2 = 0
  · rw [if_pos c, if_pos c]
  · rw [if_neg c, if_neg c, pa_let]
    refine bi_ext fun x5 m4 => ?_
    by_cases d : x5 = 0
    · rw [if_pos d, if_pos d]
    · rw [if_neg d, if_neg d, pa_let, if_neg (show ¬ (163 : Int32) = 165 by decide), pa_let, if_neg (show ¬ (163 : Int32) = 147 by decide), if_neg (show ¬ (163 : Int32) = 148 by decide), if_neg (show ¬ (163 : Int32) = 154 by decide), if_neg (show ¬ (163 : Int32) = 155 by decide), if_neg (show ¬ (163 : Int32) = 156 by decide), if_neg (show ¬ (163 : Int32) = 157 by decide), if_neg (show ¬ (163 : Int32) = 158 by decide), if_neg (show ¬ (163 : Int32) = 159 by decide), if_neg (show ¬ (163 : Int32) = 160 by decide), if_neg (show ¬ (163 : Int32) = 161 by decide), if_neg (show ¬ (163 : Int32) = 162 by decide), if_pos (show (163 : Int32) = 163 from rfl)]
      show _ = fn_Model_pushNumber_r0 (if (0 : Int32) ≤ lg_cmp (m4.2 1) (m1.2 1) then (m1.2 1) else (m4.2 1)) (sd_st m4 0 2 (m4.1 0 2 - 2))
      by_cases h0 : (0 : Int32) ≤ lg_cmp (m4.2 1) (m1.2 1)
      · rw [if_pos h0, if_pos h0, bv_id]
      · rw [if_neg h0, if_neg h0, bv_id]
      ) (h5_num (g := fun a b => if (0 : Int32) ≤ lg_cmp a b then b else a) (by decide))
theorem op_164 : OpS (fn_Numbers_perform_r2 164) 164 := num2 (g := fun a b => if lg_cmp a b ≤ 0 then b else a) (fun a b m => fn_Model_pushNumber_r0 (if lg_cmp a b ≤ 0 then b else a) m) (fun _ => rfl) (fun b a m => by
  show some ((if b < a then a else b), m) = some (if lg_cmp a b ≤ 0 then b else a, m)
  by_cases h0 : lg_cmp a b ≤ 0
  · rw [if_pos h0]
    have := Int64.le_iff_toInt_le.mp (lgc_le.mp h0)
    rw [if_neg (fun z => by have := Int64.lt_iff_toInt_lt.mp z; omega)]
  · rw [if_neg h0, if_pos]
    have h1 : ¬ a ≤ b := fun z => h0 (lgc_le.mpr z)
    exact Int64.not_le.mp h1
  ) (fun a b ha hb => by
  show bnd2 (if lg_cmp a b ≤ 0 then b else a)
  split
  · exact bnd2_of hb
  · exact bnd2_of ha
  ) (fun ν => by
  have e0 : fn_Model_operation_r0 164 ν = sd_bv (fn_Model_numberOfTwo_r0 164 ν) (fun m => some m) := rfl
  rw [e0, bv_id, fn_Model_numberOfTwo_r0]
  refine bi_ext fun x2 m1 => ?_
  by_cases c : x2 = 0
  · rw [if_pos c, if_pos c]
  · rw [if_neg c, if_neg c, pa_let]
    refine bi_ext fun x5 m4 => ?_
    by_cases d : x5 = 0
    · rw [if_pos d, if_pos d]
    · rw [if_neg d, if_neg d, pa_let, if_neg (show ¬ (164 : Int32) = 165 by decide), pa_let, if_neg (show ¬ (164 : Int32) = 147 by decide), if_neg (show ¬ (164 : Int32) = 148 by decide), if_neg (show ¬ (164 : Int32) = 154 by decide), if_neg (show ¬ (164 : Int32) = 155 by decide), if_neg (show ¬ (164 : Int32) = 156 by decide), if_neg (show ¬ (164 : Int32) = 157 by decide), if_neg (show ¬ (164 : Int32) = 158 by decide), if_neg (show ¬ (164 : Int32) = 159 by decide), if_neg (show ¬ (164 : Int32) = 160 by decide), if_neg (show ¬ (164 : Int32) = 161 by decide), if_neg (show ¬ (164 : Int32) = 162 by decide), if_neg (show ¬ (164 : Int32) = 163 by decide)]
      show _ = fn_Model_pushNumber_r0 (if lg_cmp (m4.2 1) (m1.2 1) ≤ 0 then (m1.2 1) else (m4.2 1)) (sd_st m4 0 2 (m4.1 0 2 - 2))
      by_cases h0 : lg_cmp (m4.2 1) (m1.2 1) ≤ 0
      · rw [if_pos h0, if_pos h0, bv_id]
      · rw [if_neg h0, if_neg h0, bv_id]
      ) (h5_num (g := fun a b => if lg_cmp a b ≤ 0 then b else a) (by decide))
theorem op_157 : OpS (fn_Numbers_perform_r2 157) 157 := num2 (g := fun a b => if lg_cmp a b = 0 then 1 else 0) (fun a b m => sd_bv (fn_Model_pushNumber_r0 (if lg_cmp a b = 0 then 1 else 0) m) (fun m20 => fn_Model_mustBeTrue_r0 m20)) (fun _ => rfl) (fun b a m => by
  show sd_bi (if lg_cmp a b = 0 then some ((1 : Int32), m) else some ((0 : Int32), m)) (fun x6 m5 => if x6 = (0 : Int32) then some ((0 : Int64), m5) else some ((1 : Int64), m5)) = some (if lg_cmp a b = 0 then 1 else 0, m)
  by_cases h0 : lg_cmp a b = 0
  · rw [if_pos h0, if_pos h0]
    rfl
  · rw [if_neg h0, if_neg h0]
    rfl
  ) (fun a b ha hb => by
  show bnd2 (if lg_cmp a b = 0 then 1 else 0)
  split
  · exact bnd2_of bnd_1
  · exact bnd2_of bnd_0
  ) (fun ν => by
  have e0 : fn_Model_operation_r0 157 ν = sd_bv (fn_Model_numberOfTwo_r0 157 ν) (fun m => some m) := rfl
  rw [e0, bv_id, fn_Model_numberOfTwo_r0]
  refine bi_ext fun x2 m1 => ?_
  by_cases c : x2 = 0
  · rw [if_pos c, if_pos c]
  · rw [if_neg c, if_neg c, pa_let]
    refine bi_ext fun x5 m4 => ?_
    by_cases d : x5 = 0
    · rw [if_pos d, if_pos d]
    · rw [if_neg d, if_neg d, pa_let, if_neg (show ¬ (157 : Int32) = 165 by decide), pa_let, if_neg (show ¬ (157 : Int32) = 147 by decide), if_neg (show ¬ (157 : Int32) = 148 by decide), if_neg (show ¬ (157 : Int32) = 154 by decide), if_neg (show ¬ (157 : Int32) = 155 by decide), if_neg (show ¬ (157 : Int32) = 156 by decide), if_pos (show (157 : Int32) = 157 from rfl)]
      show _ = sd_bv (fn_Model_pushNumber_r0 (if lg_cmp (m4.2 1) (m1.2 1) = 0 then 1 else 0) (sd_st m4 0 2 (m4.1 0 2 - 2))) (fun m20 => fn_Model_mustBeTrue_r0 m20)
      have eT : fn_Model_pushTruth_r0 1 (sd_st m4 0 2 (m4.1 0 2 - 2)) = fn_Model_pushNumber_r0 1 (sd_st m4 0 2 (m4.1 0 2 - 2)) := bv_id _
      have eF : fn_Model_pushTruth_r0 0 (sd_st m4 0 2 (m4.1 0 2 - 2)) = fn_Model_pushNumber_r0 0 (sd_st m4 0 2 (m4.1 0 2 - 2)) := bv_id _
      have eM : (fun m20 => sd_bv (fn_Model_mustBeTrue_r0 m20) (fun m21 => some m21)) = (fun m20 => fn_Model_mustBeTrue_r0 m20) := funext fun z => bv_id _
      by_cases h0 : lg_cmp (m4.2 1) (m1.2 1) = 0
      · rw [if_pos h0, if_pos h0, eT, eM]
      · rw [if_neg h0, if_neg h0, eF, eM]
      ) (h5_must (g := fun a b => if lg_cmp a b = 0 then 1 else 0))
