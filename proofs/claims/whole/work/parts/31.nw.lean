theorem op_147 : OpS (fn_Numbers_perform_r2 147) 147 := num2 (g := fun a b => a + b) _ (fun _ => rfl) (fun _ _ _ => rfl) (fun a b ha hb => bnd2_add ha hb) (fun ν => by
  show sd_bv (fn_Model_numberOfTwo_r0 147 ν) (fun m => some m) = _
  rw [bv_id]
  unfold fn_Model_numberOfTwo_r0
  congr 1
  funext x2 m1
  by_cases c : x2 = 0
  · rw [if_pos c, if_pos c]
  · rw [if_neg c, if_neg c, pa_let]
    congr 1
    funext x5 m4
    by_cases d : x5 = 0
    · rw [if_pos d, if_pos d]
    · rw [if_neg d, if_neg d]
      exact bv_id _) (h5_num (by decide))
theorem op_148 : OpS (fn_Numbers_perform_r2 148) 148 := num2 (g := fun a b => a - b) _ (fun _ => rfl) (fun _ _ _ => rfl) (fun a b ha hb => bnd2_sub ha hb) (fun ν => by
  show sd_bv (fn_Model_numberOfTwo_r0 148 ν) (fun m => some m) = _
  rw [bv_id]
  unfold fn_Model_numberOfTwo_r0
  congr 1
  funext x2 m1
  by_cases c : x2 = 0
  · rw [if_pos c, if_pos c]
  · rw [if_neg c, if_neg c, pa_let]
    congr 1
    funext x5 m4
    by_cases d : x5 = 0
    · rw [if_pos d, if_pos d]
    · rw [if_neg d, if_neg d]
      exact bv_id _) (h5_num (by decide))
theorem op_154 : OpS (fn_Numbers_perform_r2 154) 154 := num2 (g := fun a b => (if lg_cmp a 0 = 0 then 0 else (if lg_cmp b 0 = 0 then 0 else 1))) _ (fun _ => rfl) (fun b a m => by
  show sd_bi (if lg_cmp a 0 = 0 then some ((0 : Int32), m) else (if lg_cmp b 0 = 0 then some ((0 : Int32), m) else some ((1 : Int32), m))) (fun x6 m5 => if x6 = (0 : Int32) then some ((0 : Int64), m5) else some ((1 : Int64), m5)) = _
  split
  · rfl
  · split
    · rfl
    · rfl
  ) (fun a b ha hb => by
  split
  · first | exact bnd2_of bnd_0 | exact bnd2_of bnd_1
  · split
    · first | exact bnd2_of bnd_0 | exact bnd2_of bnd_1
    · first | exact bnd2_of bnd_0 | exact bnd2_of bnd_1
  ) (fun ν => by
  show sd_bv (fn_Model_numberOfTwo_r0 154 ν) (fun m => some m) = _
  rw [bv_id]
  unfold fn_Model_numberOfTwo_r0
  congr 1
  funext x2 m1
  by_cases c : x2 = 0
  · rw [if_pos c, if_pos c]
  · rw [if_neg c, if_neg c, pa_let]
    congr 1
    funext x5 m4
    by_cases d : x5 = 0
    · rw [if_pos d, if_pos d]
    · rw [if_neg d, if_neg d]
      show (if lg_cmp (m4.2 1) 0 = 0 then sd_bv (fn_Model_pushTruth_r0 0 (sd_st m4 0 2 (m4.1 0 2 - 2))) (fun m => some m) else (if lg_cmp (m1.2 1) 0 = 0 then sd_bv (fn_Model_pushTruth_r0 0 (sd_st m4 0 2 (m4.1 0 2 - 2))) (fun m => some m) else sd_bv (fn_Model_pushTruth_r0 1 (sd_st m4 0 2 (m4.1 0 2 - 2))) (fun m => some m))) = _
      split
      · exact (bv_id _).trans (bv_id _)
      · split
        · exact (bv_id _).trans (bv_id _)
        · exact (bv_id _).trans (bv_id _)
      ) (h5_num (by decide))
theorem op_155 : OpS (fn_Numbers_perform_r2 155) 155 := num2 (g := fun a b => (if lg_cmp a 0 = 0 then (if lg_cmp b 0 = 0 then 0 else 1) else 1)) _ (fun _ => rfl) (fun b a m => by
  show sd_bi (if lg_cmp a 0 = 0 then (if lg_cmp b 0 = 0 then some ((0 : Int32), m) else some ((1 : Int32), m)) else some ((1 : Int32), m)) (fun x6 m5 => if x6 = (0 : Int32) then some ((0 : Int64), m5) else some ((1 : Int64), m5)) = _
  split
  · split
    · rfl
    · rfl
  · rfl
  ) (fun a b ha hb => by
  split
  · split
    · first | exact bnd2_of bnd_0 | exact bnd2_of bnd_1
    · first | exact bnd2_of bnd_0 | exact bnd2_of bnd_1
  · first | exact bnd2_of bnd_0 | exact bnd2_of bnd_1
  ) (fun ν => by
  show sd_bv (fn_Model_numberOfTwo_r0 155 ν) (fun m => some m) = _
  rw [bv_id]
  unfold fn_Model_numberOfTwo_r0
  congr 1
  funext x2 m1
  by_cases c : x2 = 0
  · rw [if_pos c, if_pos c]
  · rw [if_neg c, if_neg c, pa_let]
    congr 1
    funext x5 m4
    by_cases d : x5 = 0
    · rw [if_pos d, if_pos d]
    · rw [if_neg d, if_neg d]
      show (if lg_cmp (m4.2 1) 0 = 0 then (if lg_cmp (m1.2 1) 0 = 0 then sd_bv (fn_Model_pushTruth_r0 0 (sd_st m4 0 2 (m4.1 0 2 - 2))) (fun m => some m) else sd_bv (fn_Model_pushTruth_r0 1 (sd_st m4 0 2 (m4.1 0 2 - 2))) (fun m => some m)) else sd_bv (fn_Model_pushTruth_r0 1 (sd_st m4 0 2 (m4.1 0 2 - 2))) (fun m => some m)) = _
      split
      · split
        · exact (bv_id _).trans (bv_id _)
        · exact (bv_id _).trans (bv_id _)
      · exact (bv_id _).trans (bv_id _)
      ) (h5_num (by decide))
theorem op_156 : OpS (fn_Numbers_perform_r2 156) 156 := num2 (g := fun a b => (if lg_cmp a b = 0 then 1 else 0)) _ (fun _ => rfl) (fun b a m => by
  show sd_bi (if lg_cmp a b = 0 then some ((1 : Int32), m) else some ((0 : Int32), m)) (fun x6 m5 => if x6 = (0 : Int32) then some ((0 : Int64), m5) else some ((1 : Int64), m5)) = _
  split
  · rfl
  · rfl
  ) (fun a b ha hb => by
  split
  · first | exact bnd2_of bnd_0 | exact bnd2_of bnd_1
  · first | exact bnd2_of bnd_0 | exact bnd2_of bnd_1
  ) (fun ν => by
  show sd_bv (fn_Model_numberOfTwo_r0 156 ν) (fun m => some m) = _
  rw [bv_id]
  unfold fn_Model_numberOfTwo_r0
  congr 1
  funext x2 m1
  by_cases c : x2 = 0
  · rw [if_pos c, if_pos c]
  · rw [if_neg c, if_neg c, pa_let]
    congr 1
    funext x5 m4
    by_cases d : x5 = 0
    · rw [if_pos d, if_pos d]
    · rw [if_neg d, if_neg d]
      show (if lg_cmp (m4.2 1) (m1.2 1) = 0 then sd_bv (fn_Model_pushTruth_r0 1 (sd_st m4 0 2 (m4.1 0 2 - 2))) (fun m => some m) else sd_bv (fn_Model_pushTruth_r0 0 (sd_st m4 0 2 (m4.1 0 2 - 2))) (fun m => some m)) = _
      split
      · exact (bv_id _).trans (bv_id _)
      · exact (bv_id _).trans (bv_id _)
      ) (h5_num (by decide))
theorem op_158 : OpS (fn_Numbers_perform_r2 158) 158 := num2 (g := fun a b => (if lg_cmp a b = 0 then 0 else 1)) _ (fun _ => rfl) (fun b a m => by
  show sd_bi (if lg_cmp a b = 0 then some ((0 : Int32), m) else some ((1 : Int32), m)) (fun x6 m5 => if x6 = (0 : Int32) then some ((0 : Int64), m5) else some ((1 : Int64), m5)) = _
  split
  · rfl
  · rfl
  ) (fun a b ha hb => by
  split
  · first | exact bnd2_of bnd_0 | exact bnd2_of bnd_1
  · first | exact bnd2_of bnd_0 | exact bnd2_of bnd_1
  ) (fun ν => by
  show sd_bv (fn_Model_numberOfTwo_r0 158 ν) (fun m => some m) = _
  rw [bv_id]
  unfold fn_Model_numberOfTwo_r0
  congr 1
  funext x2 m1
  by_cases c : x2 = 0
  · rw [if_pos c, if_pos c]
  · rw [if_neg c, if_neg c, pa_let]
    congr 1
    funext x5 m4
    by_cases d : x5 = 0
    · rw [if_pos d, if_pos d]
    · rw [if_neg d, if_neg d]
      show (if lg_cmp (m4.2 1) (m1.2 1) = 0 then sd_bv (fn_Model_pushTruth_r0 0 (sd_st m4 0 2 (m4.1 0 2 - 2))) (fun m => some m) else sd_bv (fn_Model_pushTruth_r0 1 (sd_st m4 0 2 (m4.1 0 2 - 2))) (fun m => some m)) = _
      split
      · exact (bv_id _).trans (bv_id _)
      · exact (bv_id _).trans (bv_id _)
      ) (h5_num (by decide))
theorem op_159 : OpS (fn_Numbers_perform_r2 159) 159 := num2 (g := fun a b => (if (0 : Int32) ≤ lg_cmp a b then 0 else 1)) _ (fun _ => rfl) (fun b a m => by
  show sd_bi (if (0 : Int32) ≤ lg_cmp a b then some ((0 : Int32), m) else some ((1 : Int32), m)) (fun x6 m5 => if x6 = (0 : Int32) then some ((0 : Int64), m5) else some ((1 : Int64), m5)) = _
  split
  · rfl
  · rfl
  ) (fun a b ha hb => by
  split
  · first | exact bnd2_of bnd_0 | exact bnd2_of bnd_1
  · first | exact bnd2_of bnd_0 | exact bnd2_of bnd_1
  ) (fun ν => by
  show sd_bv (fn_Model_numberOfTwo_r0 159 ν) (fun m => some m) = _
  rw [bv_id]
  unfold fn_Model_numberOfTwo_r0
  congr 1
  funext x2 m1
  by_cases c : x2 = 0
  · rw [if_pos c, if_pos c]
  · rw [if_neg c, if_neg c, pa_let]
    congr 1
    funext x5 m4
    by_cases d : x5 = 0
    · rw [if_pos d, if_pos d]
    · rw [if_neg d, if_neg d]
      show (if (0 : Int32) ≤ lg_cmp (m4.2 1) (m1.2 1) then sd_bv (fn_Model_pushTruth_r0 0 (sd_st m4 0 2 (m4.1 0 2 - 2))) (fun m => some m) else sd_bv (fn_Model_pushTruth_r0 1 (sd_st m4 0 2 (m4.1 0 2 - 2))) (fun m => some m)) = _
      split
      · exact (bv_id _).trans (bv_id _)
      · exact (bv_id _).trans (bv_id _)
      ) (h5_num (by decide))
theorem op_160 : OpS (fn_Numbers_perform_r2 160) 160 := num2 (g := fun a b => (if lg_cmp a b ≤ 0 then 0 else 1)) _ (fun _ => rfl) (fun b a m => by
  show sd_bi (if lg_cmp a b ≤ 0 then some ((0 : Int32), m) else some ((1 : Int32), m)) (fun x6 m5 => if x6 = (0 : Int32) then some ((0 : Int64), m5) else some ((1 : Int64), m5)) = _
  split
  · rfl
  · rfl
  ) (fun a b ha hb => by
  split
  · first | exact bnd2_of bnd_0 | exact bnd2_of bnd_1
  · first | exact bnd2_of bnd_0 | exact bnd2_of bnd_1
  ) (fun ν => by
  show sd_bv (fn_Model_numberOfTwo_r0 160 ν) (fun m => some m) = _
  rw [bv_id]
  unfold fn_Model_numberOfTwo_r0
  congr 1
  funext x2 m1
  by_cases c : x2 = 0
  · rw [if_pos c, if_pos c]
  · rw [if_neg c, if_neg c, pa_let]
    congr 1
    funext x5 m4
    by_cases d : x5 = 0
    · rw [if_pos d, if_pos d]
    · rw [if_neg d, if_neg d]
      show (if lg_cmp (m4.2 1) (m1.2 1) ≤ 0 then sd_bv (fn_Model_pushTruth_r0 0 (sd_st m4 0 2 (m4.1 0 2 - 2))) (fun m => some m) else sd_bv (fn_Model_pushTruth_r0 1 (sd_st m4 0 2 (m4.1 0 2 - 2))) (fun m => some m)) = _
      split
      · exact (bv_id _).trans (bv_id _)
      · exact (bv_id _).trans (bv_id _)
      ) (h5_num (by decide))
theorem op_161 : OpS (fn_Numbers_perform_r2 161) 161 := num2 (g := fun a b => (if (0 : Int32) < lg_cmp a b then 0 else 1)) _ (fun _ => rfl) (fun b a m => by
  show sd_bi (if (0 : Int32) < lg_cmp a b then some ((0 : Int32), m) else some ((1 : Int32), m)) (fun x6 m5 => if x6 = (0 : Int32) then some ((0 : Int64), m5) else some ((1 : Int64), m5)) = _
  split
  · rfl
  · rfl
  ) (fun a b ha hb => by
  split
  · first | exact bnd2_of bnd_0 | exact bnd2_of bnd_1
  · first | exact bnd2_of bnd_0 | exact bnd2_of bnd_1
  ) (fun ν => by
  show sd_bv (fn_Model_numberOfTwo_r0 161 ν) (fun m => some m) = _
  rw [bv_id]
  unfold fn_Model_numberOfTwo_r0
  congr 1
  funext x2 m1
  by_cases c : x2 = 0
  · rw [if_pos c, if_pos c]
  · rw [if_neg c, if_neg c, pa_let]
    congr 1
    funext x5 m4
    by_cases d : x5 = 0
    · rw [if_pos d, if_pos d]
    · rw [if_neg d, if_neg d]
      show (if (0 : Int32) < lg_cmp (m4.2 1) (m1.2 1) then sd_bv (fn_Model_pushTruth_r0 0 (sd_st m4 0 2 (m4.1 0 2 - 2))) (fun m => some m) else sd_bv (fn_Model_pushTruth_r0 1 (sd_st m4 0 2 (m4.1 0 2 - 2))) (fun m => some m)) = _
      split
      · exact (bv_id _).trans (bv_id _)
      · exact (bv_id _).trans (bv_id _)
      ) (h5_num (by decide))
theorem op_162 : OpS (fn_Numbers_perform_r2 162) 162 := num2 (g := fun a b => (if lg_cmp a b < 0 then 0 else 1)) _ (fun _ => rfl) (fun b a m => by
  show sd_bi (if lg_cmp a b < 0 then some ((0 : Int32), m) else some ((1 : Int32), m)) (fun x6 m5 => if x6 = (0 : Int32) then some ((0 : Int64), m5) else some ((1 : Int64), m5)) = _
  split
  · rfl
  · rfl
  ) (fun a b ha hb => by
  split
  · first | exact bnd2_of bnd_0 | exact bnd2_of bnd_1
  · first | exact bnd2_of bnd_0 | exact bnd2_of bnd_1
  ) (fun ν => by
  show sd_bv (fn_Model_numberOfTwo_r0 162 ν) (fun m => some m) = _
  rw [bv_id]
  unfold fn_Model_numberOfTwo_r0
  congr 1
  funext x2 m1
  by_cases c : x2 = 0
  · rw [if_pos c, if_pos c]
  · rw [if_neg c, if_neg c, pa_let]
    congr 1
    funext x5 m4
    by_cases d : x5 = 0
    · rw [if_pos d, if_pos d]
    · rw [if_neg d, if_neg d]
      show (if lg_cmp (m4.2 1) (m1.2 1) < 0 then sd_bv (fn_Model_pushTruth_r0 0 (sd_st m4 0 2 (m4.1 0 2 - 2))) (fun m => some m) else sd_bv (fn_Model_pushTruth_r0 1 (sd_st m4 0 2 (m4.1 0 2 - 2))) (fun m => some m)) = _
      split
      · exact (bv_id _).trans (bv_id _)
      · exact (bv_id _).trans (bv_id _)
      ) (h5_num (by decide))
