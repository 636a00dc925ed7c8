def fn_Desk_put_r0_L33 (k72 : sd_Me → Option (Int32 × sd_Me)) : Nat → Int64 → Int32 → sd_Me → Option (Int32 × sd_Me)
  | 0, _, _, _ => none
  | n + 1, v1, v4, μ =>
    if v4 < (0 : Int32) then k72  μ else sd_gd (sd_ix (μ.1 0 1) 200) (sd_let (sd_st μ 1 (Int32.toNatClampNeg (μ.1 0 1)) (Int64.toInt32 ((sd_lusr v1 v4) &&& (255 : Int64)))) (fun m2 => sd_let (sd_st m2 0 1 ((m2.1 0 1) + (1 : Int32))) (fun m3 => fn_Desk_put_r0_L33 k72 n (v1) ((v4 + (-8 : Int32))) m3)))
def fn_Desk_put_r0 (a1 : Int64) (a3 : Int32) (μ : sd_Me) : Option (Int32 × sd_Me) :=
  if a3 < (1 : Int32) then some ((0 : Int32), μ) else if (8 : Int32) < a3 then some ((0 : Int32), μ) else if ((μ.1 0 1) + a3) ≤ (200 : Int32) then sd_let (((8 : Int32) * (a3 - (1 : Int32)))) (fun x1 => fn_Desk_put_r0_L33 (fun m4 => some ((1 : Int32), m4)) 10000 (a1) (x1) μ) else some ((0 : Int32), μ)
def fn_Desk_secret_r0 (a1 : Int32) (μ : sd_Me) : Option (sd_Me) :=
  sd_let (sd_st μ 8 0 a1) (fun m1 => some m1)
def fn_Flow_restart_r7 (μ : sd_Me) : Option (sd_Me) :=
  sd_let (sd_st μ 7 0 (0 : Int32)) (fun m1 => sd_let (sd_st m1 7 1 (0 : Int32)) (fun m2 => some m2))
def fn_Desk_restart_r0 (μ : sd_Me) : Option (sd_Me) :=
  sd_let (sd_st μ 0 1 (0 : Int32)) (fun m1 => sd_let (sd_st m1 0 2 (0 : Int32)) (fun m2 => sd_let (sd_st m2 0 3 (-1 : Int32)) (fun m3 => sd_let (sd_st m3 6 0 (0 : Int32)) (fun m4 => sd_let (sd_st m4 8 1 (0 : Int32)) (fun m5 => sd_bv (fn_Flow_restart_r7 m5) (fun m6 => some m6))))))
def fn_Flow_isDone_r7 (μ : sd_Me) : Option (Int32 × sd_Me) :=
  if (μ.1 7 1) = (0 : Int32) then some ((1 : Int32), μ) else some ((0 : Int32), μ)
def fn_Elements_lengthAt_r2 (a1 : Int32) (μ : sd_Me) : Option (Int32 × sd_Me) :=
  if a1 < (0 : Int32) then some ((-1 : Int32), μ) else if a1 < (μ.1 2 4) then sd_gd (sd_ix (((μ.1 2 4) - (1 : Int32)) - a1) 64) (sd_gd (sd_ix (μ.1 5 (Int32.toNatClampNeg (((μ.1 2 4) - (1 : Int32)) - a1))) 64) (some ((μ.1 4 (Int32.toNatClampNeg (μ.1 5 (Int32.toNatClampNeg (((μ.1 2 4) - (1 : Int32)) - a1))))), μ))) else some ((-1 : Int32), μ)
def fn_Elements_octetAt_r2 (a1 : Int32) (a2 : Int32) (μ : sd_Me) : Option (Int32 × sd_Me) :=
  if a1 < (0 : Int32) then some ((-1 : Int32), μ) else if a1 < (μ.1 2 4) then sd_gd (sd_ix (((μ.1 2 4) - (1 : Int32)) - a1) 64) (sd_let ((μ.1 5 (Int32.toNatClampNeg (((μ.1 2 4) - (1 : Int32)) - a1)))) (fun x1 => if a2 < (0 : Int32) then some ((-1 : Int32), μ) else sd_gd (sd_ix x1 64) (if a2 < (μ.1 4 (Int32.toNatClampNeg x1)) then sd_gd (sd_ix ((x1 * (120 : Int32)) + a2) 7680) (some ((μ.1 3 (Int32.toNatClampNeg ((x1 * (120 : Int32)) + a2))), μ)) else some ((-1 : Int32), μ)))) else some ((-1 : Int32), μ)
def fn_Elements_topHolds_r2_L10 (k32 : Int32 → sd_Me → Option (Int32 × sd_Me)) : Nat → Int32 → Int32 → sd_Me → Option (Int32 × sd_Me)
  | 0, _, _, _ => none
  | n + 1, v1, v2, μ =>
    if v1 ≤ v2 then k32 (v1) μ else sd_bi (fn_Elements_octetAt_r2 (0 : Int32) v2 μ) (fun x5 m4 => if x5 = (0 : Int32) then fn_Elements_topHolds_r2_L10 k32 n (v1) ((v2 + (1 : Int32))) m4 else some ((1 : Int32), m4))
def fn_Elements_topHolds_r2 (μ : sd_Me) : Option (Int32 × sd_Me) :=
  sd_bi (fn_Elements_lengthAt_r2 (0 : Int32) μ) (fun x2 m1 => sd_let ((x2 - (1 : Int32))) (fun x3 => fn_Elements_topHolds_r2_L10 (fun x6 m7 => sd_bi (fn_Elements_octetAt_r2 (0 : Int32) x6 m7) (fun x9 m8 => if x9 ≤ (0 : Int32) then some ((0 : Int32), m8) else if x9 = (128 : Int32) then some ((0 : Int32), m8) else some ((1 : Int32), m8))) 10000 (x3) ((0 : Int32)) m1))
def fn_Elements_drop_r2 (a1 : Int32) (μ : sd_Me) : Option (sd_Me) :=
  sd_let (sd_st μ 2 4 (if (0 : Int32) < ((μ.1 2 4) - a1) then ((μ.1 2 4) - a1) else (0 : Int32))) (fun m1 => some m1)
def fn_Flow_enter_r7 (a1 : Int32) (μ : sd_Me) : Option (sd_Me) :=
  sd_let (sd_st μ 7 0 ((μ.1 7 0) + (1 : Int32))) (fun m1 => if a1 = (0 : Int32) then if (m1.1 7 1) = (0 : Int32) then sd_let (sd_st m1 7 1 (m1.1 7 0)) (fun m2 => some m2) else some m1 else some m1)
def fn_Desk_enterPart_r0 (a1 : Int32) (μ : sd_Me) : Option (Int32 × sd_Me) :=
  sd_bi (fn_Flow_isDone_r7 μ) (fun x2 m1 => if x2 = (0 : Int32) then sd_bv (fn_Flow_enter_r7 (0 : Int32) m1) (fun m8 => some ((0 : Int32), m8)) else if (1 : Int32) ≤ (m1.1 2 4) then sd_bi (fn_Elements_topHolds_r2 m1) (fun x4 m3 => sd_bv (fn_Elements_drop_r2 (1 : Int32) m3) (fun m5 => if x4 = a1 then sd_bv (fn_Flow_enter_r7 (1 : Int32) m5) (fun m7 => some ((0 : Int32), m7)) else sd_bv (fn_Flow_enter_r7 (0 : Int32) m5) (fun m6 => some ((0 : Int32), m6)))) else some ((5 : Int32), m1))
def fn_Flow_isInside_r7 (μ : sd_Me) : Option (Int32 × sd_Me) :=
  if (μ.1 7 0) ≤ (0 : Int32) then some ((0 : Int32), μ) else some ((1 : Int32), μ)
def fn_Flow_turn_r7 (μ : sd_Me) : Option (sd_Me) :=
  if (μ.1 7 1) = (0 : Int32) then sd_let (sd_st μ 7 1 (μ.1 7 0)) (fun m2 => some m2) else if (μ.1 7 1) = (μ.1 7 0) then sd_let (sd_st μ 7 1 (0 : Int32)) (fun m1 => some m1) else some μ
def fn_Flow_end_r7 (μ : sd_Me) : Option (sd_Me) :=
  if (μ.1 7 1) = (μ.1 7 0) then sd_let (sd_st μ 7 1 (0 : Int32)) (fun m2 => sd_let (sd_st m2 7 0 ((m2.1 7 0) - (1 : Int32))) (fun m3 => some m3)) else sd_let (sd_st μ 7 0 ((μ.1 7 0) - (1 : Int32))) (fun m1 => some m1)
def fn_Desk_leavePart_r0 (a1 : Int32) (μ : sd_Me) : Option (Int32 × sd_Me) :=
  sd_bi (fn_Flow_isInside_r7 μ) (fun x2 m1 => if x2 = (0 : Int32) then some ((10 : Int32), m1) else if a1 = (0 : Int32) then sd_bv (fn_Flow_turn_r7 m1) (fun m3 => some ((0 : Int32), m3)) else sd_bv (fn_Flow_end_r7 m1) (fun m4 => some ((0 : Int32), m4)))
def fn_Elements_faultOfNumber_r2 (a1 : Int32) (μ : sd_Me) : Option (Int32 × sd_Me) :=
  if a1 < (μ.1 2 4) then sd_bi (fn_Elements_lengthAt_r2 a1 μ) (fun x2 m1 => if x2 ≤ (4 : Int32) then some ((0 : Int32), m1) else some ((6 : Int32), m1)) else some ((5 : Int32), μ)
def fn_Elements_numberAt_r2_L35 (k61 : Int32 → Int32 → Int64 → sd_Me → Option (Int64 × sd_Me)) : Nat → Int32 → Int32 → Int64 → Int32 → sd_Me → Option (Int64 × sd_Me)
  | 0, _, _, _, _, _ => none
  | n + 1, v1, v2, v3, v5, μ =>
    if v5 < (0 : Int32) then k61 (v1) (v2) (v3) μ else sd_bi (fn_Elements_octetAt_r2 v1 v5 μ) (fun x9 m8 => sd_let (((v3 * (256 : Int64)) + (Int32.toInt64 x9))) (fun x10 => fn_Elements_numberAt_r2_L35 k61 n (v1) (v2) (x10) ((v5 + (-1 : Int32))) m8))
def fn_Elements_numberAt_r2 (a1 : Int32) (μ : sd_Me) : Option (Int64 × sd_Me) :=
  sd_bi (fn_Elements_lengthAt_r2 a1 μ) (fun x2 m1 => sd_let ((x2 - (1 : Int32))) (fun x3 => if x3 < (0 : Int32) then some ((0 : Int64), m1) else if x3 < (4 : Int32) then sd_bi (fn_Elements_octetAt_r2 a1 x3 m1) (fun x5 m4 => sd_let ((Int32.toInt64 (x5 &&& (127 : Int32)))) (fun x6 => sd_let ((x3 - (1 : Int32))) (fun x7 => fn_Elements_numberAt_r2_L35 (fun x11 x12 x13 m14 => sd_bi (fn_Elements_octetAt_r2 x11 x12 m14) (fun x16 m15 => if x16 < (128 : Int32) then some (x13, m15) else some ((-x13), m15))) 10000 (a1) (x3) (x6) (x7) m4))) else some ((0 : Int64), m1)))
def fn_Signatures_faultOfAmount_r2 (a1 : Int32) (a2 : Int32) (μ : sd_Me) : Option (Int32 × sd_Me) :=
  sd_bi (fn_Elements_faultOfNumber_r2 a1 μ) (fun x2 m1 => if x2 = (0 : Int32) then sd_bl (fn_Elements_numberAt_r2 a1 m1) (fun x4 m3 => if (lg_cmp x4 (0 : Int64)) < (0 : Int32) then some ((7 : Int32), m3) else if (lg_cmp x4 (Int32.toInt64 a2)) ≤ (0 : Int32) then some ((0 : Int32), m3) else some ((7 : Int32), m3)) else some (x2, m1))
def fn_Tally_passesLimit_r6 (a1 : Int32) (μ : sd_Me) : Option (Int32 × sd_Me) :=
  sd_let (sd_st μ 6 0 ((μ.1 6 0) + a1)) (fun m1 => if (m1.1 6 0) ≤ (100 : Int32) then some ((0 : Int32), m1) else some ((1 : Int32), m1))
def fn_Signatures_fits_r8_r2 (a2 : Int32) (a3 : Int32) (μ : sd_Me) : Option (Int32 × sd_Me) :=
  sd_let (sd_st μ 8 1 ((μ.1 8 1) + (1 : Int32))) (fun m1 => sd_bi (fn_Elements_lengthAt_r2 a2 m1) (fun x3 m2 => sd_bi (fn_Elements_lengthAt_r2 a3 m2) (fun x5 m4 => if x3 < (1 : Int32) then some ((0 : Int32), m4) else if (1 : Int32) ≤ x5 then sd_bi (fn_Elements_octetAt_r2 a2 (0 : Int32) m4) (fun x7 m6 => sd_let ((Int32.toInt64 x7)) (fun x8 => sd_bi (fn_Elements_octetAt_r2 a2 (x3 - (1 : Int32)) m6) (fun x10 m9 => sd_let ((Int32.toInt64 x10)) (fun x11 => sd_bi (fn_Elements_octetAt_r2 a3 (x5 - (1 : Int32)) m9) (fun x13 m12 => sd_let ((Int32.toInt64 x13)) (fun x14 => if (lg_cmp ((((Int32.toInt64 (m12.1 8 0)) + (x8 * x14)) + x11) - (((Int32.toInt64 (m12.1 8 0)) + (x8 * x14)) + x11) / (3 : Int64) * (3 : Int64)) (0 : Int64)) = (0 : Int32) then some ((1 : Int32), m12) else some ((0 : Int32), m12))))))) else some ((0 : Int32), m4))))
def fn_Signatures_allFit_r8_r2_L6 (k56 : Int32 → Int32 → sd_Me → Option (Int32 × sd_Me)) : Nat → Int32 → Int32 → Int32 → Int32 → sd_Me → Option (Int32 × sd_Me)
  | 0, _, _, _, _, _ => none
  | n + 1, v2, v3, v4, v5, μ =>
    if v2 ≤ v5 then k56 (v3) (v4) μ else if v3 ≤ v4 then k56 (v3) (v4) μ else if (v2 - v5) < (v3 - v4) then k56 (v3) (v4) μ else sd_bi (fn_Signatures_fits_r8_r2 ((v2 + (2 : Int32)) + v4) ((1 : Int32) + v5) μ) (fun x2 m1 => if x2 = (0 : Int32) then fn_Signatures_allFit_r8_r2_L6 k56 n (v2) (v3) (v4) ((v5 + (1 : Int32))) m1 else fn_Signatures_allFit_r8_r2_L6 k56 n (v2) (v3) ((v4 + (1 : Int32))) ((v5 + (1 : Int32))) m1)
def fn_Signatures_allFit_r8_r2 (a2 : Int32) (a3 : Int32) (μ : sd_Me) : Option (Int32 × sd_Me) :=
  fn_Signatures_allFit_r8_r2_L6 (fun x3 x4 m5 => if x4 = x3 then some ((1 : Int32), m5) else some ((0 : Int32), m5)) 10000 (a2) (a3) ((0 : Int32)) ((0 : Int32)) μ
def fn_Elements_pushNumber_r2_L48 (k92 : Int64 → Int32 → Int32 → Int32 → sd_Me → Option (sd_Me)) : Nat → Int64 → Int32 → Int32 → Int64 → Int32 → sd_Me → Option (sd_Me)
  | 0, _, _, _, _, _, _ => none
  | n + 1, v1, v3, v4, v5, v7, μ =>
    if (8 : Int32) ≤ v7 then k92 (v1) (v3) (v4) (v7) μ else if (lg_cmp v5 (0 : Int64)) ≤ (0 : Int32) then k92 (v1) (v3) (v4) (v7) μ else sd_gd (sd_ix (v4 + v7) 7680) (sd_let (sd_st μ 3 (Int32.toNatClampNeg (v4 + v7)) (Int64.toInt32 (v5 &&& (255 : Int64)))) (fun m3 => sd_let ((sd_lsr v5 (8 : Int32))) (fun x4 => fn_Elements_pushNumber_r2_L48 k92 n (v1) (v3) (v4) (x4) ((v7 + (1 : Int32))) m3)))
def fn_Elements_pushNumber_r2_J158 (v3 : Int32) (v7 : Int32) (μ : sd_Me) : Option (sd_Me) :=
  sd_gd (sd_ix v3 64) (sd_let (sd_st μ 4 (Int32.toNatClampNeg v3) v7) (fun m10 => sd_let (sd_st m10 2 4 ((m10.1 2 4) + (1 : Int32))) (fun m11 => some m11)))
def fn_Elements_pushNumber_r2_J129 (v1 : Int64) (v3 : Int32) (v4 : Int32) (v7 : Int32) (μ : sd_Me) : Option (sd_Me) :=
  if (0 : Int32) ≤ (lg_cmp v1 (0 : Int64)) then fn_Elements_pushNumber_r2_J158 (v3) (v7) μ else if v7 ≤ (0 : Int32) then fn_Elements_pushNumber_r2_J158 (v3) (v7) μ else sd_gd (sd_ix ((v4 + v7) - (1 : Int32)) 7680) (sd_gd (sd_ix ((v4 + v7) - (1 : Int32)) 7680) (sd_let (sd_st μ 3 (Int32.toNatClampNeg ((v4 + v7) - (1 : Int32))) ((μ.1 3 (Int32.toNatClampNeg ((v4 + v7) - (1 : Int32)))) ||| (128 : Int32))) (fun m12 => fn_Elements_pushNumber_r2_J158 (v3) (v7) m12)))
def fn_Elements_pushNumber_r2_J92 (v1 : Int64) (v3 : Int32) (v4 : Int32) (v7 : Int32) (μ : sd_Me) : Option (sd_Me) :=
  if v7 ≤ (0 : Int32) then fn_Elements_pushNumber_r2_J129 (v1) (v3) (v4) (v7) μ else sd_gd (sd_ix ((v4 + v7) - (1 : Int32)) 7680) (if (μ.1 3 (Int32.toNatClampNeg ((v4 + v7) - (1 : Int32)))) < (128 : Int32) then fn_Elements_pushNumber_r2_J129 (v1) (v3) (v4) (v7) μ else sd_gd (sd_ix (v4 + v7) 7680) (sd_let (sd_st μ 3 (Int32.toNatClampNeg (v4 + v7)) (0 : Int32)) (fun m13 => fn_Elements_pushNumber_r2_J129 (v1) (v3) (v4) ((v7 + (1 : Int32))) m13)))
def fn_Elements_pushNumber_r2_J43 (v1 : Int64) (v3 : Int32) (v4 : Int32) (s0 : Int64) (μ : sd_Me) : Option (sd_Me) :=
  fn_Elements_pushNumber_r2_L48 (fun x5 x6 x7 x8 m9 => fn_Elements_pushNumber_r2_J92 (x5) (x6) (x7) (x8) m9) 10000 (v1) (v3) (v4) (s0) ((0 : Int32)) μ
def fn_Elements_pushNumber_r2 (a1 : Int64) (μ : sd_Me) : Option (sd_Me) :=
  if ((μ.1 2 4) + (μ.1 2 3)) < (64 : Int32) then sd_gd (sd_ix (μ.1 2 4) 64) (sd_let ((μ.1 5 (Int32.toNatClampNeg (μ.1 2 4)))) (fun x1 => sd_let ((x1 * (120 : Int32))) (fun x2 => if (0 : Int32) ≤ (lg_cmp a1 (0 : Int64)) then fn_Elements_pushNumber_r2_J43 (a1) (x1) (x2) (a1) μ else fn_Elements_pushNumber_r2_J43 (a1) (x1) (x2) ((-a1)) μ))) else some μ
def fn_Elements_replaceByTruth_r2 (a1 : Int32) (a2 : Int32) (μ : sd_Me) : Option (sd_Me) :=
  sd_bv (fn_Elements_drop_r2 a1 μ) (fun m1 => if a2 = (0 : Int32) then sd_bv (fn_Elements_pushNumber_r2 (0 : Int64) m1) (fun m2 => some m2) else sd_bv (fn_Elements_pushNumber_r2 (1 : Int64) m1) (fun m3 => some m3))
def fn_Signatures_askMany_r8_r2_r6 (μ : sd_Me) : Option (Int32 × sd_Me) :=
  sd_bi (fn_Signatures_faultOfAmount_r2 (0 : Int32) (8 : Int32) μ) (fun x2 m1 => if x2 = (0 : Int32) then sd_bl (fn_Elements_numberAt_r2 (0 : Int32) m1) (fun x4 m3 => sd_let ((Int64.toInt32 x4)) (fun x5 => sd_bi (fn_Tally_passesLimit_r6 x5 m3) (fun x7 m6 => if x7 = (0 : Int32) then sd_bi (fn_Signatures_faultOfAmount_r2 (x5 + (1 : Int32)) x5 m6) (fun x9 m8 => if x9 = (0 : Int32) then sd_bl (fn_Elements_numberAt_r2 (x5 + (1 : Int32)) m8) (fun x11 m10 => sd_let ((Int64.toInt32 x11)) (fun x12 => sd_let (((x5 + x12) + (3 : Int32))) (fun x13 => if x13 ≤ (m10.1 2 4) then sd_bi (fn_Signatures_allFit_r8_r2 x5 x12 m10) (fun x15 m14 => sd_bv (fn_Elements_replaceByTruth_r2 x13 x15 m14) (fun m16 => some ((0 : Int32), m16))) else some ((5 : Int32), m10)))) else some (x9, m8)) else some ((3 : Int32), m6)))) else some (x2, m1))
def fn_Elements_takeTrue_r2 (μ : sd_Me) : Option (Int32 × sd_Me) :=
  if (1 : Int32) ≤ (μ.1 2 4) then sd_bi (fn_Elements_topHolds_r2 μ) (fun x2 m1 => if x2 = (0 : Int32) then some ((8 : Int32), m1) else sd_bv (fn_Elements_drop_r2 (1 : Int32) m1) (fun m3 => some ((0 : Int32), m3))) else some ((5 : Int32), μ)
def fn_Signatures_askOne_r8_r2 (μ : sd_Me) : Option (Int32 × sd_Me) :=
  if (2 : Int32) ≤ (μ.1 2 4) then sd_bi (fn_Signatures_fits_r8_r2 (1 : Int32) (0 : Int32) μ) (fun x2 m1 => sd_bv (fn_Elements_replaceByTruth_r2 (2 : Int32) x2 m1) (fun m3 => some ((0 : Int32), m3))) else some ((5 : Int32), μ)
def fn_Signatures_perform_r8_r2_r6_J58 (v4 : Int32) (s0 : Int32) (μ : sd_Me) : Option (Int32 × sd_Me) :=
  if v4 = (0 : Int32) then if s0 = (0 : Int32) then some (v4, μ) else sd_bi (fn_Elements_takeTrue_r2 μ) (fun x4 m3 => some (x4, m3)) else some (v4, μ)
def fn_Signatures_perform_r8_r2_r6_J53 (v4 : Int32) (μ : sd_Me) : Option (Int32 × sd_Me) :=
  fn_Signatures_perform_r8_r2_r6_J58 (v4) ((1 : Int32)) μ
def fn_Signatures_perform_r8_r2_r6_J37 (v3 : Int32) (s0 : Int32) (μ : sd_Me) : Option (Int32 × sd_Me) :=
  if v3 = (173 : Int32) then fn_Signatures_perform_r8_r2_r6_J53 (s0) μ else if v3 = (175 : Int32) then fn_Signatures_perform_r8_r2_r6_J53 (s0) μ else fn_Signatures_perform_r8_r2_r6_J58 (s0) ((0 : Int32)) μ
def fn_Signatures_perform_r8_r2_r6 (a3 : Int32) (μ : sd_Me) : Option (Int32 × sd_Me) :=
  if a3 < (172 : Int32) then some ((4 : Int32), μ) else if a3 ≤ (175 : Int32) then if (173 : Int32) < a3 then sd_bi (fn_Signatures_askMany_r8_r2_r6 μ) (fun x2 m1 => fn_Signatures_perform_r8_r2_r6_J37 (a3) (x2) m1) else sd_bi (fn_Signatures_askOne_r8_r2 μ) (fun x6 m5 => fn_Signatures_perform_r8_r2_r6_J37 (a3) (x6) m5) else some ((4 : Int32), μ)
def fn_Arrays_fill_r15_L5 (k20 : sd_Me → Option (sd_Me)) : Nat → Int32 → Int32 → Int32 → sd_Me → Option (sd_Me)
  | 0, _, _, _, _ => none
  | n + 1, v1, v2, v3, μ =>
    if v3 ≤ v2 then k20  μ else sd_gd (sd_ix v2 192) (sd_let (sd_st μ 15 (Int32.toNatClampNeg v2) v1) (fun m1 => fn_Arrays_fill_r15_L5 k20 n (v1) ((v2 + (1 : Int32))) (v3) m1))
def fn_Arrays_fill_r15 (a1 : Int32) (μ : sd_Me) : Option (sd_Me) :=
  fn_Arrays_fill_r15_L5 (fun m2 => some m2) 10000 (a1) ((0 : Int32)) ((192 : Int32)) μ
def fn_BlockDigest_shiftOf_r14 (a1 : Int32) (μ : sd_Me) : Option (Int32 × sd_Me) :=
  if (μ.1 14 2) = (0 : Int32) then some (((8 : Int32) * a1), μ) else some (((24 : Int32) - ((8 : Int32) * a1)), μ)
def fn_BlockDigest_write_r14_r15_L16 (k46 : sd_Me → Option (sd_Me)) : Nat → Int32 → Int32 → Int32 → sd_Me → Option (sd_Me)
  | 0, _, _, _, _ => none
  | n + 1, v1, v3, v4, μ =>
    if (4 : Int32) ≤ v4 then k46  μ else sd_bi (fn_BlockDigest_shiftOf_r14 v4 μ) (fun x2 m1 => sd_gd (sd_ix (v3 + v4) 192) (sd_let (sd_st m1 15 (Int32.toNatClampNeg (v3 + v4)) ((sd_usr v1 x2) &&& (255 : Int32))) (fun m3 => fn_BlockDigest_write_r14_r15_L16 k46 n (v1) (v3) ((v4 + (1 : Int32))) m3)))
def fn_BlockDigest_write_r14_r15 (a1 : Int32) (a3 : Int32) (μ : sd_Me) : Option (sd_Me) :=
  if a3 < (0 : Int32) then some μ else if a3 ≤ ((192 : Int32) - (4 : Int32)) then fn_BlockDigest_write_r14_r15_L16 (fun m4 => some m4) 10000 (a1) (a3) ((0 : Int32)) μ else some μ
def fn_BlockDigest_pad_r14_r2_L27 (k53 : Int32 → Int32 → sd_Me → Option (Int32 × sd_Me)) : Nat → Int32 → Int32 → Int32 → sd_Me → Option (Int32 × sd_Me)
  | 0, _, _, _, _ => none
  | n + 1, v2, v3, v4, μ =>
    if v2 ≤ v4 then k53 (v2) (v3) μ else sd_bi (fn_Elements_octetAt_r2 (0 : Int32) v4 μ) (fun x4 m3 => sd_gd (sd_ix v4 192) (sd_let (sd_st m3 15 (Int32.toNatClampNeg v4) x4) (fun m5 => fn_BlockDigest_pad_r14_r2_L27 k53 n (v2) (v3) ((v4 + (1 : Int32))) m5)))
def fn_BlockDigest_pad_r14_r2 (a2 : Int32) (μ : sd_Me) : Option (Int32 × sd_Me) :=
  sd_let ((((((a2 + (9 : Int32)) + (64 : Int32)) - (1 : Int32)) / (64 : Int32)) * (64 : Int32))) (fun x1 => sd_bv (fn_Arrays_fill_r15 (0 : Int32) μ) (fun m2 => fn_BlockDigest_pad_r14_r2_L27 (fun x6 x7 m8 => sd_gd (sd_ix x6 192) (sd_let (sd_st m8 15 (Int32.toNatClampNeg x6) (128 : Int32)) (fun m9 => if (m9.1 14 2) = (0 : Int32) then sd_bv (fn_BlockDigest_write_r14_r15 ((8 : Int32) * x6) (x7 - (8 : Int32)) m9) (fun m10 => some (x7, m10)) else sd_bv (fn_BlockDigest_write_r14_r15 ((8 : Int32) * x6) (x7 - (4 : Int32)) m9) (fun m11 => some (x7, m11))))) 10000 (a2) (x1) ((0 : Int32)) m2))
def fn_Ripemd160_begin_r14 (μ : sd_Me) : Option (sd_Me) :=
  sd_gd (sd_cpOk (0 : Int32) (0 : Int32) (5 : Int32) 5 5) (sd_let (sd_mrow μ 18 (va_cpy tabX0 (μ.1 18) (Int32.toNatClampNeg (0 : Int32)) (Int32.toNatClampNeg (0 : Int32)) (Int32.toNatClampNeg (5 : Int32)))) (fun m1 => some m1))
def fn_BlockDigest_readBlock_r14_L35 (k70 : Int32 → Int32 → Int32 → sd_Me → Option (sd_Me)) : Nat → Int32 → Int32 → Int32 → Int32 → sd_Me → Option (sd_Me)
  | 0, _, _, _, _, _ => none
  | n + 1, v1, v2, v3, v4, μ =>
    if (4 : Int32) ≤ v4 then k70 (v1) (v2) (v3) μ else sd_gd (sd_ix ((v1 + ((4 : Int32) * v2)) + v4) 192) (sd_bi (fn_BlockDigest_shiftOf_r14 v4 μ) (fun x2 m1 => sd_let ((v3 ||| ((μ.1 15 (Int32.toNatClampNeg ((v1 + ((4 : Int32) * v2)) + v4))) <<< (x2 &&& 31)))) (fun x3 => fn_BlockDigest_readBlock_r14_L35 k70 n (v1) (v2) (x3) ((v4 + (1 : Int32))) m1)))
def fn_BlockDigest_readBlock_r14_L24 (k83 : sd_Me → Option (sd_Me)) : Nat → Int32 → Int32 → sd_Me → Option (sd_Me)
  | 0, _, _, _ => none
  | n + 1, v1, v2, μ =>
    if (16 : Int32) ≤ v2 then k83  μ else fn_BlockDigest_readBlock_r14_L35 (fun x4 x5 x6 m7 => sd_gd (sd_ix x5 16) (sd_let (sd_st m7 17 (Int32.toNatClampNeg x5) x6) (fun m8 => fn_BlockDigest_readBlock_r14_L24 k83 n (x4) ((x5 + (1 : Int32))) m8))) 10000 (v1) (v2) ((0 : Int32)) ((0 : Int32)) μ
def fn_BlockDigest_readBlock_r14 (a1 : Int32) (μ : sd_Me) : Option (sd_Me) :=
  if a1 < (0 : Int32) then some μ else if (128 : Int32) < a1 then some μ else if (16 : Int32) ≤ (16 : Int32) then fn_BlockDigest_readBlock_r14_L24 (fun m9 => some m9) 10000 (a1) ((0 : Int32)) μ else some μ
def fn_Ripemd160_blend (a0 : Int32) (a1 : Int32) (a2 : Int32) (a3 : Int32) (μ : sd_Me) : Option (Int32 × sd_Me) :=
  if a0 = (0 : Int32) then some (((a1 ^^^ a2) ^^^ a3), μ) else if a0 = (1 : Int32) then some (((a1 &&& a2) ||| ((a1 ^^^ (-1 : Int32)) &&& a3)), μ) else if a0 = (2 : Int32) then some (((a1 ||| (a2 ^^^ (-1 : Int32))) ^^^ a3), μ) else if a0 = (3 : Int32) then some (((a1 &&& a3) ||| (a2 &&& (a3 ^^^ (-1 : Int32)))), μ) else some ((a1 ^^^ (a2 ||| (a3 ^^^ (-1 : Int32)))), μ)
def fn_Ripemd160_turned (a0 : Int32) (a1 : Int32) (μ : sd_Me) : Option (Int32 × sd_Me) :=
  some (((a0 <<< (a1 &&& 31)) ||| (sd_usr a0 ((32 : Int32) - a1))), μ)
def fn_Ripemd160_step_r19 (a1 : Int32) (a2 : Int32) (a3 : Int32) (μ : sd_Me) : Option (sd_Me) :=
  sd_gd (sd_ix (0 : Int32) 5) (sd_gd (sd_ix (1 : Int32) 5) (sd_gd (sd_ix (2 : Int32) 5) (sd_gd (sd_ix (3 : Int32) 5) (sd_bi (fn_Ripemd160_blend a1 (μ.1 19 (Int32.toNatClampNeg (1 : Int32))) (μ.1 19 (Int32.toNatClampNeg (2 : Int32))) (μ.1 19 (Int32.toNatClampNeg (3 : Int32))) μ) (fun x2 m1 => sd_let ((((μ.1 19 (Int32.toNatClampNeg (0 : Int32))) + x2) + a2)) (fun x3 => sd_bi (fn_Ripemd160_turned x3 a3 m1) (fun x5 m4 => sd_gd (sd_ix (4 : Int32) 5) (sd_let ((x5 + (m4.1 19 (Int32.toNatClampNeg (4 : Int32))))) (fun x6 => sd_gd (sd_ix (4 : Int32) 5) (sd_gd (sd_ix (0 : Int32) 5) (sd_let (sd_st m4 19 (Int32.toNatClampNeg (0 : Int32)) (m4.1 19 (Int32.toNatClampNeg (4 : Int32)))) (fun m7 => sd_gd (sd_ix (3 : Int32) 5) (sd_gd (sd_ix (4 : Int32) 5) (sd_let (sd_st m7 19 (Int32.toNatClampNeg (4 : Int32)) (m7.1 19 (Int32.toNatClampNeg (3 : Int32)))) (fun m8 => sd_gd (sd_ix (2 : Int32) 5) (sd_bi (fn_Ripemd160_turned (m8.1 19 (Int32.toNatClampNeg (2 : Int32))) (10 : Int32) m8) (fun x10 m9 => sd_gd (sd_ix (3 : Int32) 5) (sd_let (sd_st m9 19 (Int32.toNatClampNeg (3 : Int32)) x10) (fun m11 => sd_gd (sd_ix (1 : Int32) 5) (sd_gd (sd_ix (2 : Int32) 5) (sd_let (sd_st m11 19 (Int32.toNatClampNeg (2 : Int32)) (m11.1 19 (Int32.toNatClampNeg (1 : Int32)))) (fun m12 => sd_gd (sd_ix (1 : Int32) 5) (sd_let (sd_st m12 19 (Int32.toNatClampNeg (1 : Int32)) x6) (fun m13 => some m13))))))))))))))))))))))))
def fn_Ripemd160_step_r20 (a1 : Int32) (a2 : Int32) (a3 : Int32) (μ : sd_Me) : Option (sd_Me) :=
  sd_gd (sd_ix (0 : Int32) 5) (sd_gd (sd_ix (1 : Int32) 5) (sd_gd (sd_ix (2 : Int32) 5) (sd_gd (sd_ix (3 : Int32) 5) (sd_bi (fn_Ripemd160_blend a1 (μ.1 20 (Int32.toNatClampNeg (1 : Int32))) (μ.1 20 (Int32.toNatClampNeg (2 : Int32))) (μ.1 20 (Int32.toNatClampNeg (3 : Int32))) μ) (fun x2 m1 => sd_let ((((μ.1 20 (Int32.toNatClampNeg (0 : Int32))) + x2) + a2)) (fun x3 => sd_bi (fn_Ripemd160_turned x3 a3 m1) (fun x5 m4 => sd_gd (sd_ix (4 : Int32) 5) (sd_let ((x5 + (m4.1 20 (Int32.toNatClampNeg (4 : Int32))))) (fun x6 => sd_gd (sd_ix (4 : Int32) 5) (sd_gd (sd_ix (0 : Int32) 5) (sd_let (sd_st m4 20 (Int32.toNatClampNeg (0 : Int32)) (m4.1 20 (Int32.toNatClampNeg (4 : Int32)))) (fun m7 => sd_gd (sd_ix (3 : Int32) 5) (sd_gd (sd_ix (4 : Int32) 5) (sd_let (sd_st m7 20 (Int32.toNatClampNeg (4 : Int32)) (m7.1 20 (Int32.toNatClampNeg (3 : Int32)))) (fun m8 => sd_gd (sd_ix (2 : Int32) 5) (sd_bi (fn_Ripemd160_turned (m8.1 20 (Int32.toNatClampNeg (2 : Int32))) (10 : Int32) m8) (fun x10 m9 => sd_gd (sd_ix (3 : Int32) 5) (sd_let (sd_st m9 20 (Int32.toNatClampNeg (3 : Int32)) x10) (fun m11 => sd_gd (sd_ix (1 : Int32) 5) (sd_gd (sd_ix (2 : Int32) 5) (sd_let (sd_st m11 20 (Int32.toNatClampNeg (2 : Int32)) (m11.1 20 (Int32.toNatClampNeg (1 : Int32)))) (fun m12 => sd_gd (sd_ix (1 : Int32) 5) (sd_let (sd_st m12 20 (Int32.toNatClampNeg (1 : Int32)) x6) (fun m13 => some m13))))))))))))))))))))))))
def fn_Ripemd160_mix_r14_L30 (k107 : sd_Me → Option (sd_Me)) : Nat → Int32 → sd_Me → Option (sd_Me)
  | 0, _, _ => none
  | n + 1, v1, μ =>
    if (80 : Int32) ≤ v1 then k107  μ else sd_let ((v1 / (16 : Int32))) (fun x3 => sd_gd (sd_ix v1 80) (sd_gd (sd_ix (tabX2 (Int32.toNatClampNeg v1)) 16) (sd_gd (sd_ix x3 5) (sd_gd (sd_ix v1 80) (sd_bv (fn_Ripemd160_step_r19 x3 ((μ.1 17 (Int32.toNatClampNeg (tabX2 (Int32.toNatClampNeg v1)))) + (tabX3 (Int32.toNatClampNeg x3))) (tabX4 (Int32.toNatClampNeg v1)) μ) (fun m4 => sd_gd (sd_ix v1 80) (sd_gd (sd_ix (tabX5 (Int32.toNatClampNeg v1)) 16) (sd_gd (sd_ix x3 5) (sd_gd (sd_ix v1 80) (sd_bv (fn_Ripemd160_step_r20 ((4 : Int32) - x3) ((m4.1 17 (Int32.toNatClampNeg (tabX5 (Int32.toNatClampNeg v1)))) + (tabX6 (Int32.toNatClampNeg x3))) (tabX7 (Int32.toNatClampNeg v1)) m4) (fun m5 => fn_Ripemd160_mix_r14_L30 k107 n ((v1 + (1 : Int32))) m5)))))))))))
def fn_Ripemd160_mix_r14 (μ : sd_Me) : Option (sd_Me) :=
  sd_gd (sd_cpOk (0 : Int32) (0 : Int32) (5 : Int32) 5 5) (sd_let (sd_mrow μ 19 (va_cpy (μ.1 18) (μ.1 19) (Int32.toNatClampNeg (0 : Int32)) (Int32.toNatClampNeg (0 : Int32)) (Int32.toNatClampNeg (5 : Int32)))) (fun m1 => sd_gd (sd_cpOk (0 : Int32) (0 : Int32) (5 : Int32) 5 5) (sd_let (sd_mrow m1 20 (va_cpy (m1.1 18) (m1.1 20) (Int32.toNatClampNeg (0 : Int32)) (Int32.toNatClampNeg (0 : Int32)) (Int32.toNatClampNeg (5 : Int32)))) (fun m2 => fn_Ripemd160_mix_r14_L30 (fun m6 => sd_gd (sd_ix (1 : Int32) 5) (sd_gd (sd_ix (2 : Int32) 5) (sd_gd (sd_ix (3 : Int32) 5) (sd_let ((((m6.1 18 (Int32.toNatClampNeg (1 : Int32))) + (m6.1 19 (Int32.toNatClampNeg (2 : Int32)))) + (m6.1 20 (Int32.toNatClampNeg (3 : Int32))))) (fun x7 => sd_gd (sd_ix (2 : Int32) 5) (sd_gd (sd_ix (3 : Int32) 5) (sd_gd (sd_ix (4 : Int32) 5) (sd_gd (sd_ix (1 : Int32) 5) (sd_let (sd_st m6 18 (Int32.toNatClampNeg (1 : Int32)) (((m6.1 18 (Int32.toNatClampNeg (2 : Int32))) + (m6.1 19 (Int32.toNatClampNeg (3 : Int32)))) + (m6.1 20 (Int32.toNatClampNeg (4 : Int32))))) (fun m8 => sd_gd (sd_ix (3 : Int32) 5) (sd_gd (sd_ix (4 : Int32) 5) (sd_gd (sd_ix (0 : Int32) 5) (sd_gd (sd_ix (2 : Int32) 5) (sd_let (sd_st m8 18 (Int32.toNatClampNeg (2 : Int32)) (((m8.1 18 (Int32.toNatClampNeg (3 : Int32))) + (m8.1 19 (Int32.toNatClampNeg (4 : Int32)))) + (m8.1 20 (Int32.toNatClampNeg (0 : Int32))))) (fun m9 => sd_gd (sd_ix (4 : Int32) 5) (sd_gd (sd_ix (0 : Int32) 5) (sd_gd (sd_ix (1 : Int32) 5) (sd_gd (sd_ix (3 : Int32) 5) (sd_let (sd_st m9 18 (Int32.toNatClampNeg (3 : Int32)) (((m9.1 18 (Int32.toNatClampNeg (4 : Int32))) + (m9.1 19 (Int32.toNatClampNeg (0 : Int32)))) + (m9.1 20 (Int32.toNatClampNeg (1 : Int32))))) (fun m10 => sd_gd (sd_ix (0 : Int32) 5) (sd_gd (sd_ix (1 : Int32) 5) (sd_gd (sd_ix (2 : Int32) 5) (sd_gd (sd_ix (4 : Int32) 5) (sd_let (sd_st m10 18 (Int32.toNatClampNeg (4 : Int32)) (((m10.1 18 (Int32.toNatClampNeg (0 : Int32))) + (m10.1 19 (Int32.toNatClampNeg (1 : Int32)))) + (m10.1 20 (Int32.toNatClampNeg (2 : Int32))))) (fun m11 => sd_gd (sd_ix (0 : Int32) 5) (sd_let (sd_st m11 18 (Int32.toNatClampNeg (0 : Int32)) x7) (fun m12 => some m12))))))))))))))))))))))))))) 10000 ((0 : Int32)) m2))))
def fn_BlockDigest_write_r14_r16_L16 (k46 : sd_Me → Option (sd_Me)) : Nat → Int32 → Int32 → Int32 → sd_Me → Option (sd_Me)
  | 0, _, _, _, _ => none
  | n + 1, v1, v3, v4, μ =>
    if (4 : Int32) ≤ v4 then k46  μ else sd_bi (fn_BlockDigest_shiftOf_r14 v4 μ) (fun x2 m1 => sd_gd (sd_ix (v3 + v4) 20) (sd_let (sd_st m1 16 (Int32.toNatClampNeg (v3 + v4)) ((sd_usr v1 x2) &&& (255 : Int32))) (fun m3 => fn_BlockDigest_write_r14_r16_L16 k46 n (v1) (v3) ((v4 + (1 : Int32))) m3)))
def fn_BlockDigest_write_r14_r16 (a1 : Int32) (a3 : Int32) (μ : sd_Me) : Option (sd_Me) :=
  if a3 < (0 : Int32) then some μ else if a3 ≤ ((20 : Int32) - (4 : Int32)) then fn_BlockDigest_write_r14_r16_L16 (fun m4 => some m4) 10000 (a1) (a3) ((0 : Int32)) μ else some μ
def fn_Elements_push_r2_r16 (a2 : Int32) (a3 : Int32) (μ : sd_Me) : Option (sd_Me) :=
  if a2 < (0 : Int32) then some μ else if a3 < (0 : Int32) then some μ else if (120 : Int32) < a3 then some μ else if ((20 : Int32) - a2) < a3 then some μ else if ((μ.1 2 4) + (μ.1 2 3)) < (64 : Int32) then sd_gd (sd_ix (μ.1 2 4) 64) (sd_let ((μ.1 5 (Int32.toNatClampNeg (μ.1 2 4)))) (fun x1 => sd_gd (sd_cpOk a2 (x1 * (120 : Int32)) a3 20 7680) (sd_let (sd_mrow μ 3 (va_cpy (μ.1 16) (μ.1 3) (Int32.toNatClampNeg a2) (Int32.toNatClampNeg (x1 * (120 : Int32))) (Int32.toNatClampNeg a3))) (fun m2 => sd_gd (sd_ix x1 64) (sd_let (sd_st m2 4 (Int32.toNatClampNeg x1) a3) (fun m3 => sd_let (sd_st m3 2 4 ((m3.1 2 4) + (1 : Int32))) (fun m4 => some m4))))))) else some μ
def fn_BlockDigest_replaceTop_r14_r2_L31 (k53 : sd_Me → Option (sd_Me)) : Nat → Int32 → Int32 → sd_Me → Option (sd_Me)
  | 0, _, _, _ => none
  | n + 1, v3, v4, μ =>
    if v3 ≤ v4 then k53  μ else sd_bv (fn_BlockDigest_readBlock_r14 v4 μ) (fun m6 => sd_bv (fn_Ripemd160_mix_r14 m6) (fun m7 => fn_BlockDigest_replaceTop_r14_r2_L31 k53 n (v3) ((v4 + (64 : Int32))) m7))
def fn_BlockDigest_replaceTop_r14_r2_L56 (k91 : sd_Me → Option (sd_Me)) : Nat → Int32 → sd_Me → Option (sd_Me)
  | 0, _, _ => none
  | n + 1, v4, μ =>
    if (5 : Int32) ≤ v4 then k91  μ else sd_gd (sd_ix v4 5) (sd_bv (fn_BlockDigest_write_r14_r16 (μ.1 18 (Int32.toNatClampNeg v4)) ((4 : Int32) * v4) μ) (fun m9 => fn_BlockDigest_replaceTop_r14_r2_L56 k91 n ((v4 + (1 : Int32))) m9))
def fn_BlockDigest_replaceTop_r14_r2 (μ : sd_Me) : Option (sd_Me) :=
  sd_bi (fn_Elements_lengthAt_r2 (0 : Int32) μ) (fun x2 m1 => if x2 < (0 : Int32) then some m1 else if x2 ≤ (120 : Int32) then sd_bi (fn_BlockDigest_pad_r14_r2 x2 m1) (fun x4 m3 => sd_bv (fn_Ripemd160_begin_r14 m3) (fun m5 => fn_BlockDigest_replaceTop_r14_r2_L31 (fun m8 => fn_BlockDigest_replaceTop_r14_r2_L56 (fun m10 => sd_bv (fn_Elements_drop_r2 (1 : Int32) m10) (fun m11 => sd_bv (fn_Elements_push_r2_r16 (0 : Int32) (20 : Int32) m11) (fun m12 => some m12))) 10000 ((0 : Int32)) m8) 10000 (x4) ((0 : Int32)) m5)) else some m1)
def fn_Arrays_fill_r10_L5 (k20 : sd_Me → Option (sd_Me)) : Nat → Int32 → Int32 → Int32 → sd_Me → Option (sd_Me)
  | 0, _, _, _, _ => none
  | n + 1, v1, v2, v3, μ =>
    if v3 ≤ v2 then k20  μ else sd_gd (sd_ix v2 192) (sd_let (sd_st μ 10 (Int32.toNatClampNeg v2) v1) (fun m1 => fn_Arrays_fill_r10_L5 k20 n (v1) ((v2 + (1 : Int32))) (v3) m1))
def fn_Arrays_fill_r10 (a1 : Int32) (μ : sd_Me) : Option (sd_Me) :=
  fn_Arrays_fill_r10_L5 (fun m2 => some m2) 10000 (a1) ((0 : Int32)) ((192 : Int32)) μ
def fn_BlockDigest_shiftOf_r9 (a1 : Int32) (μ : sd_Me) : Option (Int32 × sd_Me) :=
  if (μ.1 9 2) = (0 : Int32) then some (((8 : Int32) * a1), μ) else some (((24 : Int32) - ((8 : Int32) * a1)), μ)
def fn_BlockDigest_write_r9_r10_L16 (k46 : sd_Me → Option (sd_Me)) : Nat → Int32 → Int32 → Int32 → sd_Me → Option (sd_Me)
  | 0, _, _, _, _ => none
  | n + 1, v1, v3, v4, μ =>
    if (4 : Int32) ≤ v4 then k46  μ else sd_bi (fn_BlockDigest_shiftOf_r9 v4 μ) (fun x2 m1 => sd_gd (sd_ix (v3 + v4) 192) (sd_let (sd_st m1 10 (Int32.toNatClampNeg (v3 + v4)) ((sd_usr v1 x2) &&& (255 : Int32))) (fun m3 => fn_BlockDigest_write_r9_r10_L16 k46 n (v1) (v3) ((v4 + (1 : Int32))) m3)))
def fn_BlockDigest_write_r9_r10 (a1 : Int32) (a3 : Int32) (μ : sd_Me) : Option (sd_Me) :=
  if a3 < (0 : Int32) then some μ else if a3 ≤ ((192 : Int32) - (4 : Int32)) then fn_BlockDigest_write_r9_r10_L16 (fun m4 => some m4) 10000 (a1) (a3) ((0 : Int32)) μ else some μ
def fn_BlockDigest_pad_r9_r2_L27 (k53 : Int32 → Int32 → sd_Me → Option (Int32 × sd_Me)) : Nat → Int32 → Int32 → Int32 → sd_Me → Option (Int32 × sd_Me)
  | 0, _, _, _, _ => none
  | n + 1, v2, v3, v4, μ =>
    if v2 ≤ v4 then k53 (v2) (v3) μ else sd_bi (fn_Elements_octetAt_r2 (0 : Int32) v4 μ) (fun x4 m3 => sd_gd (sd_ix v4 192) (sd_let (sd_st m3 10 (Int32.toNatClampNeg v4) x4) (fun m5 => fn_BlockDigest_pad_r9_r2_L27 k53 n (v2) (v3) ((v4 + (1 : Int32))) m5)))
def fn_BlockDigest_pad_r9_r2 (a2 : Int32) (μ : sd_Me) : Option (Int32 × sd_Me) :=
  sd_let ((((((a2 + (9 : Int32)) + (64 : Int32)) - (1 : Int32)) / (64 : Int32)) * (64 : Int32))) (fun x1 => sd_bv (fn_Arrays_fill_r10 (0 : Int32) μ) (fun m2 => fn_BlockDigest_pad_r9_r2_L27 (fun x6 x7 m8 => sd_gd (sd_ix x6 192) (sd_let (sd_st m8 10 (Int32.toNatClampNeg x6) (128 : Int32)) (fun m9 => if (m9.1 9 2) = (0 : Int32) then sd_bv (fn_BlockDigest_write_r9_r10 ((8 : Int32) * x6) (x7 - (8 : Int32)) m9) (fun m10 => some (x7, m10)) else sd_bv (fn_BlockDigest_write_r9_r10 ((8 : Int32) * x6) (x7 - (4 : Int32)) m9) (fun m11 => some (x7, m11))))) 10000 (a2) (x1) ((0 : Int32)) m2))
def fn_Sha256_begin_r9 (μ : sd_Me) : Option (sd_Me) :=
  sd_gd (sd_cpOk (0 : Int32) (0 : Int32) (8 : Int32) 8 8) (sd_let (sd_mrow μ 13 (va_cpy tabX1 (μ.1 13) (Int32.toNatClampNeg (0 : Int32)) (Int32.toNatClampNeg (0 : Int32)) (Int32.toNatClampNeg (8 : Int32)))) (fun m1 => some m1))
def fn_BlockDigest_readBlock_r9_L35 (k70 : Int32 → Int32 → Int32 → sd_Me → Option (sd_Me)) : Nat → Int32 → Int32 → Int32 → Int32 → sd_Me → Option (sd_Me)
  | 0, _, _, _, _, _ => none
  | n + 1, v1, v2, v3, v4, μ =>
    if (4 : Int32) ≤ v4 then k70 (v1) (v2) (v3) μ else sd_gd (sd_ix ((v1 + ((4 : Int32) * v2)) + v4) 192) (sd_bi (fn_BlockDigest_shiftOf_r9 v4 μ) (fun x2 m1 => sd_let ((v3 ||| ((μ.1 10 (Int32.toNatClampNeg ((v1 + ((4 : Int32) * v2)) + v4))) <<< (x2 &&& 31)))) (fun x3 => fn_BlockDigest_readBlock_r9_L35 k70 n (v1) (v2) (x3) ((v4 + (1 : Int32))) m1)))
def fn_BlockDigest_readBlock_r9_L24 (k83 : sd_Me → Option (sd_Me)) : Nat → Int32 → Int32 → sd_Me → Option (sd_Me)
  | 0, _, _, _ => none
  | n + 1, v1, v2, μ =>
    if (16 : Int32) ≤ v2 then k83  μ else fn_BlockDigest_readBlock_r9_L35 (fun x4 x5 x6 m7 => sd_gd (sd_ix x5 64) (sd_let (sd_st m7 12 (Int32.toNatClampNeg x5) x6) (fun m8 => fn_BlockDigest_readBlock_r9_L24 k83 n (x4) ((x5 + (1 : Int32))) m8))) 10000 (v1) (v2) ((0 : Int32)) ((0 : Int32)) μ
def fn_BlockDigest_readBlock_r9 (a1 : Int32) (μ : sd_Me) : Option (sd_Me) :=
  if a1 < (0 : Int32) then some μ else if (128 : Int32) < a1 then some μ else if (16 : Int32) ≤ (64 : Int32) then fn_BlockDigest_readBlock_r9_L24 (fun m9 => some m9) 10000 (a1) ((0 : Int32)) μ else some μ
def fn_Sha256_turned (a0 : Int32) (a1 : Int32) (μ : sd_Me) : Option (Int32 × sd_Me) :=
  some (((sd_usr a0 a1) ||| (a0 <<< (((32 : Int32) - a1) &&& 31))), μ)
def fn_Sha256_spreadWords_r9_L3 (k104 : sd_Me → Option (sd_Me)) : Nat → Int32 → sd_Me → Option (sd_Me)
  | 0, _, _ => none
  | n + 1, v1, μ =>
    if (64 : Int32) ≤ v1 then k104  μ else sd_gd (sd_ix (v1 - (15 : Int32)) 64) (sd_let ((μ.1 12 (Int32.toNatClampNeg (v1 - (15 : Int32))))) (fun x1 => sd_gd (sd_ix (v1 - (2 : Int32)) 64) (sd_let ((μ.1 12 (Int32.toNatClampNeg (v1 - (2 : Int32))))) (fun x2 => sd_bi (fn_Sha256_turned x1 (7 : Int32) μ) (fun x4 m3 => sd_bi (fn_Sha256_turned x1 (18 : Int32) m3) (fun x6 m5 => sd_let (((x4 ^^^ x6) ^^^ (sd_usr x1 (3 : Int32)))) (fun x7 => sd_bi (fn_Sha256_turned x2 (17 : Int32) m5) (fun x9 m8 => sd_bi (fn_Sha256_turned x2 (19 : Int32) m8) (fun x11 m10 => sd_let (((x9 ^^^ x11) ^^^ (sd_usr x2 (10 : Int32)))) (fun x12 => sd_gd (sd_ix (v1 - (7 : Int32)) 64) (sd_gd (sd_ix (v1 - (16 : Int32)) 64) (sd_gd (sd_ix v1 64) (sd_let (sd_st m10 12 (Int32.toNatClampNeg v1) (((x12 + (m10.1 12 (Int32.toNatClampNeg (v1 - (7 : Int32))))) + x7) + (m10.1 12 (Int32.toNatClampNeg (v1 - (16 : Int32)))))) (fun m13 => fn_Sha256_spreadWords_r9_L3 k104 n ((v1 + (1 : Int32))) m13))))))))))))))
def fn_Sha256_spreadWords_r9 (μ : sd_Me) : Option (sd_Me) :=
  fn_Sha256_spreadWords_r9_L3 (fun m14 => some m14) 10000 ((16 : Int32)) μ
def fn_Sha256_mix_r9_L70 (k213 : Int32 → Int32 → Int32 → Int32 → Int32 → Int32 → Int32 → Int32 → sd_Me → Option (sd_Me)) : Nat → Int32 → Int32 → Int32 → Int32 → Int32 → Int32 → Int32 → Int32 → Int32 → sd_Me → Option (sd_Me)
  | 0, _, _, _, _, _, _, _, _, _, _ => none
  | n + 1, v1, v2, v3, v4, v5, v6, v7, v8, v9, μ =>
    if (64 : Int32) ≤ v9 then k213 (v1) (v2) (v3) (v4) (v5) (v6) (v7) (v8) μ else sd_bi (fn_Sha256_turned v5 (6 : Int32) μ) (fun x11 m10 => sd_bi (fn_Sha256_turned v5 (11 : Int32) m10) (fun x13 m12 => sd_bi (fn_Sha256_turned v5 (25 : Int32) m12) (fun x15 m14 => sd_let (((x11 ^^^ x13) ^^^ x15)) (fun x16 => sd_gd (sd_ix v9 64) (sd_gd (sd_ix v9 64) (sd_let (((((v8 + x16) + ((v5 &&& v6) ^^^ ((v5 ^^^ (-1 : Int32)) &&& v7))) + (tabX8 (Int32.toNatClampNeg v9))) + (m14.1 12 (Int32.toNatClampNeg v9)))) (fun x17 => sd_bi (fn_Sha256_turned v1 (2 : Int32) m14) (fun x19 m18 => sd_bi (fn_Sha256_turned v1 (13 : Int32) m18) (fun x21 m20 => sd_bi (fn_Sha256_turned v1 (22 : Int32) m20) (fun x23 m22 => sd_let (((x19 ^^^ x21) ^^^ x23)) (fun x24 => sd_let ((x24 + (((v1 &&& v2) ^^^ (v1 &&& v3)) ^^^ (v2 &&& v3)))) (fun x25 => sd_let ((v4 + x17)) (fun x26 => sd_let ((x17 + x25)) (fun x27 => fn_Sha256_mix_r9_L70 k213 n (x27) (v1) (v2) (v3) (x26) (v5) (v6) (v7) ((v9 + (1 : Int32))) m22))))))))))))))
def fn_Sha256_mix_r9 (μ : sd_Me) : Option (sd_Me) :=
  sd_bv (fn_Sha256_spreadWords_r9 μ) (fun m1 => sd_gd (sd_ix (0 : Int32) 8) (sd_let ((m1.1 13 (Int32.toNatClampNeg (0 : Int32)))) (fun x2 => sd_gd (sd_ix (1 : Int32) 8) (sd_let ((m1.1 13 (Int32.toNatClampNeg (1 : Int32)))) (fun x3 => sd_gd (sd_ix (2 : Int32) 8) (sd_let ((m1.1 13 (Int32.toNatClampNeg (2 : Int32)))) (fun x4 => sd_gd (sd_ix (3 : Int32) 8) (sd_let ((m1.1 13 (Int32.toNatClampNeg (3 : Int32)))) (fun x5 => sd_gd (sd_ix (4 : Int32) 8) (sd_let ((m1.1 13 (Int32.toNatClampNeg (4 : Int32)))) (fun x6 => sd_gd (sd_ix (5 : Int32) 8) (sd_let ((m1.1 13 (Int32.toNatClampNeg (5 : Int32)))) (fun x7 => sd_gd (sd_ix (6 : Int32) 8) (sd_let ((m1.1 13 (Int32.toNatClampNeg (6 : Int32)))) (fun x8 => sd_gd (sd_ix (7 : Int32) 8) (sd_let ((m1.1 13 (Int32.toNatClampNeg (7 : Int32)))) (fun x9 => fn_Sha256_mix_r9_L70 (fun x28 x29 x30 x31 x32 x33 x34 x35 m36 => sd_gd (sd_ix (0 : Int32) 8) (sd_gd (sd_ix (0 : Int32) 8) (sd_let (sd_st m36 13 (Int32.toNatClampNeg (0 : Int32)) ((m36.1 13 (Int32.toNatClampNeg (0 : Int32))) + x28)) (fun m37 => sd_gd (sd_ix (1 : Int32) 8) (sd_gd (sd_ix (1 : Int32) 8) (sd_let (sd_st m37 13 (Int32.toNatClampNeg (1 : Int32)) ((m37.1 13 (Int32.toNatClampNeg (1 : Int32))) + x29)) (fun m38 => sd_gd (sd_ix (2 : Int32) 8) (sd_gd (sd_ix (2 : Int32) 8) (sd_let (sd_st m38 13 (Int32.toNatClampNeg (2 : Int32)) ((m38.1 13 (Int32.toNatClampNeg (2 : Int32))) + x30)) (fun m39 => sd_gd (sd_ix (3 : Int32) 8) (sd_gd (sd_ix (3 : Int32) 8) (sd_let (sd_st m39 13 (Int32.toNatClampNeg (3 : Int32)) ((m39.1 13 (Int32.toNatClampNeg (3 : Int32))) + x31)) (fun m40 => sd_gd (sd_ix (4 : Int32) 8) (sd_gd (sd_ix (4 : Int32) 8) (sd_let (sd_st m40 13 (Int32.toNatClampNeg (4 : Int32)) ((m40.1 13 (Int32.toNatClampNeg (4 : Int32))) + x32)) (fun m41 => sd_gd (sd_ix (5 : Int32) 8) (sd_gd (sd_ix (5 : Int32) 8) (sd_let (sd_st m41 13 (Int32.toNatClampNeg (5 : Int32)) ((m41.1 13 (Int32.toNatClampNeg (5 : Int32))) + x33)) (fun m42 => sd_gd (sd_ix (6 : Int32) 8) (sd_gd (sd_ix (6 : Int32) 8) (sd_let (sd_st m42 13 (Int32.toNatClampNeg (6 : Int32)) ((m42.1 13 (Int32.toNatClampNeg (6 : Int32))) + x34)) (fun m43 => sd_gd (sd_ix (7 : Int32) 8) (sd_gd (sd_ix (7 : Int32) 8) (sd_let (sd_st m43 13 (Int32.toNatClampNeg (7 : Int32)) ((m43.1 13 (Int32.toNatClampNeg (7 : Int32))) + x35)) (fun m44 => some m44))))))))))))))))))))))))) 10000 (x2) (x3) (x4) (x5) (x6) (x7) (x8) (x9) ((0 : Int32)) m1)))))))))))))))))
def fn_BlockDigest_write_r9_r11_L16 (k46 : sd_Me → Option (sd_Me)) : Nat → Int32 → Int32 → Int32 → sd_Me → Option (sd_Me)
  | 0, _, _, _, _ => none
  | n + 1, v1, v3, v4, μ =>
    if (4 : Int32) ≤ v4 then k46  μ else sd_bi (fn_BlockDigest_shiftOf_r9 v4 μ) (fun x2 m1 => sd_gd (sd_ix (v3 + v4) 32) (sd_let (sd_st m1 11 (Int32.toNatClampNeg (v3 + v4)) ((sd_usr v1 x2) &&& (255 : Int32))) (fun m3 => fn_BlockDigest_write_r9_r11_L16 k46 n (v1) (v3) ((v4 + (1 : Int32))) m3)))
def fn_BlockDigest_write_r9_r11 (a1 : Int32) (a3 : Int32) (μ : sd_Me) : Option (sd_Me) :=
  if a3 < (0 : Int32) then some μ else if a3 ≤ ((32 : Int32) - (4 : Int32)) then fn_BlockDigest_write_r9_r11_L16 (fun m4 => some m4) 10000 (a1) (a3) ((0 : Int32)) μ else some μ
def fn_Elements_push_r2_r11 (a2 : Int32) (a3 : Int32) (μ : sd_Me) : Option (sd_Me) :=
  if a2 < (0 : Int32) then some μ else if a3 < (0 : Int32) then some μ else if (120 : Int32) < a3 then some μ else if ((32 : Int32) - a2) < a3 then some μ else if ((μ.1 2 4) + (μ.1 2 3)) < (64 : Int32) then sd_gd (sd_ix (μ.1 2 4) 64) (sd_let ((μ.1 5 (Int32.toNatClampNeg (μ.1 2 4)))) (fun x1 => sd_gd (sd_cpOk a2 (x1 * (120 : Int32)) a3 32 7680) (sd_let (sd_mrow μ 3 (va_cpy (μ.1 11) (μ.1 3) (Int32.toNatClampNeg a2) (Int32.toNatClampNeg (x1 * (120 : Int32))) (Int32.toNatClampNeg a3))) (fun m2 => sd_gd (sd_ix x1 64) (sd_let (sd_st m2 4 (Int32.toNatClampNeg x1) a3) (fun m3 => sd_let (sd_st m3 2 4 ((m3.1 2 4) + (1 : Int32))) (fun m4 => some m4))))))) else some μ
def fn_BlockDigest_replaceTop_r9_r2_L31 (k53 : sd_Me → Option (sd_Me)) : Nat → Int32 → Int32 → sd_Me → Option (sd_Me)
  | 0, _, _, _ => none
  | n + 1, v3, v4, μ =>
    if v3 ≤ v4 then k53  μ else sd_bv (fn_BlockDigest_readBlock_r9 v4 μ) (fun m6 => sd_bv (fn_Sha256_mix_r9 m6) (fun m7 => fn_BlockDigest_replaceTop_r9_r2_L31 k53 n (v3) ((v4 + (64 : Int32))) m7))
def fn_BlockDigest_replaceTop_r9_r2_L56 (k91 : sd_Me → Option (sd_Me)) : Nat → Int32 → sd_Me → Option (sd_Me)
  | 0, _, _ => none
  | n + 1, v4, μ =>
    if (8 : Int32) ≤ v4 then k91  μ else sd_gd (sd_ix v4 8) (sd_bv (fn_BlockDigest_write_r9_r11 (μ.1 13 (Int32.toNatClampNeg v4)) ((4 : Int32) * v4) μ) (fun m9 => fn_BlockDigest_replaceTop_r9_r2_L56 k91 n ((v4 + (1 : Int32))) m9))
def fn_BlockDigest_replaceTop_r9_r2 (μ : sd_Me) : Option (sd_Me) :=
  sd_bi (fn_Elements_lengthAt_r2 (0 : Int32) μ) (fun x2 m1 => if x2 < (0 : Int32) then some m1 else if x2 ≤ (120 : Int32) then sd_bi (fn_BlockDigest_pad_r9_r2 x2 m1) (fun x4 m3 => sd_bv (fn_Sha256_begin_r9 m3) (fun m5 => fn_BlockDigest_replaceTop_r9_r2_L31 (fun m8 => fn_BlockDigest_replaceTop_r9_r2_L56 (fun m10 => sd_bv (fn_Elements_drop_r2 (1 : Int32) m10) (fun m11 => sd_bv (fn_Elements_push_r2_r11 (0 : Int32) (32 : Int32) m11) (fun m12 => some m12))) 10000 ((0 : Int32)) m8) 10000 (x4) ((0 : Int32)) m5)) else some m1)
def fn_Desk_performDigest_r0_J58 (v1 : Int32) (μ : sd_Me) : Option (Int32 × sd_Me) :=
  if v1 = (166 : Int32) then sd_bv (fn_BlockDigest_replaceTop_r14_r2 μ) (fun m1 => some ((0 : Int32), m1)) else if v1 = (169 : Int32) then sd_bv (fn_BlockDigest_replaceTop_r14_r2 μ) (fun m2 => some ((0 : Int32), m2)) else some ((0 : Int32), μ)
def fn_Desk_performDigest_r0_J40 (v1 : Int32) (μ : sd_Me) : Option (Int32 × sd_Me) :=
  if v1 = (170 : Int32) then sd_bv (fn_BlockDigest_replaceTop_r9_r2 μ) (fun m3 => fn_Desk_performDigest_r0_J58 (v1) m3) else fn_Desk_performDigest_r0_J58 (v1) μ
def fn_Desk_performDigest_r0 (a1 : Int32) (μ : sd_Me) : Option (Int32 × sd_Me) :=
  if a1 = (167 : Int32) then some ((4 : Int32), μ) else if (1 : Int32) ≤ (μ.1 2 4) then if a1 = (166 : Int32) then fn_Desk_performDigest_r0_J40 (a1) μ else sd_bv (fn_BlockDigest_replaceTop_r9_r2 μ) (fun m4 => fn_Desk_performDigest_r0_J40 (a1) m4) else some ((5 : Int32), μ)
def fn_Numbers_operandsOf_J30 (v0 : Int32) (μ : sd_Me) : Option (Int32 × sd_Me) :=
  if v0 = (147 : Int32) then some ((2 : Int32), μ) else if v0 = (148 : Int32) then some ((2 : Int32), μ) else if v0 < (154 : Int32) then if v0 = (165 : Int32) then some ((3 : Int32), μ) else some ((0 : Int32), μ) else if (164 : Int32) < v0 then if v0 = (165 : Int32) then some ((3 : Int32), μ) else some ((0 : Int32), μ) else some ((2 : Int32), μ)
def fn_Numbers_operandsOf (a0 : Int32) (μ : sd_Me) : Option (Int32 × sd_Me) :=
  if a0 = (139 : Int32) then some ((1 : Int32), μ) else if a0 = (140 : Int32) then some ((1 : Int32), μ) else if a0 < (143 : Int32) then fn_Numbers_operandsOf_J30 (a0) μ else if (146 : Int32) < a0 then fn_Numbers_operandsOf_J30 (a0) μ else some ((1 : Int32), μ)
def fn_Numbers_compare (a0 : Int32) (a1 : Int64) (a3 : Int64) (μ : sd_Me) : Option (Int32 × sd_Me) :=
  if a0 = (154 : Int32) then if (lg_cmp a1 (0 : Int64)) = (0 : Int32) then some ((0 : Int32), μ) else if (lg_cmp a3 (0 : Int64)) = (0 : Int32) then some ((0 : Int32), μ) else some ((1 : Int32), μ) else if a0 = (155 : Int32) then if (lg_cmp a1 (0 : Int64)) = (0 : Int32) then if (lg_cmp a3 (0 : Int64)) = (0 : Int32) then some ((0 : Int32), μ) else some ((1 : Int32), μ) else some ((1 : Int32), μ) else if a0 = (156 : Int32) then if (lg_cmp a1 a3) = (0 : Int32) then some ((1 : Int32), μ) else some ((0 : Int32), μ) else if a0 = (157 : Int32) then if (lg_cmp a1 a3) = (0 : Int32) then some ((1 : Int32), μ) else some ((0 : Int32), μ) else if a0 = (158 : Int32) then if (lg_cmp a1 a3) = (0 : Int32) then some ((0 : Int32), μ) else some ((1 : Int32), μ) else if a0 = (159 : Int32) then if (0 : Int32) ≤ (lg_cmp a1 a3) then some ((0 : Int32), μ) else some ((1 : Int32), μ) else if a0 = (160 : Int32) then if (lg_cmp a1 a3) ≤ (0 : Int32) then some ((0 : Int32), μ) else some ((1 : Int32), μ) else if a0 = (161 : Int32) then if (0 : Int32) < (lg_cmp a1 a3) then some ((0 : Int32), μ) else some ((1 : Int32), μ) else if (lg_cmp a1 a3) < (0 : Int32) then some ((0 : Int32), μ) else some ((1 : Int32), μ)
def fn_Numbers_ofOne (a0 : Int32) (a1 : Int64) (μ : sd_Me) : Option (Int64 × sd_Me) :=
  if a0 = (139 : Int32) then some ((a1 + (1 : Int64)), μ) else if a0 = (140 : Int32) then some ((a1 - (1 : Int64)), μ) else if a0 = (143 : Int32) then some ((-a1), μ) else if a0 = (144 : Int32) then if (0 : Int32) ≤ (lg_cmp a1 (0 : Int64)) then some (a1, μ) else some ((-a1), μ) else if a0 = (145 : Int32) then if (lg_cmp a1 (0 : Int64)) = (0 : Int32) then some ((1 : Int64), μ) else some ((0 : Int64), μ) else if (lg_cmp a1 (0 : Int64)) = (0 : Int32) then some ((0 : Int64), μ) else some ((1 : Int64), μ)
def fn_Numbers_resultOf_r2_J71 (v1 : Int32) (v3 : Int64) (v5 : Int64) (μ : sd_Me) : Option (Int64 × sd_Me) :=
  if v1 = (147 : Int32) then some ((v5 + v3), μ) else some ((v5 - v3), μ)
def fn_Numbers_resultOf_r2_J104 (v1 : Int32) (v3 : Int64) (v5 : Int64) (μ : sd_Me) : Option (Int64 × sd_Me) :=
  if v1 = (163 : Int32) then some ((if v3 < v5 then v3 else v5), μ) else some ((if v3 < v5 then v5 else v3), μ)
def fn_Numbers_resultOf_r2 (a1 : Int32) (a2 : Int32) (μ : sd_Me) : Option (Int64 × sd_Me) :=
  sd_bl (fn_Elements_numberAt_r2 (0 : Int32) μ) (fun x2 m1 => if a2 = (1 : Int32) then sd_bl (fn_Numbers_ofOne a1 x2 m1) (fun x10 m9 => some (x10, m9)) else sd_bl (fn_Elements_numberAt_r2 (1 : Int32) m1) (fun x4 m3 => if a2 = (3 : Int32) then sd_bl (fn_Elements_numberAt_r2 (2 : Int32) m3) (fun x8 m7 => if (0 : Int32) < (lg_cmp x4 x8) then some ((0 : Int64), m7) else if (0 : Int32) ≤ (lg_cmp x8 x2) then some ((0 : Int64), m7) else some ((1 : Int64), m7)) else if a1 = (147 : Int32) then fn_Numbers_resultOf_r2_J71 (a1) (x2) (x4) m3 else if a1 = (148 : Int32) then fn_Numbers_resultOf_r2_J71 (a1) (x2) (x4) m3 else if a1 = (163 : Int32) then fn_Numbers_resultOf_r2_J104 (a1) (x2) (x4) m3 else if a1 = (164 : Int32) then fn_Numbers_resultOf_r2_J104 (a1) (x2) (x4) m3 else sd_bi (fn_Numbers_compare a1 x4 x2 m3) (fun x6 m5 => if x6 = (0 : Int32) then some ((0 : Int64), m5) else some ((1 : Int64), m5))))
def fn_Numbers_perform_r2_L13 (k39 : Int32 → Int32 → sd_Me → Option (Int32 × sd_Me)) : Nat → Int32 → Int32 → Int32 → sd_Me → Option (Int32 × sd_Me)
  | 0, _, _, _, _ => none
  | n + 1, v1, v2, v3, μ =>
    if v2 ≤ v3 then k39 (v1) (v2) μ else sd_bi (fn_Elements_faultOfNumber_r2 v3 μ) (fun x4 m3 => if x4 = (0 : Int32) then fn_Numbers_perform_r2_L13 k39 n (v1) (v2) ((v3 + (1 : Int32))) m3 else some (x4, m3))
def fn_Numbers_perform_r2 (a1 : Int32) (μ : sd_Me) : Option (Int32 × sd_Me) :=
  sd_bi (fn_Numbers_operandsOf a1 μ) (fun x2 m1 => if x2 = (0 : Int32) then some ((4 : Int32), m1) else fn_Numbers_perform_r2_L13 (fun x5 x6 m7 => sd_bl (fn_Numbers_resultOf_r2 x5 x6 m7) (fun x9 m8 => sd_bv (fn_Elements_drop_r2 x6 m8) (fun m10 => sd_bv (fn_Elements_pushNumber_r2 x9 m10) (fun m11 => if x5 = (157 : Int32) then sd_bi (fn_Elements_takeTrue_r2 m11) (fun x13 m12 => some (x13, m12)) else some ((0 : Int32), m11))))) 10000 (a1) (x2) ((0 : Int32)) m1)
def fn_Elements_push_r2_r3 (a2 : Int32) (a3 : Int32) (μ : sd_Me) : Option (sd_Me) :=
  if a2 < (0 : Int32) then some μ else if a3 < (0 : Int32) then some μ else if (120 : Int32) < a3 then some μ else if ((7680 : Int32) - a2) < a3 then some μ else if ((μ.1 2 4) + (μ.1 2 3)) < (64 : Int32) then sd_gd (sd_ix (μ.1 2 4) 64) (sd_let ((μ.1 5 (Int32.toNatClampNeg (μ.1 2 4)))) (fun x1 => sd_gd (sd_cpOk a2 (x1 * (120 : Int32)) a3 7680 7680) (sd_let (sd_mrow μ 3 (va_cpy (μ.1 3) (μ.1 3) (Int32.toNatClampNeg a2) (Int32.toNatClampNeg (x1 * (120 : Int32))) (Int32.toNatClampNeg a3))) (fun m2 => sd_gd (sd_ix x1 64) (sd_let (sd_st m2 4 (Int32.toNatClampNeg x1) a3) (fun m3 => sd_let (sd_st m3 2 4 ((m3.1 2 4) + (1 : Int32))) (fun m4 => some m4))))))) else some μ
def fn_Elements_pushCopy_r2 (a1 : Int32) (μ : sd_Me) : Option (sd_Me) :=
  sd_bi (fn_Elements_lengthAt_r2 a1 μ) (fun x2 m1 => if x2 < (0 : Int32) then some m1 else sd_gd (sd_ix (((m1.1 2 4) - (1 : Int32)) - a1) 64) (sd_bv (fn_Elements_push_r2_r3 ((m1.1 5 (Int32.toNatClampNeg (((m1.1 2 4) - (1 : Int32)) - a1))) * (120 : Int32)) x2 m1) (fun m3 => some m3)))
def fn_Elements_lift_r2_L34 (k62 : Int32 → Int32 → sd_Me → Option (sd_Me)) : Nat → Int32 → Int32 → Int32 → sd_Me → Option (sd_Me)
  | 0, _, _, _, _ => none
  | n + 1, v2, v3, v4, μ =>
    if v2 ≤ v4 then k62 (v2) (v3) μ else sd_gd (sd_ix (v4 + (1 : Int32)) 64) (sd_gd (sd_ix v4 64) (sd_let (sd_st μ 5 (Int32.toNatClampNeg v4) (μ.1 5 (Int32.toNatClampNeg (v4 + (1 : Int32))))) (fun m4 => fn_Elements_lift_r2_L34 k62 n (v2) (v3) ((v4 + (1 : Int32))) m4)))
def fn_Elements_lift_r2 (a1 : Int32) (μ : sd_Me) : Option (sd_Me) :=
  if a1 < (0 : Int32) then some μ else if a1 < (μ.1 2 4) then sd_let (((μ.1 2 4) - (1 : Int32))) (fun x1 => sd_gd (sd_ix (x1 - a1) 64) (sd_let ((μ.1 5 (Int32.toNatClampNeg (x1 - a1)))) (fun x2 => sd_let ((x1 - a1)) (fun x3 => fn_Elements_lift_r2_L34 (fun x5 x6 m7 => sd_gd (sd_ix x5 64) (sd_let (sd_st m7 5 (Int32.toNatClampNeg x5) x6) (fun m8 => some m8))) 10000 (x1) (x2) (x3) μ)))) else some μ
def fn_Moves_pick_r2 (a1 : Int32) (μ : sd_Me) : Option (Int32 × sd_Me) :=
  sd_bi (fn_Elements_faultOfNumber_r2 (0 : Int32) μ) (fun x2 m1 => if x2 = (0 : Int32) then sd_bl (fn_Elements_numberAt_r2 (0 : Int32) m1) (fun x4 m3 => if (lg_cmp x4 (0 : Int64)) < (0 : Int32) then some ((7 : Int32), m3) else if (lg_cmp x4 (Int32.toInt64 ((m3.1 2 4) - (1 : Int32)))) < (0 : Int32) then sd_bv (fn_Elements_drop_r2 (1 : Int32) m3) (fun m5 => if a1 = (0 : Int32) then sd_bv (fn_Elements_pushCopy_r2 (Int64.toInt32 x4) m5) (fun m6 => some ((0 : Int32), m6)) else sd_bv (fn_Elements_lift_r2 (Int64.toInt32 x4) m5) (fun m7 => some ((0 : Int32), m7))) else some ((7 : Int32), m3)) else some (x2, m1))
def fn_Moves_operandsOf (a0 : Int32) (μ : sd_Me) : Option (Int32 × sd_Me) :=
  if a0 = (109 : Int32) then some ((2 : Int32), μ) else if a0 = (110 : Int32) then some ((2 : Int32), μ) else if a0 = (111 : Int32) then some ((3 : Int32), μ) else if a0 = (112 : Int32) then some ((4 : Int32), μ) else if a0 = (113 : Int32) then some ((6 : Int32), μ) else if a0 = (114 : Int32) then some ((4 : Int32), μ) else if a0 = (115 : Int32) then some ((1 : Int32), μ) else if a0 = (116 : Int32) then some ((0 : Int32), μ) else if a0 = (117 : Int32) then some ((1 : Int32), μ) else if a0 = (118 : Int32) then some ((1 : Int32), μ) else if a0 = (119 : Int32) then some ((2 : Int32), μ) else if a0 = (120 : Int32) then some ((2 : Int32), μ) else if a0 = (123 : Int32) then some ((3 : Int32), μ) else if a0 = (124 : Int32) then some ((2 : Int32), μ) else if a0 = (125 : Int32) then some ((2 : Int32), μ) else if a0 = (130 : Int32) then some ((1 : Int32), μ) else if a0 = (135 : Int32) then some ((2 : Int32), μ) else if a0 = (136 : Int32) then some ((2 : Int32), μ) else some ((-1 : Int32), μ)
def fn_Elements_pushCopies_r2_L2 (k18 : sd_Me → Option (sd_Me)) : Nat → Int32 → Int32 → Int32 → sd_Me → Option (sd_Me)
  | 0, _, _, _, _ => none
  | n + 1, v1, v2, v3, μ =>
    if v2 ≤ v3 then k18  μ else sd_bv (fn_Elements_pushCopy_r2 v1 μ) (fun m1 => fn_Elements_pushCopies_r2_L2 k18 n (v1) (v2) ((v3 + (1 : Int32))) m1)
def fn_Elements_pushCopies_r2 (a1 : Int32) (a2 : Int32) (μ : sd_Me) : Option (sd_Me) :=
  fn_Elements_pushCopies_r2_L2 (fun m2 => some m2) 10000 (a1) (a2) ((0 : Int32)) μ
def fn_Moves_moveSingles_r2 (a1 : Int32) (μ : sd_Me) : Option (sd_Me) :=
  if a1 = (115 : Int32) then sd_bi (fn_Elements_topHolds_r2 μ) (fun x2 m1 => if x2 = (0 : Int32) then sd_bv (fn_Elements_pushCopies_r2 (0 : Int32) (0 : Int32) m1) (fun m3 => some m3) else sd_bv (fn_Elements_pushCopies_r2 (0 : Int32) (1 : Int32) m1) (fun m4 => some m4)) else if a1 = (116 : Int32) then sd_bv (fn_Elements_pushNumber_r2 (Int32.toInt64 (μ.1 2 4)) μ) (fun m5 => some m5) else if a1 = (117 : Int32) then sd_bv (fn_Elements_drop_r2 (1 : Int32) μ) (fun m6 => some m6) else if a1 = (118 : Int32) then sd_bv (fn_Elements_pushCopy_r2 (0 : Int32) μ) (fun m7 => some m7) else if a1 = (119 : Int32) then sd_bv (fn_Elements_lift_r2 (1 : Int32) μ) (fun m8 => sd_bv (fn_Elements_drop_r2 (1 : Int32) m8) (fun m9 => some m9)) else if a1 = (120 : Int32) then sd_bv (fn_Elements_pushCopy_r2 (1 : Int32) μ) (fun m10 => some m10) else if a1 = (123 : Int32) then sd_bv (fn_Elements_lift_r2 (2 : Int32) μ) (fun m11 => some m11) else if a1 = (124 : Int32) then sd_bv (fn_Elements_lift_r2 (1 : Int32) μ) (fun m12 => some m12) else sd_bv (fn_Elements_lift_r2 (1 : Int32) μ) (fun m13 => sd_bv (fn_Elements_pushCopy_r2 (1 : Int32) m13) (fun m14 => some m14))
def fn_Moves_moveGroups_r2 (a1 : Int32) (μ : sd_Me) : Option (sd_Me) :=
  if a1 = (109 : Int32) then sd_bv (fn_Elements_drop_r2 (2 : Int32) μ) (fun m1 => some m1) else if a1 = (110 : Int32) then sd_bv (fn_Elements_pushCopies_r2 (1 : Int32) (2 : Int32) μ) (fun m2 => some m2) else if a1 = (111 : Int32) then sd_bv (fn_Elements_pushCopies_r2 (2 : Int32) (3 : Int32) μ) (fun m3 => some m3) else if a1 = (112 : Int32) then sd_bv (fn_Elements_pushCopies_r2 (3 : Int32) (2 : Int32) μ) (fun m4 => some m4) else if a1 = (113 : Int32) then sd_bv (fn_Elements_lift_r2 (5 : Int32) μ) (fun m5 => sd_bv (fn_Elements_lift_r2 (5 : Int32) m5) (fun m6 => some m6)) else sd_bv (fn_Elements_lift_r2 (3 : Int32) μ) (fun m7 => sd_bv (fn_Elements_lift_r2 (3 : Int32) m7) (fun m8 => some m8))
def fn_Elements_areSame_r2_L20 (k51 : sd_Me → Option (Int32 × sd_Me)) : Nat → Int32 → Int32 → Int32 → Int32 → sd_Me → Option (Int32 × sd_Me)
  | 0, _, _, _, _, _ => none
  | n + 1, v1, v2, v3, v4, μ =>
    if v3 ≤ v4 then k51  μ else sd_bi (fn_Elements_octetAt_r2 v1 v4 μ) (fun x6 m5 => sd_bi (fn_Elements_octetAt_r2 v2 v4 m5) (fun x8 m7 => if x6 = x8 then fn_Elements_areSame_r2_L20 k51 n (v1) (v2) (v3) ((v4 + (1 : Int32))) m7 else some ((0 : Int32), m7)))
def fn_Elements_areSame_r2 (a1 : Int32) (a2 : Int32) (μ : sd_Me) : Option (Int32 × sd_Me) :=
  sd_bi (fn_Elements_lengthAt_r2 a1 μ) (fun x2 m1 => sd_bi (fn_Elements_lengthAt_r2 a2 m1) (fun x4 m3 => if x2 = x4 then fn_Elements_areSame_r2_L20 (fun m9 => some ((1 : Int32), m9)) 10000 (a1) (a2) (x2) ((0 : Int32)) m3 else some ((0 : Int32), m3)))
def fn_Moves_look_r2 (a1 : Int32) (μ : sd_Me) : Option (Int32 × sd_Me) :=
  if a1 = (130 : Int32) then sd_bi (fn_Elements_lengthAt_r2 (0 : Int32) μ) (fun x7 m6 => sd_bv (fn_Elements_pushNumber_r2 (Int32.toInt64 x7) m6) (fun m8 => some ((0 : Int32), m8))) else sd_bi (fn_Elements_areSame_r2 (0 : Int32) (1 : Int32) μ) (fun x2 m1 => sd_bv (fn_Elements_replaceByTruth_r2 (2 : Int32) x2 m1) (fun m3 => if a1 = (136 : Int32) then sd_bi (fn_Elements_takeTrue_r2 m3) (fun x5 m4 => some (x5, m4)) else some ((0 : Int32), m3)))
def fn_Moves_perform_r2_J12 (v1 : Int32) (μ : sd_Me) : Option (Int32 × sd_Me) :=
  if v1 = (122 : Int32) then sd_bi (fn_Moves_pick_r2 (1 : Int32) μ) (fun x4 m3 => some (x4, m3)) else sd_bi (fn_Moves_pick_r2 (0 : Int32) μ) (fun x2 m1 => some (x2, m1))
def fn_Moves_perform_r2 (a1 : Int32) (μ : sd_Me) : Option (Int32 × sd_Me) :=
  if a1 = (121 : Int32) then fn_Moves_perform_r2_J12 (a1) μ else if a1 = (122 : Int32) then fn_Moves_perform_r2_J12 (a1) μ else sd_bi (fn_Moves_operandsOf a1 μ) (fun x6 m5 => if (0 : Int32) ≤ x6 then if x6 ≤ (m5.1 2 4) then if a1 < (130 : Int32) then if (114 : Int32) < a1 then sd_bv (fn_Moves_moveSingles_r2 a1 m5) (fun m7 => some ((0 : Int32), m7)) else sd_bv (fn_Moves_moveGroups_r2 a1 m5) (fun m8 => some ((0 : Int32), m8)) else sd_bi (fn_Moves_look_r2 a1 m5) (fun x10 m9 => some (x10, m9)) else some ((5 : Int32), m5) else some ((4 : Int32), m5))
def fn_Elements_swapSlots_r2 (a1 : Int32) (a2 : Int32) (μ : sd_Me) : Option (sd_Me) :=
  sd_gd (sd_ix a1 64) (sd_let ((μ.1 5 (Int32.toNatClampNeg a1))) (fun x1 => sd_gd (sd_ix a2 64) (sd_gd (sd_ix a1 64) (sd_let (sd_st μ 5 (Int32.toNatClampNeg a1) (μ.1 5 (Int32.toNatClampNeg a2))) (fun m2 => sd_gd (sd_ix a2 64) (sd_let (sd_st m2 5 (Int32.toNatClampNeg a2) x1) (fun m3 => some m3)))))))
def fn_Elements_toSide_r2 (μ : sd_Me) : Option (Int32 × sd_Me) :=
  if (μ.1 2 4) < (1 : Int32) then some ((5 : Int32), μ) else if (μ.1 2 3) < (64 : Int32) then sd_bv (fn_Elements_swapSlots_r2 ((μ.1 2 4) - (1 : Int32)) ((63 : Int32) - (μ.1 2 3)) μ) (fun m1 => sd_let (sd_st m1 2 4 ((m1.1 2 4) - (1 : Int32))) (fun m2 => sd_let (sd_st m2 2 3 ((m2.1 2 3) + (1 : Int32))) (fun m3 => some ((0 : Int32), m3)))) else some ((5 : Int32), μ)
def fn_Elements_fromSide_r2 (μ : sd_Me) : Option (Int32 × sd_Me) :=
  if (μ.1 2 3) < (1 : Int32) then some ((5 : Int32), μ) else if (μ.1 2 4) < (64 : Int32) then sd_bv (fn_Elements_swapSlots_r2 (μ.1 2 4) ((64 : Int32) - (μ.1 2 3)) μ) (fun m1 => sd_let (sd_st m1 2 3 ((m1.1 2 3) - (1 : Int32))) (fun m2 => sd_let (sd_st m2 2 4 ((m2.1 2 4) + (1 : Int32))) (fun m3 => some ((0 : Int32), m3)))) else some ((5 : Int32), μ)
def fn_Desk_performPlain_r0 (a1 : Int32) (μ : sd_Me) : Option (Int32 × sd_Me) :=
  if a1 = (97 : Int32) then some ((0 : Int32), μ) else if a1 = (105 : Int32) then sd_bi (fn_Elements_takeTrue_r2 μ) (fun x2 m1 => some (x2, m1)) else if a1 = (106 : Int32) then some ((9 : Int32), μ) else if a1 = (107 : Int32) then sd_bi (fn_Elements_toSide_r2 μ) (fun x4 m3 => some (x4, m3)) else if a1 = (108 : Int32) then sd_bi (fn_Elements_fromSide_r2 μ) (fun x6 m5 => some (x6, m5)) else some ((4 : Int32), μ)
def fn_Desk_pushSmallNumber_r0_J14 (v1 : Int32) (μ : sd_Me) : Option (Int32 × sd_Me) :=
  sd_bv (fn_Elements_pushNumber_r2 (Int32.toInt64 (v1 - (80 : Int32))) μ) (fun m1 => some ((0 : Int32), m1))
def fn_Desk_pushSmallNumber_r0 (a1 : Int32) (μ : sd_Me) : Option (Int32 × sd_Me) :=
  if a1 = (79 : Int32) then fn_Desk_pushSmallNumber_r0_J14 (a1) μ else if (81 : Int32) ≤ a1 then fn_Desk_pushSmallNumber_r0_J14 (a1) μ else some ((4 : Int32), μ)
def fn_Desk_perform_r0_J31 (v1 : Int32) (μ : sd_Me) : Option (Int32 × sd_Me) :=
  if v1 = (99 : Int32) then sd_bi (fn_Desk_enterPart_r0 (1 : Int32) μ) (fun x4 m3 => some (x4, m3)) else sd_bi (fn_Desk_enterPart_r0 (0 : Int32) μ) (fun x2 m1 => some (x2, m1))
def fn_Desk_perform_r0_J59 (v1 : Int32) (μ : sd_Me) : Option (Int32 × sd_Me) :=
  if v1 = (104 : Int32) then sd_bi (fn_Desk_leavePart_r0 (1 : Int32) μ) (fun x8 m7 => some (x8, m7)) else sd_bi (fn_Desk_leavePart_r0 (0 : Int32) μ) (fun x6 m5 => some (x6, m5))
def fn_Desk_perform_r0_J19 (v1 : Int32) (μ : sd_Me) : Option (Int32 × sd_Me) :=
  if v1 = (99 : Int32) then fn_Desk_perform_r0_J31 (v1) μ else if v1 = (100 : Int32) then fn_Desk_perform_r0_J31 (v1) μ else if v1 = (103 : Int32) then fn_Desk_perform_r0_J59 (v1) μ else if v1 = (104 : Int32) then fn_Desk_perform_r0_J59 (v1) μ else sd_bi (fn_Flow_isDone_r7 μ) (fun x10 m9 => if x10 = (0 : Int32) then some ((0 : Int32), m9) else if (96 : Int32) < v1 then if (108 : Int32) < v1 then if (136 : Int32) < v1 then if (165 : Int32) < v1 then if (170 : Int32) < v1 then sd_bi (fn_Signatures_perform_r8_r2_r6 v1 m9) (fun x12 m11 => some (x12, m11)) else sd_bi (fn_Desk_performDigest_r0 v1 m9) (fun x14 m13 => some (x14, m13)) else sd_bi (fn_Numbers_perform_r2 v1 m9) (fun x16 m15 => some (x16, m15)) else sd_bi (fn_Moves_perform_r2 v1 m9) (fun x18 m17 => some (x18, m17)) else sd_bi (fn_Desk_performPlain_r0 v1 m9) (fun x20 m19 => some (x20, m19)) else sd_bi (fn_Desk_pushSmallNumber_r0 v1 m9) (fun x22 m21 => some (x22, m21)))
def fn_Desk_perform_r0 (a1 : Int32) (μ : sd_Me) : Option (Int32 × sd_Me) :=
  if a1 ≤ (96 : Int32) then fn_Desk_perform_r0_J19 (a1) μ else sd_bi (fn_Tally_passesLimit_r6 (1 : Int32) μ) (fun x24 m23 => if x24 = (0 : Int32) then fn_Desk_perform_r0_J19 (a1) m23 else some ((3 : Int32), m23))
def fn_Elements_areTooMany_r2 (μ : sd_Me) : Option (Int32 × sd_Me) :=
  if ((μ.1 2 4) + (μ.1 2 3)) ≤ (60 : Int32) then some ((0 : Int32), μ) else some ((1 : Int32), μ)
def fn_Elements_push_r2_r1 (a2 : Int32) (a3 : Int32) (μ : sd_Me) : Option (sd_Me) :=
  if a2 < (0 : Int32) then some μ else if a3 < (0 : Int32) then some μ else if (120 : Int32) < a3 then some μ else if ((200 : Int32) - a2) < a3 then some μ else if ((μ.1 2 4) + (μ.1 2 3)) < (64 : Int32) then sd_gd (sd_ix (μ.1 2 4) 64) (sd_let ((μ.1 5 (Int32.toNatClampNeg (μ.1 2 4)))) (fun x1 => sd_gd (sd_cpOk a2 (x1 * (120 : Int32)) a3 200 7680) (sd_let (sd_mrow μ 3 (va_cpy (μ.1 1) (μ.1 3) (Int32.toNatClampNeg a2) (Int32.toNatClampNeg (x1 * (120 : Int32))) (Int32.toNatClampNeg a3))) (fun m2 => sd_gd (sd_ix x1 64) (sd_let (sd_st m2 4 (Int32.toNatClampNeg x1) a3) (fun m3 => sd_let (sd_st m3 2 4 ((m3.1 2 4) + (1 : Int32))) (fun m4 => some m4))))))) else some μ
def fn_Desk_pushFromScript_r0_J73 (v3 : Int32) (v5 : Int32) (v6 : Int32) (μ : sd_Me) : Option (Int32 × sd_Me) :=
  if v6 ≤ (v3 - v5) then if v6 ≤ (120 : Int32) then sd_let (sd_st μ 0 2 (v5 + v6)) (fun m2 => sd_bi (fn_Flow_isDone_r7 m2) (fun x4 m3 => if x4 = (0 : Int32) then some ((0 : Int32), m3) else sd_bv (fn_Elements_push_r2_r1 v5 v6 m3) (fun m5 => some ((0 : Int32), m5)))) else some ((2 : Int32), μ) else some ((1 : Int32), μ)
def fn_Desk_pushFromScript_r0_J70 (v3 : Int32) (v5 : Int32) (s0 : Int32) (s1 : Int32) (μ : sd_Me) : Option (Int32 × sd_Me) :=
  sd_let ((s0 + s1)) (fun x6 => fn_Desk_pushFromScript_r0_J73 (v3) (v5) (x6) μ)
def fn_Desk_pushFromScript_r0_J14 (v1 : Int32) (v2 : Int32) (v3 : Int32) (s0 : Int32) (μ : sd_Me) : Option (Int32 × sd_Me) :=
  sd_let (((v2 + (1 : Int32)) + s0)) (fun x1 => if x1 ≤ v3 then if s0 ≤ (0 : Int32) then fn_Desk_pushFromScript_r0_J73 (v3) (x1) (v1) μ else sd_gd (sd_ix (v2 + (1 : Int32)) 200) (if s0 = (2 : Int32) then sd_gd (sd_ix (v2 + (2 : Int32)) 200) (fn_Desk_pushFromScript_r0_J70 (v3) (x1) ((μ.1 1 (Int32.toNatClampNeg (v2 + (1 : Int32))))) (((256 : Int32) * (μ.1 1 (Int32.toNatClampNeg (v2 + (2 : Int32)))))) μ) else fn_Desk_pushFromScript_r0_J70 (v3) (x1) ((μ.1 1 (Int32.toNatClampNeg (v2 + (1 : Int32))))) ((0 : Int32)) μ) else some ((1 : Int32), μ))
def fn_Desk_pushFromScript_r0 (a1 : Int32) (a2 : Int32) (a3 : Int32) (μ : sd_Me) : Option (Int32 × sd_Me) :=
  if (75 : Int32) < a1 then fn_Desk_pushFromScript_r0_J14 (a1) (a2) (a3) ((a1 - (75 : Int32))) μ else fn_Desk_pushFromScript_r0_J14 (a1) (a2) (a3) ((0 : Int32)) μ
def fn_Elements_dropSide_r2 (μ : sd_Me) : Option (sd_Me) :=
  sd_let (sd_st μ 2 3 (0 : Int32)) (fun m1 => some m1)
def fn_Desk_run_r0_J80 (rc : Int32 → Int32 → Int32 → Int32 → sd_Me → Option (Int32 × sd_Me)) (v1 : Int32) (v2 : Int32) (v4 : Int32) (s0 : Int32) (μ : sd_Me) : Option (Int32 × sd_Me) :=
  if s0 = (0 : Int32) then sd_bi (fn_Elements_areTooMany_r2 μ) (fun x9 m8 => if x9 = (0 : Int32) then rc (v1) (v2) (s0) ((v4 + (1 : Int32))) m8 else rc (v1) (v2) ((11 : Int32)) ((v4 + (1 : Int32))) m8) else rc (v1) (v2) (s0) ((v4 + (1 : Int32))) μ
def fn_Desk_run_r0_L16 (k104 : Int32 → Int32 → Int32 → sd_Me → Option (Int32 × sd_Me)) : Nat → Int32 → Int32 → Int32 → Int32 → sd_Me → Option (Int32 × sd_Me)
  | 0, _, _, _, _, _ => none
  | n + 1, v1, v2, v3, v4, μ =>
    if (200 : Int32) ≤ v4 then k104 (v1) (v2) (v3) μ else if v1 ≤ (μ.1 0 2) then k104 (v1) (v2) (v3) μ else if v3 = (0 : Int32) then sd_let ((μ.1 0 2)) (fun x3 => sd_let (sd_st μ 0 2 (x3 + (1 : Int32))) (fun m4 => sd_gd (sd_ix x3 200) (sd_let ((m4.1 1 (Int32.toNatClampNeg x3))) (fun x5 => if (77 : Int32) < x5 then sd_bi (fn_Desk_perform_r0 x5 m4) (fun x7 m6 => fn_Desk_run_r0_J80 (fn_Desk_run_r0_L16 k104 n) (v1) (x3) (v4) (x7) m6) else sd_bi (fn_Desk_pushFromScript_r0 x5 x3 v1 m4) (fun x11 m10 => fn_Desk_run_r0_J80 (fn_Desk_run_r0_L16 k104 n) (v1) (x3) (v4) (x11) m10))))) else k104 (v1) (v2) (v3) μ
def fn_Desk_run_r0_J123 (v2 : Int32) (v3 : Int32) (μ : sd_Me) : Option (Int32 × sd_Me) :=
  sd_bv (fn_Elements_dropSide_r2 μ) (fun m16 => if v3 = (0 : Int32) then some ((1 : Int32), m16) else sd_bv (fn_Elements_drop_r2 (m16.1 2 4) m16) (fun m17 => sd_let (sd_st m17 0 3 v2) (fun m18 => some (((-1 : Int32) - v3), m18))))
def fn_Desk_run_r0_J104 (v1 : Int32) (v2 : Int32) (v3 : Int32) (μ : sd_Me) : Option (Int32 × sd_Me) :=
  if v3 = (0 : Int32) then sd_bi (fn_Flow_isInside_r7 μ) (fun x20 m19 => if x20 = (0 : Int32) then fn_Desk_run_r0_J123 (v2) (v3) m19 else fn_Desk_run_r0_J123 (v1) ((12 : Int32)) m19) else fn_Desk_run_r0_J123 (v2) (v3) μ
def fn_Desk_run_r0 (μ : sd_Me) : Option (Int32 × sd_Me) :=
  sd_let ((μ.1 0 1)) (fun x1 => sd_bv (fn_Desk_restart_r0 μ) (fun m2 => fn_Desk_run_r0_L16 (fun x12 x13 x14 m15 => fn_Desk_run_r0_J104 (x12) (x13) (x14) m15) 10000 (x1) ((0 : Int32)) ((0 : Int32)) ((0 : Int32)) m2))
def fn_Desk_place_r0 (μ : sd_Me) : Option (Int32 × sd_Me) :=
  some ((μ.1 0 3), μ)
def fn_Desk_clear_r0 (μ : sd_Me) : Option (Int32 × sd_Me) :=
  sd_let ((μ.1 2 4)) (fun x1 => sd_bv (fn_Elements_drop_r2 x1 μ) (fun m2 => some (x1, m2)))
def fn_Desk_size_r0 (μ : sd_Me) : Option (Int32 × sd_Me) :=
  some ((μ.1 2 4), μ)
def fn_Desk_isTrue_r0 (μ : sd_Me) : Option (Int32 × sd_Me) :=
  sd_bi (fn_Elements_topHolds_r2 μ) (fun x2 m1 => some (x2, m1))
def fn_Desk_bytes_r0 (a1 : Int32) (μ : sd_Me) : Option (Int32 × sd_Me) :=
  sd_bi (fn_Elements_lengthAt_r2 a1 μ) (fun x2 m1 => some (x2, m1))
def fn_Desk_byteOf_r0 (a1 : Int32) (a2 : Int32) (μ : sd_Me) : Option (Int32 × sd_Me) :=
  sd_bi (fn_Elements_octetAt_r2 a1 a2 μ) (fun x2 m1 => some (x2, m1))
def fn_Desk_count_r0 (a1 : Int32) (μ : sd_Me) : Option (Int32 × sd_Me) :=
  if a1 = (0 : Int32) then some ((μ.1 6 0), μ) else if a1 = (1 : Int32) then some ((μ.1 8 1), μ) else some ((-1 : Int32), μ)
