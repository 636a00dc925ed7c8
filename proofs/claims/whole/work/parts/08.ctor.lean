def sd_ord (j : Nat) : Nat → Int32 := fun k => if k < j then nI k else 0
theorem sd_ord_0 : sd_ord 0 = fun _ => 0 := funext (fun k => if_neg (Nat.not_lt_zero k))
theorem sd_ord_s {j : Nat} (h : j < 64) : upd (sd_ord j) (nI j).toNatClampNeg (nI j) = sd_ord (j + 1) := by
  rw [nI_clamp (by omega)]
  funext k
  unfold upd sd_ord
  by_cases h1 : k = j
  · subst h1
    rw [if_pos rfl, if_pos (by omega)]
  · rw [if_neg h1]
    by_cases h2 : k < j
    · rw [if_pos h2, if_pos (by omega)]
    · rw [if_neg h2, if_neg (by omega)]
theorem d_Elements_init_0 : decode prog_3_method_1_code 0 = .ok (.aload_n 0, 1) := by decide +kernel
theorem d_Elements_init_1 : decode prog_3_method_1_code 1 = .ok (.invokespecial 3, 3) := by decide +kernel
theorem d_Elements_init_4 : decode prog_3_method_1_code 4 = .ok (.aload_n 0, 1) := by decide +kernel
theorem d_Elements_init_5 : decode prog_3_method_1_code 5 = .ok (.sipush 7680, 3) := by decide +kernel
theorem d_Elements_init_8 : decode prog_3_method_1_code 8 = .ok (.newarray .int, 2) := by decide +kernel
theorem d_Elements_init_10 : decode prog_3_method_1_code 10 = .ok (.putfield 11, 3) := by decide +kernel
theorem d_Elements_init_13 : decode prog_3_method_1_code 13 = .ok (.aload_n 0, 1) := by decide +kernel
theorem d_Elements_init_14 : decode prog_3_method_1_code 14 = .ok (.bipush 64, 2) := by decide +kernel
theorem d_Elements_init_16 : decode prog_3_method_1_code 16 = .ok (.newarray .int, 2) := by decide +kernel
theorem d_Elements_init_18 : decode prog_3_method_1_code 18 = .ok (.putfield 15, 3) := by decide +kernel
theorem d_Elements_init_21 : decode prog_3_method_1_code 21 = .ok (.aload_n 0, 1) := by decide +kernel
theorem d_Elements_init_22 : decode prog_3_method_1_code 22 = .ok (.bipush 64, 2) := by decide +kernel
theorem d_Elements_init_24 : decode prog_3_method_1_code 24 = .ok (.newarray .int, 2) := by decide +kernel
theorem d_Elements_init_26 : decode prog_3_method_1_code 26 = .ok (.putfield 18, 3) := by decide +kernel
theorem d_Elements_init_29 : decode prog_3_method_1_code 29 = .ok (.iconst 0, 1) := by decide +kernel
theorem d_Elements_init_30 : decode prog_3_method_1_code 30 = .ok (.istore_n 1, 1) := by decide +kernel
theorem d_Elements_init_31 : decode prog_3_method_1_code 31 = .ok (.iload_n 1, 1) := by decide +kernel
theorem d_Elements_init_32 : decode prog_3_method_1_code 32 = .ok (.bipush 64, 2) := by decide +kernel
theorem d_Elements_init_34 : decode prog_3_method_1_code 34 = .ok (.if_icmp .ge 16, 3) := by decide +kernel
theorem d_Elements_init_37 : decode prog_3_method_1_code 37 = .ok (.aload_n 0, 1) := by decide +kernel
theorem d_Elements_init_38 : decode prog_3_method_1_code 38 = .ok (.getfield 18, 3) := by decide +kernel
theorem d_Elements_init_41 : decode prog_3_method_1_code 41 = .ok (.iload_n 1, 1) := by decide +kernel
theorem d_Elements_init_42 : decode prog_3_method_1_code 42 = .ok (.iload_n 1, 1) := by decide +kernel
theorem d_Elements_init_43 : decode prog_3_method_1_code 43 = .ok (.iastore, 1) := by decide +kernel
theorem d_Elements_init_44 : decode prog_3_method_1_code 44 = .ok (.iinc 1 1, 3) := by decide +kernel
theorem d_Elements_init_47 : decode prog_3_method_1_code 47 = .ok (.goto (-16), 3) := by decide +kernel
theorem d_Elements_init_50 : decode prog_3_method_1_code 50 = .ok (.return_, 1) := by decide +kernel
theorem d_Tally_init_0 : decode prog_10_method_1_code 0 = .ok (.aload_n 0, 1) := by decide +kernel
theorem d_Tally_init_1 : decode prog_10_method_1_code 1 = .ok (.invokespecial 3, 3) := by decide +kernel
theorem d_Tally_init_4 : decode prog_10_method_1_code 4 = .ok (.return_, 1) := by decide +kernel
theorem d_Flow_init_0 : decode prog_4_method_1_code 0 = .ok (.aload_n 0, 1) := by decide +kernel
theorem d_Flow_init_1 : decode prog_4_method_1_code 1 = .ok (.invokespecial 1, 3) := by decide +kernel
theorem d_Flow_init_4 : decode prog_4_method_1_code 4 = .ok (.return_, 1) := by decide +kernel
theorem d_Signatures_init_0 : decode prog_9_method_1_code 0 = .ok (.aload_n 0, 1) := by decide +kernel
theorem d_Signatures_init_1 : decode prog_9_method_1_code 1 = .ok (.invokespecial 3, 3) := by decide +kernel
theorem d_Signatures_init_4 : decode prog_9_method_1_code 4 = .ok (.return_, 1) := by decide +kernel
theorem d_BlockDigest_init_0 : decode prog_2_method_1_code 0 = .ok (.aload_n 0, 1) := by decide +kernel
theorem d_BlockDigest_init_1 : decode prog_2_method_1_code 1 = .ok (.invokespecial 3, 3) := by decide +kernel
theorem d_BlockDigest_init_4 : decode prog_2_method_1_code 4 = .ok (.aload_n 0, 1) := by decide +kernel
theorem d_BlockDigest_init_5 : decode prog_2_method_1_code 5 = .ok (.sipush 192, 3) := by decide +kernel
theorem d_BlockDigest_init_8 : decode prog_2_method_1_code 8 = .ok (.newarray .int, 2) := by decide +kernel
theorem d_BlockDigest_init_10 : decode prog_2_method_1_code 10 = .ok (.putfield 11, 3) := by decide +kernel
theorem d_BlockDigest_init_13 : decode prog_2_method_1_code 13 = .ok (.aload_n 0, 1) := by decide +kernel
theorem d_BlockDigest_init_14 : decode prog_2_method_1_code 14 = .ok (.iload_n 1, 1) := by decide +kernel
theorem d_BlockDigest_init_15 : decode prog_2_method_1_code 15 = .ok (.putfield 15, 3) := by decide +kernel
theorem d_BlockDigest_init_18 : decode prog_2_method_1_code 18 = .ok (.aload_n 0, 1) := by decide +kernel
theorem d_BlockDigest_init_19 : decode prog_2_method_1_code 19 = .ok (.iload_n 2, 1) := by decide +kernel
theorem d_BlockDigest_init_20 : decode prog_2_method_1_code 20 = .ok (.newarray .int, 2) := by decide +kernel
theorem d_BlockDigest_init_22 : decode prog_2_method_1_code 22 = .ok (.putfield 19, 3) := by decide +kernel
theorem d_BlockDigest_init_25 : decode prog_2_method_1_code 25 = .ok (.aload_n 0, 1) := by decide +kernel
theorem d_BlockDigest_init_26 : decode prog_2_method_1_code 26 = .ok (.iload_n 3, 1) := by decide +kernel
theorem d_BlockDigest_init_27 : decode prog_2_method_1_code 27 = .ok (.newarray .int, 2) := by decide +kernel
theorem d_BlockDigest_init_29 : decode prog_2_method_1_code 29 = .ok (.putfield 22, 3) := by decide +kernel
theorem d_BlockDigest_init_32 : decode prog_2_method_1_code 32 = .ok (.aload_n 0, 1) := by decide +kernel
theorem d_BlockDigest_init_33 : decode prog_2_method_1_code 33 = .ok (.iload_n 3, 1) := by decide +kernel
theorem d_BlockDigest_init_34 : decode prog_2_method_1_code 34 = .ok (.iconst 4, 1) := by decide +kernel
theorem d_BlockDigest_init_35 : decode prog_2_method_1_code 35 = .ok (.imul, 1) := by decide +kernel
theorem d_BlockDigest_init_36 : decode prog_2_method_1_code 36 = .ok (.newarray .int, 2) := by decide +kernel
theorem d_BlockDigest_init_38 : decode prog_2_method_1_code 38 = .ok (.putfield 25, 3) := by decide +kernel
theorem d_BlockDigest_init_41 : decode prog_2_method_1_code 41 = .ok (.return_, 1) := by decide +kernel
theorem d_Sha256_init_0 : decode prog_8_method_1_code 0 = .ok (.aload_n 0, 1) := by decide +kernel
theorem d_Sha256_init_1 : decode prog_8_method_1_code 1 = .ok (.iconst 1, 1) := by decide +kernel
theorem d_Sha256_init_2 : decode prog_8_method_1_code 2 = .ok (.bipush 64, 2) := by decide +kernel
theorem d_Sha256_init_4 : decode prog_8_method_1_code 4 = .ok (.bipush 8, 2) := by decide +kernel
theorem d_Sha256_init_6 : decode prog_8_method_1_code 6 = .ok (.invokespecial 1, 3) := by decide +kernel
theorem d_Sha256_init_9 : decode prog_8_method_1_code 9 = .ok (.return_, 1) := by decide +kernel
theorem d_Ripemd160_init_0 : decode prog_7_method_1_code 0 = .ok (.aload_n 0, 1) := by decide +kernel
theorem d_Ripemd160_init_1 : decode prog_7_method_1_code 1 = .ok (.iconst 0, 1) := by decide +kernel
theorem d_Ripemd160_init_2 : decode prog_7_method_1_code 2 = .ok (.bipush 16, 2) := by decide +kernel
theorem d_Ripemd160_init_4 : decode prog_7_method_1_code 4 = .ok (.iconst 5, 1) := by decide +kernel
theorem d_Ripemd160_init_5 : decode prog_7_method_1_code 5 = .ok (.invokespecial 1, 3) := by decide +kernel
theorem d_Ripemd160_init_8 : decode prog_7_method_1_code 8 = .ok (.aload_n 0, 1) := by decide +kernel
theorem d_Ripemd160_init_9 : decode prog_7_method_1_code 9 = .ok (.iconst 5, 1) := by decide +kernel
theorem d_Ripemd160_init_10 : decode prog_7_method_1_code 10 = .ok (.newarray .int, 2) := by decide +kernel
theorem d_Ripemd160_init_12 : decode prog_7_method_1_code 12 = .ok (.putfield 7, 3) := by decide +kernel
theorem d_Ripemd160_init_15 : decode prog_7_method_1_code 15 = .ok (.aload_n 0, 1) := by decide +kernel
theorem d_Ripemd160_init_16 : decode prog_7_method_1_code 16 = .ok (.iconst 5, 1) := by decide +kernel
theorem d_Ripemd160_init_17 : decode prog_7_method_1_code 17 = .ok (.newarray .int, 2) := by decide +kernel
theorem d_Ripemd160_init_19 : decode prog_7_method_1_code 19 = .ok (.putfield 13, 3) := by decide +kernel
theorem d_Ripemd160_init_22 : decode prog_7_method_1_code 22 = .ok (.return_, 1) := by decide +kernel
theorem d_Desk_init_0 : decode prog_1_method_1_code 0 = .ok (.aload_n 0, 1) := by decide +kernel
theorem d_Desk_init_1 : decode prog_1_method_1_code 1 = .ok (.invokespecial 1, 3) := by decide +kernel
theorem d_Desk_init_4 : decode prog_1_method_1_code 4 = .ok (.aload_n 0, 1) := by decide +kernel
theorem d_Desk_init_5 : decode prog_1_method_1_code 5 = .ok (.sipush 200, 3) := by decide +kernel
theorem d_Desk_init_8 : decode prog_1_method_1_code 8 = .ok (.newarray .int, 2) := by decide +kernel
theorem d_Desk_init_10 : decode prog_1_method_1_code 10 = .ok (.putfield 9, 3) := by decide +kernel
theorem d_Desk_init_13 : decode prog_1_method_1_code 13 = .ok (.aload_n 0, 1) := by decide +kernel
theorem d_Desk_init_14 : decode prog_1_method_1_code 14 = .ok (.iconst 0, 1) := by decide +kernel
theorem d_Desk_init_15 : decode prog_1_method_1_code 15 = .ok (.putfield 13, 3) := by decide +kernel
theorem d_Desk_init_18 : decode prog_1_method_1_code 18 = .ok (.aload_n 0, 1) := by decide +kernel
theorem d_Desk_init_19 : decode prog_1_method_1_code 19 = .ok (.iconst 0, 1) := by decide +kernel
theorem d_Desk_init_20 : decode prog_1_method_1_code 20 = .ok (.putfield 17, 3) := by decide +kernel
theorem d_Desk_init_23 : decode prog_1_method_1_code 23 = .ok (.aload_n 0, 1) := by decide +kernel
theorem d_Desk_init_24 : decode prog_1_method_1_code 24 = .ok (.iconst (-1), 1) := by decide +kernel
theorem d_Desk_init_25 : decode prog_1_method_1_code 25 = .ok (.putfield 20, 3) := by decide +kernel
theorem d_Desk_init_28 : decode prog_1_method_1_code 28 = .ok (.aload_n 0, 1) := by decide +kernel
theorem d_Desk_init_29 : decode prog_1_method_1_code 29 = .ok (.new 23, 3) := by decide +kernel
theorem d_Desk_init_32 : decode prog_1_method_1_code 32 = .ok (.dup, 1) := by decide +kernel
theorem d_Desk_init_33 : decode prog_1_method_1_code 33 = .ok (.invokespecial 25, 3) := by decide +kernel
theorem d_Desk_init_36 : decode prog_1_method_1_code 36 = .ok (.putfield 26, 3) := by decide +kernel
theorem d_Desk_init_39 : decode prog_1_method_1_code 39 = .ok (.aload_n 0, 1) := by decide +kernel
theorem d_Desk_init_40 : decode prog_1_method_1_code 40 = .ok (.new 30, 3) := by decide +kernel
theorem d_Desk_init_43 : decode prog_1_method_1_code 43 = .ok (.dup, 1) := by decide +kernel
theorem d_Desk_init_44 : decode prog_1_method_1_code 44 = .ok (.invokespecial 32, 3) := by decide +kernel
theorem d_Desk_init_47 : decode prog_1_method_1_code 47 = .ok (.putfield 33, 3) := by decide +kernel
theorem d_Desk_init_50 : decode prog_1_method_1_code 50 = .ok (.aload_n 0, 1) := by decide +kernel
theorem d_Desk_init_51 : decode prog_1_method_1_code 51 = .ok (.new 37, 3) := by decide +kernel
theorem d_Desk_init_54 : decode prog_1_method_1_code 54 = .ok (.dup, 1) := by decide +kernel
theorem d_Desk_init_55 : decode prog_1_method_1_code 55 = .ok (.invokespecial 39, 3) := by decide +kernel
theorem d_Desk_init_58 : decode prog_1_method_1_code 58 = .ok (.putfield 40, 3) := by decide +kernel
theorem d_Desk_init_61 : decode prog_1_method_1_code 61 = .ok (.aload_n 0, 1) := by decide +kernel
theorem d_Desk_init_62 : decode prog_1_method_1_code 62 = .ok (.new 44, 3) := by decide +kernel
theorem d_Desk_init_65 : decode prog_1_method_1_code 65 = .ok (.dup, 1) := by decide +kernel
theorem d_Desk_init_66 : decode prog_1_method_1_code 66 = .ok (.invokespecial 46, 3) := by decide +kernel
theorem d_Desk_init_69 : decode prog_1_method_1_code 69 = .ok (.putfield 47, 3) := by decide +kernel
theorem d_Desk_init_72 : decode prog_1_method_1_code 72 = .ok (.aload_n 0, 1) := by decide +kernel
theorem d_Desk_init_73 : decode prog_1_method_1_code 73 = .ok (.new 51, 3) := by decide +kernel
theorem d_Desk_init_76 : decode prog_1_method_1_code 76 = .ok (.dup, 1) := by decide +kernel
theorem d_Desk_init_77 : decode prog_1_method_1_code 77 = .ok (.invokespecial 53, 3) := by decide +kernel
theorem d_Desk_init_80 : decode prog_1_method_1_code 80 = .ok (.putfield 54, 3) := by decide +kernel
theorem d_Desk_init_83 : decode prog_1_method_1_code 83 = .ok (.aload_n 0, 1) := by decide +kernel
theorem d_Desk_init_84 : decode prog_1_method_1_code 84 = .ok (.new 58, 3) := by decide +kernel
theorem d_Desk_init_87 : decode prog_1_method_1_code 87 = .ok (.dup, 1) := by decide +kernel
theorem d_Desk_init_88 : decode prog_1_method_1_code 88 = .ok (.invokespecial 60, 3) := by decide +kernel
theorem d_Desk_init_91 : decode prog_1_method_1_code 91 = .ok (.putfield 61, 3) := by decide +kernel
theorem d_Desk_init_94 : decode prog_1_method_1_code 94 = .ok (.return_, 1) := by decide +kernel
theorem d_Model_init_0 : decode prog_12_method_1_code 0 = .ok (.aload_n 0, 1) := by decide +kernel
theorem d_Model_init_1 : decode prog_12_method_1_code 1 = .ok (.invokespecial 1, 3) := by decide +kernel
theorem d_Model_init_4 : decode prog_12_method_1_code 4 = .ok (.aload_n 0, 1) := by decide +kernel
theorem d_Model_init_5 : decode prog_12_method_1_code 5 = .ok (.sipush 16800, 3) := by decide +kernel
theorem d_Model_init_8 : decode prog_12_method_1_code 8 = .ok (.newarray .int, 2) := by decide +kernel
theorem d_Model_init_10 : decode prog_12_method_1_code 10 = .ok (.putfield 7, 3) := by decide +kernel
theorem d_Model_init_13 : decode prog_12_method_1_code 13 = .ok (.aload_n 0, 1) := by decide +kernel
theorem d_Model_init_14 : decode prog_12_method_1_code 14 = .ok (.sipush 140, 3) := by decide +kernel
theorem d_Model_init_17 : decode prog_12_method_1_code 17 = .ok (.newarray .int, 2) := by decide +kernel
theorem d_Model_init_19 : decode prog_12_method_1_code 19 = .ok (.putfield 13, 3) := by decide +kernel
theorem d_Model_init_22 : decode prog_12_method_1_code 22 = .ok (.aload_n 0, 1) := by decide +kernel
theorem d_Model_init_23 : decode prog_12_method_1_code 23 = .ok (.sipush 200, 3) := by decide +kernel
theorem d_Model_init_26 : decode prog_12_method_1_code 26 = .ok (.newarray .int, 2) := by decide +kernel
theorem d_Model_init_28 : decode prog_12_method_1_code 28 = .ok (.putfield 16, 3) := by decide +kernel
theorem d_Model_init_31 : decode prog_12_method_1_code 31 = .ok (.aload_n 0, 1) := by decide +kernel
theorem d_Model_init_32 : decode prog_12_method_1_code 32 = .ok (.iconst (-1), 1) := by decide +kernel
theorem d_Model_init_33 : decode prog_12_method_1_code 33 = .ok (.putfield 19, 3) := by decide +kernel
theorem d_Model_init_36 : decode prog_12_method_1_code 36 = .ok (.aload_n 0, 1) := by decide +kernel
theorem d_Model_init_37 : decode prog_12_method_1_code 37 = .ok (.sipush 201, 3) := by decide +kernel
theorem d_Model_init_40 : decode prog_12_method_1_code 40 = .ok (.newarray .int, 2) := by decide +kernel
theorem d_Model_init_42 : decode prog_12_method_1_code 42 = .ok (.putfield 23, 3) := by decide +kernel
theorem d_Model_init_45 : decode prog_12_method_1_code 45 = .ok (.aload_n 0, 1) := by decide +kernel
theorem d_Model_init_46 : decode prog_12_method_1_code 46 = .ok (.sipush 192, 3) := by decide +kernel
theorem d_Model_init_49 : decode prog_12_method_1_code 49 = .ok (.newarray .int, 2) := by decide +kernel
theorem d_Model_init_51 : decode prog_12_method_1_code 51 = .ok (.putfield 26, 3) := by decide +kernel
theorem d_Model_init_54 : decode prog_12_method_1_code 54 = .ok (.aload_n 0, 1) := by decide +kernel
theorem d_Model_init_55 : decode prog_12_method_1_code 55 = .ok (.bipush 64, 2) := by decide +kernel
theorem d_Model_init_57 : decode prog_12_method_1_code 57 = .ok (.newarray .int, 2) := by decide +kernel
theorem d_Model_init_59 : decode prog_12_method_1_code 59 = .ok (.putfield 29, 3) := by decide +kernel
theorem d_Model_init_62 : decode prog_12_method_1_code 62 = .ok (.aload_n 0, 1) := by decide +kernel
theorem d_Model_init_63 : decode prog_12_method_1_code 63 = .ok (.bipush 8, 2) := by decide +kernel
theorem d_Model_init_65 : decode prog_12_method_1_code 65 = .ok (.newarray .int, 2) := by decide +kernel
theorem d_Model_init_67 : decode prog_12_method_1_code 67 = .ok (.putfield 32, 3) := by decide +kernel
theorem d_Model_init_70 : decode prog_12_method_1_code 70 = .ok (.aload_n 0, 1) := by decide +kernel
theorem d_Model_init_71 : decode prog_12_method_1_code 71 = .ok (.bipush 10, 2) := by decide +kernel
theorem d_Model_init_73 : decode prog_12_method_1_code 73 = .ok (.newarray .int, 2) := by decide +kernel
theorem d_Model_init_75 : decode prog_12_method_1_code 75 = .ok (.putfield 35, 3) := by decide +kernel
theorem d_Model_init_78 : decode prog_12_method_1_code 78 = .ok (.return_, 1) := by decide +kernel
set_option maxHeartbeats 4000000 in
set_option maxRecDepth 100000 in
theorem ct_Elements_Elements (l : Launch) (dC : Nat → ClassId) (dI : Nat → Nat → Nat) (h0 : Nat) (sz : Nat) : Met l y_Elements_init w_Elements_init ({ frames := 1, cells := 3, slots := 7808, locals := 12 }) (va_Pc [.ref h0] (fun U => U.heap.size = sz ∧ va_P (dC, dI) vwCl [(h0, .inr (1, [.null, .null, .null, .int 0, .int 0]))] U.heap ∧ va_K (dC, dI) vwCl [] U ∧ va_D (fun _ => True) [(h0, .inr (1, [.null, .null, .null, .int 0, .int 0]))])) (va_Qv (fun (_ : Unit) => True) (fun (_ : Unit) (t : State) => ∃ (q8 q16 q24 : Nat) (cA : ClassId), va_P (dC, dI) vwCl [(h0, .inr (1, [.ref q8, .ref q16, .ref q24, .int 0, .int 0])), (q8, .inl (cA, 7680, .inl (fun _ => 0))), (q16, .inl (cA, 64, .inl (fun _ => 0))), (q24, .inl (cA, 64, .inl (sd_ord 64)))] t.heap ∧ va_K (dC, dI) vwCl [(cA, .int)] t ∧ va_D (va_A [(h0, .inr (1, [.null, .null, .null, .int 0, .int 0]))] sz) [(h0, .inr (1, [.ref q8, .ref q16, .ref q24, .int 0, .int 0])), (q8, .inl (cA, 7680, .inl (fun _ => 0))), (q16, .inl (cA, 64, .inl (fun _ => 0))), (q24, .inl (cA, 64, .inl (sd_ord 64)))]) (va_A [(h0, .inr (1, [.null, .null, .null, .int 0, .int 0]))] sz)) 3 7808 (va_A [(h0, .inr (1, [.null, .null, .null, .int 0, .int 0]))] sz) := by
  refine Met.ofW (cc := prog_3_method_1_code) (maxL := 2) (ret := none) (by decide) rfl ?_
  intro p e s m args below meth c s₁ B hml hv
  obtain ⟨rfl, hsz, hP, hK, hD0⟩ := hv
  have hx := B.exec
  have hb := B.bytes
  have hr := B.returns
  have hts : ∀ w ∈ sx_tbl, w.before ([.ref h0] : List Value).toArray s = true := fun w h => atoms_spec (ws := w_Elements_init) B.pre w (List.mem_cons_of_mem _ h)
  have hown : s.vm.findClass "ScriptDesk$Elements" = some m.cls := findClass_of_methodNamed B.named
  have hlocks := B.notSynchronized
  have hin : meth.name = "<init>" := (name_of_methodNamed B.named B.method).1
  subst hsz
  have hD := hD0.self (sz := s.heap.size)
  generalize hAe : va_A [(h0, .inr (1, [.null, .null, .null, .int 0, .int 0]))] s.heap.size = A at hD ⊢
  have hA : ∀ q : Nat, s.heap.size ≤ q → A q := fun q h => by rw [← hAe]; exact Or.inr h
  have hS : va_S A s.heap s.heap [] := va_S.rf
  have hP : va_P (dC, dI) vwCl [(h0, .inr (1, [.null, .null, .null, .int 0, .int 0]))] s.heap := hP
  have hl := lv_entry ([.ref h0]) (n := 2) (Nat.le_of_ble_eq_true rfl)
  rw [lg_entry_eq]
  generalize (lg_sl ([.ref h0]) ++ List.replicate (2 - (lg_sl ([.ref h0])).length) Slot.unset).toArray = ls at hl ⊢
  have hl : lv_has ls 2 [(0, .ref h0)] := hl
  refine lv_aload_n hx hb d_Elements_init_0 rfl (lv_at hl 0 rfl) ?_
  refine W.objInit hx hb hown (hts _ tw_28) (hts _ tw_21) (hts _ tw_22) rfl (by rw [hml]; exact hl.1) rfl d_Elements_init_1 (Nat.le_of_ble_eq_true rfl) (Nat.le_of_ble_eq_true rfl) ?_
  refine W.eq (g2 := F0 m 4 ls []) rfl ?_
  refine lv_aload_n hx hb d_Elements_init_4 rfl (lv_at hl 0 rfl) ?_
  refine lv_sipush (v := 7680) hx hb d_Elements_init_5 (by decide) ?_
  refine va_newa (atype := .int) (ty := .int) (N' := 7680) (a0 := (7680, .inl (fun _ => 0))) hx hb (hts _ tw_48) rfl hK hP hD hS hA (fun _ => rfl) (by decide) (by decide) (by decide) (Nat.le_of_ble_eq_true rfl) (Nat.le_of_ble_eq_true rfl) d_Elements_init_8 (fun q8 cA H hK hP hD hS => ?_)
  have hK : va_K (dC, dI) vwCl [(cA, .int)] s := hK.sub [0] rfl
  have hP : va_P (dC, dI) vwCl [(h0, .inr (1, [.null, .null, .null, .int 0, .int 0])), (q8, .inl (cA, 7680, .inl (fun _ => 0)))] H := hP
  have hD : va_D A [(h0, .inr (1, [.null, .null, .null, .int 0, .int 0])), (q8, .inl (cA, 7680, .inl (fun _ => 0)))] := hD
  refine W.widen (k := 1) (n := 7680) (by omega) (by omega) ?_
  refine va_putF (D := (dC, dI)) (ci := 1) (v := .ref q8) (ty := .array .int) (C := "ScriptDesk$Elements") (T := T_Elements) (N := 5) hx hb hts iw_Elements t_Elements t_Elements_ok n_Elements hown hK hP hD hS 0 rfl rfl 0 (by decide) (hts _ tw_29) (fun _ h9 => h9) rfl hin rfl (by decide +kernel) rfl rfl (Nat.le_of_ble_eq_true rfl) d_Elements_init_10 (fun H locs hP hD hS => ?_)
  have hP : va_P (dC, dI) vwCl [(h0, .inr (1, [.ref q8, .null, .null, .int 0, .int 0])), (q8, .inl (cA, 7680, .inl (fun _ => 0)))] H := hP
  have hD : va_D A [(h0, .inr (1, [.ref q8, .null, .null, .int 0, .int 0])), (q8, .inl (cA, 7680, .inl (fun _ => 0)))] := hD
  refine lv_aload_n hx hb d_Elements_init_13 rfl (lv_at hl 0 rfl) ?_
  refine lv_bipush (v := 64) hx hb d_Elements_init_14 (by decide) ?_
  refine va_newa (atype := .int) (ty := .int) (N' := 64) (a0 := (64, .inl (fun _ => 0))) hx hb (hts _ tw_48) rfl hK hP hD hS hA (fun _ => rfl) (by decide) (by decide) (by decide) (Nat.le_of_ble_eq_true rfl) (Nat.le_of_ble_eq_true rfl) d_Elements_init_16 (fun q16 cB H hK hP hD hS => ?_)
  obtain rfl : cA = cB := sd_oneA hK (i := 0) (j := 1) rfl rfl
  have hK : va_K (dC, dI) vwCl [(cA, .int)] s := hK.sub [0] rfl
  have hP : va_P (dC, dI) vwCl [(h0, .inr (1, [.ref q8, .null, .null, .int 0, .int 0])), (q8, .inl (cA, 7680, .inl (fun _ => 0))), (q16, .inl (cA, 64, .inl (fun _ => 0)))] H := hP
  have hD : va_D A [(h0, .inr (1, [.ref q8, .null, .null, .int 0, .int 0])), (q8, .inl (cA, 7680, .inl (fun _ => 0))), (q16, .inl (cA, 64, .inl (fun _ => 0)))] := hD
  refine W.widen (k := 2) (n := 7744) (by omega) (by omega) ?_
  refine va_putF (D := (dC, dI)) (ci := 1) (v := .ref q16) (ty := .array .int) (C := "ScriptDesk$Elements") (T := T_Elements) (N := 5) hx hb hts iw_Elements t_Elements t_Elements_ok n_Elements hown hK hP hD hS 0 rfl rfl 1 (by decide) (hts _ tw_30) (fun _ h9 => h9) rfl hin rfl (by decide +kernel) rfl rfl (Nat.le_of_ble_eq_true rfl) d_Elements_init_18 (fun H locs hP hD hS => ?_)
  have hP : va_P (dC, dI) vwCl [(h0, .inr (1, [.ref q8, .ref q16, .null, .int 0, .int 0])), (q8, .inl (cA, 7680, .inl (fun _ => 0))), (q16, .inl (cA, 64, .inl (fun _ => 0)))] H := hP
  have hD : va_D A [(h0, .inr (1, [.ref q8, .ref q16, .null, .int 0, .int 0])), (q8, .inl (cA, 7680, .inl (fun _ => 0))), (q16, .inl (cA, 64, .inl (fun _ => 0)))] := hD
  refine lv_aload_n hx hb d_Elements_init_21 rfl (lv_at hl 0 rfl) ?_
  refine lv_bipush (v := 64) hx hb d_Elements_init_22 (by decide) ?_
  refine va_newa (atype := .int) (ty := .int) (N' := 64) (a0 := (64, .inl (fun _ => 0))) hx hb (hts _ tw_48) rfl hK hP hD hS hA (fun _ => rfl) (by decide) (by decide) (by decide) (Nat.le_of_ble_eq_true rfl) (Nat.le_of_ble_eq_true rfl) d_Elements_init_24 (fun q24 cB H hK hP hD hS => ?_)
  obtain rfl : cA = cB := sd_oneA hK (i := 0) (j := 1) rfl rfl
  have hK : va_K (dC, dI) vwCl [(cA, .int)] s := hK.sub [0] rfl
  have hP : va_P (dC, dI) vwCl [(h0, .inr (1, [.ref q8, .ref q16, .null, .int 0, .int 0])), (q8, .inl (cA, 7680, .inl (fun _ => 0))), (q16, .inl (cA, 64, .inl (fun _ => 0))), (q24, .inl (cA, 64, .inl (fun _ => 0)))] H := hP
  have hD : va_D A [(h0, .inr (1, [.ref q8, .ref q16, .null, .int 0, .int 0])), (q8, .inl (cA, 7680, .inl (fun _ => 0))), (q16, .inl (cA, 64, .inl (fun _ => 0))), (q24, .inl (cA, 64, .inl (fun _ => 0)))] := hD
  refine W.widen (k := 3) (n := 7808) (by omega) (by omega) ?_
  refine va_putF (D := (dC, dI)) (ci := 1) (v := .ref q24) (ty := .array .int) (C := "ScriptDesk$Elements") (T := T_Elements) (N := 5) hx hb hts iw_Elements t_Elements t_Elements_ok n_Elements hown hK hP hD hS 0 rfl rfl 2 (by decide) (hts _ tw_31) (fun _ h9 => h9) rfl hin rfl (by decide +kernel) rfl rfl (Nat.le_of_ble_eq_true rfl) d_Elements_init_26 (fun H locs hP hD hS => ?_)
  have hP : va_P (dC, dI) vwCl [(h0, .inr (1, [.ref q8, .ref q16, .ref q24, .int 0, .int 0])), (q8, .inl (cA, 7680, .inl (fun _ => 0))), (q16, .inl (cA, 64, .inl (fun _ => 0))), (q24, .inl (cA, 64, .inl (fun _ => 0)))] H := hP
  have hD : va_D A [(h0, .inr (1, [.ref q8, .ref q16, .ref q24, .int 0, .int 0])), (q8, .inl (cA, 7680, .inl (fun _ => 0))), (q16, .inl (cA, 64, .inl (fun _ => 0))), (q24, .inl (cA, 64, .inl (fun _ => 0)))] := hD
  refine lv_iconst (v := 0) hx hb d_Elements_init_29 (by decide) ?_
  refine lv_istore_n (lv' := [(1, .int (0 : Int32)), (0, .ref h0)]) hx hb d_Elements_init_30 rfl hl (by decide) rfl (fun ls hl => ?_)
  obtain ⟨j, hj0⟩ : ∃ j : Nat, j = 0 := ⟨0, rfl⟩
  obtain ⟨n, hn0⟩ : ∃ n : Nat, n = 64 := ⟨64, rfl⟩
  have hjn : j + n = 64 := by omega
  have e0 : (fun _ => 0 : Nat → Int32) = sd_ord j := by rw [hj0]; exact sd_ord_0.symm
  obtain ⟨H2, hH2⟩ : ∃ z : Heap, z = H := ⟨_, rfl⟩
  obtain ⟨L2, hL2⟩ : ∃ z : List Loc, z = locs := ⟨_, rfl⟩
  obtain ⟨ls2, hs2⟩ : ∃ z : Array Slot, z = ls := ⟨_, rfl⟩
  have hP : va_P (dC, dI) vwCl [(h0, .inr (1, [.ref q8, .ref q16, .ref q24, .int 0, .int 0])), (q8, .inl (cA, 7680, .inl (fun _ => 0))), (q16, .inl (cA, 64, .inl (fun _ => 0))), (q24, .inl (cA, 64, .inl (sd_ord j)))] H2 := by rw [hH2, ← e0]; exact hP
  have hD : va_D A [(h0, .inr (1, [.ref q8, .ref q16, .ref q24, .int 0, .int 0])), (q8, .inl (cA, 7680, .inl (fun _ => 0))), (q16, .inl (cA, 64, .inl (fun _ => 0))), (q24, .inl (cA, 64, .inl (sd_ord j)))] := by rw [← e0]; exact hD
  have hS : va_S A s.heap H2 L2 := by rw [hH2, hL2]; exact hS
  have hl : lv_has ls2 2 [(1, .int (nI j)), (0, .ref h0)] := by rw [hs2, hj0]; exact hl
  rw [← hH2, ← hL2, ← hs2]
  clear e0 hj0 hn0 hH2 hL2 hs2
  induction n generalizing j H2 L2 ls2 with
  | zero =>
    obtain rfl : j = 64 := by omega
    refine lv_iload_n hx hb d_Elements_init_31 rfl (lv_at hl 0 rfl) ?_
    refine lv_bipush (v := 64) hx hb d_Elements_init_32 (by decide) ?_
    refine lv_icmp_ge (tgt := 50) hx hb d_Elements_init_34 (by decide) (fun hc => ?_) (fun hc => absurd (by decide) hc)
    have hP9 := hP.sub (ws' := [(h0, .inr (1, [.ref q8, .ref q16, .ref q24, .int 0, .int 0])), (q8, .inl (cA, 7680, .inl (fun _ => 0))), (q16, .inl (cA, 64, .inl (fun _ => 0))), (q24, .inl (cA, 64, .inl (sd_ord 64)))]) [0, 1, 2, 3] rfl
    have hD9 := hD.sub (ws' := [(h0, .inr (1, [.ref q8, .ref q16, .ref q24, .int 0, .int 0])), (q8, .inl (cA, 7680, .inl (fun _ => 0))), (q16, .inl (cA, 64, .inl (fun _ => 0))), (q24, .inl (cA, 64, .inl (sd_ord 64)))]) [0, 1, 2, 3] (by decide) rfl
    have hK9 := hK.sub (tys' := [(cA, .int)]) [0] rfl
    exact W.vret hx hb hr (fun t ht hW => ⟨⟨(), rfl, trivial, q8, q16, q24, cA, by rw [ht]; exact hP9, va_K.moved hW.alike hK9, hD9⟩, hS.F ht⟩) hS.2.2 d_Elements_init_50
  | succ n ih =>
    refine lv_iload_n hx hb d_Elements_init_31 rfl (lv_at hl 0 rfl) ?_
    refine lv_bipush (v := 64) hx hb d_Elements_init_32 (by decide) ?_
    refine lv_icmp_ge (tgt := 50) hx hb d_Elements_init_34 (by decide) (fun hc => absurd hc (nI_ge (show j < 64 by omega) (by decide))) (fun hc => ?_)
    refine lv_aload_n hx hb d_Elements_init_37 rfl (lv_at hl 1 rfl) ?_
    refine va_get (D := (dC, dI)) (ci := 1) (v := .ref q24) (C := "ScriptDesk$Elements") (T := T_Elements) (N := 5) hx hb hts iw_Elements hown hK hP 0 rfl rfl 2 (by decide) (hts _ tw_31) (fun _ h9 => h9) rfl d_Elements_init_38 ?_
    refine lv_iload_n hx hb d_Elements_init_41 rfl (lv_at hl 0 rfl) ?_
    refine lv_iload_n hx hb d_Elements_init_42 rfl (lv_at hl 0 rfl) ?_
    refine va_iast hx hb hK hP hD hS 3 0 rfl rfl (vp_in_nI (show j < 64 by omega) (by decide)) d_Elements_init_43 (fun H locs hP hD hS => ?_)
    have e1 : upd (sd_ord j) (nI j).toNatClampNeg (nI j) = sd_ord (j + 1) := sd_ord_s (by omega)
    have hP : va_P (dC, dI) vwCl [(h0, .inr (1, [.ref q8, .ref q16, .ref q24, .int 0, .int 0])), (q8, .inl (cA, 7680, .inl (fun _ => 0))), (q16, .inl (cA, 64, .inl (fun _ => 0))), (q24, .inl (cA, 64, .inl (sd_ord (j + 1))))] H := by rw [← e1]; exact hP
    have hD : va_D A [(h0, .inr (1, [.ref q8, .ref q16, .ref q24, .int 0, .int 0])), (q8, .inl (cA, 7680, .inl (fun _ => 0))), (q16, .inl (cA, 64, .inl (fun _ => 0))), (q24, .inl (cA, 64, .inl (sd_ord (j + 1))))] := by rw [← e1]; exact hD
    refine lv_iinc (v := nI (j + 1)) (lv' := [(1, .int (nI (j + 1))), (0, .ref h0)]) hx hb d_Elements_init_44 hl (k := 0) rfl (nI_1 j) (by decide) rfl (fun ls hl => ?_)
    refine lv_goto (tgt := 31) hx hb d_Elements_init_47 (by decide) ?_
    have hjn : (j + 1) + n = 64 := by omega
    clear e1 hc
    apply ih (j := j + 1) <;> assumption
set_option maxHeartbeats 4000000 in
set_option maxRecDepth 100000 in
theorem ct_Tally_Tally (l : Launch) (dC : Nat → ClassId) (dI : Nat → Nat → Nat) (h0 : Nat) (sz : Nat) : Met l y_Tally_init w_Tally_init ({ frames := 1, cells := 0, slots := 0, locals := 12 }) (va_Pc [.ref h0] (fun U => U.heap.size = sz ∧ va_P (dC, dI) vwCl [(h0, .inr (2, [.int 0]))] U.heap ∧ va_K (dC, dI) vwCl [] U ∧ va_D (fun _ => True) [(h0, .inr (2, [.int 0]))])) (va_Qv (fun (_ : Unit) => True) (fun (_ : Unit) (t : State) => va_P (dC, dI) vwCl [(h0, .inr (2, [.int 0]))] t.heap ∧ va_K (dC, dI) vwCl [] t ∧ va_D (va_A [(h0, .inr (2, [.int 0]))] sz) [(h0, .inr (2, [.int 0]))]) (va_A [(h0, .inr (2, [.int 0]))] sz)) 0 0 (va_A [(h0, .inr (2, [.int 0]))] sz) := by
  refine Met.ofW (cc := prog_10_method_1_code) (maxL := 1) (ret := none) (by decide) rfl ?_
  intro p e s m args below meth c s₁ B hml hv
  obtain ⟨rfl, hsz, hP, hK, hD0⟩ := hv
  have hx := B.exec
  have hb := B.bytes
  have hr := B.returns
  have hts : ∀ w ∈ sx_tbl, w.before ([.ref h0] : List Value).toArray s = true := fun w h => atoms_spec (ws := w_Tally_init) B.pre w (List.mem_cons_of_mem _ h)
  have hown : s.vm.findClass "ScriptDesk$Tally" = some m.cls := findClass_of_methodNamed B.named
  have hlocks := B.notSynchronized
  have hin : meth.name = "<init>" := (name_of_methodNamed B.named B.method).1
  subst hsz
  have hD := hD0.self (sz := s.heap.size)
  generalize hAe : va_A [(h0, .inr (2, [.int 0]))] s.heap.size = A at hD ⊢
  have hA : ∀ q : Nat, s.heap.size ≤ q → A q := fun q h => by rw [← hAe]; exact Or.inr h
  have hS : va_S A s.heap s.heap [] := va_S.rf
  have hP : va_P (dC, dI) vwCl [(h0, .inr (2, [.int 0]))] s.heap := hP
  have hl := lv_entry ([.ref h0]) (n := 1) (Nat.le_of_ble_eq_true rfl)
  rw [lg_entry_eq]
  generalize (lg_sl ([.ref h0]) ++ List.replicate (1 - (lg_sl ([.ref h0])).length) Slot.unset).toArray = ls at hl ⊢
  have hl : lv_has ls 1 [(0, .ref h0)] := hl
  refine lv_aload_n hx hb d_Tally_init_0 rfl (lv_at hl 0 rfl) ?_
  refine W.objInit hx hb hown (hts _ tw_54) (hts _ tw_21) (hts _ tw_22) rfl (by rw [hml]; exact hl.1) rfl d_Tally_init_1 (Nat.le_of_ble_eq_true rfl) (Nat.le_of_ble_eq_true rfl) ?_
  refine W.eq (g2 := F0 m 4 ls []) rfl ?_
  have hP9 := hP.sub (ws' := [(h0, .inr (2, [.int 0]))]) [0] rfl
  have hD9 := hD.sub (ws' := [(h0, .inr (2, [.int 0]))]) [0] (by decide) rfl
  have hK9 := hK.sub (tys' := []) [] rfl
  exact W.vret hx hb hr (fun t ht hW => ⟨⟨(), rfl, trivial, by rw [ht]; exact hP9, va_K.moved hW.alike hK9, hD9⟩, hS.F ht⟩) hS.2.2 d_Tally_init_4
set_option maxHeartbeats 4000000 in
set_option maxRecDepth 100000 in
theorem ct_Flow_Flow (l : Launch) (dC : Nat → ClassId) (dI : Nat → Nat → Nat) (h0 : Nat) (sz : Nat) : Met l y_Flow_init w_Flow_init ({ frames := 1, cells := 0, slots := 0, locals := 12 }) (va_Pc [.ref h0] (fun U => U.heap.size = sz ∧ va_P (dC, dI) vwCl [(h0, .inr (3, [.int 0, .int 0]))] U.heap ∧ va_K (dC, dI) vwCl [] U ∧ va_D (fun _ => True) [(h0, .inr (3, [.int 0, .int 0]))])) (va_Qv (fun (_ : Unit) => True) (fun (_ : Unit) (t : State) => va_P (dC, dI) vwCl [(h0, .inr (3, [.int 0, .int 0]))] t.heap ∧ va_K (dC, dI) vwCl [] t ∧ va_D (va_A [(h0, .inr (3, [.int 0, .int 0]))] sz) [(h0, .inr (3, [.int 0, .int 0]))]) (va_A [(h0, .inr (3, [.int 0, .int 0]))] sz)) 0 0 (va_A [(h0, .inr (3, [.int 0, .int 0]))] sz) := by
  refine Met.ofW (cc := prog_4_method_1_code) (maxL := 1) (ret := none) (by decide) rfl ?_
  intro p e s m args below meth c s₁ B hml hv
  obtain ⟨rfl, hsz, hP, hK, hD0⟩ := hv
  have hx := B.exec
  have hb := B.bytes
  have hr := B.returns
  have hts : ∀ w ∈ sx_tbl, w.before ([.ref h0] : List Value).toArray s = true := fun w h => atoms_spec (ws := w_Flow_init) B.pre w (List.mem_cons_of_mem _ h)
  have hown : s.vm.findClass "ScriptDesk$Flow" = some m.cls := findClass_of_methodNamed B.named
  have hlocks := B.notSynchronized
  have hin : meth.name = "<init>" := (name_of_methodNamed B.named B.method).1
  subst hsz
  have hD := hD0.self (sz := s.heap.size)
  generalize hAe : va_A [(h0, .inr (3, [.int 0, .int 0]))] s.heap.size = A at hD ⊢
  have hA : ∀ q : Nat, s.heap.size ≤ q → A q := fun q h => by rw [← hAe]; exact Or.inr h
  have hS : va_S A s.heap s.heap [] := va_S.rf
  have hP : va_P (dC, dI) vwCl [(h0, .inr (3, [.int 0, .int 0]))] s.heap := hP
  have hl := lv_entry ([.ref h0]) (n := 1) (Nat.le_of_ble_eq_true rfl)
  rw [lg_entry_eq]
  generalize (lg_sl ([.ref h0]) ++ List.replicate (1 - (lg_sl ([.ref h0])).length) Slot.unset).toArray = ls at hl ⊢
  have hl : lv_has ls 1 [(0, .ref h0)] := hl
  refine lv_aload_n hx hb d_Flow_init_0 rfl (lv_at hl 0 rfl) ?_
  refine W.objInit hx hb hown (hts _ tw_65) (hts _ tw_21) (hts _ tw_22) rfl (by rw [hml]; exact hl.1) rfl d_Flow_init_1 (Nat.le_of_ble_eq_true rfl) (Nat.le_of_ble_eq_true rfl) ?_
  refine W.eq (g2 := F0 m 4 ls []) rfl ?_
  have hP9 := hP.sub (ws' := [(h0, .inr (3, [.int 0, .int 0]))]) [0] rfl
  have hD9 := hD.sub (ws' := [(h0, .inr (3, [.int 0, .int 0]))]) [0] (by decide) rfl
  have hK9 := hK.sub (tys' := []) [] rfl
  exact W.vret hx hb hr (fun t ht hW => ⟨⟨(), rfl, trivial, by rw [ht]; exact hP9, va_K.moved hW.alike hK9, hD9⟩, hS.F ht⟩) hS.2.2 d_Flow_init_4
set_option maxHeartbeats 4000000 in
set_option maxRecDepth 100000 in
theorem ct_Signatures_Signatures (l : Launch) (dC : Nat → ClassId) (dI : Nat → Nat → Nat) (h0 : Nat) (sz : Nat) : Met l y_Signatures_init w_Signatures_init ({ frames := 1, cells := 0, slots := 0, locals := 12 }) (va_Pc [.ref h0] (fun U => U.heap.size = sz ∧ va_P (dC, dI) vwCl [(h0, .inr (4, [.int 0, .int 0]))] U.heap ∧ va_K (dC, dI) vwCl [] U ∧ va_D (fun _ => True) [(h0, .inr (4, [.int 0, .int 0]))])) (va_Qv (fun (_ : Unit) => True) (fun (_ : Unit) (t : State) => va_P (dC, dI) vwCl [(h0, .inr (4, [.int 0, .int 0]))] t.heap ∧ va_K (dC, dI) vwCl [] t ∧ va_D (va_A [(h0, .inr (4, [.int 0, .int 0]))] sz) [(h0, .inr (4, [.int 0, .int 0]))]) (va_A [(h0, .inr (4, [.int 0, .int 0]))] sz)) 0 0 (va_A [(h0, .inr (4, [.int 0, .int 0]))] sz) := by
  refine Met.ofW (cc := prog_9_method_1_code) (maxL := 1) (ret := none) (by decide) rfl ?_
  intro p e s m args below meth c s₁ B hml hv
  obtain ⟨rfl, hsz, hP, hK, hD0⟩ := hv
  have hx := B.exec
  have hb := B.bytes
  have hr := B.returns
  have hts : ∀ w ∈ sx_tbl, w.before ([.ref h0] : List Value).toArray s = true := fun w h => atoms_spec (ws := w_Signatures_init) B.pre w (List.mem_cons_of_mem _ h)
  have hown : s.vm.findClass "ScriptDesk$Signatures" = some m.cls := findClass_of_methodNamed B.named
  have hlocks := B.notSynchronized
  have hin : meth.name = "<init>" := (name_of_methodNamed B.named B.method).1
  subst hsz
  have hD := hD0.self (sz := s.heap.size)
  generalize hAe : va_A [(h0, .inr (4, [.int 0, .int 0]))] s.heap.size = A at hD ⊢
  have hA : ∀ q : Nat, s.heap.size ≤ q → A q := fun q h => by rw [← hAe]; exact Or.inr h
  have hS : va_S A s.heap s.heap [] := va_S.rf
  have hP : va_P (dC, dI) vwCl [(h0, .inr (4, [.int 0, .int 0]))] s.heap := hP
  have hl := lv_entry ([.ref h0]) (n := 1) (Nat.le_of_ble_eq_true rfl)
  rw [lg_entry_eq]
  generalize (lg_sl ([.ref h0]) ++ List.replicate (1 - (lg_sl ([.ref h0])).length) Slot.unset).toArray = ls at hl ⊢
  have hl : lv_has ls 1 [(0, .ref h0)] := hl
  refine lv_aload_n hx hb d_Signatures_init_0 rfl (lv_at hl 0 rfl) ?_
  refine W.objInit hx hb hown (hts _ tw_78) (hts _ tw_21) (hts _ tw_22) rfl (by rw [hml]; exact hl.1) rfl d_Signatures_init_1 (Nat.le_of_ble_eq_true rfl) (Nat.le_of_ble_eq_true rfl) ?_
  refine W.eq (g2 := F0 m 4 ls []) rfl ?_
  have hP9 := hP.sub (ws' := [(h0, .inr (4, [.int 0, .int 0]))]) [0] rfl
  have hD9 := hD.sub (ws' := [(h0, .inr (4, [.int 0, .int 0]))]) [0] (by decide) rfl
  have hK9 := hK.sub (tys' := []) [] rfl
  exact W.vret hx hb hr (fun t ht hW => ⟨⟨(), rfl, trivial, by rw [ht]; exact hP9, va_K.moved hW.alike hK9, hD9⟩, hS.F ht⟩) hS.2.2 d_Signatures_init_4
set_option maxHeartbeats 4000000 in
set_option maxRecDepth 100000 in
theorem ct_BlockDigest_Sha256_1_64_8 (l : Launch) (dC : Nat → ClassId) (dI : Nat → Nat → Nat) (h0 : Nat) (sz : Nat) : Met l y_BlockDigest_init w_BlockDigest_init ({ frames := 1, cells := 4, slots := 296, locals := 12 }) (va_Pc [.ref h0, .int (1 : Int32), .int (64 : Int32), .int (8 : Int32)] (fun U => U.heap.size = sz ∧ va_P (dC, dI) vwCl [(h0, .inr (5, [.null, .null, .int 0, .null, .null]))] U.heap ∧ va_K (dC, dI) vwCl [] U ∧ va_D (fun _ => True) [(h0, .inr (5, [.null, .null, .int 0, .null, .null]))])) (va_Qv (fun (_ : Unit) => True) (fun (_ : Unit) (t : State) => ∃ (q8 q20 q27 q36 : Nat) (cA : ClassId), va_P (dC, dI) vwCl [(h0, .inr (5, [.ref q8, .ref q36, .int (1 : Int32), .ref q20, .ref q27])), (q8, .inl (cA, 192, .inl (fun _ => 0))), (q20, .inl (cA, 64, .inl (fun _ => 0))), (q27, .inl (cA, 8, .inl (fun _ => 0))), (q36, .inl (cA, 32, .inl (fun _ => 0)))] t.heap ∧ va_K (dC, dI) vwCl [(cA, .int)] t ∧ va_D (va_A [(h0, .inr (5, [.null, .null, .int 0, .null, .null]))] sz) [(h0, .inr (5, [.ref q8, .ref q36, .int (1 : Int32), .ref q20, .ref q27])), (q8, .inl (cA, 192, .inl (fun _ => 0))), (q20, .inl (cA, 64, .inl (fun _ => 0))), (q27, .inl (cA, 8, .inl (fun _ => 0))), (q36, .inl (cA, 32, .inl (fun _ => 0)))]) (va_A [(h0, .inr (5, [.null, .null, .int 0, .null, .null]))] sz)) 4 296 (va_A [(h0, .inr (5, [.null, .null, .int 0, .null, .null]))] sz) := by
  refine Met.ofW (cc := prog_2_method_1_code) (maxL := 4) (ret := none) (by decide) rfl ?_
  intro p e s m args below meth c s₁ B hml hv
  obtain ⟨rfl, hsz, hP, hK, hD0⟩ := hv
  have hx := B.exec
  have hb := B.bytes
  have hr := B.returns
  have hts : ∀ w ∈ sx_tbl, w.before ([.ref h0, .int (1 : Int32), .int (64 : Int32), .int (8 : Int32)] : List Value).toArray s = true := fun w h => atoms_spec (ws := w_BlockDigest_init) B.pre w (List.mem_cons_of_mem _ h)
  have hown : s.vm.findClass "ScriptDesk$BlockDigest" = some m.cls := findClass_of_methodNamed B.named
  have hlocks := B.notSynchronized
  have hin : meth.name = "<init>" := (name_of_methodNamed B.named B.method).1
  subst hsz
  have hD := hD0.self (sz := s.heap.size)
  generalize hAe : va_A [(h0, .inr (5, [.null, .null, .int 0, .null, .null]))] s.heap.size = A at hD ⊢
  have hA : ∀ q : Nat, s.heap.size ≤ q → A q := fun q h => by rw [← hAe]; exact Or.inr h
  have hS : va_S A s.heap s.heap [] := va_S.rf
  have hP : va_P (dC, dI) vwCl [(h0, .inr (5, [.null, .null, .int 0, .null, .null]))] s.heap := hP
  have hl := lv_entry ([.ref h0, .int (1 : Int32), .int (64 : Int32), .int (8 : Int32)]) (n := 4) (Nat.le_of_ble_eq_true rfl)
  rw [lg_entry_eq]
  generalize (lg_sl ([.ref h0, .int (1 : Int32), .int (64 : Int32), .int (8 : Int32)]) ++ List.replicate (4 - (lg_sl ([.ref h0, .int (1 : Int32), .int (64 : Int32), .int (8 : Int32)])).length) Slot.unset).toArray = ls at hl ⊢
  have hl : lv_has ls 4 [(0, .ref h0), (1, .int (1 : Int32)), (2, .int (64 : Int32)), (3, .int (8 : Int32))] := hl
  refine lv_aload_n hx hb d_BlockDigest_init_0 rfl (lv_at hl 0 rfl) ?_
  refine W.objInit hx hb hown (hts _ tw_96) (hts _ tw_21) (hts _ tw_22) rfl (by rw [hml]; exact hl.1) rfl d_BlockDigest_init_1 (Nat.le_of_ble_eq_true rfl) (Nat.le_of_ble_eq_true rfl) ?_
  refine W.eq (g2 := F0 m 4 ls []) rfl ?_
  refine lv_aload_n hx hb d_BlockDigest_init_4 rfl (lv_at hl 0 rfl) ?_
  refine lv_sipush (v := 192) hx hb d_BlockDigest_init_5 (by decide) ?_
  refine va_newa (atype := .int) (ty := .int) (N' := 192) (a0 := (192, .inl (fun _ => 0))) hx hb (hts _ tw_48) rfl hK hP hD hS hA (fun _ => rfl) (by decide) (by decide) (by decide) (Nat.le_of_ble_eq_true rfl) (Nat.le_of_ble_eq_true rfl) d_BlockDigest_init_8 (fun q8 cA H hK hP hD hS => ?_)
  have hK : va_K (dC, dI) vwCl [(cA, .int)] s := hK.sub [0] rfl
  have hP : va_P (dC, dI) vwCl [(h0, .inr (5, [.null, .null, .int 0, .null, .null])), (q8, .inl (cA, 192, .inl (fun _ => 0)))] H := hP
  have hD : va_D A [(h0, .inr (5, [.null, .null, .int 0, .null, .null])), (q8, .inl (cA, 192, .inl (fun _ => 0)))] := hD
  refine W.widen (k := 1) (n := 192) (by omega) (by omega) ?_
  refine va_putF (D := (dC, dI)) (ci := 5) (v := .ref q8) (ty := .array .int) (C := "ScriptDesk$Sha256") (T := T_Sha256) (N := 5) hx hb hts iw_Sha256 t_Sha256 t_Sha256_ok n_Sha256 hown hK hP hD hS 0 rfl rfl 0 (by decide) (hts _ tw_97) (fun _ h9 => h9) rfl hin rfl (by decide +kernel) rfl rfl (Nat.le_of_ble_eq_true rfl) d_BlockDigest_init_10 (fun H locs hP hD hS => ?_)
  have hP : va_P (dC, dI) vwCl [(h0, .inr (5, [.ref q8, .null, .int 0, .null, .null])), (q8, .inl (cA, 192, .inl (fun _ => 0)))] H := hP
  have hD : va_D A [(h0, .inr (5, [.ref q8, .null, .int 0, .null, .null])), (q8, .inl (cA, 192, .inl (fun _ => 0)))] := hD
  refine lv_aload_n hx hb d_BlockDigest_init_13 rfl (lv_at hl 0 rfl) ?_
  refine lv_iload_n hx hb d_BlockDigest_init_14 rfl (lv_at hl 1 rfl) ?_
  refine va_putF (D := (dC, dI)) (ci := 5) (v := .int (1 : Int32)) (ty := .boolean) (C := "ScriptDesk$Sha256") (T := T_Sha256) (N := 5) hx hb hts iw_Sha256 t_Sha256 t_Sha256_ok n_Sha256 hown hK hP hD hS 0 rfl rfl 2 (by decide) (hts _ tw_99) (fun _ h9 => h9) rfl hin rfl (by decide +kernel) rfl rfl (Nat.le_of_ble_eq_true rfl) d_BlockDigest_init_15 (fun H locs hP hD hS => ?_)
  have hP : va_P (dC, dI) vwCl [(h0, .inr (5, [.ref q8, .null, .int (1 : Int32), .null, .null])), (q8, .inl (cA, 192, .inl (fun _ => 0)))] H := hP
  have hD : va_D A [(h0, .inr (5, [.ref q8, .null, .int (1 : Int32), .null, .null])), (q8, .inl (cA, 192, .inl (fun _ => 0)))] := hD
  refine lv_aload_n hx hb d_BlockDigest_init_18 rfl (lv_at hl 0 rfl) ?_
  refine lv_iload_n hx hb d_BlockDigest_init_19 rfl (lv_at hl 2 rfl) ?_
  refine va_newa (atype := .int) (ty := .int) (N' := 64) (a0 := (64, .inl (fun _ => 0))) hx hb (hts _ tw_48) rfl hK hP hD hS hA (fun _ => rfl) (by decide) (by decide) (by decide) (Nat.le_of_ble_eq_true rfl) (Nat.le_of_ble_eq_true rfl) d_BlockDigest_init_20 (fun q20 cB H hK hP hD hS => ?_)
  obtain rfl : cA = cB := sd_oneA hK (i := 0) (j := 1) rfl rfl
  have hK : va_K (dC, dI) vwCl [(cA, .int)] s := hK.sub [0] rfl
  have hP : va_P (dC, dI) vwCl [(h0, .inr (5, [.ref q8, .null, .int (1 : Int32), .null, .null])), (q8, .inl (cA, 192, .inl (fun _ => 0))), (q20, .inl (cA, 64, .inl (fun _ => 0)))] H := hP
  have hD : va_D A [(h0, .inr (5, [.ref q8, .null, .int (1 : Int32), .null, .null])), (q8, .inl (cA, 192, .inl (fun _ => 0))), (q20, .inl (cA, 64, .inl (fun _ => 0)))] := hD
  refine W.widen (k := 2) (n := 256) (by omega) (by omega) ?_
  refine va_putF (D := (dC, dI)) (ci := 5) (v := .ref q20) (ty := .array .int) (C := "ScriptDesk$Sha256") (T := T_Sha256) (N := 5) hx hb hts iw_Sha256 t_Sha256 t_Sha256_ok n_Sha256 hown hK hP hD hS 0 rfl rfl 3 (by decide) (hts _ tw_100) (fun _ h9 => h9) rfl hin rfl (by decide +kernel) rfl rfl (Nat.le_of_ble_eq_true rfl) d_BlockDigest_init_22 (fun H locs hP hD hS => ?_)
  have hP : va_P (dC, dI) vwCl [(h0, .inr (5, [.ref q8, .null, .int (1 : Int32), .ref q20, .null])), (q8, .inl (cA, 192, .inl (fun _ => 0))), (q20, .inl (cA, 64, .inl (fun _ => 0)))] H := hP
  have hD : va_D A [(h0, .inr (5, [.ref q8, .null, .int (1 : Int32), .ref q20, .null])), (q8, .inl (cA, 192, .inl (fun _ => 0))), (q20, .inl (cA, 64, .inl (fun _ => 0)))] := hD
  refine lv_aload_n hx hb d_BlockDigest_init_25 rfl (lv_at hl 0 rfl) ?_
  refine lv_iload_n hx hb d_BlockDigest_init_26 rfl (lv_at hl 3 rfl) ?_
  refine va_newa (atype := .int) (ty := .int) (N' := 8) (a0 := (8, .inl (fun _ => 0))) hx hb (hts _ tw_48) rfl hK hP hD hS hA (fun _ => rfl) (by decide) (by decide) (by decide) (Nat.le_of_ble_eq_true rfl) (Nat.le_of_ble_eq_true rfl) d_BlockDigest_init_27 (fun q27 cB H hK hP hD hS => ?_)
  obtain rfl : cA = cB := sd_oneA hK (i := 0) (j := 1) rfl rfl
  have hK : va_K (dC, dI) vwCl [(cA, .int)] s := hK.sub [0] rfl
  have hP : va_P (dC, dI) vwCl [(h0, .inr (5, [.ref q8, .null, .int (1 : Int32), .ref q20, .null])), (q8, .inl (cA, 192, .inl (fun _ => 0))), (q20, .inl (cA, 64, .inl (fun _ => 0))), (q27, .inl (cA, 8, .inl (fun _ => 0)))] H := hP
  have hD : va_D A [(h0, .inr (5, [.ref q8, .null, .int (1 : Int32), .ref q20, .null])), (q8, .inl (cA, 192, .inl (fun _ => 0))), (q20, .inl (cA, 64, .inl (fun _ => 0))), (q27, .inl (cA, 8, .inl (fun _ => 0)))] := hD
  refine W.widen (k := 3) (n := 264) (by omega) (by omega) ?_
  refine va_putF (D := (dC, dI)) (ci := 5) (v := .ref q27) (ty := .array .int) (C := "ScriptDesk$Sha256") (T := T_Sha256) (N := 5) hx hb hts iw_Sha256 t_Sha256 t_Sha256_ok n_Sha256 hown hK hP hD hS 0 rfl rfl 4 (by decide) (hts _ tw_105) (fun _ h9 => h9) rfl hin rfl (by decide +kernel) rfl rfl (Nat.le_of_ble_eq_true rfl) d_BlockDigest_init_29 (fun H locs hP hD hS => ?_)
  have hP : va_P (dC, dI) vwCl [(h0, .inr (5, [.ref q8, .null, .int (1 : Int32), .ref q20, .ref q27])), (q8, .inl (cA, 192, .inl (fun _ => 0))), (q20, .inl (cA, 64, .inl (fun _ => 0))), (q27, .inl (cA, 8, .inl (fun _ => 0)))] H := hP
  have hD : va_D A [(h0, .inr (5, [.ref q8, .null, .int (1 : Int32), .ref q20, .ref q27])), (q8, .inl (cA, 192, .inl (fun _ => 0))), (q20, .inl (cA, 64, .inl (fun _ => 0))), (q27, .inl (cA, 8, .inl (fun _ => 0)))] := hD
  refine lv_aload_n hx hb d_BlockDigest_init_32 rfl (lv_at hl 0 rfl) ?_
  refine lv_iload_n hx hb d_BlockDigest_init_33 rfl (lv_at hl 3 rfl) ?_
  refine lv_iconst (v := 4) hx hb d_BlockDigest_init_34 (by decide) ?_
  refine lv_imul hx hb d_BlockDigest_init_35 ?_
  refine W.eq (g2 := F0 m 36 ls [.int (32 : Int32), .ref h0]) rfl ?_
  refine va_newa (atype := .int) (ty := .int) (N' := 32) (a0 := (32, .inl (fun _ => 0))) hx hb (hts _ tw_48) rfl hK hP hD hS hA (fun _ => rfl) (by decide) (by decide) (by decide) (Nat.le_of_ble_eq_true rfl) (Nat.le_of_ble_eq_true rfl) d_BlockDigest_init_36 (fun q36 cB H hK hP hD hS => ?_)
  obtain rfl : cA = cB := sd_oneA hK (i := 0) (j := 1) rfl rfl
  have hK : va_K (dC, dI) vwCl [(cA, .int)] s := hK.sub [0] rfl
  have hP : va_P (dC, dI) vwCl [(h0, .inr (5, [.ref q8, .null, .int (1 : Int32), .ref q20, .ref q27])), (q8, .inl (cA, 192, .inl (fun _ => 0))), (q20, .inl (cA, 64, .inl (fun _ => 0))), (q27, .inl (cA, 8, .inl (fun _ => 0))), (q36, .inl (cA, 32, .inl (fun _ => 0)))] H := hP
  have hD : va_D A [(h0, .inr (5, [.ref q8, .null, .int (1 : Int32), .ref q20, .ref q27])), (q8, .inl (cA, 192, .inl (fun _ => 0))), (q20, .inl (cA, 64, .inl (fun _ => 0))), (q27, .inl (cA, 8, .inl (fun _ => 0))), (q36, .inl (cA, 32, .inl (fun _ => 0)))] := hD
  refine W.widen (k := 4) (n := 296) (by omega) (by omega) ?_
  refine va_putF (D := (dC, dI)) (ci := 5) (v := .ref q36) (ty := .array .int) (C := "ScriptDesk$Sha256") (T := T_Sha256) (N := 5) hx hb hts iw_Sha256 t_Sha256 t_Sha256_ok n_Sha256 hown hK hP hD hS 0 rfl rfl 1 (by decide) (hts _ tw_98) (fun _ h9 => h9) rfl hin rfl (by decide +kernel) rfl rfl (Nat.le_of_ble_eq_true rfl) d_BlockDigest_init_38 (fun H locs hP hD hS => ?_)
  have hP : va_P (dC, dI) vwCl [(h0, .inr (5, [.ref q8, .ref q36, .int (1 : Int32), .ref q20, .ref q27])), (q8, .inl (cA, 192, .inl (fun _ => 0))), (q20, .inl (cA, 64, .inl (fun _ => 0))), (q27, .inl (cA, 8, .inl (fun _ => 0))), (q36, .inl (cA, 32, .inl (fun _ => 0)))] H := hP
  have hD : va_D A [(h0, .inr (5, [.ref q8, .ref q36, .int (1 : Int32), .ref q20, .ref q27])), (q8, .inl (cA, 192, .inl (fun _ => 0))), (q20, .inl (cA, 64, .inl (fun _ => 0))), (q27, .inl (cA, 8, .inl (fun _ => 0))), (q36, .inl (cA, 32, .inl (fun _ => 0)))] := hD
  have hP9 := hP.sub (ws' := [(h0, .inr (5, [.ref q8, .ref q36, .int (1 : Int32), .ref q20, .ref q27])), (q8, .inl (cA, 192, .inl (fun _ => 0))), (q20, .inl (cA, 64, .inl (fun _ => 0))), (q27, .inl (cA, 8, .inl (fun _ => 0))), (q36, .inl (cA, 32, .inl (fun _ => 0)))]) [0, 1, 2, 3, 4] rfl
  have hD9 := hD.sub (ws' := [(h0, .inr (5, [.ref q8, .ref q36, .int (1 : Int32), .ref q20, .ref q27])), (q8, .inl (cA, 192, .inl (fun _ => 0))), (q20, .inl (cA, 64, .inl (fun _ => 0))), (q27, .inl (cA, 8, .inl (fun _ => 0))), (q36, .inl (cA, 32, .inl (fun _ => 0)))]) [0, 1, 2, 3, 4] (by decide) rfl
  have hK9 := hK.sub (tys' := [(cA, .int)]) [0] rfl
  exact W.vret hx hb hr (fun t ht hW => ⟨⟨(), rfl, trivial, q8, q20, q27, q36, cA, by rw [ht]; exact hP9, va_K.moved hW.alike hK9, hD9⟩, hS.F ht⟩) hS.2.2 d_BlockDigest_init_41
set_option maxHeartbeats 4000000 in
set_option maxRecDepth 100000 in
theorem ct_Sha256_Sha256 (l : Launch) (dC : Nat → ClassId) (dI : Nat → Nat → Nat) (h0 : Nat) (sz : Nat) : Met l y_Sha256_init w_Sha256_init ({ frames := 2, cells := 4, slots := 296, locals := 35 }) (va_Pc [.ref h0] (fun U => U.heap.size = sz ∧ va_P (dC, dI) vwCl [(h0, .inr (5, [.null, .null, .int 0, .null, .null]))] U.heap ∧ va_K (dC, dI) vwCl [] U ∧ va_D (fun _ => True) [(h0, .inr (5, [.null, .null, .int 0, .null, .null]))])) (va_Qv (fun (_ : Unit) => True) (fun (_ : Unit) (t : State) => ∃ (q8_6 q20_6 q27_6 q36_6 : Nat) (cA : ClassId), va_P (dC, dI) vwCl [(h0, .inr (5, [.ref q8_6, .ref q36_6, .int (1 : Int32), .ref q20_6, .ref q27_6])), (q8_6, .inl (cA, 192, .inl (fun _ => 0))), (q20_6, .inl (cA, 64, .inl (fun _ => 0))), (q27_6, .inl (cA, 8, .inl (fun _ => 0))), (q36_6, .inl (cA, 32, .inl (fun _ => 0)))] t.heap ∧ va_K (dC, dI) vwCl [(cA, .int)] t ∧ va_D (va_A [(h0, .inr (5, [.null, .null, .int 0, .null, .null]))] sz) [(h0, .inr (5, [.ref q8_6, .ref q36_6, .int (1 : Int32), .ref q20_6, .ref q27_6])), (q8_6, .inl (cA, 192, .inl (fun _ => 0))), (q20_6, .inl (cA, 64, .inl (fun _ => 0))), (q27_6, .inl (cA, 8, .inl (fun _ => 0))), (q36_6, .inl (cA, 32, .inl (fun _ => 0)))]) (va_A [(h0, .inr (5, [.null, .null, .int 0, .null, .null]))] sz)) 4 296 (va_A [(h0, .inr (5, [.null, .null, .int 0, .null, .null]))] sz) := by
  refine Met.ofW (cc := prog_8_method_1_code) (maxL := 1) (ret := none) (by decide) rfl ?_
  intro p e s m args below meth c s₁ B hml hv
  obtain ⟨rfl, hsz, hP, hK, hD0⟩ := hv
  have hx := B.exec
  have hb := B.bytes
  have hr := B.returns
  have hts : ∀ w ∈ sx_tbl, w.before ([.ref h0] : List Value).toArray s = true := fun w h => atoms_spec (ws := w_Sha256_init) B.pre w (List.mem_cons_of_mem _ h)
  have hown : s.vm.findClass "ScriptDesk$Sha256" = some m.cls := findClass_of_methodNamed B.named
  have hlocks := B.notSynchronized
  have hin : meth.name = "<init>" := (name_of_methodNamed B.named B.method).1
  subst hsz
  have hD := hD0.self (sz := s.heap.size)
  generalize hAe : va_A [(h0, .inr (5, [.null, .null, .int 0, .null, .null]))] s.heap.size = A at hD ⊢
  have hA : ∀ q : Nat, s.heap.size ≤ q → A q := fun q h => by rw [← hAe]; exact Or.inr h
  have hS : va_S A s.heap s.heap [] := va_S.rf
  have hP : va_P (dC, dI) vwCl [(h0, .inr (5, [.null, .null, .int 0, .null, .null]))] s.heap := hP
  have hl := lv_entry ([.ref h0]) (n := 1) (Nat.le_of_ble_eq_true rfl)
  rw [lg_entry_eq]
  generalize (lg_sl ([.ref h0]) ++ List.replicate (1 - (lg_sl ([.ref h0])).length) Slot.unset).toArray = ls at hl ⊢
  have hl : lv_has ls 1 [(0, .ref h0)] := hl
  refine lv_aload_n hx hb d_Sha256_init_0 rfl (lv_at hl 0 rfl) ?_
  refine lv_iconst (v := 1) hx hb d_Sha256_init_1 (by decide) ?_
  refine lv_bipush (v := 64) hx hb d_Sha256_init_2 (by decide) ?_
  refine lv_bipush (v := 8) hx hb d_Sha256_init_4 (by decide) ?_
  have hPc := hP.sub (ws' := [(h0, .inr (5, [.null, .null, .int 0, .null, .null]))]) [0] rfl
  have hDc := hD.sub (ws' := [(h0, .inr (5, [.null, .null, .int 0, .null, .null]))]) [0] (by decide) rfl
  have hKc := hK.sub (tys' := []) [] rfl
  have hFc := va_free (wc := [(h0, .inr (5, [.null, .null, .int 0, .null, .null]))]) hD hS hA [0] rfl
  refine va_callv (va_runI (As := [.int (1 : Int32), .int (64 : Int32), .int (8 : Int32)]) (rest := []) ⟨hx, hb, hml, hown, hts⟩ (ct_BlockDigest_Sha256_1_64_8 l dC dI h0 s.heap.size) (cwI 3 hts (gd_code tw_95) rfl rfl rfl (hts _ tw_6) (hts _ tw_93) (hts _ tw_94) rfl (by decide +kernel) ⟨Nat.le_of_ble_eq_true rfl, Nat.le_of_ble_eq_true rfl⟩) ⟨fun a U g mk q => by obtain ⟨q0, q1, qP, qK, qD⟩ := q; exact ⟨q0, q1, qP, va_K.moved (u := U) (U := U.calling g mk a) (Vm.Alike.refl U.vm) qK, qD⟩, fun U hU hW => ⟨rfl, by rw [hU], by rw [hU]; exact hPc, va_K.moved hW.alike hKc, hDc.weaken (fun _ _ _ _ => trivial)⟩⟩ rfl rfl hl.1 rfl (lv_room (Nat.le_of_ble_eq_true rfl)) d_Sha256_init_6 ⟨Nat.le_of_ble_eq_true rfl, Nat.le_of_ble_eq_true rfl⟩) hS (fun q _ h => hFc q h) hFc (fun u t H1 locs ht hvm hw hB hz1 hk1 hS => ?_)
  obtain ⟨q8_6, q20_6, q27_6, q36_6, cA, hP1, hK1, hD1⟩ := hB
  rw [ht] at hP1
  have hK1 := va_K.moved hvm.symm hK1
  obtain ⟨hP, hD⟩ := va_join (wr := []) (w1 := [(h0, .inr (5, [.ref q8_6, .ref q36_6, .int (1 : Int32), .ref q20_6, .ref q27_6])), (q8_6, .inl (cA, 192, .inl (fun _ => 0))), (q20_6, .inl (cA, 64, .inl (fun _ => 0))), (q27_6, .inl (cA, 8, .inl (fun _ => 0))), (q36_6, .inl (cA, 32, .inl (fun _ => 0)))]) hP hD [0] [] rfl rfl (by decide) (by decide) hk1 hFc hP1 hD1
  have hK : va_K (dC, dI) vwCl [(cA, .int)] s := hK1.sub [0] rfl
  generalize H1 = H at hP hS ⊢
  have hP : va_P (dC, dI) vwCl [(h0, .inr (5, [.ref q8_6, .ref q36_6, .int (1 : Int32), .ref q20_6, .ref q27_6])), (q8_6, .inl (cA, 192, .inl (fun _ => 0))), (q20_6, .inl (cA, 64, .inl (fun _ => 0))), (q27_6, .inl (cA, 8, .inl (fun _ => 0))), (q36_6, .inl (cA, 32, .inl (fun _ => 0)))] H := hP
  have hD : va_D A [(h0, .inr (5, [.ref q8_6, .ref q36_6, .int (1 : Int32), .ref q20_6, .ref q27_6])), (q8_6, .inl (cA, 192, .inl (fun _ => 0))), (q20_6, .inl (cA, 64, .inl (fun _ => 0))), (q27_6, .inl (cA, 8, .inl (fun _ => 0))), (q36_6, .inl (cA, 32, .inl (fun _ => 0)))] := hD
  refine W.widen (k := 4) (n := 296) (by omega) (by omega) ?_
  have hP9 := hP.sub (ws' := [(h0, .inr (5, [.ref q8_6, .ref q36_6, .int (1 : Int32), .ref q20_6, .ref q27_6])), (q8_6, .inl (cA, 192, .inl (fun _ => 0))), (q20_6, .inl (cA, 64, .inl (fun _ => 0))), (q27_6, .inl (cA, 8, .inl (fun _ => 0))), (q36_6, .inl (cA, 32, .inl (fun _ => 0)))]) [0, 1, 2, 3, 4] rfl
  have hD9 := hD.sub (ws' := [(h0, .inr (5, [.ref q8_6, .ref q36_6, .int (1 : Int32), .ref q20_6, .ref q27_6])), (q8_6, .inl (cA, 192, .inl (fun _ => 0))), (q20_6, .inl (cA, 64, .inl (fun _ => 0))), (q27_6, .inl (cA, 8, .inl (fun _ => 0))), (q36_6, .inl (cA, 32, .inl (fun _ => 0)))]) [0, 1, 2, 3, 4] (by decide) rfl
  have hK9 := hK.sub (tys' := [(cA, .int)]) [0] rfl
  exact W.vret hx hb hr (fun t ht hW => ⟨⟨(), rfl, trivial, q8_6, q20_6, q27_6, q36_6, cA, by rw [ht]; exact hP9, va_K.moved hW.alike hK9, hD9⟩, hS.F ht⟩) hS.2.2 d_Sha256_init_9
set_option maxHeartbeats 4000000 in
set_option maxRecDepth 100000 in
theorem ct_BlockDigest_Ripemd160_0_16_5 (l : Launch) (dC : Nat → ClassId) (dI : Nat → Nat → Nat) (h0 : Nat) (sz : Nat) : Met l y_BlockDigest_init w_BlockDigest_init ({ frames := 1, cells := 4, slots := 233, locals := 12 }) (va_Pc [.ref h0, .int (0 : Int32), .int (16 : Int32), .int (5 : Int32)] (fun U => U.heap.size = sz ∧ va_P (dC, dI) vwCl [(h0, .inr (6, [.null, .null, .int 0, .null, .null, .null, .null]))] U.heap ∧ va_K (dC, dI) vwCl [] U ∧ va_D (fun _ => True) [(h0, .inr (6, [.null, .null, .int 0, .null, .null, .null, .null]))])) (va_Qv (fun (_ : Unit) => True) (fun (_ : Unit) (t : State) => ∃ (q8 q20 q27 q36 : Nat) (cA : ClassId), va_P (dC, dI) vwCl [(h0, .inr (6, [.ref q8, .ref q36, .int (0 : Int32), .ref q20, .ref q27, .null, .null])), (q8, .inl (cA, 192, .inl (fun _ => 0))), (q20, .inl (cA, 16, .inl (fun _ => 0))), (q27, .inl (cA, 5, .inl (fun _ => 0))), (q36, .inl (cA, 20, .inl (fun _ => 0)))] t.heap ∧ va_K (dC, dI) vwCl [(cA, .int)] t ∧ va_D (va_A [(h0, .inr (6, [.null, .null, .int 0, .null, .null, .null, .null]))] sz) [(h0, .inr (6, [.ref q8, .ref q36, .int (0 : Int32), .ref q20, .ref q27, .null, .null])), (q8, .inl (cA, 192, .inl (fun _ => 0))), (q20, .inl (cA, 16, .inl (fun _ => 0))), (q27, .inl (cA, 5, .inl (fun _ => 0))), (q36, .inl (cA, 20, .inl (fun _ => 0)))]) (va_A [(h0, .inr (6, [.null, .null, .int 0, .null, .null, .null, .null]))] sz)) 4 233 (va_A [(h0, .inr (6, [.null, .null, .int 0, .null, .null, .null, .null]))] sz) := by
  refine Met.ofW (cc := prog_2_method_1_code) (maxL := 4) (ret := none) (by decide) rfl ?_
  intro p e s m args below meth c s₁ B hml hv
  obtain ⟨rfl, hsz, hP, hK, hD0⟩ := hv
  have hx := B.exec
  have hb := B.bytes
  have hr := B.returns
  have hts : ∀ w ∈ sx_tbl, w.before ([.ref h0, .int (0 : Int32), .int (16 : Int32), .int (5 : Int32)] : List Value).toArray s = true := fun w h => atoms_spec (ws := w_BlockDigest_init) B.pre w (List.mem_cons_of_mem _ h)
  have hown : s.vm.findClass "ScriptDesk$BlockDigest" = some m.cls := findClass_of_methodNamed B.named
  have hlocks := B.notSynchronized
  have hin : meth.name = "<init>" := (name_of_methodNamed B.named B.method).1
  subst hsz
  have hD := hD0.self (sz := s.heap.size)
  generalize hAe : va_A [(h0, .inr (6, [.null, .null, .int 0, .null, .null, .null, .null]))] s.heap.size = A at hD ⊢
  have hA : ∀ q : Nat, s.heap.size ≤ q → A q := fun q h => by rw [← hAe]; exact Or.inr h
  have hS : va_S A s.heap s.heap [] := va_S.rf
  have hP : va_P (dC, dI) vwCl [(h0, .inr (6, [.null, .null, .int 0, .null, .null, .null, .null]))] s.heap := hP
  have hl := lv_entry ([.ref h0, .int (0 : Int32), .int (16 : Int32), .int (5 : Int32)]) (n := 4) (Nat.le_of_ble_eq_true rfl)
  rw [lg_entry_eq]
  generalize (lg_sl ([.ref h0, .int (0 : Int32), .int (16 : Int32), .int (5 : Int32)]) ++ List.replicate (4 - (lg_sl ([.ref h0, .int (0 : Int32), .int (16 : Int32), .int (5 : Int32)])).length) Slot.unset).toArray = ls at hl ⊢
  have hl : lv_has ls 4 [(0, .ref h0), (1, .int (0 : Int32)), (2, .int (16 : Int32)), (3, .int (5 : Int32))] := hl
  refine lv_aload_n hx hb d_BlockDigest_init_0 rfl (lv_at hl 0 rfl) ?_
  refine W.objInit hx hb hown (hts _ tw_96) (hts _ tw_21) (hts _ tw_22) rfl (by rw [hml]; exact hl.1) rfl d_BlockDigest_init_1 (Nat.le_of_ble_eq_true rfl) (Nat.le_of_ble_eq_true rfl) ?_
  refine W.eq (g2 := F0 m 4 ls []) rfl ?_
  refine lv_aload_n hx hb d_BlockDigest_init_4 rfl (lv_at hl 0 rfl) ?_
  refine lv_sipush (v := 192) hx hb d_BlockDigest_init_5 (by decide) ?_
  refine va_newa (atype := .int) (ty := .int) (N' := 192) (a0 := (192, .inl (fun _ => 0))) hx hb (hts _ tw_48) rfl hK hP hD hS hA (fun _ => rfl) (by decide) (by decide) (by decide) (Nat.le_of_ble_eq_true rfl) (Nat.le_of_ble_eq_true rfl) d_BlockDigest_init_8 (fun q8 cA H hK hP hD hS => ?_)
  have hK : va_K (dC, dI) vwCl [(cA, .int)] s := hK.sub [0] rfl
  have hP : va_P (dC, dI) vwCl [(h0, .inr (6, [.null, .null, .int 0, .null, .null, .null, .null])), (q8, .inl (cA, 192, .inl (fun _ => 0)))] H := hP
  have hD : va_D A [(h0, .inr (6, [.null, .null, .int 0, .null, .null, .null, .null])), (q8, .inl (cA, 192, .inl (fun _ => 0)))] := hD
  refine W.widen (k := 1) (n := 192) (by omega) (by omega) ?_
  refine va_putF (D := (dC, dI)) (ci := 6) (v := .ref q8) (ty := .array .int) (C := "ScriptDesk$Ripemd160") (T := T_Ripemd160) (N := 7) hx hb hts iw_Ripemd160 t_Ripemd160 t_Ripemd160_ok n_Ripemd160 hown hK hP hD hS 0 rfl rfl 0 (by decide) (hts _ tw_97) (fun _ h9 => h9) rfl hin rfl (by decide +kernel) rfl rfl (Nat.le_of_ble_eq_true rfl) d_BlockDigest_init_10 (fun H locs hP hD hS => ?_)
  have hP : va_P (dC, dI) vwCl [(h0, .inr (6, [.ref q8, .null, .int 0, .null, .null, .null, .null])), (q8, .inl (cA, 192, .inl (fun _ => 0)))] H := hP
  have hD : va_D A [(h0, .inr (6, [.ref q8, .null, .int 0, .null, .null, .null, .null])), (q8, .inl (cA, 192, .inl (fun _ => 0)))] := hD
  refine lv_aload_n hx hb d_BlockDigest_init_13 rfl (lv_at hl 0 rfl) ?_
  refine lv_iload_n hx hb d_BlockDigest_init_14 rfl (lv_at hl 1 rfl) ?_
  refine va_putF (D := (dC, dI)) (ci := 6) (v := .int (0 : Int32)) (ty := .boolean) (C := "ScriptDesk$Ripemd160") (T := T_Ripemd160) (N := 7) hx hb hts iw_Ripemd160 t_Ripemd160 t_Ripemd160_ok n_Ripemd160 hown hK hP hD hS 0 rfl rfl 2 (by decide) (hts _ tw_99) (fun _ h9 => h9) rfl hin rfl (by decide +kernel) rfl rfl (Nat.le_of_ble_eq_true rfl) d_BlockDigest_init_15 (fun H locs hP hD hS => ?_)
  have hP : va_P (dC, dI) vwCl [(h0, .inr (6, [.ref q8, .null, .int (0 : Int32), .null, .null, .null, .null])), (q8, .inl (cA, 192, .inl (fun _ => 0)))] H := hP
  have hD : va_D A [(h0, .inr (6, [.ref q8, .null, .int (0 : Int32), .null, .null, .null, .null])), (q8, .inl (cA, 192, .inl (fun _ => 0)))] := hD
  refine lv_aload_n hx hb d_BlockDigest_init_18 rfl (lv_at hl 0 rfl) ?_
  refine lv_iload_n hx hb d_BlockDigest_init_19 rfl (lv_at hl 2 rfl) ?_
  refine va_newa (atype := .int) (ty := .int) (N' := 16) (a0 := (16, .inl (fun _ => 0))) hx hb (hts _ tw_48) rfl hK hP hD hS hA (fun _ => rfl) (by decide) (by decide) (by decide) (Nat.le_of_ble_eq_true rfl) (Nat.le_of_ble_eq_true rfl) d_BlockDigest_init_20 (fun q20 cB H hK hP hD hS => ?_)
  obtain rfl : cA = cB := sd_oneA hK (i := 0) (j := 1) rfl rfl
  have hK : va_K (dC, dI) vwCl [(cA, .int)] s := hK.sub [0] rfl
  have hP : va_P (dC, dI) vwCl [(h0, .inr (6, [.ref q8, .null, .int (0 : Int32), .null, .null, .null, .null])), (q8, .inl (cA, 192, .inl (fun _ => 0))), (q20, .inl (cA, 16, .inl (fun _ => 0)))] H := hP
  have hD : va_D A [(h0, .inr (6, [.ref q8, .null, .int (0 : Int32), .null, .null, .null, .null])), (q8, .inl (cA, 192, .inl (fun _ => 0))), (q20, .inl (cA, 16, .inl (fun _ => 0)))] := hD
  refine W.widen (k := 2) (n := 208) (by omega) (by omega) ?_
  refine va_putF (D := (dC, dI)) (ci := 6) (v := .ref q20) (ty := .array .int) (C := "ScriptDesk$Ripemd160") (T := T_Ripemd160) (N := 7) hx hb hts iw_Ripemd160 t_Ripemd160 t_Ripemd160_ok n_Ripemd160 hown hK hP hD hS 0 rfl rfl 3 (by decide) (hts _ tw_100) (fun _ h9 => h9) rfl hin rfl (by decide +kernel) rfl rfl (Nat.le_of_ble_eq_true rfl) d_BlockDigest_init_22 (fun H locs hP hD hS => ?_)
  have hP : va_P (dC, dI) vwCl [(h0, .inr (6, [.ref q8, .null, .int (0 : Int32), .ref q20, .null, .null, .null])), (q8, .inl (cA, 192, .inl (fun _ => 0))), (q20, .inl (cA, 16, .inl (fun _ => 0)))] H := hP
  have hD : va_D A [(h0, .inr (6, [.ref q8, .null, .int (0 : Int32), .ref q20, .null, .null, .null])), (q8, .inl (cA, 192, .inl (fun _ => 0))), (q20, .inl (cA, 16, .inl (fun _ => 0)))] := hD
  refine lv_aload_n hx hb d_BlockDigest_init_25 rfl (lv_at hl 0 rfl) ?_
  refine lv_iload_n hx hb d_BlockDigest_init_26 rfl (lv_at hl 3 rfl) ?_
  refine va_newa (atype := .int) (ty := .int) (N' := 5) (a0 := (5, .inl (fun _ => 0))) hx hb (hts _ tw_48) rfl hK hP hD hS hA (fun _ => rfl) (by decide) (by decide) (by decide) (Nat.le_of_ble_eq_true rfl) (Nat.le_of_ble_eq_true rfl) d_BlockDigest_init_27 (fun q27 cB H hK hP hD hS => ?_)
  obtain rfl : cA = cB := sd_oneA hK (i := 0) (j := 1) rfl rfl
  have hK : va_K (dC, dI) vwCl [(cA, .int)] s := hK.sub [0] rfl
  have hP : va_P (dC, dI) vwCl [(h0, .inr (6, [.ref q8, .null, .int (0 : Int32), .ref q20, .null, .null, .null])), (q8, .inl (cA, 192, .inl (fun _ => 0))), (q20, .inl (cA, 16, .inl (fun _ => 0))), (q27, .inl (cA, 5, .inl (fun _ => 0)))] H := hP
  have hD : va_D A [(h0, .inr (6, [.ref q8, .null, .int (0 : Int32), .ref q20, .null, .null, .null])), (q8, .inl (cA, 192, .inl (fun _ => 0))), (q20, .inl (cA, 16, .inl (fun _ => 0))), (q27, .inl (cA, 5, .inl (fun _ => 0)))] := hD
  refine W.widen (k := 3) (n := 213) (by omega) (by omega) ?_
  refine va_putF (D := (dC, dI)) (ci := 6) (v := .ref q27) (ty := .array .int) (C := "ScriptDesk$Ripemd160") (T := T_Ripemd160) (N := 7) hx hb hts iw_Ripemd160 t_Ripemd160 t_Ripemd160_ok n_Ripemd160 hown hK hP hD hS 0 rfl rfl 4 (by decide) (hts _ tw_105) (fun _ h9 => h9) rfl hin rfl (by decide +kernel) rfl rfl (Nat.le_of_ble_eq_true rfl) d_BlockDigest_init_29 (fun H locs hP hD hS => ?_)
  have hP : va_P (dC, dI) vwCl [(h0, .inr (6, [.ref q8, .null, .int (0 : Int32), .ref q20, .ref q27, .null, .null])), (q8, .inl (cA, 192, .inl (fun _ => 0))), (q20, .inl (cA, 16, .inl (fun _ => 0))), (q27, .inl (cA, 5, .inl (fun _ => 0)))] H := hP
  have hD : va_D A [(h0, .inr (6, [.ref q8, .null, .int (0 : Int32), .ref q20, .ref q27, .null, .null])), (q8, .inl (cA, 192, .inl (fun _ => 0))), (q20, .inl (cA, 16, .inl (fun _ => 0))), (q27, .inl (cA, 5, .inl (fun _ => 0)))] := hD
  refine lv_aload_n hx hb d_BlockDigest_init_32 rfl (lv_at hl 0 rfl) ?_
  refine lv_iload_n hx hb d_BlockDigest_init_33 rfl (lv_at hl 3 rfl) ?_
  refine lv_iconst (v := 4) hx hb d_BlockDigest_init_34 (by decide) ?_
  refine lv_imul hx hb d_BlockDigest_init_35 ?_
  refine W.eq (g2 := F0 m 36 ls [.int (20 : Int32), .ref h0]) rfl ?_
  refine va_newa (atype := .int) (ty := .int) (N' := 20) (a0 := (20, .inl (fun _ => 0))) hx hb (hts _ tw_48) rfl hK hP hD hS hA (fun _ => rfl) (by decide) (by decide) (by decide) (Nat.le_of_ble_eq_true rfl) (Nat.le_of_ble_eq_true rfl) d_BlockDigest_init_36 (fun q36 cB H hK hP hD hS => ?_)
  obtain rfl : cA = cB := sd_oneA hK (i := 0) (j := 1) rfl rfl
  have hK : va_K (dC, dI) vwCl [(cA, .int)] s := hK.sub [0] rfl
  have hP : va_P (dC, dI) vwCl [(h0, .inr (6, [.ref q8, .null, .int (0 : Int32), .ref q20, .ref q27, .null, .null])), (q8, .inl (cA, 192, .inl (fun _ => 0))), (q20, .inl (cA, 16, .inl (fun _ => 0))), (q27, .inl (cA, 5, .inl (fun _ => 0))), (q36, .inl (cA, 20, .inl (fun _ => 0)))] H := hP
  have hD : va_D A [(h0, .inr (6, [.ref q8, .null, .int (0 : Int32), .ref q20, .ref q27, .null, .null])), (q8, .inl (cA, 192, .inl (fun _ => 0))), (q20, .inl (cA, 16, .inl (fun _ => 0))), (q27, .inl (cA, 5, .inl (fun _ => 0))), (q36, .inl (cA, 20, .inl (fun _ => 0)))] := hD
  refine W.widen (k := 4) (n := 233) (by omega) (by omega) ?_
  refine va_putF (D := (dC, dI)) (ci := 6) (v := .ref q36) (ty := .array .int) (C := "ScriptDesk$Ripemd160") (T := T_Ripemd160) (N := 7) hx hb hts iw_Ripemd160 t_Ripemd160 t_Ripemd160_ok n_Ripemd160 hown hK hP hD hS 0 rfl rfl 1 (by decide) (hts _ tw_98) (fun _ h9 => h9) rfl hin rfl (by decide +kernel) rfl rfl (Nat.le_of_ble_eq_true rfl) d_BlockDigest_init_38 (fun H locs hP hD hS => ?_)
  have hP : va_P (dC, dI) vwCl [(h0, .inr (6, [.ref q8, .ref q36, .int (0 : Int32), .ref q20, .ref q27, .null, .null])), (q8, .inl (cA, 192, .inl (fun _ => 0))), (q20, .inl (cA, 16, .inl (fun _ => 0))), (q27, .inl (cA, 5, .inl (fun _ => 0))), (q36, .inl (cA, 20, .inl (fun _ => 0)))] H := hP
  have hD : va_D A [(h0, .inr (6, [.ref q8, .ref q36, .int (0 : Int32), .ref q20, .ref q27, .null, .null])), (q8, .inl (cA, 192, .inl (fun _ => 0))), (q20, .inl (cA, 16, .inl (fun _ => 0))), (q27, .inl (cA, 5, .inl (fun _ => 0))), (q36, .inl (cA, 20, .inl (fun _ => 0)))] := hD
  have hP9 := hP.sub (ws' := [(h0, .inr (6, [.ref q8, .ref q36, .int (0 : Int32), .ref q20, .ref q27, .null, .null])), (q8, .inl (cA, 192, .inl (fun _ => 0))), (q20, .inl (cA, 16, .inl (fun _ => 0))), (q27, .inl (cA, 5, .inl (fun _ => 0))), (q36, .inl (cA, 20, .inl (fun _ => 0)))]) [0, 1, 2, 3, 4] rfl
  have hD9 := hD.sub (ws' := [(h0, .inr (6, [.ref q8, .ref q36, .int (0 : Int32), .ref q20, .ref q27, .null, .null])), (q8, .inl (cA, 192, .inl (fun _ => 0))), (q20, .inl (cA, 16, .inl (fun _ => 0))), (q27, .inl (cA, 5, .inl (fun _ => 0))), (q36, .inl (cA, 20, .inl (fun _ => 0)))]) [0, 1, 2, 3, 4] (by decide) rfl
  have hK9 := hK.sub (tys' := [(cA, .int)]) [0] rfl
  exact W.vret hx hb hr (fun t ht hW => ⟨⟨(), rfl, trivial, q8, q20, q27, q36, cA, by rw [ht]; exact hP9, va_K.moved hW.alike hK9, hD9⟩, hS.F ht⟩) hS.2.2 d_BlockDigest_init_41
set_option maxHeartbeats 4000000 in
set_option maxRecDepth 100000 in
theorem ct_Ripemd160_Ripemd160 (l : Launch) (dC : Nat → ClassId) (dI : Nat → Nat → Nat) (h0 : Nat) (sz : Nat) : Met l y_Ripemd160_init w_Ripemd160_init ({ frames := 2, cells := 6, slots := 243, locals := 35 }) (va_Pc [.ref h0] (fun U => U.heap.size = sz ∧ va_P (dC, dI) vwCl [(h0, .inr (6, [.null, .null, .int 0, .null, .null, .null, .null]))] U.heap ∧ va_K (dC, dI) vwCl [] U ∧ va_D (fun _ => True) [(h0, .inr (6, [.null, .null, .int 0, .null, .null, .null, .null]))])) (va_Qv (fun (_ : Unit) => True) (fun (_ : Unit) (t : State) => ∃ (q8_5 q20_5 q27_5 q36_5 q10 q17 : Nat) (cA : ClassId), va_P (dC, dI) vwCl [(h0, .inr (6, [.ref q8_5, .ref q36_5, .int (0 : Int32), .ref q20_5, .ref q27_5, .ref q10, .ref q17])), (q8_5, .inl (cA, 192, .inl (fun _ => 0))), (q20_5, .inl (cA, 16, .inl (fun _ => 0))), (q27_5, .inl (cA, 5, .inl (fun _ => 0))), (q36_5, .inl (cA, 20, .inl (fun _ => 0))), (q10, .inl (cA, 5, .inl (fun _ => 0))), (q17, .inl (cA, 5, .inl (fun _ => 0)))] t.heap ∧ va_K (dC, dI) vwCl [(cA, .int)] t ∧ va_D (va_A [(h0, .inr (6, [.null, .null, .int 0, .null, .null, .null, .null]))] sz) [(h0, .inr (6, [.ref q8_5, .ref q36_5, .int (0 : Int32), .ref q20_5, .ref q27_5, .ref q10, .ref q17])), (q8_5, .inl (cA, 192, .inl (fun _ => 0))), (q20_5, .inl (cA, 16, .inl (fun _ => 0))), (q27_5, .inl (cA, 5, .inl (fun _ => 0))), (q36_5, .inl (cA, 20, .inl (fun _ => 0))), (q10, .inl (cA, 5, .inl (fun _ => 0))), (q17, .inl (cA, 5, .inl (fun _ => 0)))]) (va_A [(h0, .inr (6, [.null, .null, .int 0, .null, .null, .null, .null]))] sz)) 6 243 (va_A [(h0, .inr (6, [.null, .null, .int 0, .null, .null, .null, .null]))] sz) := by
  refine Met.ofW (cc := prog_7_method_1_code) (maxL := 1) (ret := none) (by decide) rfl ?_
  intro p e s m args below meth c s₁ B hml hv
  obtain ⟨rfl, hsz, hP, hK, hD0⟩ := hv
  have hx := B.exec
  have hb := B.bytes
  have hr := B.returns
  have hts : ∀ w ∈ sx_tbl, w.before ([.ref h0] : List Value).toArray s = true := fun w h => atoms_spec (ws := w_Ripemd160_init) B.pre w (List.mem_cons_of_mem _ h)
  have hown : s.vm.findClass "ScriptDesk$Ripemd160" = some m.cls := findClass_of_methodNamed B.named
  have hlocks := B.notSynchronized
  have hin : meth.name = "<init>" := (name_of_methodNamed B.named B.method).1
  subst hsz
  have hD := hD0.self (sz := s.heap.size)
  generalize hAe : va_A [(h0, .inr (6, [.null, .null, .int 0, .null, .null, .null, .null]))] s.heap.size = A at hD ⊢
  have hA : ∀ q : Nat, s.heap.size ≤ q → A q := fun q h => by rw [← hAe]; exact Or.inr h
  have hS : va_S A s.heap s.heap [] := va_S.rf
  have hP : va_P (dC, dI) vwCl [(h0, .inr (6, [.null, .null, .int 0, .null, .null, .null, .null]))] s.heap := hP
  have hl := lv_entry ([.ref h0]) (n := 1) (Nat.le_of_ble_eq_true rfl)
  rw [lg_entry_eq]
  generalize (lg_sl ([.ref h0]) ++ List.replicate (1 - (lg_sl ([.ref h0])).length) Slot.unset).toArray = ls at hl ⊢
  have hl : lv_has ls 1 [(0, .ref h0)] := hl
  refine lv_aload_n hx hb d_Ripemd160_init_0 rfl (lv_at hl 0 rfl) ?_
  refine lv_iconst (v := 0) hx hb d_Ripemd160_init_1 (by decide) ?_
  refine lv_bipush (v := 16) hx hb d_Ripemd160_init_2 (by decide) ?_
  refine lv_iconst (v := 5) hx hb d_Ripemd160_init_4 (by decide) ?_
  have hPc := hP.sub (ws' := [(h0, .inr (6, [.null, .null, .int 0, .null, .null, .null, .null]))]) [0] rfl
  have hDc := hD.sub (ws' := [(h0, .inr (6, [.null, .null, .int 0, .null, .null, .null, .null]))]) [0] (by decide) rfl
  have hKc := hK.sub (tys' := []) [] rfl
  have hFc := va_free (wc := [(h0, .inr (6, [.null, .null, .int 0, .null, .null, .null, .null]))]) hD hS hA [0] rfl
  refine va_callv (va_runI (As := [.int (0 : Int32), .int (16 : Int32), .int (5 : Int32)]) (rest := []) ⟨hx, hb, hml, hown, hts⟩ (ct_BlockDigest_Ripemd160_0_16_5 l dC dI h0 s.heap.size) (cwI 3 hts (gd_code tw_95) rfl rfl rfl (hts _ tw_6) (hts _ tw_126) (hts _ tw_94) rfl (by decide +kernel) ⟨Nat.le_of_ble_eq_true rfl, Nat.le_of_ble_eq_true rfl⟩) ⟨fun a U g mk q => by obtain ⟨q0, q1, qP, qK, qD⟩ := q; exact ⟨q0, q1, qP, va_K.moved (u := U) (U := U.calling g mk a) (Vm.Alike.refl U.vm) qK, qD⟩, fun U hU hW => ⟨rfl, by rw [hU], by rw [hU]; exact hPc, va_K.moved hW.alike hKc, hDc.weaken (fun _ _ _ _ => trivial)⟩⟩ rfl rfl hl.1 rfl (lv_room (Nat.le_of_ble_eq_true rfl)) d_Ripemd160_init_5 ⟨Nat.le_of_ble_eq_true rfl, Nat.le_of_ble_eq_true rfl⟩) hS (fun q _ h => hFc q h) hFc (fun u t H1 locs ht hvm hw hB hz1 hk1 hS => ?_)
  obtain ⟨q8_5, q20_5, q27_5, q36_5, cA, hP1, hK1, hD1⟩ := hB
  rw [ht] at hP1
  have hK1 := va_K.moved hvm.symm hK1
  obtain ⟨hP, hD⟩ := va_join (wr := []) (w1 := [(h0, .inr (6, [.ref q8_5, .ref q36_5, .int (0 : Int32), .ref q20_5, .ref q27_5, .null, .null])), (q8_5, .inl (cA, 192, .inl (fun _ => 0))), (q20_5, .inl (cA, 16, .inl (fun _ => 0))), (q27_5, .inl (cA, 5, .inl (fun _ => 0))), (q36_5, .inl (cA, 20, .inl (fun _ => 0)))]) hP hD [0] [] rfl rfl (by decide) (by decide) hk1 hFc hP1 hD1
  have hK : va_K (dC, dI) vwCl [(cA, .int)] s := hK1.sub [0] rfl
  generalize H1 = H at hP hS ⊢
  have hP : va_P (dC, dI) vwCl [(h0, .inr (6, [.ref q8_5, .ref q36_5, .int (0 : Int32), .ref q20_5, .ref q27_5, .null, .null])), (q8_5, .inl (cA, 192, .inl (fun _ => 0))), (q20_5, .inl (cA, 16, .inl (fun _ => 0))), (q27_5, .inl (cA, 5, .inl (fun _ => 0))), (q36_5, .inl (cA, 20, .inl (fun _ => 0)))] H := hP
  have hD : va_D A [(h0, .inr (6, [.ref q8_5, .ref q36_5, .int (0 : Int32), .ref q20_5, .ref q27_5, .null, .null])), (q8_5, .inl (cA, 192, .inl (fun _ => 0))), (q20_5, .inl (cA, 16, .inl (fun _ => 0))), (q27_5, .inl (cA, 5, .inl (fun _ => 0))), (q36_5, .inl (cA, 20, .inl (fun _ => 0)))] := hD
  refine W.widen (k := 4) (n := 233) (by omega) (by omega) ?_
  refine lv_aload_n hx hb d_Ripemd160_init_8 rfl (lv_at hl 0 rfl) ?_
  refine lv_iconst (v := 5) hx hb d_Ripemd160_init_9 (by decide) ?_
  refine va_newa (atype := .int) (ty := .int) (N' := 5) (a0 := (5, .inl (fun _ => 0))) hx hb (hts _ tw_48) rfl hK hP hD hS hA (fun _ => rfl) (by decide) (by decide) (by decide) (Nat.le_of_ble_eq_true rfl) (Nat.le_of_ble_eq_true rfl) d_Ripemd160_init_10 (fun q10 cB H hK hP hD hS => ?_)
  obtain rfl : cA = cB := sd_oneA hK (i := 0) (j := 1) rfl rfl
  have hK : va_K (dC, dI) vwCl [(cA, .int)] s := hK.sub [0] rfl
  have hP : va_P (dC, dI) vwCl [(h0, .inr (6, [.ref q8_5, .ref q36_5, .int (0 : Int32), .ref q20_5, .ref q27_5, .null, .null])), (q8_5, .inl (cA, 192, .inl (fun _ => 0))), (q20_5, .inl (cA, 16, .inl (fun _ => 0))), (q27_5, .inl (cA, 5, .inl (fun _ => 0))), (q36_5, .inl (cA, 20, .inl (fun _ => 0))), (q10, .inl (cA, 5, .inl (fun _ => 0)))] H := hP
  have hD : va_D A [(h0, .inr (6, [.ref q8_5, .ref q36_5, .int (0 : Int32), .ref q20_5, .ref q27_5, .null, .null])), (q8_5, .inl (cA, 192, .inl (fun _ => 0))), (q20_5, .inl (cA, 16, .inl (fun _ => 0))), (q27_5, .inl (cA, 5, .inl (fun _ => 0))), (q36_5, .inl (cA, 20, .inl (fun _ => 0))), (q10, .inl (cA, 5, .inl (fun _ => 0)))] := hD
  refine W.widen (k := 5) (n := 238) (by omega) (by omega) ?_
  refine va_putF (D := (dC, dI)) (ci := 6) (v := .ref q10) (ty := .array .int) (C := "ScriptDesk$Ripemd160") (T := T_Ripemd160) (N := 7) hx hb hts iw_Ripemd160 t_Ripemd160 t_Ripemd160_ok n_Ripemd160 hown hK hP hD hS 0 rfl rfl 5 (by decide) (hts _ tw_127) (fun _ h9 => h9) rfl hin rfl (by decide +kernel) rfl rfl (Nat.le_of_ble_eq_true rfl) d_Ripemd160_init_12 (fun H locs hP hD hS => ?_)
  have hP : va_P (dC, dI) vwCl [(h0, .inr (6, [.ref q8_5, .ref q36_5, .int (0 : Int32), .ref q20_5, .ref q27_5, .ref q10, .null])), (q8_5, .inl (cA, 192, .inl (fun _ => 0))), (q20_5, .inl (cA, 16, .inl (fun _ => 0))), (q27_5, .inl (cA, 5, .inl (fun _ => 0))), (q36_5, .inl (cA, 20, .inl (fun _ => 0))), (q10, .inl (cA, 5, .inl (fun _ => 0)))] H := hP
  have hD : va_D A [(h0, .inr (6, [.ref q8_5, .ref q36_5, .int (0 : Int32), .ref q20_5, .ref q27_5, .ref q10, .null])), (q8_5, .inl (cA, 192, .inl (fun _ => 0))), (q20_5, .inl (cA, 16, .inl (fun _ => 0))), (q27_5, .inl (cA, 5, .inl (fun _ => 0))), (q36_5, .inl (cA, 20, .inl (fun _ => 0))), (q10, .inl (cA, 5, .inl (fun _ => 0)))] := hD
  refine lv_aload_n hx hb d_Ripemd160_init_15 rfl (lv_at hl 0 rfl) ?_
  refine lv_iconst (v := 5) hx hb d_Ripemd160_init_16 (by decide) ?_
  refine va_newa (atype := .int) (ty := .int) (N' := 5) (a0 := (5, .inl (fun _ => 0))) hx hb (hts _ tw_48) rfl hK hP hD hS hA (fun _ => rfl) (by decide) (by decide) (by decide) (Nat.le_of_ble_eq_true rfl) (Nat.le_of_ble_eq_true rfl) d_Ripemd160_init_17 (fun q17 cB H hK hP hD hS => ?_)
  obtain rfl : cA = cB := sd_oneA hK (i := 0) (j := 1) rfl rfl
  have hK : va_K (dC, dI) vwCl [(cA, .int)] s := hK.sub [0] rfl
  have hP : va_P (dC, dI) vwCl [(h0, .inr (6, [.ref q8_5, .ref q36_5, .int (0 : Int32), .ref q20_5, .ref q27_5, .ref q10, .null])), (q8_5, .inl (cA, 192, .inl (fun _ => 0))), (q20_5, .inl (cA, 16, .inl (fun _ => 0))), (q27_5, .inl (cA, 5, .inl (fun _ => 0))), (q36_5, .inl (cA, 20, .inl (fun _ => 0))), (q10, .inl (cA, 5, .inl (fun _ => 0))), (q17, .inl (cA, 5, .inl (fun _ => 0)))] H := hP
  have hD : va_D A [(h0, .inr (6, [.ref q8_5, .ref q36_5, .int (0 : Int32), .ref q20_5, .ref q27_5, .ref q10, .null])), (q8_5, .inl (cA, 192, .inl (fun _ => 0))), (q20_5, .inl (cA, 16, .inl (fun _ => 0))), (q27_5, .inl (cA, 5, .inl (fun _ => 0))), (q36_5, .inl (cA, 20, .inl (fun _ => 0))), (q10, .inl (cA, 5, .inl (fun _ => 0))), (q17, .inl (cA, 5, .inl (fun _ => 0)))] := hD
  refine W.widen (k := 6) (n := 243) (by omega) (by omega) ?_
  refine va_putF (D := (dC, dI)) (ci := 6) (v := .ref q17) (ty := .array .int) (C := "ScriptDesk$Ripemd160") (T := T_Ripemd160) (N := 7) hx hb hts iw_Ripemd160 t_Ripemd160 t_Ripemd160_ok n_Ripemd160 hown hK hP hD hS 0 rfl rfl 6 (by decide) (hts _ tw_128) (fun _ h9 => h9) rfl hin rfl (by decide +kernel) rfl rfl (Nat.le_of_ble_eq_true rfl) d_Ripemd160_init_19 (fun H locs hP hD hS => ?_)
  have hP : va_P (dC, dI) vwCl [(h0, .inr (6, [.ref q8_5, .ref q36_5, .int (0 : Int32), .ref q20_5, .ref q27_5, .ref q10, .ref q17])), (q8_5, .inl (cA, 192, .inl (fun _ => 0))), (q20_5, .inl (cA, 16, .inl (fun _ => 0))), (q27_5, .inl (cA, 5, .inl (fun _ => 0))), (q36_5, .inl (cA, 20, .inl (fun _ => 0))), (q10, .inl (cA, 5, .inl (fun _ => 0))), (q17, .inl (cA, 5, .inl (fun _ => 0)))] H := hP
  have hD : va_D A [(h0, .inr (6, [.ref q8_5, .ref q36_5, .int (0 : Int32), .ref q20_5, .ref q27_5, .ref q10, .ref q17])), (q8_5, .inl (cA, 192, .inl (fun _ => 0))), (q20_5, .inl (cA, 16, .inl (fun _ => 0))), (q27_5, .inl (cA, 5, .inl (fun _ => 0))), (q36_5, .inl (cA, 20, .inl (fun _ => 0))), (q10, .inl (cA, 5, .inl (fun _ => 0))), (q17, .inl (cA, 5, .inl (fun _ => 0)))] := hD
  have hP9 := hP.sub (ws' := [(h0, .inr (6, [.ref q8_5, .ref q36_5, .int (0 : Int32), .ref q20_5, .ref q27_5, .ref q10, .ref q17])), (q8_5, .inl (cA, 192, .inl (fun _ => 0))), (q20_5, .inl (cA, 16, .inl (fun _ => 0))), (q27_5, .inl (cA, 5, .inl (fun _ => 0))), (q36_5, .inl (cA, 20, .inl (fun _ => 0))), (q10, .inl (cA, 5, .inl (fun _ => 0))), (q17, .inl (cA, 5, .inl (fun _ => 0)))]) [0, 1, 2, 3, 4, 5, 6] rfl
  have hD9 := hD.sub (ws' := [(h0, .inr (6, [.ref q8_5, .ref q36_5, .int (0 : Int32), .ref q20_5, .ref q27_5, .ref q10, .ref q17])), (q8_5, .inl (cA, 192, .inl (fun _ => 0))), (q20_5, .inl (cA, 16, .inl (fun _ => 0))), (q27_5, .inl (cA, 5, .inl (fun _ => 0))), (q36_5, .inl (cA, 20, .inl (fun _ => 0))), (q10, .inl (cA, 5, .inl (fun _ => 0))), (q17, .inl (cA, 5, .inl (fun _ => 0)))]) [0, 1, 2, 3, 4, 5, 6] (by decide) rfl
  have hK9 := hK.sub (tys' := [(cA, .int)]) [0] rfl
  exact W.vret hx hb hr (fun t ht hW => ⟨⟨(), rfl, trivial, q8_5, q20_5, q27_5, q36_5, q10, q17, cA, by rw [ht]; exact hP9, va_K.moved hW.alike hK9, hD9⟩, hS.F ht⟩) hS.2.2 d_Ripemd160_init_22
set_option maxHeartbeats 4000000 in
set_option maxRecDepth 100000 in
theorem ct_Desk_Desk (l : Launch) (dC : Nat → ClassId) (dI : Nat → Nat → Nat) (h0 : Nat) (sz : Nat) : Met l y_Desk_init w_Desk_init ({ frames := 3, cells := 20, slots := 8569, locals := 55 }) (va_Pc [.ref h0] (fun U => U.heap.size = sz ∧ va_P (dC, dI) vwCl [(h0, .inr (0, [.null, .int 0, .int 0, .int 0, .null, .null, .null, .null, .null, .null]))] U.heap ∧ va_K (dC, dI) vwCl [] U ∧ va_D (fun _ => True) [(h0, .inr (0, [.null, .int 0, .int 0, .int 0, .null, .null, .null, .null, .null, .null]))] ∧ va_Nw (Jvm.Cond.methodLinkNest "ScriptDesk" (32 : Nat) ({ cls := "ScriptDesk$Tally", name := "<init>", desc := "()V" } : Jvm.MethodName) "ScriptDesk") U ∧ va_Nw (Jvm.Cond.methodLinkNest "ScriptDesk" (39 : Nat) ({ cls := "ScriptDesk$Flow", name := "<init>", desc := "()V" } : Jvm.MethodName) "ScriptDesk") U ∧ va_Nw (Jvm.Cond.methodLinkNest "ScriptDesk" (46 : Nat) ({ cls := "ScriptDesk$Signatures", name := "<init>", desc := "()V" } : Jvm.MethodName) "ScriptDesk") U)) (va_Qv (fun (_ : Unit) => True) (fun (_ : Unit) (t : State) => ∃ (q8 q29 q8_33 q16_33 q24_33 q40 q51 q62 q73 q8_6_77 q20_6_77 q27_6_77 q36_6_77 q84 q8_5_88 q20_5_88 q27_5_88 q36_5_88 q10_88 q17_88 : Nat) (cA : ClassId), va_P (dC, dI) vwCl [(h0, .inr (0, [.ref q8, .int (0 : Int32), .int (0 : Int32), .int (-1 : Int32), .ref q29, .ref q40, .ref q51, .ref q62, .ref q73, .ref q84])), (q8, .inl (cA, 200, .inl (fun _ => 0))), (q29, .inr (1, [.ref q8_33, .ref q16_33, .ref q24_33, .int 0, .int 0])), (q8_33, .inl (cA, 7680, .inl (fun _ => 0))), (q16_33, .inl (cA, 64, .inl (fun _ => 0))), (q24_33, .inl (cA, 64, .inl (sd_ord 64))), (q40, .inr (2, [.int 0])), (q51, .inr (3, [.int 0, .int 0])), (q62, .inr (4, [.int 0, .int 0])), (q73, .inr (5, [.ref q8_6_77, .ref q36_6_77, .int (1 : Int32), .ref q20_6_77, .ref q27_6_77])), (q8_6_77, .inl (cA, 192, .inl (fun _ => 0))), (q20_6_77, .inl (cA, 64, .inl (fun _ => 0))), (q27_6_77, .inl (cA, 8, .inl (fun _ => 0))), (q36_6_77, .inl (cA, 32, .inl (fun _ => 0))), (q84, .inr (6, [.ref q8_5_88, .ref q36_5_88, .int (0 : Int32), .ref q20_5_88, .ref q27_5_88, .ref q10_88, .ref q17_88])), (q8_5_88, .inl (cA, 192, .inl (fun _ => 0))), (q20_5_88, .inl (cA, 16, .inl (fun _ => 0))), (q27_5_88, .inl (cA, 5, .inl (fun _ => 0))), (q36_5_88, .inl (cA, 20, .inl (fun _ => 0))), (q10_88, .inl (cA, 5, .inl (fun _ => 0))), (q17_88, .inl (cA, 5, .inl (fun _ => 0)))] t.heap ∧ va_K (dC, dI) vwCl [(cA, .int)] t ∧ va_D (va_A [(h0, .inr (0, [.null, .int 0, .int 0, .int 0, .null, .null, .null, .null, .null, .null]))] sz) [(h0, .inr (0, [.ref q8, .int (0 : Int32), .int (0 : Int32), .int (-1 : Int32), .ref q29, .ref q40, .ref q51, .ref q62, .ref q73, .ref q84])), (q8, .inl (cA, 200, .inl (fun _ => 0))), (q29, .inr (1, [.ref q8_33, .ref q16_33, .ref q24_33, .int 0, .int 0])), (q8_33, .inl (cA, 7680, .inl (fun _ => 0))), (q16_33, .inl (cA, 64, .inl (fun _ => 0))), (q24_33, .inl (cA, 64, .inl (sd_ord 64))), (q40, .inr (2, [.int 0])), (q51, .inr (3, [.int 0, .int 0])), (q62, .inr (4, [.int 0, .int 0])), (q73, .inr (5, [.ref q8_6_77, .ref q36_6_77, .int (1 : Int32), .ref q20_6_77, .ref q27_6_77])), (q8_6_77, .inl (cA, 192, .inl (fun _ => 0))), (q20_6_77, .inl (cA, 64, .inl (fun _ => 0))), (q27_6_77, .inl (cA, 8, .inl (fun _ => 0))), (q36_6_77, .inl (cA, 32, .inl (fun _ => 0))), (q84, .inr (6, [.ref q8_5_88, .ref q36_5_88, .int (0 : Int32), .ref q20_5_88, .ref q27_5_88, .ref q10_88, .ref q17_88])), (q8_5_88, .inl (cA, 192, .inl (fun _ => 0))), (q20_5_88, .inl (cA, 16, .inl (fun _ => 0))), (q27_5_88, .inl (cA, 5, .inl (fun _ => 0))), (q36_5_88, .inl (cA, 20, .inl (fun _ => 0))), (q10_88, .inl (cA, 5, .inl (fun _ => 0))), (q17_88, .inl (cA, 5, .inl (fun _ => 0)))]) (va_A [(h0, .inr (0, [.null, .int 0, .int 0, .int 0, .null, .null, .null, .null, .null, .null]))] sz)) 20 8569 (va_A [(h0, .inr (0, [.null, .int 0, .int 0, .int 0, .null, .null, .null, .null, .null, .null]))] sz) := by
  refine Met.ofW (cc := prog_1_method_1_code) (maxL := 1) (ret := none) (by decide) rfl ?_
  intro p e s m args below meth c s₁ B hml hv
  obtain ⟨rfl, hsz, hP, hK, hD0, hN0, hN1, hN2⟩ := hv
  have hx := B.exec
  have hb := B.bytes
  have hr := B.returns
  have hts : ∀ w ∈ sx_tbl, w.before ([.ref h0] : List Value).toArray s = true := fun w h => atoms_spec (ws := w_Desk_init) B.pre w (List.mem_cons_of_mem _ h)
  have hown : s.vm.findClass "ScriptDesk" = some m.cls := findClass_of_methodNamed B.named
  have hlocks := B.notSynchronized
  have hin : meth.name = "<init>" := (name_of_methodNamed B.named B.method).1
  subst hsz
  have hD := hD0.self (sz := s.heap.size)
  generalize hAe : va_A [(h0, .inr (0, [.null, .int 0, .int 0, .int 0, .null, .null, .null, .null, .null, .null]))] s.heap.size = A at hD ⊢
  have hA : ∀ q : Nat, s.heap.size ≤ q → A q := fun q h => by rw [← hAe]; exact Or.inr h
  have hS : va_S A s.heap s.heap [] := va_S.rf
  have hP : va_P (dC, dI) vwCl [(h0, .inr (0, [.null, .int 0, .int 0, .int 0, .null, .null, .null, .null, .null, .null]))] s.heap := hP
  have hl := lv_entry ([.ref h0]) (n := 1) (Nat.le_of_ble_eq_true rfl)
  rw [lg_entry_eq]
  generalize (lg_sl ([.ref h0]) ++ List.replicate (1 - (lg_sl ([.ref h0])).length) Slot.unset).toArray = ls at hl ⊢
  have hl : lv_has ls 1 [(0, .ref h0)] := hl
  refine lv_aload_n hx hb d_Desk_init_0 rfl (lv_at hl 0 rfl) ?_
  refine W.objInit hx hb hown (hts _ tw_20) (hts _ tw_21) (hts _ tw_22) rfl (by rw [hml]; exact hl.1) rfl d_Desk_init_1 (Nat.le_of_ble_eq_true rfl) (Nat.le_of_ble_eq_true rfl) ?_
  refine W.eq (g2 := F0 m 4 ls []) rfl ?_
  refine lv_aload_n hx hb d_Desk_init_4 rfl (lv_at hl 0 rfl) ?_
  refine lv_sipush (v := 200) hx hb d_Desk_init_5 (by decide) ?_
  refine va_newa (atype := .int) (ty := .int) (N' := 200) (a0 := (200, .inl (fun _ => 0))) hx hb (hts _ tw_48) rfl hK hP hD hS hA (fun _ => rfl) (by decide) (by decide) (by decide) (Nat.le_of_ble_eq_true rfl) (Nat.le_of_ble_eq_true rfl) d_Desk_init_8 (fun q8 cA H hK hP hD hS => ?_)
  have hK : va_K (dC, dI) vwCl [(cA, .int)] s := hK.sub [0] rfl
  have hP : va_P (dC, dI) vwCl [(h0, .inr (0, [.null, .int 0, .int 0, .int 0, .null, .null, .null, .null, .null, .null])), (q8, .inl (cA, 200, .inl (fun _ => 0)))] H := hP
  have hD : va_D A [(h0, .inr (0, [.null, .int 0, .int 0, .int 0, .null, .null, .null, .null, .null, .null])), (q8, .inl (cA, 200, .inl (fun _ => 0)))] := hD
  refine W.widen (k := 1) (n := 200) (by omega) (by omega) ?_
  refine va_putF (D := (dC, dI)) (ci := 0) (v := .ref q8) (ty := .array .int) (C := "ScriptDesk") (T := T_Desk) (N := 10) hx hb hts iw_Desk t_Desk t_Desk_ok n_Desk hown hK hP hD hS 0 rfl rfl 0 (by decide) (hts _ tw_139) (fun _ h9 => h9) rfl hin rfl (by decide +kernel) rfl rfl (Nat.le_of_ble_eq_true rfl) d_Desk_init_10 (fun H locs hP hD hS => ?_)
  have hP : va_P (dC, dI) vwCl [(h0, .inr (0, [.ref q8, .int 0, .int 0, .int 0, .null, .null, .null, .null, .null, .null])), (q8, .inl (cA, 200, .inl (fun _ => 0)))] H := hP
  have hD : va_D A [(h0, .inr (0, [.ref q8, .int 0, .int 0, .int 0, .null, .null, .null, .null, .null, .null])), (q8, .inl (cA, 200, .inl (fun _ => 0)))] := hD
  refine lv_aload_n hx hb d_Desk_init_13 rfl (lv_at hl 0 rfl) ?_
  refine lv_iconst (v := 0) hx hb d_Desk_init_14 (by decide) ?_
  refine va_put (D := (dC, dI)) (ci := 0) (v := .int (0 : Int32)) (ty := .int) (C := "ScriptDesk") (T := T_Desk) (N := 10) hx hb hts iw_Desk t_Desk t_Desk_ok n_Desk hown hK hP hD hS 0 rfl rfl 1 (by decide) (hts _ tw_140) (fun _ h9 => h9) rfl (by decide +kernel) rfl rfl (Nat.le_of_ble_eq_true rfl) d_Desk_init_15 (fun H locs hP hD hS => ?_)
  have hP : va_P (dC, dI) vwCl [(h0, .inr (0, [.ref q8, .int (0 : Int32), .int 0, .int 0, .null, .null, .null, .null, .null, .null])), (q8, .inl (cA, 200, .inl (fun _ => 0)))] H := hP
  have hD : va_D A [(h0, .inr (0, [.ref q8, .int (0 : Int32), .int 0, .int 0, .null, .null, .null, .null, .null, .null])), (q8, .inl (cA, 200, .inl (fun _ => 0)))] := hD
  refine lv_aload_n hx hb d_Desk_init_18 rfl (lv_at hl 0 rfl) ?_
  refine lv_iconst (v := 0) hx hb d_Desk_init_19 (by decide) ?_
  refine va_put (D := (dC, dI)) (ci := 0) (v := .int (0 : Int32)) (ty := .int) (C := "ScriptDesk") (T := T_Desk) (N := 10) hx hb hts iw_Desk t_Desk t_Desk_ok n_Desk hown hK hP hD hS 0 rfl rfl 2 (by decide) (hts _ tw_141) (fun _ h9 => h9) rfl (by decide +kernel) rfl rfl (Nat.le_of_ble_eq_true rfl) d_Desk_init_20 (fun H locs hP hD hS => ?_)
  have hP : va_P (dC, dI) vwCl [(h0, .inr (0, [.ref q8, .int (0 : Int32), .int (0 : Int32), .int 0, .null, .null, .null, .null, .null, .null])), (q8, .inl (cA, 200, .inl (fun _ => 0)))] H := hP
  have hD : va_D A [(h0, .inr (0, [.ref q8, .int (0 : Int32), .int (0 : Int32), .int 0, .null, .null, .null, .null, .null, .null])), (q8, .inl (cA, 200, .inl (fun _ => 0)))] := hD
  refine lv_aload_n hx hb d_Desk_init_23 rfl (lv_at hl 0 rfl) ?_
  refine lv_iconst (v := -1) hx hb d_Desk_init_24 (by decide) ?_
  refine va_put (D := (dC, dI)) (ci := 0) (v := .int (-1 : Int32)) (ty := .int) (C := "ScriptDesk") (T := T_Desk) (N := 10) hx hb hts iw_Desk t_Desk t_Desk_ok n_Desk hown hK hP hD hS 0 rfl rfl 3 (by decide) (hts _ tw_142) (fun _ h9 => h9) rfl (by decide +kernel) rfl rfl (Nat.le_of_ble_eq_true rfl) d_Desk_init_25 (fun H locs hP hD hS => ?_)
  have hP : va_P (dC, dI) vwCl [(h0, .inr (0, [.ref q8, .int (0 : Int32), .int (0 : Int32), .int (-1 : Int32), .null, .null, .null, .null, .null, .null])), (q8, .inl (cA, 200, .inl (fun _ => 0)))] H := hP
  have hD : va_D A [(h0, .inr (0, [.ref q8, .int (0 : Int32), .int (0 : Int32), .int (-1 : Int32), .null, .null, .null, .null, .null, .null])), (q8, .inl (cA, 200, .inl (fun _ => 0)))] := hD
  refine lv_aload_n hx hb d_Desk_init_28 rfl (lv_at hl 0 rfl) ?_
  refine va_new (ci := 1) (fs := [.null, .null, .null, .int 0, .int 0]) (C := "ScriptDesk$Elements") (T := T_Elements) (N := 5) hx hb hts iw_Elements t_Elements t_Elements_ok hown (hts _ tw_23) (hts _ tw_24) (hts _ tw_2) hK hP hD hS hA rfl (fun j hj => by rcases (show j = 0 ∨ j = 1 ∨ j = 2 ∨ j = 3 ∨ j = 4 by omega) with rfl | rfl | rfl | rfl | rfl <;> rfl) (Nat.le_of_ble_eq_true rfl) (Nat.le_of_ble_eq_true rfl) d_Desk_init_29 (fun q29 H hP hD hS => ?_)
  have hP : va_P (dC, dI) vwCl [(h0, .inr (0, [.ref q8, .int (0 : Int32), .int (0 : Int32), .int (-1 : Int32), .null, .null, .null, .null, .null, .null])), (q8, .inl (cA, 200, .inl (fun _ => 0))), (q29, .inr (1, [.null, .null, .null, .int 0, .int 0]))] H := hP
  have hD : va_D A [(h0, .inr (0, [.ref q8, .int (0 : Int32), .int (0 : Int32), .int (-1 : Int32), .null, .null, .null, .null, .null, .null])), (q8, .inl (cA, 200, .inl (fun _ => 0))), (q29, .inr (1, [.null, .null, .null, .int 0, .int 0]))] := hD
  refine W.widen (k := 2) (n := 205) (by omega) (by omega) ?_
  refine lv_dup hx hb d_Desk_init_32 rfl ?_
  have hPc := hP.sub (ws' := [(q29, .inr (1, [.null, .null, .null, .int 0, .int 0]))]) [2] rfl
  have hDc := hD.sub (ws' := [(q29, .inr (1, [.null, .null, .null, .int 0, .int 0]))]) [2] (by decide) rfl
  have hKc := hK.sub (tys' := []) [] rfl
  have hFc := va_free (wc := [(q29, .inr (1, [.null, .null, .null, .int 0, .int 0]))]) hD hS hA [2] rfl
  refine va_callv (va_runI (As := []) (rest := [.ref q29, .ref h0]) ⟨hx, hb, hml, hown, hts⟩ (ct_Elements_Elements l dC dI q29 H.size) (cwI 0 hts (gd_code tw_27) rfl rfl rfl (hts _ tw_2) (hts _ tw_25) (hts _ tw_26) rfl (by decide +kernel) ⟨Nat.le_of_ble_eq_true rfl, Nat.le_of_ble_eq_true rfl⟩) ⟨fun a U g mk q => by obtain ⟨q0, q1, qP, qK, qD⟩ := q; exact ⟨q0, q1, qP, va_K.moved (u := U) (U := U.calling g mk a) (Vm.Alike.refl U.vm) qK, qD⟩, fun U hU hW => ⟨rfl, by rw [hU], by rw [hU]; exact hPc, va_K.moved hW.alike hKc, hDc.weaken (fun _ _ _ _ => trivial)⟩⟩ rfl rfl hl.1 rfl (lv_room (Nat.le_of_ble_eq_true rfl)) d_Desk_init_33 ⟨Nat.le_of_ble_eq_true rfl, Nat.le_of_ble_eq_true rfl⟩) hS (fun q _ h => hFc q h) hFc (fun u t H1 locs ht hvm hw hB hz1 hk1 hS => ?_)
  obtain ⟨q8_33, q16_33, q24_33, cB, hP1, hK1, hD1⟩ := hB
  rw [ht] at hP1
  have hK1 := va_K.moved hvm.symm hK1
  obtain rfl : cA = cB := sd_oneA (hK.app hK1) (i := 0) (j := 1) rfl rfl
  obtain ⟨hP, hD⟩ := va_join (wr := [(h0, .inr (0, [.ref q8, .int (0 : Int32), .int (0 : Int32), .int (-1 : Int32), .null, .null, .null, .null, .null, .null])), (q8, .inl (cA, 200, .inl (fun _ => 0)))]) (w1 := [(q29, .inr (1, [.ref q8_33, .ref q16_33, .ref q24_33, .int 0, .int 0])), (q8_33, .inl (cA, 7680, .inl (fun _ => 0))), (q16_33, .inl (cA, 64, .inl (fun _ => 0))), (q24_33, .inl (cA, 64, .inl (sd_ord 64)))]) hP hD [2] [0, 1] rfl rfl (by decide) (by decide) hk1 hFc hP1 hD1
  have hK : va_K (dC, dI) vwCl [(cA, .int)] s := hK.sub [0] rfl
  generalize H1 = H at hP hS ⊢
  have hP : va_P (dC, dI) vwCl [(h0, .inr (0, [.ref q8, .int (0 : Int32), .int (0 : Int32), .int (-1 : Int32), .null, .null, .null, .null, .null, .null])), (q8, .inl (cA, 200, .inl (fun _ => 0))), (q29, .inr (1, [.ref q8_33, .ref q16_33, .ref q24_33, .int 0, .int 0])), (q8_33, .inl (cA, 7680, .inl (fun _ => 0))), (q16_33, .inl (cA, 64, .inl (fun _ => 0))), (q24_33, .inl (cA, 64, .inl (sd_ord 64)))] H := hP
  have hD : va_D A [(h0, .inr (0, [.ref q8, .int (0 : Int32), .int (0 : Int32), .int (-1 : Int32), .null, .null, .null, .null, .null, .null])), (q8, .inl (cA, 200, .inl (fun _ => 0))), (q29, .inr (1, [.ref q8_33, .ref q16_33, .ref q24_33, .int 0, .int 0])), (q8_33, .inl (cA, 7680, .inl (fun _ => 0))), (q16_33, .inl (cA, 64, .inl (fun _ => 0))), (q24_33, .inl (cA, 64, .inl (sd_ord 64)))] := hD
  refine W.widen (k := 5) (n := 8013) (by omega) (by omega) ?_
  refine va_putF (D := (dC, dI)) (ci := 0) (v := .ref q29) (ty := .object "ScriptDesk$Elements") (C := "ScriptDesk") (T := T_Desk) (N := 10) hx hb hts iw_Desk t_Desk t_Desk_ok n_Desk hown hK hP hD hS 0 rfl rfl 4 (by decide) (hts _ tw_143) (fun _ h9 => h9) rfl hin rfl (by decide +kernel) rfl rfl (Nat.le_of_ble_eq_true rfl) d_Desk_init_36 (fun H locs hP hD hS => ?_)
  have hP : va_P (dC, dI) vwCl [(h0, .inr (0, [.ref q8, .int (0 : Int32), .int (0 : Int32), .int (-1 : Int32), .ref q29, .null, .null, .null, .null, .null])), (q8, .inl (cA, 200, .inl (fun _ => 0))), (q29, .inr (1, [.ref q8_33, .ref q16_33, .ref q24_33, .int 0, .int 0])), (q8_33, .inl (cA, 7680, .inl (fun _ => 0))), (q16_33, .inl (cA, 64, .inl (fun _ => 0))), (q24_33, .inl (cA, 64, .inl (sd_ord 64)))] H := hP
  have hD : va_D A [(h0, .inr (0, [.ref q8, .int (0 : Int32), .int (0 : Int32), .int (-1 : Int32), .ref q29, .null, .null, .null, .null, .null])), (q8, .inl (cA, 200, .inl (fun _ => 0))), (q29, .inr (1, [.ref q8_33, .ref q16_33, .ref q24_33, .int 0, .int 0])), (q8_33, .inl (cA, 7680, .inl (fun _ => 0))), (q16_33, .inl (cA, 64, .inl (fun _ => 0))), (q24_33, .inl (cA, 64, .inl (sd_ord 64)))] := hD
  refine lv_aload_n hx hb d_Desk_init_39 rfl (lv_at hl 0 rfl) ?_
  refine va_new (ci := 2) (fs := [.int 0]) (C := "ScriptDesk$Tally") (T := T_Tally) (N := 1) hx hb hts iw_Tally t_Tally t_Tally_ok hown (hts _ tw_49) (hts _ tw_50) (hts _ tw_3) hK hP hD hS hA rfl (fun j hj => by rcases (show j = 0 by omega) with rfl <;> rfl) (Nat.le_of_ble_eq_true rfl) (Nat.le_of_ble_eq_true rfl) d_Desk_init_40 (fun q40 H hP hD hS => ?_)
  have hP : va_P (dC, dI) vwCl [(h0, .inr (0, [.ref q8, .int (0 : Int32), .int (0 : Int32), .int (-1 : Int32), .ref q29, .null, .null, .null, .null, .null])), (q8, .inl (cA, 200, .inl (fun _ => 0))), (q29, .inr (1, [.ref q8_33, .ref q16_33, .ref q24_33, .int 0, .int 0])), (q8_33, .inl (cA, 7680, .inl (fun _ => 0))), (q16_33, .inl (cA, 64, .inl (fun _ => 0))), (q24_33, .inl (cA, 64, .inl (sd_ord 64))), (q40, .inr (2, [.int 0]))] H := hP
  have hD : va_D A [(h0, .inr (0, [.ref q8, .int (0 : Int32), .int (0 : Int32), .int (-1 : Int32), .ref q29, .null, .null, .null, .null, .null])), (q8, .inl (cA, 200, .inl (fun _ => 0))), (q29, .inr (1, [.ref q8_33, .ref q16_33, .ref q24_33, .int 0, .int 0])), (q8_33, .inl (cA, 7680, .inl (fun _ => 0))), (q16_33, .inl (cA, 64, .inl (fun _ => 0))), (q24_33, .inl (cA, 64, .inl (sd_ord 64))), (q40, .inr (2, [.int 0]))] := hD
  refine W.widen (k := 6) (n := 8014) (by omega) (by omega) ?_
  refine lv_dup hx hb d_Desk_init_43 rfl ?_
  have hPc := hP.sub (ws' := [(q40, .inr (2, [.int 0]))]) [6] rfl
  have hDc := hD.sub (ws' := [(q40, .inr (2, [.int 0]))]) [6] (by decide) rfl
  have hKc := hK.sub (tys' := []) [] rfl
  have hFc := va_free (wc := [(q40, .inr (2, [.int 0]))]) hD hS hA [6] rfl
  refine va_callv (va_runIN (As := []) (rest := [.ref q40, .ref h0]) ⟨hx, hb, hml, hown, hts⟩ (ct_Tally_Tally l dC dI q40 H.size) ⟨va_cnB 0 hts (gd_code tw_53) rfl rfl rfl hN0 (hts _ tw_3) (by decide +kernel) ⟨Nat.le_of_ble_eq_true rfl, Nat.le_of_ble_eq_true rfl⟩, rfl, hts _ tw_52⟩ ⟨fun a U g mk q => by obtain ⟨q0, q1, qP, qK, qD⟩ := q; exact ⟨q0, q1, qP, va_K.moved (u := U) (U := U.calling g mk a) (Vm.Alike.refl U.vm) qK, qD⟩, fun U hU hW => ⟨rfl, by rw [hU], by rw [hU]; exact hPc, va_K.moved hW.alike hKc, hDc.weaken (fun _ _ _ _ => trivial)⟩⟩ rfl rfl hl.1 rfl (lv_room (Nat.le_of_ble_eq_true rfl)) d_Desk_init_44 ⟨Nat.le_of_ble_eq_true rfl, Nat.le_of_ble_eq_true rfl⟩) hS (fun q _ h => hFc q h) hFc (fun u t H1 locs ht hvm hw hB hz1 hk1 hS => ?_)
  obtain ⟨hP1, hK1, hD1⟩ := hB
  rw [ht] at hP1
  have hK1 := va_K.moved hvm.symm hK1
  obtain ⟨hP, hD⟩ := va_join (wr := [(h0, .inr (0, [.ref q8, .int (0 : Int32), .int (0 : Int32), .int (-1 : Int32), .ref q29, .null, .null, .null, .null, .null])), (q8, .inl (cA, 200, .inl (fun _ => 0))), (q29, .inr (1, [.ref q8_33, .ref q16_33, .ref q24_33, .int 0, .int 0])), (q8_33, .inl (cA, 7680, .inl (fun _ => 0))), (q16_33, .inl (cA, 64, .inl (fun _ => 0))), (q24_33, .inl (cA, 64, .inl (sd_ord 64)))]) (w1 := [(q40, .inr (2, [.int 0]))]) hP hD [6] [0, 1, 2, 3, 4, 5] rfl rfl (by decide) (by decide) hk1 hFc hP1 hD1
  generalize H1 = H at hP hS ⊢
  have hP : va_P (dC, dI) vwCl [(h0, .inr (0, [.ref q8, .int (0 : Int32), .int (0 : Int32), .int (-1 : Int32), .ref q29, .null, .null, .null, .null, .null])), (q8, .inl (cA, 200, .inl (fun _ => 0))), (q29, .inr (1, [.ref q8_33, .ref q16_33, .ref q24_33, .int 0, .int 0])), (q8_33, .inl (cA, 7680, .inl (fun _ => 0))), (q16_33, .inl (cA, 64, .inl (fun _ => 0))), (q24_33, .inl (cA, 64, .inl (sd_ord 64))), (q40, .inr (2, [.int 0]))] H := hP
  have hD : va_D A [(h0, .inr (0, [.ref q8, .int (0 : Int32), .int (0 : Int32), .int (-1 : Int32), .ref q29, .null, .null, .null, .null, .null])), (q8, .inl (cA, 200, .inl (fun _ => 0))), (q29, .inr (1, [.ref q8_33, .ref q16_33, .ref q24_33, .int 0, .int 0])), (q8_33, .inl (cA, 7680, .inl (fun _ => 0))), (q16_33, .inl (cA, 64, .inl (fun _ => 0))), (q24_33, .inl (cA, 64, .inl (sd_ord 64))), (q40, .inr (2, [.int 0]))] := hD
  refine W.widen (k := 6) (n := 8014) (by omega) (by omega) ?_
  refine va_putF (D := (dC, dI)) (ci := 0) (v := .ref q40) (ty := .object "ScriptDesk$Tally") (C := "ScriptDesk") (T := T_Desk) (N := 10) hx hb hts iw_Desk t_Desk t_Desk_ok n_Desk hown hK hP hD hS 0 rfl rfl 5 (by decide) (hts _ tw_144) (fun _ h9 => h9) rfl hin rfl (by decide +kernel) rfl rfl (Nat.le_of_ble_eq_true rfl) d_Desk_init_47 (fun H locs hP hD hS => ?_)
  have hP : va_P (dC, dI) vwCl [(h0, .inr (0, [.ref q8, .int (0 : Int32), .int (0 : Int32), .int (-1 : Int32), .ref q29, .ref q40, .null, .null, .null, .null])), (q8, .inl (cA, 200, .inl (fun _ => 0))), (q29, .inr (1, [.ref q8_33, .ref q16_33, .ref q24_33, .int 0, .int 0])), (q8_33, .inl (cA, 7680, .inl (fun _ => 0))), (q16_33, .inl (cA, 64, .inl (fun _ => 0))), (q24_33, .inl (cA, 64, .inl (sd_ord 64))), (q40, .inr (2, [.int 0]))] H := hP
  have hD : va_D A [(h0, .inr (0, [.ref q8, .int (0 : Int32), .int (0 : Int32), .int (-1 : Int32), .ref q29, .ref q40, .null, .null, .null, .null])), (q8, .inl (cA, 200, .inl (fun _ => 0))), (q29, .inr (1, [.ref q8_33, .ref q16_33, .ref q24_33, .int 0, .int 0])), (q8_33, .inl (cA, 7680, .inl (fun _ => 0))), (q16_33, .inl (cA, 64, .inl (fun _ => 0))), (q24_33, .inl (cA, 64, .inl (sd_ord 64))), (q40, .inr (2, [.int 0]))] := hD
  refine lv_aload_n hx hb d_Desk_init_50 rfl (lv_at hl 0 rfl) ?_
  refine va_new (ci := 3) (fs := [.int 0, .int 0]) (C := "ScriptDesk$Flow") (T := T_Flow) (N := 2) hx hb hts iw_Flow t_Flow t_Flow_ok hown (hts _ tw_60) (hts _ tw_61) (hts _ tw_4) hK hP hD hS hA rfl (fun j hj => by rcases (show j = 0 ∨ j = 1 by omega) with rfl | rfl <;> rfl) (Nat.le_of_ble_eq_true rfl) (Nat.le_of_ble_eq_true rfl) d_Desk_init_51 (fun q51 H hP hD hS => ?_)
  have hP : va_P (dC, dI) vwCl [(h0, .inr (0, [.ref q8, .int (0 : Int32), .int (0 : Int32), .int (-1 : Int32), .ref q29, .ref q40, .null, .null, .null, .null])), (q8, .inl (cA, 200, .inl (fun _ => 0))), (q29, .inr (1, [.ref q8_33, .ref q16_33, .ref q24_33, .int 0, .int 0])), (q8_33, .inl (cA, 7680, .inl (fun _ => 0))), (q16_33, .inl (cA, 64, .inl (fun _ => 0))), (q24_33, .inl (cA, 64, .inl (sd_ord 64))), (q40, .inr (2, [.int 0])), (q51, .inr (3, [.int 0, .int 0]))] H := hP
  have hD : va_D A [(h0, .inr (0, [.ref q8, .int (0 : Int32), .int (0 : Int32), .int (-1 : Int32), .ref q29, .ref q40, .null, .null, .null, .null])), (q8, .inl (cA, 200, .inl (fun _ => 0))), (q29, .inr (1, [.ref q8_33, .ref q16_33, .ref q24_33, .int 0, .int 0])), (q8_33, .inl (cA, 7680, .inl (fun _ => 0))), (q16_33, .inl (cA, 64, .inl (fun _ => 0))), (q24_33, .inl (cA, 64, .inl (sd_ord 64))), (q40, .inr (2, [.int 0])), (q51, .inr (3, [.int 0, .int 0]))] := hD
  refine W.widen (k := 7) (n := 8016) (by omega) (by omega) ?_
  refine lv_dup hx hb d_Desk_init_54 rfl ?_
  have hPc := hP.sub (ws' := [(q51, .inr (3, [.int 0, .int 0]))]) [7] rfl
  have hDc := hD.sub (ws' := [(q51, .inr (3, [.int 0, .int 0]))]) [7] (by decide) rfl
  have hKc := hK.sub (tys' := []) [] rfl
  have hFc := va_free (wc := [(q51, .inr (3, [.int 0, .int 0]))]) hD hS hA [7] rfl
  refine va_callv (va_runIN (As := []) (rest := [.ref q51, .ref h0]) ⟨hx, hb, hml, hown, hts⟩ (ct_Flow_Flow l dC dI q51 H.size) ⟨va_cnB 0 hts (gd_code tw_64) rfl rfl rfl hN1 (hts _ tw_4) (by decide +kernel) ⟨Nat.le_of_ble_eq_true rfl, Nat.le_of_ble_eq_true rfl⟩, rfl, hts _ tw_63⟩ ⟨fun a U g mk q => by obtain ⟨q0, q1, qP, qK, qD⟩ := q; exact ⟨q0, q1, qP, va_K.moved (u := U) (U := U.calling g mk a) (Vm.Alike.refl U.vm) qK, qD⟩, fun U hU hW => ⟨rfl, by rw [hU], by rw [hU]; exact hPc, va_K.moved hW.alike hKc, hDc.weaken (fun _ _ _ _ => trivial)⟩⟩ rfl rfl hl.1 rfl (lv_room (Nat.le_of_ble_eq_true rfl)) d_Desk_init_55 ⟨Nat.le_of_ble_eq_true rfl, Nat.le_of_ble_eq_true rfl⟩) hS (fun q _ h => hFc q h) hFc (fun u t H1 locs ht hvm hw hB hz1 hk1 hS => ?_)
  obtain ⟨hP1, hK1, hD1⟩ := hB
  rw [ht] at hP1
  have hK1 := va_K.moved hvm.symm hK1
  obtain ⟨hP, hD⟩ := va_join (wr := [(h0, .inr (0, [.ref q8, .int (0 : Int32), .int (0 : Int32), .int (-1 : Int32), .ref q29, .ref q40, .null, .null, .null, .null])), (q8, .inl (cA, 200, .inl (fun _ => 0))), (q29, .inr (1, [.ref q8_33, .ref q16_33, .ref q24_33, .int 0, .int 0])), (q8_33, .inl (cA, 7680, .inl (fun _ => 0))), (q16_33, .inl (cA, 64, .inl (fun _ => 0))), (q24_33, .inl (cA, 64, .inl (sd_ord 64))), (q40, .inr (2, [.int 0]))]) (w1 := [(q51, .inr (3, [.int 0, .int 0]))]) hP hD [7] [0, 1, 2, 3, 4, 5, 6] rfl rfl (by decide) (by decide) hk1 hFc hP1 hD1
  generalize H1 = H at hP hS ⊢
  have hP : va_P (dC, dI) vwCl [(h0, .inr (0, [.ref q8, .int (0 : Int32), .int (0 : Int32), .int (-1 : Int32), .ref q29, .ref q40, .null, .null, .null, .null])), (q8, .inl (cA, 200, .inl (fun _ => 0))), (q29, .inr (1, [.ref q8_33, .ref q16_33, .ref q24_33, .int 0, .int 0])), (q8_33, .inl (cA, 7680, .inl (fun _ => 0))), (q16_33, .inl (cA, 64, .inl (fun _ => 0))), (q24_33, .inl (cA, 64, .inl (sd_ord 64))), (q40, .inr (2, [.int 0])), (q51, .inr (3, [.int 0, .int 0]))] H := hP
  have hD : va_D A [(h0, .inr (0, [.ref q8, .int (0 : Int32), .int (0 : Int32), .int (-1 : Int32), .ref q29, .ref q40, .null, .null, .null, .null])), (q8, .inl (cA, 200, .inl (fun _ => 0))), (q29, .inr (1, [.ref q8_33, .ref q16_33, .ref q24_33, .int 0, .int 0])), (q8_33, .inl (cA, 7680, .inl (fun _ => 0))), (q16_33, .inl (cA, 64, .inl (fun _ => 0))), (q24_33, .inl (cA, 64, .inl (sd_ord 64))), (q40, .inr (2, [.int 0])), (q51, .inr (3, [.int 0, .int 0]))] := hD
  refine W.widen (k := 7) (n := 8016) (by omega) (by omega) ?_
  refine va_putF (D := (dC, dI)) (ci := 0) (v := .ref q51) (ty := .object "ScriptDesk$Flow") (C := "ScriptDesk") (T := T_Desk) (N := 10) hx hb hts iw_Desk t_Desk t_Desk_ok n_Desk hown hK hP hD hS 0 rfl rfl 6 (by decide) (hts _ tw_145) (fun _ h9 => h9) rfl hin rfl (by decide +kernel) rfl rfl (Nat.le_of_ble_eq_true rfl) d_Desk_init_58 (fun H locs hP hD hS => ?_)
  have hP : va_P (dC, dI) vwCl [(h0, .inr (0, [.ref q8, .int (0 : Int32), .int (0 : Int32), .int (-1 : Int32), .ref q29, .ref q40, .ref q51, .null, .null, .null])), (q8, .inl (cA, 200, .inl (fun _ => 0))), (q29, .inr (1, [.ref q8_33, .ref q16_33, .ref q24_33, .int 0, .int 0])), (q8_33, .inl (cA, 7680, .inl (fun _ => 0))), (q16_33, .inl (cA, 64, .inl (fun _ => 0))), (q24_33, .inl (cA, 64, .inl (sd_ord 64))), (q40, .inr (2, [.int 0])), (q51, .inr (3, [.int 0, .int 0]))] H := hP
  have hD : va_D A [(h0, .inr (0, [.ref q8, .int (0 : Int32), .int (0 : Int32), .int (-1 : Int32), .ref q29, .ref q40, .ref q51, .null, .null, .null])), (q8, .inl (cA, 200, .inl (fun _ => 0))), (q29, .inr (1, [.ref q8_33, .ref q16_33, .ref q24_33, .int 0, .int 0])), (q8_33, .inl (cA, 7680, .inl (fun _ => 0))), (q16_33, .inl (cA, 64, .inl (fun _ => 0))), (q24_33, .inl (cA, 64, .inl (sd_ord 64))), (q40, .inr (2, [.int 0])), (q51, .inr (3, [.int 0, .int 0]))] := hD
  refine lv_aload_n hx hb d_Desk_init_61 rfl (lv_at hl 0 rfl) ?_
  refine va_new (ci := 4) (fs := [.int 0, .int 0]) (C := "ScriptDesk$Signatures") (T := T_Signatures) (N := 2) hx hb hts iw_Signatures t_Signatures t_Signatures_ok hown (hts _ tw_73) (hts _ tw_74) (hts _ tw_5) hK hP hD hS hA rfl (fun j hj => by rcases (show j = 0 ∨ j = 1 by omega) with rfl | rfl <;> rfl) (Nat.le_of_ble_eq_true rfl) (Nat.le_of_ble_eq_true rfl) d_Desk_init_62 (fun q62 H hP hD hS => ?_)
  have hP : va_P (dC, dI) vwCl [(h0, .inr (0, [.ref q8, .int (0 : Int32), .int (0 : Int32), .int (-1 : Int32), .ref q29, .ref q40, .ref q51, .null, .null, .null])), (q8, .inl (cA, 200, .inl (fun _ => 0))), (q29, .inr (1, [.ref q8_33, .ref q16_33, .ref q24_33, .int 0, .int 0])), (q8_33, .inl (cA, 7680, .inl (fun _ => 0))), (q16_33, .inl (cA, 64, .inl (fun _ => 0))), (q24_33, .inl (cA, 64, .inl (sd_ord 64))), (q40, .inr (2, [.int 0])), (q51, .inr (3, [.int 0, .int 0])), (q62, .inr (4, [.int 0, .int 0]))] H := hP
  have hD : va_D A [(h0, .inr (0, [.ref q8, .int (0 : Int32), .int (0 : Int32), .int (-1 : Int32), .ref q29, .ref q40, .ref q51, .null, .null, .null])), (q8, .inl (cA, 200, .inl (fun _ => 0))), (q29, .inr (1, [.ref q8_33, .ref q16_33, .ref q24_33, .int 0, .int 0])), (q8_33, .inl (cA, 7680, .inl (fun _ => 0))), (q16_33, .inl (cA, 64, .inl (fun _ => 0))), (q24_33, .inl (cA, 64, .inl (sd_ord 64))), (q40, .inr (2, [.int 0])), (q51, .inr (3, [.int 0, .int 0])), (q62, .inr (4, [.int 0, .int 0]))] := hD
  refine W.widen (k := 8) (n := 8018) (by omega) (by omega) ?_
  refine lv_dup hx hb d_Desk_init_65 rfl ?_
  have hPc := hP.sub (ws' := [(q62, .inr (4, [.int 0, .int 0]))]) [8] rfl
  have hDc := hD.sub (ws' := [(q62, .inr (4, [.int 0, .int 0]))]) [8] (by decide) rfl
  have hKc := hK.sub (tys' := []) [] rfl
  have hFc := va_free (wc := [(q62, .inr (4, [.int 0, .int 0]))]) hD hS hA [8] rfl
  refine va_callv (va_runIN (As := []) (rest := [.ref q62, .ref h0]) ⟨hx, hb, hml, hown, hts⟩ (ct_Signatures_Signatures l dC dI q62 H.size) ⟨va_cnB 0 hts (gd_code tw_77) rfl rfl rfl hN2 (hts _ tw_5) (by decide +kernel) ⟨Nat.le_of_ble_eq_true rfl, Nat.le_of_ble_eq_true rfl⟩, rfl, hts _ tw_76⟩ ⟨fun a U g mk q => by obtain ⟨q0, q1, qP, qK, qD⟩ := q; exact ⟨q0, q1, qP, va_K.moved (u := U) (U := U.calling g mk a) (Vm.Alike.refl U.vm) qK, qD⟩, fun U hU hW => ⟨rfl, by rw [hU], by rw [hU]; exact hPc, va_K.moved hW.alike hKc, hDc.weaken (fun _ _ _ _ => trivial)⟩⟩ rfl rfl hl.1 rfl (lv_room (Nat.le_of_ble_eq_true rfl)) d_Desk_init_66 ⟨Nat.le_of_ble_eq_true rfl, Nat.le_of_ble_eq_true rfl⟩) hS (fun q _ h => hFc q h) hFc (fun u t H1 locs ht hvm hw hB hz1 hk1 hS => ?_)
  obtain ⟨hP1, hK1, hD1⟩ := hB
  rw [ht] at hP1
  have hK1 := va_K.moved hvm.symm hK1
  obtain ⟨hP, hD⟩ := va_join (wr := [(h0, .inr (0, [.ref q8, .int (0 : Int32), .int (0 : Int32), .int (-1 : Int32), .ref q29, .ref q40, .ref q51, .null, .null, .null])), (q8, .inl (cA, 200, .inl (fun _ => 0))), (q29, .inr (1, [.ref q8_33, .ref q16_33, .ref q24_33, .int 0, .int 0])), (q8_33, .inl (cA, 7680, .inl (fun _ => 0))), (q16_33, .inl (cA, 64, .inl (fun _ => 0))), (q24_33, .inl (cA, 64, .inl (sd_ord 64))), (q40, .inr (2, [.int 0])), (q51, .inr (3, [.int 0, .int 0]))]) (w1 := [(q62, .inr (4, [.int 0, .int 0]))]) hP hD [8] [0, 1, 2, 3, 4, 5, 6, 7] rfl rfl (by decide) (by decide) hk1 hFc hP1 hD1
  generalize H1 = H at hP hS ⊢
  have hP : va_P (dC, dI) vwCl [(h0, .inr (0, [.ref q8, .int (0 : Int32), .int (0 : Int32), .int (-1 : Int32), .ref q29, .ref q40, .ref q51, .null, .null, .null])), (q8, .inl (cA, 200, .inl (fun _ => 0))), (q29, .inr (1, [.ref q8_33, .ref q16_33, .ref q24_33, .int 0, .int 0])), (q8_33, .inl (cA, 7680, .inl (fun _ => 0))), (q16_33, .inl (cA, 64, .inl (fun _ => 0))), (q24_33, .inl (cA, 64, .inl (sd_ord 64))), (q40, .inr (2, [.int 0])), (q51, .inr (3, [.int 0, .int 0])), (q62, .inr (4, [.int 0, .int 0]))] H := hP
  have hD : va_D A [(h0, .inr (0, [.ref q8, .int (0 : Int32), .int (0 : Int32), .int (-1 : Int32), .ref q29, .ref q40, .ref q51, .null, .null, .null])), (q8, .inl (cA, 200, .inl (fun _ => 0))), (q29, .inr (1, [.ref q8_33, .ref q16_33, .ref q24_33, .int 0, .int 0])), (q8_33, .inl (cA, 7680, .inl (fun _ => 0))), (q16_33, .inl (cA, 64, .inl (fun _ => 0))), (q24_33, .inl (cA, 64, .inl (sd_ord 64))), (q40, .inr (2, [.int 0])), (q51, .inr (3, [.int 0, .int 0])), (q62, .inr (4, [.int 0, .int 0]))] := hD
  refine W.widen (k := 8) (n := 8018) (by omega) (by omega) ?_
  refine va_putF (D := (dC, dI)) (ci := 0) (v := .ref q62) (ty := .object "ScriptDesk$Signatures") (C := "ScriptDesk") (T := T_Desk) (N := 10) hx hb hts iw_Desk t_Desk t_Desk_ok n_Desk hown hK hP hD hS 0 rfl rfl 7 (by decide) (hts _ tw_146) (fun _ h9 => h9) rfl hin rfl (by decide +kernel) rfl rfl (Nat.le_of_ble_eq_true rfl) d_Desk_init_69 (fun H locs hP hD hS => ?_)
  have hP : va_P (dC, dI) vwCl [(h0, .inr (0, [.ref q8, .int (0 : Int32), .int (0 : Int32), .int (-1 : Int32), .ref q29, .ref q40, .ref q51, .ref q62, .null, .null])), (q8, .inl (cA, 200, .inl (fun _ => 0))), (q29, .inr (1, [.ref q8_33, .ref q16_33, .ref q24_33, .int 0, .int 0])), (q8_33, .inl (cA, 7680, .inl (fun _ => 0))), (q16_33, .inl (cA, 64, .inl (fun _ => 0))), (q24_33, .inl (cA, 64, .inl (sd_ord 64))), (q40, .inr (2, [.int 0])), (q51, .inr (3, [.int 0, .int 0])), (q62, .inr (4, [.int 0, .int 0]))] H := hP
  have hD : va_D A [(h0, .inr (0, [.ref q8, .int (0 : Int32), .int (0 : Int32), .int (-1 : Int32), .ref q29, .ref q40, .ref q51, .ref q62, .null, .null])), (q8, .inl (cA, 200, .inl (fun _ => 0))), (q29, .inr (1, [.ref q8_33, .ref q16_33, .ref q24_33, .int 0, .int 0])), (q8_33, .inl (cA, 7680, .inl (fun _ => 0))), (q16_33, .inl (cA, 64, .inl (fun _ => 0))), (q24_33, .inl (cA, 64, .inl (sd_ord 64))), (q40, .inr (2, [.int 0])), (q51, .inr (3, [.int 0, .int 0])), (q62, .inr (4, [.int 0, .int 0]))] := hD
  refine lv_aload_n hx hb d_Desk_init_72 rfl (lv_at hl 0 rfl) ?_
  refine va_new (ci := 5) (fs := [.null, .null, .int 0, .null, .null]) (C := "ScriptDesk$Sha256") (T := T_Sha256) (N := 5) hx hb hts iw_Sha256 t_Sha256 t_Sha256_ok hown (hts _ tw_88) (hts _ tw_89) (hts _ tw_7) hK hP hD hS hA rfl (fun j hj => by rcases (show j = 0 ∨ j = 1 ∨ j = 2 ∨ j = 3 ∨ j = 4 by omega) with rfl | rfl | rfl | rfl | rfl <;> rfl) (Nat.le_of_ble_eq_true rfl) (Nat.le_of_ble_eq_true rfl) d_Desk_init_73 (fun q73 H hP hD hS => ?_)
  have hP : va_P (dC, dI) vwCl [(h0, .inr (0, [.ref q8, .int (0 : Int32), .int (0 : Int32), .int (-1 : Int32), .ref q29, .ref q40, .ref q51, .ref q62, .null, .null])), (q8, .inl (cA, 200, .inl (fun _ => 0))), (q29, .inr (1, [.ref q8_33, .ref q16_33, .ref q24_33, .int 0, .int 0])), (q8_33, .inl (cA, 7680, .inl (fun _ => 0))), (q16_33, .inl (cA, 64, .inl (fun _ => 0))), (q24_33, .inl (cA, 64, .inl (sd_ord 64))), (q40, .inr (2, [.int 0])), (q51, .inr (3, [.int 0, .int 0])), (q62, .inr (4, [.int 0, .int 0])), (q73, .inr (5, [.null, .null, .int 0, .null, .null]))] H := hP
  have hD : va_D A [(h0, .inr (0, [.ref q8, .int (0 : Int32), .int (0 : Int32), .int (-1 : Int32), .ref q29, .ref q40, .ref q51, .ref q62, .null, .null])), (q8, .inl (cA, 200, .inl (fun _ => 0))), (q29, .inr (1, [.ref q8_33, .ref q16_33, .ref q24_33, .int 0, .int 0])), (q8_33, .inl (cA, 7680, .inl (fun _ => 0))), (q16_33, .inl (cA, 64, .inl (fun _ => 0))), (q24_33, .inl (cA, 64, .inl (sd_ord 64))), (q40, .inr (2, [.int 0])), (q51, .inr (3, [.int 0, .int 0])), (q62, .inr (4, [.int 0, .int 0])), (q73, .inr (5, [.null, .null, .int 0, .null, .null]))] := hD
  refine W.widen (k := 9) (n := 8023) (by omega) (by omega) ?_
  refine lv_dup hx hb d_Desk_init_76 rfl ?_
  have hPc := hP.sub (ws' := [(q73, .inr (5, [.null, .null, .int 0, .null, .null]))]) [9] rfl
  have hDc := hD.sub (ws' := [(q73, .inr (5, [.null, .null, .int 0, .null, .null]))]) [9] (by decide) rfl
  have hKc := hK.sub (tys' := []) [] rfl
  have hFc := va_free (wc := [(q73, .inr (5, [.null, .null, .int 0, .null, .null]))]) hD hS hA [9] rfl
  refine va_callv (va_runI (As := []) (rest := [.ref q73, .ref h0]) ⟨hx, hb, hml, hown, hts⟩ (ct_Sha256_Sha256 l dC dI q73 H.size) (cwI 0 hts (gd_code tw_92) rfl rfl rfl (hts _ tw_7) (hts _ tw_90) (hts _ tw_91) rfl (by decide +kernel) ⟨Nat.le_of_ble_eq_true rfl, Nat.le_of_ble_eq_true rfl⟩) ⟨fun a U g mk q => by obtain ⟨q0, q1, qP, qK, qD⟩ := q; exact ⟨q0, q1, qP, va_K.moved (u := U) (U := U.calling g mk a) (Vm.Alike.refl U.vm) qK, qD⟩, fun U hU hW => ⟨rfl, by rw [hU], by rw [hU]; exact hPc, va_K.moved hW.alike hKc, hDc.weaken (fun _ _ _ _ => trivial)⟩⟩ rfl rfl hl.1 rfl (lv_room (Nat.le_of_ble_eq_true rfl)) d_Desk_init_77 ⟨Nat.le_of_ble_eq_true rfl, Nat.le_of_ble_eq_true rfl⟩) hS (fun q _ h => hFc q h) hFc (fun u t H1 locs ht hvm hw hB hz1 hk1 hS => ?_)
  obtain ⟨q8_6_77, q20_6_77, q27_6_77, q36_6_77, cB, hP1, hK1, hD1⟩ := hB
  rw [ht] at hP1
  have hK1 := va_K.moved hvm.symm hK1
  obtain rfl : cA = cB := sd_oneA (hK.app hK1) (i := 0) (j := 1) rfl rfl
  obtain ⟨hP, hD⟩ := va_join (wr := [(h0, .inr (0, [.ref q8, .int (0 : Int32), .int (0 : Int32), .int (-1 : Int32), .ref q29, .ref q40, .ref q51, .ref q62, .null, .null])), (q8, .inl (cA, 200, .inl (fun _ => 0))), (q29, .inr (1, [.ref q8_33, .ref q16_33, .ref q24_33, .int 0, .int 0])), (q8_33, .inl (cA, 7680, .inl (fun _ => 0))), (q16_33, .inl (cA, 64, .inl (fun _ => 0))), (q24_33, .inl (cA, 64, .inl (sd_ord 64))), (q40, .inr (2, [.int 0])), (q51, .inr (3, [.int 0, .int 0])), (q62, .inr (4, [.int 0, .int 0]))]) (w1 := [(q73, .inr (5, [.ref q8_6_77, .ref q36_6_77, .int (1 : Int32), .ref q20_6_77, .ref q27_6_77])), (q8_6_77, .inl (cA, 192, .inl (fun _ => 0))), (q20_6_77, .inl (cA, 64, .inl (fun _ => 0))), (q27_6_77, .inl (cA, 8, .inl (fun _ => 0))), (q36_6_77, .inl (cA, 32, .inl (fun _ => 0)))]) hP hD [9] [0, 1, 2, 3, 4, 5, 6, 7, 8] rfl rfl (by decide) (by decide) hk1 hFc hP1 hD1
  have hK : va_K (dC, dI) vwCl [(cA, .int)] s := hK.sub [0] rfl
  generalize H1 = H at hP hS ⊢
  have hP : va_P (dC, dI) vwCl [(h0, .inr (0, [.ref q8, .int (0 : Int32), .int (0 : Int32), .int (-1 : Int32), .ref q29, .ref q40, .ref q51, .ref q62, .null, .null])), (q8, .inl (cA, 200, .inl (fun _ => 0))), (q29, .inr (1, [.ref q8_33, .ref q16_33, .ref q24_33, .int 0, .int 0])), (q8_33, .inl (cA, 7680, .inl (fun _ => 0))), (q16_33, .inl (cA, 64, .inl (fun _ => 0))), (q24_33, .inl (cA, 64, .inl (sd_ord 64))), (q40, .inr (2, [.int 0])), (q51, .inr (3, [.int 0, .int 0])), (q62, .inr (4, [.int 0, .int 0])), (q73, .inr (5, [.ref q8_6_77, .ref q36_6_77, .int (1 : Int32), .ref q20_6_77, .ref q27_6_77])), (q8_6_77, .inl (cA, 192, .inl (fun _ => 0))), (q20_6_77, .inl (cA, 64, .inl (fun _ => 0))), (q27_6_77, .inl (cA, 8, .inl (fun _ => 0))), (q36_6_77, .inl (cA, 32, .inl (fun _ => 0)))] H := hP
  have hD : va_D A [(h0, .inr (0, [.ref q8, .int (0 : Int32), .int (0 : Int32), .int (-1 : Int32), .ref q29, .ref q40, .ref q51, .ref q62, .null, .null])), (q8, .inl (cA, 200, .inl (fun _ => 0))), (q29, .inr (1, [.ref q8_33, .ref q16_33, .ref q24_33, .int 0, .int 0])), (q8_33, .inl (cA, 7680, .inl (fun _ => 0))), (q16_33, .inl (cA, 64, .inl (fun _ => 0))), (q24_33, .inl (cA, 64, .inl (sd_ord 64))), (q40, .inr (2, [.int 0])), (q51, .inr (3, [.int 0, .int 0])), (q62, .inr (4, [.int 0, .int 0])), (q73, .inr (5, [.ref q8_6_77, .ref q36_6_77, .int (1 : Int32), .ref q20_6_77, .ref q27_6_77])), (q8_6_77, .inl (cA, 192, .inl (fun _ => 0))), (q20_6_77, .inl (cA, 64, .inl (fun _ => 0))), (q27_6_77, .inl (cA, 8, .inl (fun _ => 0))), (q36_6_77, .inl (cA, 32, .inl (fun _ => 0)))] := hD
  refine W.widen (k := 13) (n := 8319) (by omega) (by omega) ?_
  refine va_putF (D := (dC, dI)) (ci := 0) (v := .ref q73) (ty := .object "ScriptDesk$BlockDigest") (C := "ScriptDesk") (T := T_Desk) (N := 10) hx hb hts iw_Desk t_Desk t_Desk_ok n_Desk hown hK hP hD hS 0 rfl rfl 8 (by decide) (hts _ tw_147) (fun _ h9 => h9) rfl hin rfl (by decide +kernel) rfl rfl (Nat.le_of_ble_eq_true rfl) d_Desk_init_80 (fun H locs hP hD hS => ?_)
  have hP : va_P (dC, dI) vwCl [(h0, .inr (0, [.ref q8, .int (0 : Int32), .int (0 : Int32), .int (-1 : Int32), .ref q29, .ref q40, .ref q51, .ref q62, .ref q73, .null])), (q8, .inl (cA, 200, .inl (fun _ => 0))), (q29, .inr (1, [.ref q8_33, .ref q16_33, .ref q24_33, .int 0, .int 0])), (q8_33, .inl (cA, 7680, .inl (fun _ => 0))), (q16_33, .inl (cA, 64, .inl (fun _ => 0))), (q24_33, .inl (cA, 64, .inl (sd_ord 64))), (q40, .inr (2, [.int 0])), (q51, .inr (3, [.int 0, .int 0])), (q62, .inr (4, [.int 0, .int 0])), (q73, .inr (5, [.ref q8_6_77, .ref q36_6_77, .int (1 : Int32), .ref q20_6_77, .ref q27_6_77])), (q8_6_77, .inl (cA, 192, .inl (fun _ => 0))), (q20_6_77, .inl (cA, 64, .inl (fun _ => 0))), (q27_6_77, .inl (cA, 8, .inl (fun _ => 0))), (q36_6_77, .inl (cA, 32, .inl (fun _ => 0)))] H := hP
  have hD : va_D A [(h0, .inr (0, [.ref q8, .int (0 : Int32), .int (0 : Int32), .int (-1 : Int32), .ref q29, .ref q40, .ref q51, .ref q62, .ref q73, .null])), (q8, .inl (cA, 200, .inl (fun _ => 0))), (q29, .inr (1, [.ref q8_33, .ref q16_33, .ref q24_33, .int 0, .int 0])), (q8_33, .inl (cA, 7680, .inl (fun _ => 0))), (q16_33, .inl (cA, 64, .inl (fun _ => 0))), (q24_33, .inl (cA, 64, .inl (sd_ord 64))), (q40, .inr (2, [.int 0])), (q51, .inr (3, [.int 0, .int 0])), (q62, .inr (4, [.int 0, .int 0])), (q73, .inr (5, [.ref q8_6_77, .ref q36_6_77, .int (1 : Int32), .ref q20_6_77, .ref q27_6_77])), (q8_6_77, .inl (cA, 192, .inl (fun _ => 0))), (q20_6_77, .inl (cA, 64, .inl (fun _ => 0))), (q27_6_77, .inl (cA, 8, .inl (fun _ => 0))), (q36_6_77, .inl (cA, 32, .inl (fun _ => 0)))] := hD
  refine lv_aload_n hx hb d_Desk_init_83 rfl (lv_at hl 0 rfl) ?_
  refine va_new (ci := 6) (fs := [.null, .null, .int 0, .null, .null, .null, .null]) (C := "ScriptDesk$Ripemd160") (T := T_Ripemd160) (N := 7) hx hb hts iw_Ripemd160 t_Ripemd160 t_Ripemd160_ok hown (hts _ tw_121) (hts _ tw_122) (hts _ tw_8) hK hP hD hS hA rfl (fun j hj => by rcases (show j = 0 ∨ j = 1 ∨ j = 2 ∨ j = 3 ∨ j = 4 ∨ j = 5 ∨ j = 6 by omega) with rfl | rfl | rfl | rfl | rfl | rfl | rfl <;> rfl) (Nat.le_of_ble_eq_true rfl) (Nat.le_of_ble_eq_true rfl) d_Desk_init_84 (fun q84 H hP hD hS => ?_)
  have hP : va_P (dC, dI) vwCl [(h0, .inr (0, [.ref q8, .int (0 : Int32), .int (0 : Int32), .int (-1 : Int32), .ref q29, .ref q40, .ref q51, .ref q62, .ref q73, .null])), (q8, .inl (cA, 200, .inl (fun _ => 0))), (q29, .inr (1, [.ref q8_33, .ref q16_33, .ref q24_33, .int 0, .int 0])), (q8_33, .inl (cA, 7680, .inl (fun _ => 0))), (q16_33, .inl (cA, 64, .inl (fun _ => 0))), (q24_33, .inl (cA, 64, .inl (sd_ord 64))), (q40, .inr (2, [.int 0])), (q51, .inr (3, [.int 0, .int 0])), (q62, .inr (4, [.int 0, .int 0])), (q73, .inr (5, [.ref q8_6_77, .ref q36_6_77, .int (1 : Int32), .ref q20_6_77, .ref q27_6_77])), (q8_6_77, .inl (cA, 192, .inl (fun _ => 0))), (q20_6_77, .inl (cA, 64, .inl (fun _ => 0))), (q27_6_77, .inl (cA, 8, .inl (fun _ => 0))), (q36_6_77, .inl (cA, 32, .inl (fun _ => 0))), (q84, .inr (6, [.null, .null, .int 0, .null, .null, .null, .null]))] H := hP
  have hD : va_D A [(h0, .inr (0, [.ref q8, .int (0 : Int32), .int (0 : Int32), .int (-1 : Int32), .ref q29, .ref q40, .ref q51, .ref q62, .ref q73, .null])), (q8, .inl (cA, 200, .inl (fun _ => 0))), (q29, .inr (1, [.ref q8_33, .ref q16_33, .ref q24_33, .int 0, .int 0])), (q8_33, .inl (cA, 7680, .inl (fun _ => 0))), (q16_33, .inl (cA, 64, .inl (fun _ => 0))), (q24_33, .inl (cA, 64, .inl (sd_ord 64))), (q40, .inr (2, [.int 0])), (q51, .inr (3, [.int 0, .int 0])), (q62, .inr (4, [.int 0, .int 0])), (q73, .inr (5, [.ref q8_6_77, .ref q36_6_77, .int (1 : Int32), .ref q20_6_77, .ref q27_6_77])), (q8_6_77, .inl (cA, 192, .inl (fun _ => 0))), (q20_6_77, .inl (cA, 64, .inl (fun _ => 0))), (q27_6_77, .inl (cA, 8, .inl (fun _ => 0))), (q36_6_77, .inl (cA, 32, .inl (fun _ => 0))), (q84, .inr (6, [.null, .null, .int 0, .null, .null, .null, .null]))] := hD
  refine W.widen (k := 14) (n := 8326) (by omega) (by omega) ?_
  refine lv_dup hx hb d_Desk_init_87 rfl ?_
  have hPc := hP.sub (ws' := [(q84, .inr (6, [.null, .null, .int 0, .null, .null, .null, .null]))]) [14] rfl
  have hDc := hD.sub (ws' := [(q84, .inr (6, [.null, .null, .int 0, .null, .null, .null, .null]))]) [14] (by decide) rfl
  have hKc := hK.sub (tys' := []) [] rfl
  have hFc := va_free (wc := [(q84, .inr (6, [.null, .null, .int 0, .null, .null, .null, .null]))]) hD hS hA [14] rfl
  refine va_callv (va_runI (As := []) (rest := [.ref q84, .ref h0]) ⟨hx, hb, hml, hown, hts⟩ (ct_Ripemd160_Ripemd160 l dC dI q84 H.size) (cwI 0 hts (gd_code tw_125) rfl rfl rfl (hts _ tw_8) (hts _ tw_123) (hts _ tw_124) rfl (by decide +kernel) ⟨Nat.le_of_ble_eq_true rfl, Nat.le_of_ble_eq_true rfl⟩) ⟨fun a U g mk q => by obtain ⟨q0, q1, qP, qK, qD⟩ := q; exact ⟨q0, q1, qP, va_K.moved (u := U) (U := U.calling g mk a) (Vm.Alike.refl U.vm) qK, qD⟩, fun U hU hW => ⟨rfl, by rw [hU], by rw [hU]; exact hPc, va_K.moved hW.alike hKc, hDc.weaken (fun _ _ _ _ => trivial)⟩⟩ rfl rfl hl.1 rfl (lv_room (Nat.le_of_ble_eq_true rfl)) d_Desk_init_88 ⟨Nat.le_of_ble_eq_true rfl, Nat.le_of_ble_eq_true rfl⟩) hS (fun q _ h => hFc q h) hFc (fun u t H1 locs ht hvm hw hB hz1 hk1 hS => ?_)
  obtain ⟨q8_5_88, q20_5_88, q27_5_88, q36_5_88, q10_88, q17_88, cB, hP1, hK1, hD1⟩ := hB
  rw [ht] at hP1
  have hK1 := va_K.moved hvm.symm hK1
  obtain rfl : cA = cB := sd_oneA (hK.app hK1) (i := 0) (j := 1) rfl rfl
  obtain ⟨hP, hD⟩ := va_join (wr := [(h0, .inr (0, [.ref q8, .int (0 : Int32), .int (0 : Int32), .int (-1 : Int32), .ref q29, .ref q40, .ref q51, .ref q62, .ref q73, .null])), (q8, .inl (cA, 200, .inl (fun _ => 0))), (q29, .inr (1, [.ref q8_33, .ref q16_33, .ref q24_33, .int 0, .int 0])), (q8_33, .inl (cA, 7680, .inl (fun _ => 0))), (q16_33, .inl (cA, 64, .inl (fun _ => 0))), (q24_33, .inl (cA, 64, .inl (sd_ord 64))), (q40, .inr (2, [.int 0])), (q51, .inr (3, [.int 0, .int 0])), (q62, .inr (4, [.int 0, .int 0])), (q73, .inr (5, [.ref q8_6_77, .ref q36_6_77, .int (1 : Int32), .ref q20_6_77, .ref q27_6_77])), (q8_6_77, .inl (cA, 192, .inl (fun _ => 0))), (q20_6_77, .inl (cA, 64, .inl (fun _ => 0))), (q27_6_77, .inl (cA, 8, .inl (fun _ => 0))), (q36_6_77, .inl (cA, 32, .inl (fun _ => 0)))]) (w1 := [(q84, .inr (6, [.ref q8_5_88, .ref q36_5_88, .int (0 : Int32), .ref q20_5_88, .ref q27_5_88, .ref q10_88, .ref q17_88])), (q8_5_88, .inl (cA, 192, .inl (fun _ => 0))), (q20_5_88, .inl (cA, 16, .inl (fun _ => 0))), (q27_5_88, .inl (cA, 5, .inl (fun _ => 0))), (q36_5_88, .inl (cA, 20, .inl (fun _ => 0))), (q10_88, .inl (cA, 5, .inl (fun _ => 0))), (q17_88, .inl (cA, 5, .inl (fun _ => 0)))]) hP hD [14] [0, 1, 2, 3, 4, 5, 6, 7, 8, 9, 10, 11, 12, 13] rfl rfl (by decide) (by decide) hk1 hFc hP1 hD1
  have hK : va_K (dC, dI) vwCl [(cA, .int)] s := hK.sub [0] rfl
  generalize H1 = H at hP hS ⊢
  have hP : va_P (dC, dI) vwCl [(h0, .inr (0, [.ref q8, .int (0 : Int32), .int (0 : Int32), .int (-1 : Int32), .ref q29, .ref q40, .ref q51, .ref q62, .ref q73, .null])), (q8, .inl (cA, 200, .inl (fun _ => 0))), (q29, .inr (1, [.ref q8_33, .ref q16_33, .ref q24_33, .int 0, .int 0])), (q8_33, .inl (cA, 7680, .inl (fun _ => 0))), (q16_33, .inl (cA, 64, .inl (fun _ => 0))), (q24_33, .inl (cA, 64, .inl (sd_ord 64))), (q40, .inr (2, [.int 0])), (q51, .inr (3, [.int 0, .int 0])), (q62, .inr (4, [.int 0, .int 0])), (q73, .inr (5, [.ref q8_6_77, .ref q36_6_77, .int (1 : Int32), .ref q20_6_77, .ref q27_6_77])), (q8_6_77, .inl (cA, 192, .inl (fun _ => 0))), (q20_6_77, .inl (cA, 64, .inl (fun _ => 0))), (q27_6_77, .inl (cA, 8, .inl (fun _ => 0))), (q36_6_77, .inl (cA, 32, .inl (fun _ => 0))), (q84, .inr (6, [.ref q8_5_88, .ref q36_5_88, .int (0 : Int32), .ref q20_5_88, .ref q27_5_88, .ref q10_88, .ref q17_88])), (q8_5_88, .inl (cA, 192, .inl (fun _ => 0))), (q20_5_88, .inl (cA, 16, .inl (fun _ => 0))), (q27_5_88, .inl (cA, 5, .inl (fun _ => 0))), (q36_5_88, .inl (cA, 20, .inl (fun _ => 0))), (q10_88, .inl (cA, 5, .inl (fun _ => 0))), (q17_88, .inl (cA, 5, .inl (fun _ => 0)))] H := hP
  have hD : va_D A [(h0, .inr (0, [.ref q8, .int (0 : Int32), .int (0 : Int32), .int (-1 : Int32), .ref q29, .ref q40, .ref q51, .ref q62, .ref q73, .null])), (q8, .inl (cA, 200, .inl (fun _ => 0))), (q29, .inr (1, [.ref q8_33, .ref q16_33, .ref q24_33, .int 0, .int 0])), (q8_33, .inl (cA, 7680, .inl (fun _ => 0))), (q16_33, .inl (cA, 64, .inl (fun _ => 0))), (q24_33, .inl (cA, 64, .inl (sd_ord 64))), (q40, .inr (2, [.int 0])), (q51, .inr (3, [.int 0, .int 0])), (q62, .inr (4, [.int 0, .int 0])), (q73, .inr (5, [.ref q8_6_77, .ref q36_6_77, .int (1 : Int32), .ref q20_6_77, .ref q27_6_77])), (q8_6_77, .inl (cA, 192, .inl (fun _ => 0))), (q20_6_77, .inl (cA, 64, .inl (fun _ => 0))), (q27_6_77, .inl (cA, 8, .inl (fun _ => 0))), (q36_6_77, .inl (cA, 32, .inl (fun _ => 0))), (q84, .inr (6, [.ref q8_5_88, .ref q36_5_88, .int (0 : Int32), .ref q20_5_88, .ref q27_5_88, .ref q10_88, .ref q17_88])), (q8_5_88, .inl (cA, 192, .inl (fun _ => 0))), (q20_5_88, .inl (cA, 16, .inl (fun _ => 0))), (q27_5_88, .inl (cA, 5, .inl (fun _ => 0))), (q36_5_88, .inl (cA, 20, .inl (fun _ => 0))), (q10_88, .inl (cA, 5, .inl (fun _ => 0))), (q17_88, .inl (cA, 5, .inl (fun _ => 0)))] := hD
  refine W.widen (k := 20) (n := 8569) (by omega) (by omega) ?_
  refine va_putF (D := (dC, dI)) (ci := 0) (v := .ref q84) (ty := .object "ScriptDesk$BlockDigest") (C := "ScriptDesk") (T := T_Desk) (N := 10) hx hb hts iw_Desk t_Desk t_Desk_ok n_Desk hown hK hP hD hS 0 rfl rfl 9 (by decide) (hts _ tw_148) (fun _ h9 => h9) rfl hin rfl (by decide +kernel) rfl rfl (Nat.le_of_ble_eq_true rfl) d_Desk_init_91 (fun H locs hP hD hS => ?_)
  have hP : va_P (dC, dI) vwCl [(h0, .inr (0, [.ref q8, .int (0 : Int32), .int (0 : Int32), .int (-1 : Int32), .ref q29, .ref q40, .ref q51, .ref q62, .ref q73, .ref q84])), (q8, .inl (cA, 200, .inl (fun _ => 0))), (q29, .inr (1, [.ref q8_33, .ref q16_33, .ref q24_33, .int 0, .int 0])), (q8_33, .inl (cA, 7680, .inl (fun _ => 0))), (q16_33, .inl (cA, 64, .inl (fun _ => 0))), (q24_33, .inl (cA, 64, .inl (sd_ord 64))), (q40, .inr (2, [.int 0])), (q51, .inr (3, [.int 0, .int 0])), (q62, .inr (4, [.int 0, .int 0])), (q73, .inr (5, [.ref q8_6_77, .ref q36_6_77, .int (1 : Int32), .ref q20_6_77, .ref q27_6_77])), (q8_6_77, .inl (cA, 192, .inl (fun _ => 0))), (q20_6_77, .inl (cA, 64, .inl (fun _ => 0))), (q27_6_77, .inl (cA, 8, .inl (fun _ => 0))), (q36_6_77, .inl (cA, 32, .inl (fun _ => 0))), (q84, .inr (6, [.ref q8_5_88, .ref q36_5_88, .int (0 : Int32), .ref q20_5_88, .ref q27_5_88, .ref q10_88, .ref q17_88])), (q8_5_88, .inl (cA, 192, .inl (fun _ => 0))), (q20_5_88, .inl (cA, 16, .inl (fun _ => 0))), (q27_5_88, .inl (cA, 5, .inl (fun _ => 0))), (q36_5_88, .inl (cA, 20, .inl (fun _ => 0))), (q10_88, .inl (cA, 5, .inl (fun _ => 0))), (q17_88, .inl (cA, 5, .inl (fun _ => 0)))] H := hP
  have hD : va_D A [(h0, .inr (0, [.ref q8, .int (0 : Int32), .int (0 : Int32), .int (-1 : Int32), .ref q29, .ref q40, .ref q51, .ref q62, .ref q73, .ref q84])), (q8, .inl (cA, 200, .inl (fun _ => 0))), (q29, .inr (1, [.ref q8_33, .ref q16_33, .ref q24_33, .int 0, .int 0])), (q8_33, .inl (cA, 7680, .inl (fun _ => 0))), (q16_33, .inl (cA, 64, .inl (fun _ => 0))), (q24_33, .inl (cA, 64, .inl (sd_ord 64))), (q40, .inr (2, [.int 0])), (q51, .inr (3, [.int 0, .int 0])), (q62, .inr (4, [.int 0, .int 0])), (q73, .inr (5, [.ref q8_6_77, .ref q36_6_77, .int (1 : Int32), .ref q20_6_77, .ref q27_6_77])), (q8_6_77, .inl (cA, 192, .inl (fun _ => 0))), (q20_6_77, .inl (cA, 64, .inl (fun _ => 0))), (q27_6_77, .inl (cA, 8, .inl (fun _ => 0))), (q36_6_77, .inl (cA, 32, .inl (fun _ => 0))), (q84, .inr (6, [.ref q8_5_88, .ref q36_5_88, .int (0 : Int32), .ref q20_5_88, .ref q27_5_88, .ref q10_88, .ref q17_88])), (q8_5_88, .inl (cA, 192, .inl (fun _ => 0))), (q20_5_88, .inl (cA, 16, .inl (fun _ => 0))), (q27_5_88, .inl (cA, 5, .inl (fun _ => 0))), (q36_5_88, .inl (cA, 20, .inl (fun _ => 0))), (q10_88, .inl (cA, 5, .inl (fun _ => 0))), (q17_88, .inl (cA, 5, .inl (fun _ => 0)))] := hD
  have hP9 := hP.sub (ws' := [(h0, .inr (0, [.ref q8, .int (0 : Int32), .int (0 : Int32), .int (-1 : Int32), .ref q29, .ref q40, .ref q51, .ref q62, .ref q73, .ref q84])), (q8, .inl (cA, 200, .inl (fun _ => 0))), (q29, .inr (1, [.ref q8_33, .ref q16_33, .ref q24_33, .int 0, .int 0])), (q8_33, .inl (cA, 7680, .inl (fun _ => 0))), (q16_33, .inl (cA, 64, .inl (fun _ => 0))), (q24_33, .inl (cA, 64, .inl (sd_ord 64))), (q40, .inr (2, [.int 0])), (q51, .inr (3, [.int 0, .int 0])), (q62, .inr (4, [.int 0, .int 0])), (q73, .inr (5, [.ref q8_6_77, .ref q36_6_77, .int (1 : Int32), .ref q20_6_77, .ref q27_6_77])), (q8_6_77, .inl (cA, 192, .inl (fun _ => 0))), (q20_6_77, .inl (cA, 64, .inl (fun _ => 0))), (q27_6_77, .inl (cA, 8, .inl (fun _ => 0))), (q36_6_77, .inl (cA, 32, .inl (fun _ => 0))), (q84, .inr (6, [.ref q8_5_88, .ref q36_5_88, .int (0 : Int32), .ref q20_5_88, .ref q27_5_88, .ref q10_88, .ref q17_88])), (q8_5_88, .inl (cA, 192, .inl (fun _ => 0))), (q20_5_88, .inl (cA, 16, .inl (fun _ => 0))), (q27_5_88, .inl (cA, 5, .inl (fun _ => 0))), (q36_5_88, .inl (cA, 20, .inl (fun _ => 0))), (q10_88, .inl (cA, 5, .inl (fun _ => 0))), (q17_88, .inl (cA, 5, .inl (fun _ => 0)))]) [0, 1, 2, 3, 4, 5, 6, 7, 8, 9, 10, 11, 12, 13, 14, 15, 16, 17, 18, 19, 20] rfl
  have hD9 := hD.sub (ws' := [(h0, .inr (0, [.ref q8, .int (0 : Int32), .int (0 : Int32), .int (-1 : Int32), .ref q29, .ref q40, .ref q51, .ref q62, .ref q73, .ref q84])), (q8, .inl (cA, 200, .inl (fun _ => 0))), (q29, .inr (1, [.ref q8_33, .ref q16_33, .ref q24_33, .int 0, .int 0])), (q8_33, .inl (cA, 7680, .inl (fun _ => 0))), (q16_33, .inl (cA, 64, .inl (fun _ => 0))), (q24_33, .inl (cA, 64, .inl (sd_ord 64))), (q40, .inr (2, [.int 0])), (q51, .inr (3, [.int 0, .int 0])), (q62, .inr (4, [.int 0, .int 0])), (q73, .inr (5, [.ref q8_6_77, .ref q36_6_77, .int (1 : Int32), .ref q20_6_77, .ref q27_6_77])), (q8_6_77, .inl (cA, 192, .inl (fun _ => 0))), (q20_6_77, .inl (cA, 64, .inl (fun _ => 0))), (q27_6_77, .inl (cA, 8, .inl (fun _ => 0))), (q36_6_77, .inl (cA, 32, .inl (fun _ => 0))), (q84, .inr (6, [.ref q8_5_88, .ref q36_5_88, .int (0 : Int32), .ref q20_5_88, .ref q27_5_88, .ref q10_88, .ref q17_88])), (q8_5_88, .inl (cA, 192, .inl (fun _ => 0))), (q20_5_88, .inl (cA, 16, .inl (fun _ => 0))), (q27_5_88, .inl (cA, 5, .inl (fun _ => 0))), (q36_5_88, .inl (cA, 20, .inl (fun _ => 0))), (q10_88, .inl (cA, 5, .inl (fun _ => 0))), (q17_88, .inl (cA, 5, .inl (fun _ => 0)))]) [0, 1, 2, 3, 4, 5, 6, 7, 8, 9, 10, 11, 12, 13, 14, 15, 16, 17, 18, 19, 20] (by decide) rfl
  have hK9 := hK.sub (tys' := [(cA, .int)]) [0] rfl
  exact W.vret hx hb hr (fun t ht hW => ⟨⟨(), rfl, trivial, q8, q29, q8_33, q16_33, q24_33, q40, q51, q62, q73, q8_6_77, q20_6_77, q27_6_77, q36_6_77, q84, q8_5_88, q20_5_88, q27_5_88, q36_5_88, q10_88, q17_88, cA, by rw [ht]; exact hP9, va_K.moved hW.alike hK9, hD9⟩, hS.F ht⟩) hS.2.2 d_Desk_init_94
set_option maxHeartbeats 4000000 in
set_option maxRecDepth 100000 in
theorem ct_Model_Model (l : Launch) (dC : Nat → ClassId) (dI : Nat → Nat → Nat) (h0 : Nat) (sz : Nat) : Met l y_Model_init w_Model_init ({ frames := 1, cells := 8, slots := 17615, locals := 12 }) (va_Pc [.ref h0] (fun U => U.heap.size = sz ∧ va_P (dC, dI) vwCl [(h0, .inr (7, [.null, .null, .int 0, .int 0, .null, .int 0, .long 0, .int 0, .int 0, .int 0, .int 0, .int 0, .null, .long 0, .null, .null, .null, .null]))] U.heap ∧ va_K (dC, dI) vwCl [] U ∧ va_D (fun _ => True) [(h0, .inr (7, [.null, .null, .int 0, .int 0, .null, .int 0, .long 0, .int 0, .int 0, .int 0, .int 0, .int 0, .null, .long 0, .null, .null, .null, .null]))])) (va_Qv (fun (_ : Unit) => True) (fun (_ : Unit) (t : State) => ∃ (q8 q17 q26 q40 q49 q57 q65 q73 : Nat) (cA : ClassId), va_P (dC, dI) vwCl [(h0, .inr (7, [.ref q8, .ref q17, .int 0, .int 0, .ref q26, .int 0, .long 0, .int 0, .int (-1 : Int32), .int 0, .int 0, .int 0, .ref q40, .long 0, .ref q49, .ref q57, .ref q65, .ref q73])), (q8, .inl (cA, 16800, .inl (fun _ => 0))), (q17, .inl (cA, 140, .inl (fun _ => 0))), (q26, .inl (cA, 200, .inl (fun _ => 0))), (q40, .inl (cA, 201, .inl (fun _ => 0))), (q49, .inl (cA, 192, .inl (fun _ => 0))), (q57, .inl (cA, 64, .inl (fun _ => 0))), (q65, .inl (cA, 8, .inl (fun _ => 0))), (q73, .inl (cA, 10, .inl (fun _ => 0)))] t.heap ∧ va_K (dC, dI) vwCl [(cA, .int)] t ∧ va_D (va_A [(h0, .inr (7, [.null, .null, .int 0, .int 0, .null, .int 0, .long 0, .int 0, .int 0, .int 0, .int 0, .int 0, .null, .long 0, .null, .null, .null, .null]))] sz) [(h0, .inr (7, [.ref q8, .ref q17, .int 0, .int 0, .ref q26, .int 0, .long 0, .int 0, .int (-1 : Int32), .int 0, .int 0, .int 0, .ref q40, .long 0, .ref q49, .ref q57, .ref q65, .ref q73])), (q8, .inl (cA, 16800, .inl (fun _ => 0))), (q17, .inl (cA, 140, .inl (fun _ => 0))), (q26, .inl (cA, 200, .inl (fun _ => 0))), (q40, .inl (cA, 201, .inl (fun _ => 0))), (q49, .inl (cA, 192, .inl (fun _ => 0))), (q57, .inl (cA, 64, .inl (fun _ => 0))), (q65, .inl (cA, 8, .inl (fun _ => 0))), (q73, .inl (cA, 10, .inl (fun _ => 0)))]) (va_A [(h0, .inr (7, [.null, .null, .int 0, .int 0, .null, .int 0, .long 0, .int 0, .int 0, .int 0, .int 0, .int 0, .null, .long 0, .null, .null, .null, .null]))] sz)) 8 17615 (va_A [(h0, .inr (7, [.null, .null, .int 0, .int 0, .null, .int 0, .long 0, .int 0, .int 0, .int 0, .int 0, .int 0, .null, .long 0, .null, .null, .null, .null]))] sz) := by
  refine Met.ofW (cc := prog_12_method_1_code) (maxL := 1) (ret := none) (by decide) rfl ?_
  intro p e s m args below meth c s₁ B hml hv
  obtain ⟨rfl, hsz, hP, hK, hD0⟩ := hv
  have hx := B.exec
  have hb := B.bytes
  have hr := B.returns
  have hts : ∀ w ∈ sx_tbl, w.before ([.ref h0] : List Value).toArray s = true := fun w h => atoms_spec (ws := w_Model_init) B.pre w (List.mem_cons_of_mem _ h)
  have hown : s.vm.findClass "ScriptDeskModel" = some m.cls := findClass_of_methodNamed B.named
  have hlocks := B.notSynchronized
  have hin : meth.name = "<init>" := (name_of_methodNamed B.named B.method).1
  subst hsz
  have hD := hD0.self (sz := s.heap.size)
  generalize hAe : va_A [(h0, .inr (7, [.null, .null, .int 0, .int 0, .null, .int 0, .long 0, .int 0, .int 0, .int 0, .int 0, .int 0, .null, .long 0, .null, .null, .null, .null]))] s.heap.size = A at hD ⊢
  have hA : ∀ q : Nat, s.heap.size ≤ q → A q := fun q h => by rw [← hAe]; exact Or.inr h
  have hS : va_S A s.heap s.heap [] := va_S.rf
  have hP : va_P (dC, dI) vwCl [(h0, .inr (7, [.null, .null, .int 0, .int 0, .null, .int 0, .long 0, .int 0, .int 0, .int 0, .int 0, .int 0, .null, .long 0, .null, .null, .null, .null]))] s.heap := hP
  have hl := lv_entry ([.ref h0]) (n := 1) (Nat.le_of_ble_eq_true rfl)
  rw [lg_entry_eq]
  generalize (lg_sl ([.ref h0]) ++ List.replicate (1 - (lg_sl ([.ref h0])).length) Slot.unset).toArray = ls at hl ⊢
  have hl : lv_has ls 1 [(0, .ref h0)] := hl
  refine lv_aload_n hx hb d_Model_init_0 rfl (lv_at hl 0 rfl) ?_
  refine W.objInit hx hb hown (hts _ tw_530) (hts _ tw_21) (hts _ tw_22) rfl (by rw [hml]; exact hl.1) rfl d_Model_init_1 (Nat.le_of_ble_eq_true rfl) (Nat.le_of_ble_eq_true rfl) ?_
  refine W.eq (g2 := F0 m 4 ls []) rfl ?_
  refine lv_aload_n hx hb d_Model_init_4 rfl (lv_at hl 0 rfl) ?_
  refine lv_sipush (v := 16800) hx hb d_Model_init_5 (by decide) ?_
  refine va_newa (atype := .int) (ty := .int) (N' := 16800) (a0 := (16800, .inl (fun _ => 0))) hx hb (hts _ tw_48) rfl hK hP hD hS hA (fun _ => rfl) (by decide) (by decide) (by decide) (Nat.le_of_ble_eq_true rfl) (Nat.le_of_ble_eq_true rfl) d_Model_init_8 (fun q8 cA H hK hP hD hS => ?_)
  have hK : va_K (dC, dI) vwCl [(cA, .int)] s := hK.sub [0] rfl
  have hP : va_P (dC, dI) vwCl [(h0, .inr (7, [.null, .null, .int 0, .int 0, .null, .int 0, .long 0, .int 0, .int 0, .int 0, .int 0, .int 0, .null, .long 0, .null, .null, .null, .null])), (q8, .inl (cA, 16800, .inl (fun _ => 0)))] H := hP
  have hD : va_D A [(h0, .inr (7, [.null, .null, .int 0, .int 0, .null, .int 0, .long 0, .int 0, .int 0, .int 0, .int 0, .int 0, .null, .long 0, .null, .null, .null, .null])), (q8, .inl (cA, 16800, .inl (fun _ => 0)))] := hD
  refine W.widen (k := 1) (n := 16800) (by omega) (by omega) ?_
  refine va_putF (D := (dC, dI)) (ci := 7) (v := .ref q8) (ty := .array .int) (C := "ScriptDeskModel") (T := T_Model) (N := 18) hx hb hts iw_Model t_Model t_Model_ok n_Model hown hK hP hD hS 0 rfl rfl 0 (by decide) (hts _ tw_531) (fun _ h9 => h9) rfl hin rfl (by decide +kernel) rfl rfl (Nat.le_of_ble_eq_true rfl) d_Model_init_10 (fun H locs hP hD hS => ?_)
  have hP : va_P (dC, dI) vwCl [(h0, .inr (7, [.ref q8, .null, .int 0, .int 0, .null, .int 0, .long 0, .int 0, .int 0, .int 0, .int 0, .int 0, .null, .long 0, .null, .null, .null, .null])), (q8, .inl (cA, 16800, .inl (fun _ => 0)))] H := hP
  have hD : va_D A [(h0, .inr (7, [.ref q8, .null, .int 0, .int 0, .null, .int 0, .long 0, .int 0, .int 0, .int 0, .int 0, .int 0, .null, .long 0, .null, .null, .null, .null])), (q8, .inl (cA, 16800, .inl (fun _ => 0)))] := hD
  refine lv_aload_n hx hb d_Model_init_13 rfl (lv_at hl 0 rfl) ?_
  refine lv_sipush (v := 140) hx hb d_Model_init_14 (by decide) ?_
  refine va_newa (atype := .int) (ty := .int) (N' := 140) (a0 := (140, .inl (fun _ => 0))) hx hb (hts _ tw_48) rfl hK hP hD hS hA (fun _ => rfl) (by decide) (by decide) (by decide) (Nat.le_of_ble_eq_true rfl) (Nat.le_of_ble_eq_true rfl) d_Model_init_17 (fun q17 cB H hK hP hD hS => ?_)
  obtain rfl : cA = cB := sd_oneA hK (i := 0) (j := 1) rfl rfl
  have hK : va_K (dC, dI) vwCl [(cA, .int)] s := hK.sub [0] rfl
  have hP : va_P (dC, dI) vwCl [(h0, .inr (7, [.ref q8, .null, .int 0, .int 0, .null, .int 0, .long 0, .int 0, .int 0, .int 0, .int 0, .int 0, .null, .long 0, .null, .null, .null, .null])), (q8, .inl (cA, 16800, .inl (fun _ => 0))), (q17, .inl (cA, 140, .inl (fun _ => 0)))] H := hP
  have hD : va_D A [(h0, .inr (7, [.ref q8, .null, .int 0, .int 0, .null, .int 0, .long 0, .int 0, .int 0, .int 0, .int 0, .int 0, .null, .long 0, .null, .null, .null, .null])), (q8, .inl (cA, 16800, .inl (fun _ => 0))), (q17, .inl (cA, 140, .inl (fun _ => 0)))] := hD
  refine W.widen (k := 2) (n := 16940) (by omega) (by omega) ?_
  refine va_putF (D := (dC, dI)) (ci := 7) (v := .ref q17) (ty := .array .int) (C := "ScriptDeskModel") (T := T_Model) (N := 18) hx hb hts iw_Model t_Model t_Model_ok n_Model hown hK hP hD hS 0 rfl rfl 1 (by decide) (hts _ tw_532) (fun _ h9 => h9) rfl hin rfl (by decide +kernel) rfl rfl (Nat.le_of_ble_eq_true rfl) d_Model_init_19 (fun H locs hP hD hS => ?_)
  have hP : va_P (dC, dI) vwCl [(h0, .inr (7, [.ref q8, .ref q17, .int 0, .int 0, .null, .int 0, .long 0, .int 0, .int 0, .int 0, .int 0, .int 0, .null, .long 0, .null, .null, .null, .null])), (q8, .inl (cA, 16800, .inl (fun _ => 0))), (q17, .inl (cA, 140, .inl (fun _ => 0)))] H := hP
  have hD : va_D A [(h0, .inr (7, [.ref q8, .ref q17, .int 0, .int 0, .null, .int 0, .long 0, .int 0, .int 0, .int 0, .int 0, .int 0, .null, .long 0, .null, .null, .null, .null])), (q8, .inl (cA, 16800, .inl (fun _ => 0))), (q17, .inl (cA, 140, .inl (fun _ => 0)))] := hD
  refine lv_aload_n hx hb d_Model_init_22 rfl (lv_at hl 0 rfl) ?_
  refine lv_sipush (v := 200) hx hb d_Model_init_23 (by decide) ?_
  refine va_newa (atype := .int) (ty := .int) (N' := 200) (a0 := (200, .inl (fun _ => 0))) hx hb (hts _ tw_48) rfl hK hP hD hS hA (fun _ => rfl) (by decide) (by decide) (by decide) (Nat.le_of_ble_eq_true rfl) (Nat.le_of_ble_eq_true rfl) d_Model_init_26 (fun q26 cB H hK hP hD hS => ?_)
  obtain rfl : cA = cB := sd_oneA hK (i := 0) (j := 1) rfl rfl
  have hK : va_K (dC, dI) vwCl [(cA, .int)] s := hK.sub [0] rfl
  have hP : va_P (dC, dI) vwCl [(h0, .inr (7, [.ref q8, .ref q17, .int 0, .int 0, .null, .int 0, .long 0, .int 0, .int 0, .int 0, .int 0, .int 0, .null, .long 0, .null, .null, .null, .null])), (q8, .inl (cA, 16800, .inl (fun _ => 0))), (q17, .inl (cA, 140, .inl (fun _ => 0))), (q26, .inl (cA, 200, .inl (fun _ => 0)))] H := hP
  have hD : va_D A [(h0, .inr (7, [.ref q8, .ref q17, .int 0, .int 0, .null, .int 0, .long 0, .int 0, .int 0, .int 0, .int 0, .int 0, .null, .long 0, .null, .null, .null, .null])), (q8, .inl (cA, 16800, .inl (fun _ => 0))), (q17, .inl (cA, 140, .inl (fun _ => 0))), (q26, .inl (cA, 200, .inl (fun _ => 0)))] := hD
  refine W.widen (k := 3) (n := 17140) (by omega) (by omega) ?_
  refine va_putF (D := (dC, dI)) (ci := 7) (v := .ref q26) (ty := .array .int) (C := "ScriptDeskModel") (T := T_Model) (N := 18) hx hb hts iw_Model t_Model t_Model_ok n_Model hown hK hP hD hS 0 rfl rfl 4 (by decide) (hts _ tw_535) (fun _ h9 => h9) rfl hin rfl (by decide +kernel) rfl rfl (Nat.le_of_ble_eq_true rfl) d_Model_init_28 (fun H locs hP hD hS => ?_)
  have hP : va_P (dC, dI) vwCl [(h0, .inr (7, [.ref q8, .ref q17, .int 0, .int 0, .ref q26, .int 0, .long 0, .int 0, .int 0, .int 0, .int 0, .int 0, .null, .long 0, .null, .null, .null, .null])), (q8, .inl (cA, 16800, .inl (fun _ => 0))), (q17, .inl (cA, 140, .inl (fun _ => 0))), (q26, .inl (cA, 200, .inl (fun _ => 0)))] H := hP
  have hD : va_D A [(h0, .inr (7, [.ref q8, .ref q17, .int 0, .int 0, .ref q26, .int 0, .long 0, .int 0, .int 0, .int 0, .int 0, .int 0, .null, .long 0, .null, .null, .null, .null])), (q8, .inl (cA, 16800, .inl (fun _ => 0))), (q17, .inl (cA, 140, .inl (fun _ => 0))), (q26, .inl (cA, 200, .inl (fun _ => 0)))] := hD
  refine lv_aload_n hx hb d_Model_init_31 rfl (lv_at hl 0 rfl) ?_
  refine lv_iconst (v := -1) hx hb d_Model_init_32 (by decide) ?_
  refine va_put (D := (dC, dI)) (ci := 7) (v := .int (-1 : Int32)) (ty := .int) (C := "ScriptDeskModel") (T := T_Model) (N := 18) hx hb hts iw_Model t_Model t_Model_ok n_Model hown hK hP hD hS 0 rfl rfl 8 (by decide) (hts _ tw_539) (fun _ h9 => h9) rfl (by decide +kernel) rfl rfl (Nat.le_of_ble_eq_true rfl) d_Model_init_33 (fun H locs hP hD hS => ?_)
  have hP : va_P (dC, dI) vwCl [(h0, .inr (7, [.ref q8, .ref q17, .int 0, .int 0, .ref q26, .int 0, .long 0, .int 0, .int (-1 : Int32), .int 0, .int 0, .int 0, .null, .long 0, .null, .null, .null, .null])), (q8, .inl (cA, 16800, .inl (fun _ => 0))), (q17, .inl (cA, 140, .inl (fun _ => 0))), (q26, .inl (cA, 200, .inl (fun _ => 0)))] H := hP
  have hD : va_D A [(h0, .inr (7, [.ref q8, .ref q17, .int 0, .int 0, .ref q26, .int 0, .long 0, .int 0, .int (-1 : Int32), .int 0, .int 0, .int 0, .null, .long 0, .null, .null, .null, .null])), (q8, .inl (cA, 16800, .inl (fun _ => 0))), (q17, .inl (cA, 140, .inl (fun _ => 0))), (q26, .inl (cA, 200, .inl (fun _ => 0)))] := hD
  refine lv_aload_n hx hb d_Model_init_36 rfl (lv_at hl 0 rfl) ?_
  refine lv_sipush (v := 201) hx hb d_Model_init_37 (by decide) ?_
  refine va_newa (atype := .int) (ty := .int) (N' := 201) (a0 := (201, .inl (fun _ => 0))) hx hb (hts _ tw_48) rfl hK hP hD hS hA (fun _ => rfl) (by decide) (by decide) (by decide) (Nat.le_of_ble_eq_true rfl) (Nat.le_of_ble_eq_true rfl) d_Model_init_40 (fun q40 cB H hK hP hD hS => ?_)
  obtain rfl : cA = cB := sd_oneA hK (i := 0) (j := 1) rfl rfl
  have hK : va_K (dC, dI) vwCl [(cA, .int)] s := hK.sub [0] rfl
  have hP : va_P (dC, dI) vwCl [(h0, .inr (7, [.ref q8, .ref q17, .int 0, .int 0, .ref q26, .int 0, .long 0, .int 0, .int (-1 : Int32), .int 0, .int 0, .int 0, .null, .long 0, .null, .null, .null, .null])), (q8, .inl (cA, 16800, .inl (fun _ => 0))), (q17, .inl (cA, 140, .inl (fun _ => 0))), (q26, .inl (cA, 200, .inl (fun _ => 0))), (q40, .inl (cA, 201, .inl (fun _ => 0)))] H := hP
  have hD : va_D A [(h0, .inr (7, [.ref q8, .ref q17, .int 0, .int 0, .ref q26, .int 0, .long 0, .int 0, .int (-1 : Int32), .int 0, .int 0, .int 0, .null, .long 0, .null, .null, .null, .null])), (q8, .inl (cA, 16800, .inl (fun _ => 0))), (q17, .inl (cA, 140, .inl (fun _ => 0))), (q26, .inl (cA, 200, .inl (fun _ => 0))), (q40, .inl (cA, 201, .inl (fun _ => 0)))] := hD
  refine W.widen (k := 4) (n := 17341) (by omega) (by omega) ?_
  refine va_putF (D := (dC, dI)) (ci := 7) (v := .ref q40) (ty := .array .int) (C := "ScriptDeskModel") (T := T_Model) (N := 18) hx hb hts iw_Model t_Model t_Model_ok n_Model hown hK hP hD hS 0 rfl rfl 12 (by decide) (hts _ tw_543) (fun _ h9 => h9) rfl hin rfl (by decide +kernel) rfl rfl (Nat.le_of_ble_eq_true rfl) d_Model_init_42 (fun H locs hP hD hS => ?_)
  have hP : va_P (dC, dI) vwCl [(h0, .inr (7, [.ref q8, .ref q17, .int 0, .int 0, .ref q26, .int 0, .long 0, .int 0, .int (-1 : Int32), .int 0, .int 0, .int 0, .ref q40, .long 0, .null, .null, .null, .null])), (q8, .inl (cA, 16800, .inl (fun _ => 0))), (q17, .inl (cA, 140, .inl (fun _ => 0))), (q26, .inl (cA, 200, .inl (fun _ => 0))), (q40, .inl (cA, 201, .inl (fun _ => 0)))] H := hP
  have hD : va_D A [(h0, .inr (7, [.ref q8, .ref q17, .int 0, .int 0, .ref q26, .int 0, .long 0, .int 0, .int (-1 : Int32), .int 0, .int 0, .int 0, .ref q40, .long 0, .null, .null, .null, .null])), (q8, .inl (cA, 16800, .inl (fun _ => 0))), (q17, .inl (cA, 140, .inl (fun _ => 0))), (q26, .inl (cA, 200, .inl (fun _ => 0))), (q40, .inl (cA, 201, .inl (fun _ => 0)))] := hD
  refine lv_aload_n hx hb d_Model_init_45 rfl (lv_at hl 0 rfl) ?_
  refine lv_sipush (v := 192) hx hb d_Model_init_46 (by decide) ?_
  refine va_newa (atype := .int) (ty := .int) (N' := 192) (a0 := (192, .inl (fun _ => 0))) hx hb (hts _ tw_48) rfl hK hP hD hS hA (fun _ => rfl) (by decide) (by decide) (by decide) (Nat.le_of_ble_eq_true rfl) (Nat.le_of_ble_eq_true rfl) d_Model_init_49 (fun q49 cB H hK hP hD hS => ?_)
  obtain rfl : cA = cB := sd_oneA hK (i := 0) (j := 1) rfl rfl
  have hK : va_K (dC, dI) vwCl [(cA, .int)] s := hK.sub [0] rfl
  have hP : va_P (dC, dI) vwCl [(h0, .inr (7, [.ref q8, .ref q17, .int 0, .int 0, .ref q26, .int 0, .long 0, .int 0, .int (-1 : Int32), .int 0, .int 0, .int 0, .ref q40, .long 0, .null, .null, .null, .null])), (q8, .inl (cA, 16800, .inl (fun _ => 0))), (q17, .inl (cA, 140, .inl (fun _ => 0))), (q26, .inl (cA, 200, .inl (fun _ => 0))), (q40, .inl (cA, 201, .inl (fun _ => 0))), (q49, .inl (cA, 192, .inl (fun _ => 0)))] H := hP
  have hD : va_D A [(h0, .inr (7, [.ref q8, .ref q17, .int 0, .int 0, .ref q26, .int 0, .long 0, .int 0, .int (-1 : Int32), .int 0, .int 0, .int 0, .ref q40, .long 0, .null, .null, .null, .null])), (q8, .inl (cA, 16800, .inl (fun _ => 0))), (q17, .inl (cA, 140, .inl (fun _ => 0))), (q26, .inl (cA, 200, .inl (fun _ => 0))), (q40, .inl (cA, 201, .inl (fun _ => 0))), (q49, .inl (cA, 192, .inl (fun _ => 0)))] := hD
  refine W.widen (k := 5) (n := 17533) (by omega) (by omega) ?_
  refine va_putF (D := (dC, dI)) (ci := 7) (v := .ref q49) (ty := .array .int) (C := "ScriptDeskModel") (T := T_Model) (N := 18) hx hb hts iw_Model t_Model t_Model_ok n_Model hown hK hP hD hS 0 rfl rfl 14 (by decide) (hts _ tw_545) (fun _ h9 => h9) rfl hin rfl (by decide +kernel) rfl rfl (Nat.le_of_ble_eq_true rfl) d_Model_init_51 (fun H locs hP hD hS => ?_)
  have hP : va_P (dC, dI) vwCl [(h0, .inr (7, [.ref q8, .ref q17, .int 0, .int 0, .ref q26, .int 0, .long 0, .int 0, .int (-1 : Int32), .int 0, .int 0, .int 0, .ref q40, .long 0, .ref q49, .null, .null, .null])), (q8, .inl (cA, 16800, .inl (fun _ => 0))), (q17, .inl (cA, 140, .inl (fun _ => 0))), (q26, .inl (cA, 200, .inl (fun _ => 0))), (q40, .inl (cA, 201, .inl (fun _ => 0))), (q49, .inl (cA, 192, .inl (fun _ => 0)))] H := hP
  have hD : va_D A [(h0, .inr (7, [.ref q8, .ref q17, .int 0, .int 0, .ref q26, .int 0, .long 0, .int 0, .int (-1 : Int32), .int 0, .int 0, .int 0, .ref q40, .long 0, .ref q49, .null, .null, .null])), (q8, .inl (cA, 16800, .inl (fun _ => 0))), (q17, .inl (cA, 140, .inl (fun _ => 0))), (q26, .inl (cA, 200, .inl (fun _ => 0))), (q40, .inl (cA, 201, .inl (fun _ => 0))), (q49, .inl (cA, 192, .inl (fun _ => 0)))] := hD
  refine lv_aload_n hx hb d_Model_init_54 rfl (lv_at hl 0 rfl) ?_
  refine lv_bipush (v := 64) hx hb d_Model_init_55 (by decide) ?_
  refine va_newa (atype := .int) (ty := .int) (N' := 64) (a0 := (64, .inl (fun _ => 0))) hx hb (hts _ tw_48) rfl hK hP hD hS hA (fun _ => rfl) (by decide) (by decide) (by decide) (Nat.le_of_ble_eq_true rfl) (Nat.le_of_ble_eq_true rfl) d_Model_init_57 (fun q57 cB H hK hP hD hS => ?_)
  obtain rfl : cA = cB := sd_oneA hK (i := 0) (j := 1) rfl rfl
  have hK : va_K (dC, dI) vwCl [(cA, .int)] s := hK.sub [0] rfl
  have hP : va_P (dC, dI) vwCl [(h0, .inr (7, [.ref q8, .ref q17, .int 0, .int 0, .ref q26, .int 0, .long 0, .int 0, .int (-1 : Int32), .int 0, .int 0, .int 0, .ref q40, .long 0, .ref q49, .null, .null, .null])), (q8, .inl (cA, 16800, .inl (fun _ => 0))), (q17, .inl (cA, 140, .inl (fun _ => 0))), (q26, .inl (cA, 200, .inl (fun _ => 0))), (q40, .inl (cA, 201, .inl (fun _ => 0))), (q49, .inl (cA, 192, .inl (fun _ => 0))), (q57, .inl (cA, 64, .inl (fun _ => 0)))] H := hP
  have hD : va_D A [(h0, .inr (7, [.ref q8, .ref q17, .int 0, .int 0, .ref q26, .int 0, .long 0, .int 0, .int (-1 : Int32), .int 0, .int 0, .int 0, .ref q40, .long 0, .ref q49, .null, .null, .null])), (q8, .inl (cA, 16800, .inl (fun _ => 0))), (q17, .inl (cA, 140, .inl (fun _ => 0))), (q26, .inl (cA, 200, .inl (fun _ => 0))), (q40, .inl (cA, 201, .inl (fun _ => 0))), (q49, .inl (cA, 192, .inl (fun _ => 0))), (q57, .inl (cA, 64, .inl (fun _ => 0)))] := hD
  refine W.widen (k := 6) (n := 17597) (by omega) (by omega) ?_
  refine va_putF (D := (dC, dI)) (ci := 7) (v := .ref q57) (ty := .array .int) (C := "ScriptDeskModel") (T := T_Model) (N := 18) hx hb hts iw_Model t_Model t_Model_ok n_Model hown hK hP hD hS 0 rfl rfl 15 (by decide) (hts _ tw_546) (fun _ h9 => h9) rfl hin rfl (by decide +kernel) rfl rfl (Nat.le_of_ble_eq_true rfl) d_Model_init_59 (fun H locs hP hD hS => ?_)
  have hP : va_P (dC, dI) vwCl [(h0, .inr (7, [.ref q8, .ref q17, .int 0, .int 0, .ref q26, .int 0, .long 0, .int 0, .int (-1 : Int32), .int 0, .int 0, .int 0, .ref q40, .long 0, .ref q49, .ref q57, .null, .null])), (q8, .inl (cA, 16800, .inl (fun _ => 0))), (q17, .inl (cA, 140, .inl (fun _ => 0))), (q26, .inl (cA, 200, .inl (fun _ => 0))), (q40, .inl (cA, 201, .inl (fun _ => 0))), (q49, .inl (cA, 192, .inl (fun _ => 0))), (q57, .inl (cA, 64, .inl (fun _ => 0)))] H := hP
  have hD : va_D A [(h0, .inr (7, [.ref q8, .ref q17, .int 0, .int 0, .ref q26, .int 0, .long 0, .int 0, .int (-1 : Int32), .int 0, .int 0, .int 0, .ref q40, .long 0, .ref q49, .ref q57, .null, .null])), (q8, .inl (cA, 16800, .inl (fun _ => 0))), (q17, .inl (cA, 140, .inl (fun _ => 0))), (q26, .inl (cA, 200, .inl (fun _ => 0))), (q40, .inl (cA, 201, .inl (fun _ => 0))), (q49, .inl (cA, 192, .inl (fun _ => 0))), (q57, .inl (cA, 64, .inl (fun _ => 0)))] := hD
  refine lv_aload_n hx hb d_Model_init_62 rfl (lv_at hl 0 rfl) ?_
  refine lv_bipush (v := 8) hx hb d_Model_init_63 (by decide) ?_
  refine va_newa (atype := .int) (ty := .int) (N' := 8) (a0 := (8, .inl (fun _ => 0))) hx hb (hts _ tw_48) rfl hK hP hD hS hA (fun _ => rfl) (by decide) (by decide) (by decide) (Nat.le_of_ble_eq_true rfl) (Nat.le_of_ble_eq_true rfl) d_Model_init_65 (fun q65 cB H hK hP hD hS => ?_)
  obtain rfl : cA = cB := sd_oneA hK (i := 0) (j := 1) rfl rfl
  have hK : va_K (dC, dI) vwCl [(cA, .int)] s := hK.sub [0] rfl
  have hP : va_P (dC, dI) vwCl [(h0, .inr (7, [.ref q8, .ref q17, .int 0, .int 0, .ref q26, .int 0, .long 0, .int 0, .int (-1 : Int32), .int 0, .int 0, .int 0, .ref q40, .long 0, .ref q49, .ref q57, .null, .null])), (q8, .inl (cA, 16800, .inl (fun _ => 0))), (q17, .inl (cA, 140, .inl (fun _ => 0))), (q26, .inl (cA, 200, .inl (fun _ => 0))), (q40, .inl (cA, 201, .inl (fun _ => 0))), (q49, .inl (cA, 192, .inl (fun _ => 0))), (q57, .inl (cA, 64, .inl (fun _ => 0))), (q65, .inl (cA, 8, .inl (fun _ => 0)))] H := hP
  have hD : va_D A [(h0, .inr (7, [.ref q8, .ref q17, .int 0, .int 0, .ref q26, .int 0, .long 0, .int 0, .int (-1 : Int32), .int 0, .int 0, .int 0, .ref q40, .long 0, .ref q49, .ref q57, .null, .null])), (q8, .inl (cA, 16800, .inl (fun _ => 0))), (q17, .inl (cA, 140, .inl (fun _ => 0))), (q26, .inl (cA, 200, .inl (fun _ => 0))), (q40, .inl (cA, 201, .inl (fun _ => 0))), (q49, .inl (cA, 192, .inl (fun _ => 0))), (q57, .inl (cA, 64, .inl (fun _ => 0))), (q65, .inl (cA, 8, .inl (fun _ => 0)))] := hD
  refine W.widen (k := 7) (n := 17605) (by omega) (by omega) ?_
  refine va_putF (D := (dC, dI)) (ci := 7) (v := .ref q65) (ty := .array .int) (C := "ScriptDeskModel") (T := T_Model) (N := 18) hx hb hts iw_Model t_Model t_Model_ok n_Model hown hK hP hD hS 0 rfl rfl 16 (by decide) (hts _ tw_547) (fun _ h9 => h9) rfl hin rfl (by decide +kernel) rfl rfl (Nat.le_of_ble_eq_true rfl) d_Model_init_67 (fun H locs hP hD hS => ?_)
  have hP : va_P (dC, dI) vwCl [(h0, .inr (7, [.ref q8, .ref q17, .int 0, .int 0, .ref q26, .int 0, .long 0, .int 0, .int (-1 : Int32), .int 0, .int 0, .int 0, .ref q40, .long 0, .ref q49, .ref q57, .ref q65, .null])), (q8, .inl (cA, 16800, .inl (fun _ => 0))), (q17, .inl (cA, 140, .inl (fun _ => 0))), (q26, .inl (cA, 200, .inl (fun _ => 0))), (q40, .inl (cA, 201, .inl (fun _ => 0))), (q49, .inl (cA, 192, .inl (fun _ => 0))), (q57, .inl (cA, 64, .inl (fun _ => 0))), (q65, .inl (cA, 8, .inl (fun _ => 0)))] H := hP
  have hD : va_D A [(h0, .inr (7, [.ref q8, .ref q17, .int 0, .int 0, .ref q26, .int 0, .long 0, .int 0, .int (-1 : Int32), .int 0, .int 0, .int 0, .ref q40, .long 0, .ref q49, .ref q57, .ref q65, .null])), (q8, .inl (cA, 16800, .inl (fun _ => 0))), (q17, .inl (cA, 140, .inl (fun _ => 0))), (q26, .inl (cA, 200, .inl (fun _ => 0))), (q40, .inl (cA, 201, .inl (fun _ => 0))), (q49, .inl (cA, 192, .inl (fun _ => 0))), (q57, .inl (cA, 64, .inl (fun _ => 0))), (q65, .inl (cA, 8, .inl (fun _ => 0)))] := hD
  refine lv_aload_n hx hb d_Model_init_70 rfl (lv_at hl 0 rfl) ?_
  refine lv_bipush (v := 10) hx hb d_Model_init_71 (by decide) ?_
  refine va_newa (atype := .int) (ty := .int) (N' := 10) (a0 := (10, .inl (fun _ => 0))) hx hb (hts _ tw_48) rfl hK hP hD hS hA (fun _ => rfl) (by decide) (by decide) (by decide) (Nat.le_of_ble_eq_true rfl) (Nat.le_of_ble_eq_true rfl) d_Model_init_73 (fun q73 cB H hK hP hD hS => ?_)
  obtain rfl : cA = cB := sd_oneA hK (i := 0) (j := 1) rfl rfl
  have hK : va_K (dC, dI) vwCl [(cA, .int)] s := hK.sub [0] rfl
  have hP : va_P (dC, dI) vwCl [(h0, .inr (7, [.ref q8, .ref q17, .int 0, .int 0, .ref q26, .int 0, .long 0, .int 0, .int (-1 : Int32), .int 0, .int 0, .int 0, .ref q40, .long 0, .ref q49, .ref q57, .ref q65, .null])), (q8, .inl (cA, 16800, .inl (fun _ => 0))), (q17, .inl (cA, 140, .inl (fun _ => 0))), (q26, .inl (cA, 200, .inl (fun _ => 0))), (q40, .inl (cA, 201, .inl (fun _ => 0))), (q49, .inl (cA, 192, .inl (fun _ => 0))), (q57, .inl (cA, 64, .inl (fun _ => 0))), (q65, .inl (cA, 8, .inl (fun _ => 0))), (q73, .inl (cA, 10, .inl (fun _ => 0)))] H := hP
  have hD : va_D A [(h0, .inr (7, [.ref q8, .ref q17, .int 0, .int 0, .ref q26, .int 0, .long 0, .int 0, .int (-1 : Int32), .int 0, .int 0, .int 0, .ref q40, .long 0, .ref q49, .ref q57, .ref q65, .null])), (q8, .inl (cA, 16800, .inl (fun _ => 0))), (q17, .inl (cA, 140, .inl (fun _ => 0))), (q26, .inl (cA, 200, .inl (fun _ => 0))), (q40, .inl (cA, 201, .inl (fun _ => 0))), (q49, .inl (cA, 192, .inl (fun _ => 0))), (q57, .inl (cA, 64, .inl (fun _ => 0))), (q65, .inl (cA, 8, .inl (fun _ => 0))), (q73, .inl (cA, 10, .inl (fun _ => 0)))] := hD
  refine W.widen (k := 8) (n := 17615) (by omega) (by omega) ?_
  refine va_putF (D := (dC, dI)) (ci := 7) (v := .ref q73) (ty := .array .int) (C := "ScriptDeskModel") (T := T_Model) (N := 18) hx hb hts iw_Model t_Model t_Model_ok n_Model hown hK hP hD hS 0 rfl rfl 17 (by decide) (hts _ tw_548) (fun _ h9 => h9) rfl hin rfl (by decide +kernel) rfl rfl (Nat.le_of_ble_eq_true rfl) d_Model_init_75 (fun H locs hP hD hS => ?_)
  have hP : va_P (dC, dI) vwCl [(h0, .inr (7, [.ref q8, .ref q17, .int 0, .int 0, .ref q26, .int 0, .long 0, .int 0, .int (-1 : Int32), .int 0, .int 0, .int 0, .ref q40, .long 0, .ref q49, .ref q57, .ref q65, .ref q73])), (q8, .inl (cA, 16800, .inl (fun _ => 0))), (q17, .inl (cA, 140, .inl (fun _ => 0))), (q26, .inl (cA, 200, .inl (fun _ => 0))), (q40, .inl (cA, 201, .inl (fun _ => 0))), (q49, .inl (cA, 192, .inl (fun _ => 0))), (q57, .inl (cA, 64, .inl (fun _ => 0))), (q65, .inl (cA, 8, .inl (fun _ => 0))), (q73, .inl (cA, 10, .inl (fun _ => 0)))] H := hP
  have hD : va_D A [(h0, .inr (7, [.ref q8, .ref q17, .int 0, .int 0, .ref q26, .int 0, .long 0, .int 0, .int (-1 : Int32), .int 0, .int 0, .int 0, .ref q40, .long 0, .ref q49, .ref q57, .ref q65, .ref q73])), (q8, .inl (cA, 16800, .inl (fun _ => 0))), (q17, .inl (cA, 140, .inl (fun _ => 0))), (q26, .inl (cA, 200, .inl (fun _ => 0))), (q40, .inl (cA, 201, .inl (fun _ => 0))), (q49, .inl (cA, 192, .inl (fun _ => 0))), (q57, .inl (cA, 64, .inl (fun _ => 0))), (q65, .inl (cA, 8, .inl (fun _ => 0))), (q73, .inl (cA, 10, .inl (fun _ => 0)))] := hD
  have hP9 := hP.sub (ws' := [(h0, .inr (7, [.ref q8, .ref q17, .int 0, .int 0, .ref q26, .int 0, .long 0, .int 0, .int (-1 : Int32), .int 0, .int 0, .int 0, .ref q40, .long 0, .ref q49, .ref q57, .ref q65, .ref q73])), (q8, .inl (cA, 16800, .inl (fun _ => 0))), (q17, .inl (cA, 140, .inl (fun _ => 0))), (q26, .inl (cA, 200, .inl (fun _ => 0))), (q40, .inl (cA, 201, .inl (fun _ => 0))), (q49, .inl (cA, 192, .inl (fun _ => 0))), (q57, .inl (cA, 64, .inl (fun _ => 0))), (q65, .inl (cA, 8, .inl (fun _ => 0))), (q73, .inl (cA, 10, .inl (fun _ => 0)))]) [0, 1, 2, 3, 4, 5, 6, 7, 8] rfl
  have hD9 := hD.sub (ws' := [(h0, .inr (7, [.ref q8, .ref q17, .int 0, .int 0, .ref q26, .int 0, .long 0, .int 0, .int (-1 : Int32), .int 0, .int 0, .int 0, .ref q40, .long 0, .ref q49, .ref q57, .ref q65, .ref q73])), (q8, .inl (cA, 16800, .inl (fun _ => 0))), (q17, .inl (cA, 140, .inl (fun _ => 0))), (q26, .inl (cA, 200, .inl (fun _ => 0))), (q40, .inl (cA, 201, .inl (fun _ => 0))), (q49, .inl (cA, 192, .inl (fun _ => 0))), (q57, .inl (cA, 64, .inl (fun _ => 0))), (q65, .inl (cA, 8, .inl (fun _ => 0))), (q73, .inl (cA, 10, .inl (fun _ => 0)))]) [0, 1, 2, 3, 4, 5, 6, 7, 8] (by decide) rfl
  have hK9 := hK.sub (tys' := [(cA, .int)]) [0] rfl
  exact W.vret hx hb hr (fun t ht hW => ⟨⟨(), rfl, trivial, q8, q17, q26, q40, q49, q57, q65, q73, cA, by rw [ht]; exact hP9, va_K.moved hW.alike hK9, hD9⟩, hS.F ht⟩) hS.2.2 d_Model_init_78
