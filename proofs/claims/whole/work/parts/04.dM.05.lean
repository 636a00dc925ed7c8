theorem d_Model_copy_9 : decode prog_12_method_4_code 9 = .ok (.iload_n 2, 1) := by decide +kernel
theorem d_Model_copy_10 : decode prog_12_method_4_code 10 = .ok (.iaload, 1) := by decide +kernel
theorem d_Model_copy_11 : decode prog_12_method_4_code 11 = .ok (.iastore, 1) := by decide +kernel
theorem d_Model_copy_12 : decode prog_12_method_4_code 12 = .ok (.iconst 0, 1) := by decide +kernel
theorem d_Model_copy_13 : decode prog_12_method_4_code 13 = .ok (.istore_n 3, 1) := by decide +kernel
theorem d_Model_copy_14 : decode prog_12_method_4_code 14 = .ok (.iload_n 3, 1) := by decide +kernel
theorem d_Model_copy_15 : decode prog_12_method_4_code 15 = .ok (.bipush 120, 2) := by decide +kernel
theorem d_Model_copy_17 : decode prog_12_method_4_code 17 = .ok (.if_icmp .ge 31, 3) := by decide +kernel
theorem d_Model_copy_20 : decode prog_12_method_4_code 20 = .ok (.aload_n 0, 1) := by decide +kernel
theorem d_Model_copy_21 : decode prog_12_method_4_code 21 = .ok (.getfield 7, 3) := by decide +kernel
theorem d_Model_copy_24 : decode prog_12_method_4_code 24 = .ok (.bipush 120, 2) := by decide +kernel
theorem d_Model_copy_26 : decode prog_12_method_4_code 26 = .ok (.iload_n 1, 1) := by decide +kernel
theorem d_Model_copy_27 : decode prog_12_method_4_code 27 = .ok (.imul, 1) := by decide +kernel
theorem d_Model_copy_28 : decode prog_12_method_4_code 28 = .ok (.iload_n 3, 1) := by decide +kernel
theorem d_Model_copy_29 : decode prog_12_method_4_code 29 = .ok (.iadd, 1) := by decide +kernel
theorem d_Model_copy_30 : decode prog_12_method_4_code 30 = .ok (.aload_n 0, 1) := by decide +kernel
theorem d_Model_copy_31 : decode prog_12_method_4_code 31 = .ok (.getfield 7, 3) := by decide +kernel
theorem d_Model_copy_34 : decode prog_12_method_4_code 34 = .ok (.bipush 120, 2) := by decide +kernel
theorem d_Model_copy_36 : decode prog_12_method_4_code 36 = .ok (.iload_n 2, 1) := by decide +kernel
theorem d_Model_copy_37 : decode prog_12_method_4_code 37 = .ok (.imul, 1) := by decide +kernel
theorem d_Model_copy_38 : decode prog_12_method_4_code 38 = .ok (.iload_n 3, 1) := by decide +kernel
theorem d_Model_copy_39 : decode prog_12_method_4_code 39 = .ok (.iadd, 1) := by decide +kernel
theorem d_Model_copy_40 : decode prog_12_method_4_code 40 = .ok (.iaload, 1) := by decide +kernel
theorem d_Model_copy_41 : decode prog_12_method_4_code 41 = .ok (.iastore, 1) := by decide +kernel
theorem d_Model_copy_42 : decode prog_12_method_4_code 42 = .ok (.iinc 3 1, 3) := by decide +kernel
theorem d_Model_copy_45 : decode prog_12_method_4_code 45 = .ok (.goto (-31), 3) := by decide +kernel
theorem d_Model_copy_48 : decode prog_12_method_4_code 48 = .ok (.return_, 1) := by decide +kernel
theorem d_Model_push_0 : decode prog_12_method_6_code 0 = .ok (.aload_n 0, 1) := by decide +kernel
theorem d_Model_push_1 : decode prog_12_method_6_code 1 = .ok (.aload_n 0, 1) := by decide +kernel
theorem d_Model_push_2 : decode prog_12_method_6_code 2 = .ok (.getfield 47, 3) := by decide +kernel
theorem d_Model_push_5 : decode prog_12_method_6_code 5 = .ok (.iload_n 1, 1) := by decide +kernel
theorem d_Model_push_6 : decode prog_12_method_6_code 6 = .ok (.invokevirtual 50, 3) := by decide +kernel
theorem d_Model_push_9 : decode prog_12_method_6_code 9 = .ok (.aload_n 0, 1) := by decide +kernel
theorem d_Model_push_10 : decode prog_12_method_6_code 10 = .ok (.dup, 1) := by decide +kernel
theorem d_Model_push_11 : decode prog_12_method_6_code 11 = .ok (.getfield 47, 3) := by decide +kernel
theorem d_Model_push_14 : decode prog_12_method_6_code 14 = .ok (.iconst 1, 1) := by decide +kernel
theorem d_Model_push_15 : decode prog_12_method_6_code 15 = .ok (.iadd, 1) := by decide +kernel
theorem d_Model_push_16 : decode prog_12_method_6_code 16 = .ok (.putfield 47, 3) := by decide +kernel
theorem d_Model_push_19 : decode prog_12_method_6_code 19 = .ok (.return_, 1) := by decide +kernel
theorem d_Model_again_0 : decode prog_12_method_26_code 0 = .ok (.aload_n 0, 1) := by decide +kernel
theorem d_Model_again_1 : decode prog_12_method_26_code 1 = .ok (.iload_n 1, 1) := by decide +kernel
theorem d_Model_again_2 : decode prog_12_method_26_code 2 = .ok (.invokevirtual 67, 3) := by decide +kernel
theorem d_Model_again_5 : decode prog_12_method_26_code 5 = .ok (.ifCond .ne 4, 3) := by decide +kernel
theorem d_Model_again_8 : decode prog_12_method_26_code 8 = .ok (.return_, 1) := by decide +kernel
theorem d_Model_again_9 : decode prog_12_method_26_code 9 = .ok (.aload_n 0, 1) := by decide +kernel
theorem d_Model_again_10 : decode prog_12_method_26_code 10 = .ok (.getfield 47, 3) := by decide +kernel
theorem d_Model_again_13 : decode prog_12_method_26_code 13 = .ok (.iload_n 2, 1) := by decide +kernel
theorem d_Model_again_14 : decode prog_12_method_26_code 14 = .ok (.isub, 1) := by decide +kernel
theorem d_Model_again_15 : decode prog_12_method_26_code 15 = .ok (.iconst 1, 1) := by decide +kernel
theorem d_Model_again_16 : decode prog_12_method_26_code 16 = .ok (.isub, 1) := by decide +kernel
theorem d_Model_again_17 : decode prog_12_method_26_code 17 = .ok (.istore 4, 2) := by decide +kernel
theorem d_Model_again_19 : decode prog_12_method_26_code 19 = .ok (.iconst 0, 1) := by decide +kernel
theorem d_Model_again_20 : decode prog_12_method_26_code 20 = .ok (.istore 5, 2) := by decide +kernel
theorem d_Model_again_22 : decode prog_12_method_26_code 22 = .ok (.iload 5, 2) := by decide +kernel
theorem d_Model_again_24 : decode prog_12_method_26_code 24 = .ok (.iload_n 3, 1) := by decide +kernel
theorem d_Model_again_25 : decode prog_12_method_26_code 25 = .ok (.if_icmp .ge 18, 3) := by decide +kernel
theorem d_Model_again_28 : decode prog_12_method_26_code 28 = .ok (.aload_n 0, 1) := by decide +kernel
theorem d_Model_again_29 : decode prog_12_method_26_code 29 = .ok (.iload 4, 2) := by decide +kernel
theorem d_Model_again_31 : decode prog_12_method_26_code 31 = .ok (.iload 5, 2) := by decide +kernel
theorem d_Model_again_33 : decode prog_12_method_26_code 33 = .ok (.iadd, 1) := by decide +kernel
theorem d_Model_again_34 : decode prog_12_method_26_code 34 = .ok (.invokevirtual 164, 3) := by decide +kernel
theorem d_Model_again_37 : decode prog_12_method_26_code 37 = .ok (.iinc 5 1, 3) := by decide +kernel
theorem d_Model_again_40 : decode prog_12_method_26_code 40 = .ok (.goto (-18), 3) := by decide +kernel
theorem d_Model_again_43 : decode prog_12_method_26_code 43 = .ok (.return_, 1) := by decide +kernel
theorem d_Model_turn_0 : decode prog_12_method_27_code 0 = .ok (.aload_n 0, 1) := by decide +kernel
theorem d_Model_turn_1 : decode prog_12_method_27_code 1 = .ok (.iload_n 1, 1) := by decide +kernel
theorem d_Model_turn_2 : decode prog_12_method_27_code 2 = .ok (.invokevirtual 67, 3) := by decide +kernel
theorem d_Model_turn_5 : decode prog_12_method_27_code 5 = .ok (.ifCond .ne 4, 3) := by decide +kernel
theorem d_Model_turn_8 : decode prog_12_method_27_code 8 = .ok (.return_, 1) := by decide +kernel
theorem d_Model_turn_9 : decode prog_12_method_27_code 9 = .ok (.iconst 0, 1) := by decide +kernel
theorem d_Model_turn_10 : decode prog_12_method_27_code 10 = .ok (.istore_n 3, 1) := by decide +kernel
theorem d_Model_turn_11 : decode prog_12_method_27_code 11 = .ok (.iload_n 3, 1) := by decide +kernel
theorem d_Model_turn_12 : decode prog_12_method_27_code 12 = .ok (.iload_n 2, 1) := by decide +kernel
theorem d_Model_turn_13 : decode prog_12_method_27_code 13 = .ok (.if_icmp .ge 70, 3) := by decide +kernel
theorem d_Model_turn_16 : decode prog_12_method_27_code 16 = .ok (.aload_n 0, 1) := by decide +kernel
theorem d_Model_turn_17 : decode prog_12_method_27_code 17 = .ok (.sipush 139, 3) := by decide +kernel
theorem d_Model_turn_20 : decode prog_12_method_27_code 20 = .ok (.aload_n 0, 1) := by decide +kernel
theorem d_Model_turn_21 : decode prog_12_method_27_code 21 = .ok (.getfield 47, 3) := by decide +kernel
theorem d_Model_turn_24 : decode prog_12_method_27_code 24 = .ok (.iload_n 1, 1) := by decide +kernel
theorem d_Model_turn_25 : decode prog_12_method_27_code 25 = .ok (.isub, 1) := by decide +kernel
theorem d_Model_turn_26 : decode prog_12_method_27_code 26 = .ok (.invokevirtual 50, 3) := by decide +kernel
theorem d_Model_turn_29 : decode prog_12_method_27_code 29 = .ok (.aload_n 0, 1) := by decide +kernel
theorem d_Model_turn_30 : decode prog_12_method_27_code 30 = .ok (.getfield 47, 3) := by decide +kernel
theorem d_Model_turn_33 : decode prog_12_method_27_code 33 = .ok (.iload_n 1, 1) := by decide +kernel
theorem d_Model_turn_34 : decode prog_12_method_27_code 34 = .ok (.isub, 1) := by decide +kernel
theorem d_Model_turn_35 : decode prog_12_method_27_code 35 = .ok (.istore 4, 2) := by decide +kernel
theorem d_Model_turn_37 : decode prog_12_method_27_code 37 = .ok (.iload 4, 2) := by decide +kernel
theorem d_Model_turn_39 : decode prog_12_method_27_code 39 = .ok (.aload_n 0, 1) := by decide +kernel
theorem d_Model_turn_40 : decode prog_12_method_27_code 40 = .ok (.getfield 47, 3) := by decide +kernel
theorem d_Model_turn_43 : decode prog_12_method_27_code 43 = .ok (.iconst 1, 1) := by decide +kernel
theorem d_Model_turn_44 : decode prog_12_method_27_code 44 = .ok (.isub, 1) := by decide +kernel
theorem d_Model_turn_45 : decode prog_12_method_27_code 45 = .ok (.if_icmp .ge 19, 3) := by decide +kernel
theorem d_Model_turn_48 : decode prog_12_method_27_code 48 = .ok (.aload_n 0, 1) := by decide +kernel
theorem d_Model_turn_49 : decode prog_12_method_27_code 49 = .ok (.iload 4, 2) := by decide +kernel
theorem d_Model_turn_51 : decode prog_12_method_27_code 51 = .ok (.iload 4, 2) := by decide +kernel
theorem d_Model_turn_53 : decode prog_12_method_27_code 53 = .ok (.iconst 1, 1) := by decide +kernel
theorem d_Model_turn_54 : decode prog_12_method_27_code 54 = .ok (.iadd, 1) := by decide +kernel
theorem d_Model_turn_55 : decode prog_12_method_27_code 55 = .ok (.invokevirtual 50, 3) := by decide +kernel
theorem d_Model_turn_58 : decode prog_12_method_27_code 58 = .ok (.iinc 4 1, 3) := by decide +kernel
theorem d_Model_turn_61 : decode prog_12_method_27_code 61 = .ok (.goto (-24), 3) := by decide +kernel
theorem d_Model_turn_64 : decode prog_12_method_27_code 64 = .ok (.aload_n 0, 1) := by decide +kernel
theorem d_Model_turn_65 : decode prog_12_method_27_code 65 = .ok (.aload_n 0, 1) := by decide +kernel
theorem d_Model_turn_66 : decode prog_12_method_27_code 66 = .ok (.getfield 47, 3) := by decide +kernel
theorem d_Model_turn_69 : decode prog_12_method_27_code 69 = .ok (.iconst 1, 1) := by decide +kernel
theorem d_Model_turn_70 : decode prog_12_method_27_code 70 = .ok (.isub, 1) := by decide +kernel
theorem d_Model_turn_71 : decode prog_12_method_27_code 71 = .ok (.sipush 139, 3) := by decide +kernel
theorem d_Model_turn_74 : decode prog_12_method_27_code 74 = .ok (.invokevirtual 50, 3) := by decide +kernel
theorem d_Model_turn_77 : decode prog_12_method_27_code 77 = .ok (.iinc 3 1, 3) := by decide +kernel
theorem d_Model_turn_80 : decode prog_12_method_27_code 80 = .ok (.goto (-69), 3) := by decide +kernel
theorem d_Model_turn_83 : decode prog_12_method_27_code 83 = .ok (.return_, 1) := by decide +kernel
theorem d_Model_takeOut_0 : decode prog_12_method_28_code 0 = .ok (.aload_n 0, 1) := by decide +kernel
theorem d_Model_takeOut_1 : decode prog_12_method_28_code 1 = .ok (.iload_n 1, 1) := by decide +kernel
theorem d_Model_takeOut_2 : decode prog_12_method_28_code 2 = .ok (.invokevirtual 71, 3) := by decide +kernel
theorem d_Model_takeOut_5 : decode prog_12_method_28_code 5 = .ok (.istore_n 2, 1) := by decide +kernel
theorem d_Model_takeOut_6 : decode prog_12_method_28_code 6 = .ok (.iload_n 2, 1) := by decide +kernel
theorem d_Model_takeOut_7 : decode prog_12_method_28_code 7 = .ok (.aload_n 0, 1) := by decide +kernel
theorem d_Model_takeOut_8 : decode prog_12_method_28_code 8 = .ok (.getfield 47, 3) := by decide +kernel
theorem d_Model_takeOut_11 : decode prog_12_method_28_code 11 = .ok (.iconst 1, 1) := by decide +kernel
theorem d_Model_takeOut_12 : decode prog_12_method_28_code 12 = .ok (.isub, 1) := by decide +kernel
theorem d_Model_takeOut_13 : decode prog_12_method_28_code 13 = .ok (.if_icmp .ge 17, 3) := by decide +kernel
theorem d_Model_takeOut_16 : decode prog_12_method_28_code 16 = .ok (.aload_n 0, 1) := by decide +kernel
theorem d_Model_takeOut_17 : decode prog_12_method_28_code 17 = .ok (.iload_n 2, 1) := by decide +kernel
theorem d_Model_takeOut_18 : decode prog_12_method_28_code 18 = .ok (.iload_n 2, 1) := by decide +kernel
theorem d_Model_takeOut_19 : decode prog_12_method_28_code 19 = .ok (.iconst 1, 1) := by decide +kernel
theorem d_Model_takeOut_20 : decode prog_12_method_28_code 20 = .ok (.iadd, 1) := by decide +kernel
theorem d_Model_takeOut_21 : decode prog_12_method_28_code 21 = .ok (.invokevirtual 50, 3) := by decide +kernel
theorem d_Model_takeOut_24 : decode prog_12_method_28_code 24 = .ok (.iinc 2 1, 3) := by decide +kernel
theorem d_Model_takeOut_27 : decode prog_12_method_28_code 27 = .ok (.goto (-21), 3) := by decide +kernel
theorem d_Model_takeOut_30 : decode prog_12_method_28_code 30 = .ok (.aload_n 0, 1) := by decide +kernel
theorem d_Model_takeOut_31 : decode prog_12_method_28_code 31 = .ok (.dup, 1) := by decide +kernel
theorem d_Model_takeOut_32 : decode prog_12_method_28_code 32 = .ok (.getfield 47, 3) := by decide +kernel
theorem d_Model_takeOut_35 : decode prog_12_method_28_code 35 = .ok (.iconst 1, 1) := by decide +kernel
theorem d_Model_takeOut_36 : decode prog_12_method_28_code 36 = .ok (.isub, 1) := by decide +kernel
theorem d_Model_takeOut_37 : decode prog_12_method_28_code 37 = .ok (.putfield 47, 3) := by decide +kernel
theorem d_Model_takeOut_40 : decode prog_12_method_28_code 40 = .ok (.return_, 1) := by decide +kernel
theorem d_Model_pick_0 : decode prog_12_method_29_code 0 = .ok (.aload_n 0, 1) := by decide +kernel
theorem d_Model_pick_1 : decode prog_12_method_29_code 1 = .ok (.iconst 0, 1) := by decide +kernel
theorem d_Model_pick_2 : decode prog_12_method_29_code 2 = .ok (.invokevirtual 149, 3) := by decide +kernel
theorem d_Model_pick_5 : decode prog_12_method_29_code 5 = .ok (.ifCond .ne 4, 3) := by decide +kernel
theorem d_Model_pick_8 : decode prog_12_method_29_code 8 = .ok (.return_, 1) := by decide +kernel
theorem d_Model_pick_9 : decode prog_12_method_29_code 9 = .ok (.aload_n 0, 1) := by decide +kernel
theorem d_Model_pick_10 : decode prog_12_method_29_code 10 = .ok (.dup, 1) := by decide +kernel
theorem d_Model_pick_11 : decode prog_12_method_29_code 11 = .ok (.getfield 47, 3) := by decide +kernel
theorem d_Model_pick_14 : decode prog_12_method_29_code 14 = .ok (.iconst 1, 1) := by decide +kernel
theorem d_Model_pick_15 : decode prog_12_method_29_code 15 = .ok (.isub, 1) := by decide +kernel
theorem d_Model_pick_16 : decode prog_12_method_29_code 16 = .ok (.putfield 47, 3) := by decide +kernel
theorem d_Model_pick_19 : decode prog_12_method_29_code 19 = .ok (.aload_n 0, 1) := by decide +kernel
theorem d_Model_pick_20 : decode prog_12_method_29_code 20 = .ok (.getfield 75, 3) := by decide +kernel
theorem d_Model_pick_23 : decode prog_12_method_29_code 23 = .ok (.lconst 0, 1) := by decide +kernel
theorem d_Model_pick_24 : decode prog_12_method_29_code 24 = .ok (.lcmp, 1) := by decide +kernel
theorem d_Model_pick_25 : decode prog_12_method_29_code 25 = .ok (.ifCond .lt 18, 3) := by decide +kernel
theorem d_Model_pick_28 : decode prog_12_method_29_code 28 = .ok (.aload_n 0, 1) := by decide +kernel
theorem d_Model_pick_29 : decode prog_12_method_29_code 29 = .ok (.getfield 75, 3) := by decide +kernel
theorem d_Model_pick_32 : decode prog_12_method_29_code 32 = .ok (.aload_n 0, 1) := by decide +kernel
theorem d_Model_pick_33 : decode prog_12_method_29_code 33 = .ok (.getfield 47, 3) := by decide +kernel
theorem d_Model_pick_36 : decode prog_12_method_29_code 36 = .ok (.iconst 1, 1) := by decide +kernel
theorem d_Model_pick_37 : decode prog_12_method_29_code 37 = .ok (.isub, 1) := by decide +kernel
theorem d_Model_pick_38 : decode prog_12_method_29_code 38 = .ok (.i2l, 1) := by decide +kernel
theorem d_Model_pick_39 : decode prog_12_method_29_code 39 = .ok (.lcmp, 1) := by decide +kernel
theorem d_Model_pick_40 : decode prog_12_method_29_code 40 = .ok (.ifCond .le 10, 3) := by decide +kernel
theorem d_Model_pick_43 : decode prog_12_method_29_code 43 = .ok (.aload_n 0, 1) := by decide +kernel
theorem d_Model_pick_44 : decode prog_12_method_29_code 44 = .ok (.bipush 7, 2) := by decide +kernel
theorem d_Model_pick_46 : decode prog_12_method_29_code 46 = .ok (.invokevirtual 63, 3) := by decide +kernel
theorem d_Model_pick_49 : decode prog_12_method_29_code 49 = .ok (.return_, 1) := by decide +kernel
theorem d_Model_pick_50 : decode prog_12_method_29_code 50 = .ok (.aload_n 0, 1) := by decide +kernel
theorem d_Model_pick_51 : decode prog_12_method_29_code 51 = .ok (.getfield 75, 3) := by decide +kernel
theorem d_Model_pick_54 : decode prog_12_method_29_code 54 = .ok (.l2i, 1) := by decide +kernel
theorem d_Model_pick_55 : decode prog_12_method_29_code 55 = .ok (.istore_n 2, 1) := by decide +kernel
theorem d_Model_pick_56 : decode prog_12_method_29_code 56 = .ok (.aload_n 0, 1) := by decide +kernel
theorem d_Model_pick_57 : decode prog_12_method_29_code 57 = .ok (.sipush 134, 3) := by decide +kernel
theorem d_Model_pick_60 : decode prog_12_method_29_code 60 = .ok (.aload_n 0, 1) := by decide +kernel
theorem d_Model_pick_61 : decode prog_12_method_29_code 61 = .ok (.iload_n 2, 1) := by decide +kernel
theorem d_Model_pick_62 : decode prog_12_method_29_code 62 = .ok (.invokevirtual 71, 3) := by decide +kernel
theorem d_Model_pick_65 : decode prog_12_method_29_code 65 = .ok (.invokevirtual 50, 3) := by decide +kernel
theorem d_Model_pick_68 : decode prog_12_method_29_code 68 = .ok (.iload_n 1, 1) := by decide +kernel
theorem d_Model_pick_69 : decode prog_12_method_29_code 69 = .ok (.ifCond .eq 8, 3) := by decide +kernel
theorem d_Model_pick_72 : decode prog_12_method_29_code 72 = .ok (.aload_n 0, 1) := by decide +kernel
theorem d_Model_pick_73 : decode prog_12_method_29_code 73 = .ok (.iload_n 2, 1) := by decide +kernel
theorem d_Model_pick_74 : decode prog_12_method_29_code 74 = .ok (.invokevirtual 167, 3) := by decide +kernel
theorem d_Model_pick_77 : decode prog_12_method_29_code 77 = .ok (.aload_n 0, 1) := by decide +kernel
theorem d_Model_pick_78 : decode prog_12_method_29_code 78 = .ok (.sipush 134, 3) := by decide +kernel
theorem d_Model_pick_81 : decode prog_12_method_29_code 81 = .ok (.invokevirtual 164, 3) := by decide +kernel
theorem d_Model_pick_84 : decode prog_12_method_29_code 84 = .ok (.return_, 1) := by decide +kernel
theorem d_Model_moves_0 : decode prog_12_method_30_code 0 = .ok (.iload_n 1, 1) := by decide +kernel
theorem d_Model_moves_1 : decode prog_12_method_30_code 1 = .ok (.tableswitch 418 107 125 #[91, 137, 176, 204, 214, 224, 234, 244, 253, 285, 297, 325, 335, 351, 361, 369, 377, 386, 395], 91) := by decide +kernel
theorem d_Model_moves_92 : decode prog_12_method_30_code 92 = .ok (.aload_n 0, 1) := by decide +kernel
theorem d_Model_moves_93 : decode prog_12_method_30_code 93 = .ok (.iconst 1, 1) := by decide +kernel
theorem d_Model_moves_94 : decode prog_12_method_30_code 94 = .ok (.invokevirtual 67, 3) := by decide +kernel
theorem d_Model_moves_97 : decode prog_12_method_30_code 97 = .ok (.ifCond .eq 345, 3) := by decide +kernel
theorem d_Model_moves_100 : decode prog_12_method_30_code 100 = .ok (.aload_n 0, 1) := by decide +kernel
theorem d_Model_moves_101 : decode prog_12_method_30_code 101 = .ok (.dup, 1) := by decide +kernel
theorem d_Model_moves_102 : decode prog_12_method_30_code 102 = .ok (.getfield 47, 3) := by decide +kernel
theorem d_Model_moves_105 : decode prog_12_method_30_code 105 = .ok (.iconst 1, 1) := by decide +kernel
theorem d_Model_moves_106 : decode prog_12_method_30_code 106 = .ok (.isub, 1) := by decide +kernel
theorem d_Model_moves_107 : decode prog_12_method_30_code 107 = .ok (.putfield 47, 3) := by decide +kernel
theorem d_Model_moves_110 : decode prog_12_method_30_code 110 = .ok (.aload_n 0, 1) := by decide +kernel
theorem d_Model_moves_111 : decode prog_12_method_30_code 111 = .ok (.bipush 70, 2) := by decide +kernel
theorem d_Model_moves_113 : decode prog_12_method_30_code 113 = .ok (.aload_n 0, 1) := by decide +kernel
theorem d_Model_moves_114 : decode prog_12_method_30_code 114 = .ok (.getfield 170, 3) := by decide +kernel
theorem d_Model_moves_117 : decode prog_12_method_30_code 117 = .ok (.iadd, 1) := by decide +kernel
theorem d_Model_moves_118 : decode prog_12_method_30_code 118 = .ok (.aload_n 0, 1) := by decide +kernel
theorem d_Model_moves_119 : decode prog_12_method_30_code 119 = .ok (.getfield 47, 3) := by decide +kernel
theorem d_Model_moves_122 : decode prog_12_method_30_code 122 = .ok (.invokevirtual 50, 3) := by decide +kernel
theorem d_Model_moves_125 : decode prog_12_method_30_code 125 = .ok (.aload_n 0, 1) := by decide +kernel
theorem d_Model_moves_126 : decode prog_12_method_30_code 126 = .ok (.dup, 1) := by decide +kernel
theorem d_Model_moves_127 : decode prog_12_method_30_code 127 = .ok (.getfield 170, 3) := by decide +kernel
theorem d_Model_moves_130 : decode prog_12_method_30_code 130 = .ok (.iconst 1, 1) := by decide +kernel
theorem d_Model_moves_131 : decode prog_12_method_30_code 131 = .ok (.iadd, 1) := by decide +kernel
theorem d_Model_moves_132 : decode prog_12_method_30_code 132 = .ok (.putfield 170, 3) := by decide +kernel
theorem d_Model_moves_135 : decode prog_12_method_30_code 135 = .ok (.goto 307, 3) := by decide +kernel
theorem d_Model_moves_138 : decode prog_12_method_30_code 138 = .ok (.aload_n 0, 1) := by decide +kernel
theorem d_Model_moves_139 : decode prog_12_method_30_code 139 = .ok (.getfield 170, 3) := by decide +kernel
theorem d_Model_moves_142 : decode prog_12_method_30_code 142 = .ok (.ifCond .ne 11, 3) := by decide +kernel
theorem d_Model_moves_145 : decode prog_12_method_30_code 145 = .ok (.aload_n 0, 1) := by decide +kernel
theorem d_Model_moves_146 : decode prog_12_method_30_code 146 = .ok (.iconst 5, 1) := by decide +kernel
theorem d_Model_moves_147 : decode prog_12_method_30_code 147 = .ok (.invokevirtual 63, 3) := by decide +kernel
theorem d_Model_moves_150 : decode prog_12_method_30_code 150 = .ok (.goto 292, 3) := by decide +kernel
theorem d_Model_moves_153 : decode prog_12_method_30_code 153 = .ok (.aload_n 0, 1) := by decide +kernel
theorem d_Model_moves_154 : decode prog_12_method_30_code 154 = .ok (.dup, 1) := by decide +kernel
theorem d_Model_moves_155 : decode prog_12_method_30_code 155 = .ok (.getfield 170, 3) := by decide +kernel
theorem d_Model_moves_158 : decode prog_12_method_30_code 158 = .ok (.iconst 1, 1) := by decide +kernel
theorem d_Model_moves_159 : decode prog_12_method_30_code 159 = .ok (.isub, 1) := by decide +kernel
theorem d_Model_moves_160 : decode prog_12_method_30_code 160 = .ok (.putfield 170, 3) := by decide +kernel
theorem d_Model_moves_163 : decode prog_12_method_30_code 163 = .ok (.aload_n 0, 1) := by decide +kernel
theorem d_Model_moves_164 : decode prog_12_method_30_code 164 = .ok (.bipush 70, 2) := by decide +kernel
theorem d_Model_moves_166 : decode prog_12_method_30_code 166 = .ok (.aload_n 0, 1) := by decide +kernel
theorem d_Model_moves_167 : decode prog_12_method_30_code 167 = .ok (.getfield 170, 3) := by decide +kernel
theorem d_Model_moves_170 : decode prog_12_method_30_code 170 = .ok (.iadd, 1) := by decide +kernel
theorem d_Model_moves_171 : decode prog_12_method_30_code 171 = .ok (.invokevirtual 164, 3) := by decide +kernel
theorem d_Model_moves_174 : decode prog_12_method_30_code 174 = .ok (.goto 268, 3) := by decide +kernel
theorem d_Model_moves_177 : decode prog_12_method_30_code 177 = .ok (.aload_n 0, 1) := by decide +kernel
theorem d_Model_moves_178 : decode prog_12_method_30_code 178 = .ok (.aload_n 0, 1) := by decide +kernel
theorem d_Model_moves_179 : decode prog_12_method_30_code 179 = .ok (.iconst 2, 1) := by decide +kernel
theorem d_Model_moves_180 : decode prog_12_method_30_code 180 = .ok (.invokevirtual 67, 3) := by decide +kernel
theorem d_Model_moves_183 : decode prog_12_method_30_code 183 = .ok (.ifCond .eq 12, 3) := by decide +kernel
theorem d_Model_moves_186 : decode prog_12_method_30_code 186 = .ok (.aload_n 0, 1) := by decide +kernel
theorem d_Model_moves_187 : decode prog_12_method_30_code 187 = .ok (.getfield 47, 3) := by decide +kernel
theorem d_Model_moves_190 : decode prog_12_method_30_code 190 = .ok (.iconst 2, 1) := by decide +kernel
theorem d_Model_moves_191 : decode prog_12_method_30_code 191 = .ok (.isub, 1) := by decide +kernel
theorem d_Model_moves_192 : decode prog_12_method_30_code 192 = .ok (.goto 7, 3) := by decide +kernel
theorem d_Model_moves_195 : decode prog_12_method_30_code 195 = .ok (.aload_n 0, 1) := by decide +kernel
theorem d_Model_moves_196 : decode prog_12_method_30_code 196 = .ok (.getfield 47, 3) := by decide +kernel
theorem d_Model_moves_199 : decode prog_12_method_30_code 199 = .ok (.putfield 47, 3) := by decide +kernel
theorem d_Model_moves_202 : decode prog_12_method_30_code 202 = .ok (.goto 240, 3) := by decide +kernel
theorem d_Model_moves_205 : decode prog_12_method_30_code 205 = .ok (.aload_n 0, 1) := by decide +kernel
theorem d_Model_moves_206 : decode prog_12_method_30_code 206 = .ok (.iconst 2, 1) := by decide +kernel
theorem d_Model_moves_207 : decode prog_12_method_30_code 207 = .ok (.iconst 1, 1) := by decide +kernel
theorem d_Model_moves_208 : decode prog_12_method_30_code 208 = .ok (.iconst 2, 1) := by decide +kernel
theorem d_Model_moves_209 : decode prog_12_method_30_code 209 = .ok (.invokevirtual 173, 3) := by decide +kernel
theorem d_Model_moves_212 : decode prog_12_method_30_code 212 = .ok (.goto 230, 3) := by decide +kernel
theorem d_Model_moves_215 : decode prog_12_method_30_code 215 = .ok (.aload_n 0, 1) := by decide +kernel
theorem d_Model_moves_216 : decode prog_12_method_30_code 216 = .ok (.iconst 3, 1) := by decide +kernel
theorem d_Model_moves_217 : decode prog_12_method_30_code 217 = .ok (.iconst 2, 1) := by decide +kernel
theorem d_Model_moves_218 : decode prog_12_method_30_code 218 = .ok (.iconst 3, 1) := by decide +kernel
theorem d_Model_moves_219 : decode prog_12_method_30_code 219 = .ok (.invokevirtual 173, 3) := by decide +kernel
theorem d_Model_moves_222 : decode prog_12_method_30_code 222 = .ok (.goto 220, 3) := by decide +kernel
theorem d_Model_moves_225 : decode prog_12_method_30_code 225 = .ok (.aload_n 0, 1) := by decide +kernel
theorem d_Model_moves_226 : decode prog_12_method_30_code 226 = .ok (.iconst 4, 1) := by decide +kernel
theorem d_Model_moves_227 : decode prog_12_method_30_code 227 = .ok (.iconst 3, 1) := by decide +kernel
theorem d_Model_moves_228 : decode prog_12_method_30_code 228 = .ok (.iconst 2, 1) := by decide +kernel
theorem d_Model_moves_229 : decode prog_12_method_30_code 229 = .ok (.invokevirtual 173, 3) := by decide +kernel
theorem d_Model_moves_232 : decode prog_12_method_30_code 232 = .ok (.goto 210, 3) := by decide +kernel
theorem d_Model_moves_235 : decode prog_12_method_30_code 235 = .ok (.aload_n 0, 1) := by decide +kernel
theorem d_Model_moves_236 : decode prog_12_method_30_code 236 = .ok (.bipush 6, 2) := by decide +kernel
theorem d_Model_moves_238 : decode prog_12_method_30_code 238 = .ok (.iconst 2, 1) := by decide +kernel
theorem d_Model_moves_239 : decode prog_12_method_30_code 239 = .ok (.invokevirtual 176, 3) := by decide +kernel
theorem d_Model_moves_242 : decode prog_12_method_30_code 242 = .ok (.goto 200, 3) := by decide +kernel
theorem d_Model_moves_245 : decode prog_12_method_30_code 245 = .ok (.aload_n 0, 1) := by decide +kernel
theorem d_Model_moves_246 : decode prog_12_method_30_code 246 = .ok (.iconst 4, 1) := by decide +kernel
theorem d_Model_moves_247 : decode prog_12_method_30_code 247 = .ok (.iconst 2, 1) := by decide +kernel
theorem d_Model_moves_248 : decode prog_12_method_30_code 248 = .ok (.invokevirtual 176, 3) := by decide +kernel
theorem d_Model_moves_251 : decode prog_12_method_30_code 251 = .ok (.goto 191, 3) := by decide +kernel
theorem d_Model_moves_254 : decode prog_12_method_30_code 254 = .ok (.aload_n 0, 1) := by decide +kernel
theorem d_Model_moves_255 : decode prog_12_method_30_code 255 = .ok (.iconst 1, 1) := by decide +kernel
theorem d_Model_moves_256 : decode prog_12_method_30_code 256 = .ok (.invokevirtual 67, 3) := by decide +kernel
theorem d_Model_moves_259 : decode prog_12_method_30_code 259 = .ok (.ifCond .eq 183, 3) := by decide +kernel
theorem d_Model_moves_262 : decode prog_12_method_30_code 262 = .ok (.aload_n 0, 1) := by decide +kernel
theorem d_Model_moves_263 : decode prog_12_method_30_code 263 = .ok (.aload_n 0, 1) := by decide +kernel
theorem d_Model_moves_264 : decode prog_12_method_30_code 264 = .ok (.iconst 0, 1) := by decide +kernel
theorem d_Model_moves_265 : decode prog_12_method_30_code 265 = .ok (.invokevirtual 71, 3) := by decide +kernel
theorem d_Model_moves_268 : decode prog_12_method_30_code 268 = .ok (.invokevirtual 78, 3) := by decide +kernel
theorem d_Model_moves_271 : decode prog_12_method_30_code 271 = .ok (.ifCond .eq 171, 3) := by decide +kernel
theorem d_Model_moves_274 : decode prog_12_method_30_code 274 = .ok (.aload_n 0, 1) := by decide +kernel
theorem d_Model_moves_275 : decode prog_12_method_30_code 275 = .ok (.aload_n 0, 1) := by decide +kernel
theorem d_Model_moves_276 : decode prog_12_method_30_code 276 = .ok (.iconst 0, 1) := by decide +kernel
theorem d_Model_moves_277 : decode prog_12_method_30_code 277 = .ok (.invokevirtual 71, 3) := by decide +kernel
theorem d_Model_moves_280 : decode prog_12_method_30_code 280 = .ok (.invokevirtual 164, 3) := by decide +kernel
theorem d_Model_moves_283 : decode prog_12_method_30_code 283 = .ok (.goto 159, 3) := by decide +kernel
theorem d_Model_moves_286 : decode prog_12_method_30_code 286 = .ok (.aload_n 0, 1) := by decide +kernel
theorem d_Model_moves_287 : decode prog_12_method_30_code 287 = .ok (.aload_n 0, 1) := by decide +kernel
theorem d_Model_moves_288 : decode prog_12_method_30_code 288 = .ok (.getfield 47, 3) := by decide +kernel
theorem d_Model_moves_291 : decode prog_12_method_30_code 291 = .ok (.i2l, 1) := by decide +kernel
theorem d_Model_moves_292 : decode prog_12_method_30_code 292 = .ok (.invokevirtual 56, 3) := by decide +kernel
theorem d_Model_moves_295 : decode prog_12_method_30_code 295 = .ok (.goto 147, 3) := by decide +kernel
theorem d_Model_moves_298 : decode prog_12_method_30_code 298 = .ok (.aload_n 0, 1) := by decide +kernel
theorem d_Model_moves_299 : decode prog_12_method_30_code 299 = .ok (.aload_n 0, 1) := by decide +kernel
theorem d_Model_moves_300 : decode prog_12_method_30_code 300 = .ok (.iconst 1, 1) := by decide +kernel
theorem d_Model_moves_301 : decode prog_12_method_30_code 301 = .ok (.invokevirtual 67, 3) := by decide +kernel
theorem d_Model_moves_304 : decode prog_12_method_30_code 304 = .ok (.ifCond .eq 12, 3) := by decide +kernel
theorem d_Model_moves_307 : decode prog_12_method_30_code 307 = .ok (.aload_n 0, 1) := by decide +kernel
theorem d_Model_moves_308 : decode prog_12_method_30_code 308 = .ok (.getfield 47, 3) := by decide +kernel
theorem d_Model_moves_311 : decode prog_12_method_30_code 311 = .ok (.iconst 1, 1) := by decide +kernel
theorem d_Model_moves_312 : decode prog_12_method_30_code 312 = .ok (.isub, 1) := by decide +kernel
theorem d_Model_moves_313 : decode prog_12_method_30_code 313 = .ok (.goto 7, 3) := by decide +kernel
theorem d_Model_moves_316 : decode prog_12_method_30_code 316 = .ok (.aload_n 0, 1) := by decide +kernel
theorem d_Model_moves_317 : decode prog_12_method_30_code 317 = .ok (.getfield 47, 3) := by decide +kernel
theorem d_Model_moves_320 : decode prog_12_method_30_code 320 = .ok (.putfield 47, 3) := by decide +kernel
theorem d_Model_moves_323 : decode prog_12_method_30_code 323 = .ok (.goto 119, 3) := by decide +kernel
theorem d_Model_moves_326 : decode prog_12_method_30_code 326 = .ok (.aload_n 0, 1) := by decide +kernel
theorem d_Model_moves_327 : decode prog_12_method_30_code 327 = .ok (.iconst 1, 1) := by decide +kernel
theorem d_Model_moves_328 : decode prog_12_method_30_code 328 = .ok (.iconst 0, 1) := by decide +kernel
theorem d_Model_moves_329 : decode prog_12_method_30_code 329 = .ok (.iconst 1, 1) := by decide +kernel
theorem d_Model_moves_330 : decode prog_12_method_30_code 330 = .ok (.invokevirtual 173, 3) := by decide +kernel
theorem d_Model_moves_333 : decode prog_12_method_30_code 333 = .ok (.goto 109, 3) := by decide +kernel
theorem d_Model_moves_336 : decode prog_12_method_30_code 336 = .ok (.aload_n 0, 1) := by decide +kernel
theorem d_Model_moves_337 : decode prog_12_method_30_code 337 = .ok (.iconst 2, 1) := by decide +kernel
theorem d_Model_moves_338 : decode prog_12_method_30_code 338 = .ok (.invokevirtual 67, 3) := by decide +kernel
theorem d_Model_moves_341 : decode prog_12_method_30_code 341 = .ok (.ifCond .eq 101, 3) := by decide +kernel
theorem d_Model_moves_344 : decode prog_12_method_30_code 344 = .ok (.aload_n 0, 1) := by decide +kernel
theorem d_Model_moves_345 : decode prog_12_method_30_code 345 = .ok (.iconst 1, 1) := by decide +kernel
theorem d_Model_moves_346 : decode prog_12_method_30_code 346 = .ok (.invokevirtual 167, 3) := by decide +kernel
theorem d_Model_moves_349 : decode prog_12_method_30_code 349 = .ok (.goto 93, 3) := by decide +kernel
theorem d_Model_moves_352 : decode prog_12_method_30_code 352 = .ok (.aload_n 0, 1) := by decide +kernel
theorem d_Model_moves_353 : decode prog_12_method_30_code 353 = .ok (.iconst 2, 1) := by decide +kernel
theorem d_Model_moves_354 : decode prog_12_method_30_code 354 = .ok (.iconst 1, 1) := by decide +kernel
theorem d_Model_moves_355 : decode prog_12_method_30_code 355 = .ok (.iconst 1, 1) := by decide +kernel
theorem d_Model_moves_356 : decode prog_12_method_30_code 356 = .ok (.invokevirtual 173, 3) := by decide +kernel
theorem d_Model_moves_359 : decode prog_12_method_30_code 359 = .ok (.goto 83, 3) := by decide +kernel
theorem d_Model_moves_362 : decode prog_12_method_30_code 362 = .ok (.aload_n 0, 1) := by decide +kernel
theorem d_Model_moves_363 : decode prog_12_method_30_code 363 = .ok (.iconst 0, 1) := by decide +kernel
theorem d_Model_moves_364 : decode prog_12_method_30_code 364 = .ok (.invokevirtual 179, 3) := by decide +kernel
theorem d_Model_moves_367 : decode prog_12_method_30_code 367 = .ok (.goto 75, 3) := by decide +kernel
theorem d_Model_moves_370 : decode prog_12_method_30_code 370 = .ok (.aload_n 0, 1) := by decide +kernel
theorem d_Model_moves_371 : decode prog_12_method_30_code 371 = .ok (.iconst 1, 1) := by decide +kernel
theorem d_Model_moves_372 : decode prog_12_method_30_code 372 = .ok (.invokevirtual 179, 3) := by decide +kernel
theorem d_Model_moves_375 : decode prog_12_method_30_code 375 = .ok (.goto 67, 3) := by decide +kernel
theorem d_Model_moves_378 : decode prog_12_method_30_code 378 = .ok (.aload_n 0, 1) := by decide +kernel
theorem d_Model_moves_379 : decode prog_12_method_30_code 379 = .ok (.iconst 3, 1) := by decide +kernel
theorem d_Model_moves_380 : decode prog_12_method_30_code 380 = .ok (.iconst 1, 1) := by decide +kernel
theorem d_Model_moves_381 : decode prog_12_method_30_code 381 = .ok (.invokevirtual 176, 3) := by decide +kernel
theorem d_Model_moves_384 : decode prog_12_method_30_code 384 = .ok (.goto 58, 3) := by decide +kernel
theorem d_Model_moves_387 : decode prog_12_method_30_code 387 = .ok (.aload_n 0, 1) := by decide +kernel
theorem d_Model_moves_388 : decode prog_12_method_30_code 388 = .ok (.iconst 2, 1) := by decide +kernel
theorem d_Model_moves_389 : decode prog_12_method_30_code 389 = .ok (.iconst 1, 1) := by decide +kernel
theorem d_Model_moves_390 : decode prog_12_method_30_code 390 = .ok (.invokevirtual 176, 3) := by decide +kernel
theorem d_Model_moves_393 : decode prog_12_method_30_code 393 = .ok (.goto 49, 3) := by decide +kernel
theorem d_Model_moves_396 : decode prog_12_method_30_code 396 = .ok (.aload_n 0, 1) := by decide +kernel
theorem d_Model_moves_397 : decode prog_12_method_30_code 397 = .ok (.iconst 2, 1) := by decide +kernel
theorem d_Model_moves_398 : decode prog_12_method_30_code 398 = .ok (.iconst 1, 1) := by decide +kernel
theorem d_Model_moves_399 : decode prog_12_method_30_code 399 = .ok (.invokevirtual 176, 3) := by decide +kernel
theorem d_Model_moves_402 : decode prog_12_method_30_code 402 = .ok (.aload_n 0, 1) := by decide +kernel
theorem d_Model_moves_403 : decode prog_12_method_30_code 403 = .ok (.getfield 60, 3) := by decide +kernel
theorem d_Model_moves_406 : decode prog_12_method_30_code 406 = .ok (.ifCond .ne 36, 3) := by decide +kernel
theorem d_Model_moves_409 : decode prog_12_method_30_code 409 = .ok (.aload_n 0, 1) := by decide +kernel
theorem d_Model_moves_410 : decode prog_12_method_30_code 410 = .ok (.iconst 2, 1) := by decide +kernel
theorem d_Model_moves_411 : decode prog_12_method_30_code 411 = .ok (.iconst 1, 1) := by decide +kernel
theorem d_Model_moves_412 : decode prog_12_method_30_code 412 = .ok (.iconst 1, 1) := by decide +kernel
theorem d_Model_moves_413 : decode prog_12_method_30_code 413 = .ok (.invokevirtual 173, 3) := by decide +kernel
theorem d_Model_moves_416 : decode prog_12_method_30_code 416 = .ok (.goto 26, 3) := by decide +kernel
theorem d_Model_moves_419 : decode prog_12_method_30_code 419 = .ok (.aload_n 0, 1) := by decide +kernel
theorem d_Model_moves_420 : decode prog_12_method_30_code 420 = .ok (.iconst 1, 1) := by decide +kernel
theorem d_Model_moves_421 : decode prog_12_method_30_code 421 = .ok (.invokevirtual 67, 3) := by decide +kernel
theorem d_Model_moves_424 : decode prog_12_method_30_code 424 = .ok (.ifCond .eq 18, 3) := by decide +kernel
theorem d_Model_moves_427 : decode prog_12_method_30_code 427 = .ok (.aload_n 0, 1) := by decide +kernel
theorem d_Model_moves_428 : decode prog_12_method_30_code 428 = .ok (.aload_n 0, 1) := by decide +kernel
theorem d_Model_moves_429 : decode prog_12_method_30_code 429 = .ok (.getfield 13, 3) := by decide +kernel
theorem d_Model_moves_432 : decode prog_12_method_30_code 432 = .ok (.aload_n 0, 1) := by decide +kernel
theorem d_Model_moves_433 : decode prog_12_method_30_code 433 = .ok (.iconst 0, 1) := by decide +kernel
theorem d_Model_moves_434 : decode prog_12_method_30_code 434 = .ok (.invokevirtual 71, 3) := by decide +kernel
theorem d_Model_moves_437 : decode prog_12_method_30_code 437 = .ok (.iaload, 1) := by decide +kernel
theorem d_Model_moves_438 : decode prog_12_method_30_code 438 = .ok (.i2l, 1) := by decide +kernel
theorem d_Model_moves_439 : decode prog_12_method_30_code 439 = .ok (.invokevirtual 56, 3) := by decide +kernel
theorem d_Model_moves_442 : decode prog_12_method_30_code 442 = .ok (.return_, 1) := by decide +kernel
theorem d_Model_operation_0 : decode prog_12_method_35_code 0 = .ok (.iload_n 1, 1) := by decide +kernel
theorem d_Model_operation_1 : decode prog_12_method_35_code 1 = .ok (.bipush 107, 2) := by decide +kernel
theorem d_Model_operation_3 : decode prog_12_method_35_code 3 = .ok (.if_icmp .lt 9, 3) := by decide +kernel
theorem d_Model_operation_6 : decode prog_12_method_35_code 6 = .ok (.iload_n 1, 1) := by decide +kernel
theorem d_Model_operation_7 : decode prog_12_method_35_code 7 = .ok (.bipush 125, 2) := by decide +kernel
theorem d_Model_operation_9 : decode prog_12_method_35_code 9 = .ok (.if_icmp .le 10, 3) := by decide +kernel
theorem d_Model_operation_12 : decode prog_12_method_35_code 12 = .ok (.iload_n 1, 1) := by decide +kernel
theorem d_Model_operation_13 : decode prog_12_method_35_code 13 = .ok (.sipush 130, 3) := by decide +kernel
theorem d_Model_operation_16 : decode prog_12_method_35_code 16 = .ok (.if_icmp .ne 11, 3) := by decide +kernel
theorem d_Model_operation_19 : decode prog_12_method_35_code 19 = .ok (.aload_n 0, 1) := by decide +kernel
theorem d_Model_operation_20 : decode prog_12_method_35_code 20 = .ok (.iload_n 1, 1) := by decide +kernel
theorem d_Model_operation_21 : decode prog_12_method_35_code 21 = .ok (.invokevirtual 191, 3) := by decide +kernel
theorem d_Model_operation_24 : decode prog_12_method_35_code 24 = .ok (.goto 242, 3) := by decide +kernel
theorem d_Model_operation_27 : decode prog_12_method_35_code 27 = .ok (.iload_n 1, 1) := by decide +kernel
theorem d_Model_operation_28 : decode prog_12_method_35_code 28 = .ok (.sipush 135, 3) := by decide +kernel
theorem d_Model_operation_31 : decode prog_12_method_35_code 31 = .ok (.if_icmp .eq 10, 3) := by decide +kernel
theorem d_Model_operation_34 : decode prog_12_method_35_code 34 = .ok (.iload_n 1, 1) := by decide +kernel
theorem d_Model_operation_35 : decode prog_12_method_35_code 35 = .ok (.sipush 136, 3) := by decide +kernel
theorem d_Model_operation_38 : decode prog_12_method_35_code 38 = .ok (.if_icmp .ne 22, 3) := by decide +kernel
theorem d_Model_operation_41 : decode prog_12_method_35_code 41 = .ok (.aload_n 0, 1) := by decide +kernel
theorem d_Model_operation_42 : decode prog_12_method_35_code 42 = .ok (.iload_n 1, 1) := by decide +kernel
theorem d_Model_operation_43 : decode prog_12_method_35_code 43 = .ok (.sipush 136, 3) := by decide +kernel
theorem d_Model_operation_46 : decode prog_12_method_35_code 46 = .ok (.if_icmp .ne 7, 3) := by decide +kernel
theorem d_Model_operation_49 : decode prog_12_method_35_code 49 = .ok (.iconst 1, 1) := by decide +kernel
theorem d_Model_operation_50 : decode prog_12_method_35_code 50 = .ok (.goto 4, 3) := by decide +kernel
theorem d_Model_operation_53 : decode prog_12_method_35_code 53 = .ok (.iconst 0, 1) := by decide +kernel
theorem d_Model_operation_54 : decode prog_12_method_35_code 54 = .ok (.invokevirtual 194, 3) := by decide +kernel
