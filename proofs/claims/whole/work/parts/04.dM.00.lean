theorem d_Model_put_0 : decode prog_12_method_2_code 0 = .ok (.iload_n 3, 1) := by decide +kernel
theorem d_Model_put_1 : decode prog_12_method_2_code 1 = .ok (.iconst 1, 1) := by decide +kernel
theorem d_Model_put_2 : decode prog_12_method_2_code 2 = .ok (.if_icmp .lt 21, 3) := by decide +kernel
theorem d_Model_put_5 : decode prog_12_method_2_code 5 = .ok (.iload_n 3, 1) := by decide +kernel
theorem d_Model_put_6 : decode prog_12_method_2_code 6 = .ok (.bipush 8, 2) := by decide +kernel
theorem d_Model_put_8 : decode prog_12_method_2_code 8 = .ok (.if_icmp .gt 15, 3) := by decide +kernel
theorem d_Model_put_11 : decode prog_12_method_2_code 11 = .ok (.aload_n 0, 1) := by decide +kernel
theorem d_Model_put_12 : decode prog_12_method_2_code 12 = .ok (.getfield 38, 3) := by decide +kernel
theorem d_Model_put_15 : decode prog_12_method_2_code 15 = .ok (.iload_n 3, 1) := by decide +kernel
theorem d_Model_put_16 : decode prog_12_method_2_code 16 = .ok (.iadd, 1) := by decide +kernel
theorem d_Model_put_17 : decode prog_12_method_2_code 17 = .ok (.sipush 200, 3) := by decide +kernel
theorem d_Model_put_20 : decode prog_12_method_2_code 20 = .ok (.if_icmp .le 5, 3) := by decide +kernel
theorem d_Model_put_23 : decode prog_12_method_2_code 23 = .ok (.iconst 0, 1) := by decide +kernel
theorem d_Model_put_24 : decode prog_12_method_2_code 24 = .ok (.ireturn, 1) := by decide +kernel
theorem d_Model_put_25 : decode prog_12_method_2_code 25 = .ok (.iload_n 3, 1) := by decide +kernel
theorem d_Model_put_26 : decode prog_12_method_2_code 26 = .ok (.iconst 1, 1) := by decide +kernel
theorem d_Model_put_27 : decode prog_12_method_2_code 27 = .ok (.isub, 1) := by decide +kernel
theorem d_Model_put_28 : decode prog_12_method_2_code 28 = .ok (.istore 4, 2) := by decide +kernel
theorem d_Model_put_30 : decode prog_12_method_2_code 30 = .ok (.iload 4, 2) := by decide +kernel
theorem d_Model_put_32 : decode prog_12_method_2_code 32 = .ok (.ifCond .lt 40, 3) := by decide +kernel
theorem d_Model_put_35 : decode prog_12_method_2_code 35 = .ok (.aload_n 0, 1) := by decide +kernel
theorem d_Model_put_36 : decode prog_12_method_2_code 36 = .ok (.getfield 16, 3) := by decide +kernel
theorem d_Model_put_39 : decode prog_12_method_2_code 39 = .ok (.aload_n 0, 1) := by decide +kernel
theorem d_Model_put_40 : decode prog_12_method_2_code 40 = .ok (.getfield 38, 3) := by decide +kernel
theorem d_Model_put_43 : decode prog_12_method_2_code 43 = .ok (.lload_n 1, 1) := by decide +kernel
theorem d_Model_put_44 : decode prog_12_method_2_code 44 = .ok (.bipush 8, 2) := by decide +kernel
theorem d_Model_put_46 : decode prog_12_method_2_code 46 = .ok (.iload 4, 2) := by decide +kernel
theorem d_Model_put_48 : decode prog_12_method_2_code 48 = .ok (.imul, 1) := by decide +kernel
theorem d_Model_put_49 : decode prog_12_method_2_code 49 = .ok (.lshr, 1) := by decide +kernel
theorem d_Model_put_50 : decode prog_12_method_2_code 50 = .ok (.ldc2_w 41, 3) := by decide +kernel
theorem d_Model_put_53 : decode prog_12_method_2_code 53 = .ok (.land, 1) := by decide +kernel
theorem d_Model_put_54 : decode prog_12_method_2_code 54 = .ok (.l2i, 1) := by decide +kernel
theorem d_Model_put_55 : decode prog_12_method_2_code 55 = .ok (.iastore, 1) := by decide +kernel
theorem d_Model_put_56 : decode prog_12_method_2_code 56 = .ok (.aload_n 0, 1) := by decide +kernel
theorem d_Model_put_57 : decode prog_12_method_2_code 57 = .ok (.dup, 1) := by decide +kernel
theorem d_Model_put_58 : decode prog_12_method_2_code 58 = .ok (.getfield 38, 3) := by decide +kernel
theorem d_Model_put_61 : decode prog_12_method_2_code 61 = .ok (.iconst 1, 1) := by decide +kernel
theorem d_Model_put_62 : decode prog_12_method_2_code 62 = .ok (.iadd, 1) := by decide +kernel
theorem d_Model_put_63 : decode prog_12_method_2_code 63 = .ok (.putfield 38, 3) := by decide +kernel
theorem d_Model_put_66 : decode prog_12_method_2_code 66 = .ok (.iinc 4 (-1), 3) := by decide +kernel
theorem d_Model_put_69 : decode prog_12_method_2_code 69 = .ok (.goto (-39), 3) := by decide +kernel
theorem d_Model_put_72 : decode prog_12_method_2_code 72 = .ok (.iconst 1, 1) := by decide +kernel
theorem d_Model_put_73 : decode prog_12_method_2_code 73 = .ok (.ireturn, 1) := by decide +kernel
theorem d_Model_secret_0 : decode prog_12_method_3_code 0 = .ok (.aload_n 0, 1) := by decide +kernel
theorem d_Model_secret_1 : decode prog_12_method_3_code 1 = .ok (.iload_n 1, 1) := by decide +kernel
theorem d_Model_secret_2 : decode prog_12_method_3_code 2 = .ok (.i2l, 1) := by decide +kernel
theorem d_Model_secret_3 : decode prog_12_method_3_code 3 = .ok (.putfield 43, 3) := by decide +kernel
theorem d_Model_secret_6 : decode prog_12_method_3_code 6 = .ok (.return_, 1) := by decide +kernel
theorem d_Model_isDone_0 : decode prog_12_method_24_code 0 = .ok (.aload_n 0, 1) := by decide +kernel
theorem d_Model_isDone_1 : decode prog_12_method_24_code 1 = .ok (.getfield 157, 3) := by decide +kernel
theorem d_Model_isDone_4 : decode prog_12_method_24_code 4 = .ok (.ifCond .eq 18, 3) := by decide +kernel
theorem d_Model_isDone_7 : decode prog_12_method_24_code 7 = .ok (.aload_n 0, 1) := by decide +kernel
theorem d_Model_isDone_8 : decode prog_12_method_24_code 8 = .ok (.getfield 23, 3) := by decide +kernel
theorem d_Model_isDone_11 : decode prog_12_method_24_code 11 = .ok (.aload_n 0, 1) := by decide +kernel
theorem d_Model_isDone_12 : decode prog_12_method_24_code 12 = .ok (.getfield 157, 3) := by decide +kernel
theorem d_Model_isDone_15 : decode prog_12_method_24_code 15 = .ok (.iconst 1, 1) := by decide +kernel
theorem d_Model_isDone_16 : decode prog_12_method_24_code 16 = .ok (.isub, 1) := by decide +kernel
theorem d_Model_isDone_17 : decode prog_12_method_24_code 17 = .ok (.iaload, 1) := by decide +kernel
theorem d_Model_isDone_18 : decode prog_12_method_24_code 18 = .ok (.iconst 1, 1) := by decide +kernel
theorem d_Model_isDone_19 : decode prog_12_method_24_code 19 = .ok (.if_icmp .ne 7, 3) := by decide +kernel
theorem d_Model_isDone_22 : decode prog_12_method_24_code 22 = .ok (.iconst 1, 1) := by decide +kernel
theorem d_Model_isDone_23 : decode prog_12_method_24_code 23 = .ok (.goto 4, 3) := by decide +kernel
theorem d_Model_isDone_26 : decode prog_12_method_24_code 26 = .ok (.iconst 0, 1) := by decide +kernel
theorem d_Model_isDone_27 : decode prog_12_method_24_code 27 = .ok (.ireturn, 1) := by decide +kernel
theorem d_Model_fails_0 : decode prog_12_method_11_code 0 = .ok (.aload_n 0, 1) := by decide +kernel
theorem d_Model_fails_1 : decode prog_12_method_11_code 1 = .ok (.aload_n 0, 1) := by decide +kernel
theorem d_Model_fails_2 : decode prog_12_method_11_code 2 = .ok (.getfield 60, 3) := by decide +kernel
theorem d_Model_fails_5 : decode prog_12_method_11_code 5 = .ok (.ifCond .ne 7, 3) := by decide +kernel
theorem d_Model_fails_8 : decode prog_12_method_11_code 8 = .ok (.iload_n 1, 1) := by decide +kernel
theorem d_Model_fails_9 : decode prog_12_method_11_code 9 = .ok (.goto 7, 3) := by decide +kernel
theorem d_Model_fails_12 : decode prog_12_method_11_code 12 = .ok (.aload_n 0, 1) := by decide +kernel
theorem d_Model_fails_13 : decode prog_12_method_11_code 13 = .ok (.getfield 60, 3) := by decide +kernel
theorem d_Model_fails_16 : decode prog_12_method_11_code 16 = .ok (.putfield 60, 3) := by decide +kernel
theorem d_Model_fails_19 : decode prog_12_method_11_code 19 = .ok (.return_, 1) := by decide +kernel
theorem d_Model_has_0 : decode prog_12_method_12_code 0 = .ok (.aload_n 0, 1) := by decide +kernel
theorem d_Model_has_1 : decode prog_12_method_12_code 1 = .ok (.getfield 47, 3) := by decide +kernel
theorem d_Model_has_4 : decode prog_12_method_12_code 4 = .ok (.iload_n 1, 1) := by decide +kernel
theorem d_Model_has_5 : decode prog_12_method_12_code 5 = .ok (.if_icmp .ge 8, 3) := by decide +kernel
theorem d_Model_has_8 : decode prog_12_method_12_code 8 = .ok (.aload_n 0, 1) := by decide +kernel
theorem d_Model_has_9 : decode prog_12_method_12_code 9 = .ok (.iconst 5, 1) := by decide +kernel
theorem d_Model_has_10 : decode prog_12_method_12_code 10 = .ok (.invokevirtual 63, 3) := by decide +kernel
theorem d_Model_has_13 : decode prog_12_method_12_code 13 = .ok (.aload_n 0, 1) := by decide +kernel
theorem d_Model_has_14 : decode prog_12_method_12_code 14 = .ok (.getfield 47, 3) := by decide +kernel
theorem d_Model_has_17 : decode prog_12_method_12_code 17 = .ok (.iload_n 1, 1) := by decide +kernel
theorem d_Model_has_18 : decode prog_12_method_12_code 18 = .ok (.if_icmp .lt 7, 3) := by decide +kernel
theorem d_Model_has_21 : decode prog_12_method_12_code 21 = .ok (.iconst 1, 1) := by decide +kernel
theorem d_Model_has_22 : decode prog_12_method_12_code 22 = .ok (.goto 4, 3) := by decide +kernel
theorem d_Model_has_25 : decode prog_12_method_12_code 25 = .ok (.iconst 0, 1) := by decide +kernel
theorem d_Model_has_26 : decode prog_12_method_12_code 26 = .ok (.ireturn, 1) := by decide +kernel
theorem d_Model_isTrueRow_0 : decode prog_12_method_9_code 0 = .ok (.iconst 0, 1) := by decide +kernel
theorem d_Model_isTrueRow_1 : decode prog_12_method_9_code 1 = .ok (.istore_n 2, 1) := by decide +kernel
theorem d_Model_isTrueRow_2 : decode prog_12_method_9_code 2 = .ok (.iconst 0, 1) := by decide +kernel
theorem d_Model_isTrueRow_3 : decode prog_12_method_9_code 3 = .ok (.istore_n 3, 1) := by decide +kernel
theorem d_Model_isTrueRow_4 : decode prog_12_method_9_code 4 = .ok (.iload_n 3, 1) := by decide +kernel
theorem d_Model_isTrueRow_5 : decode prog_12_method_9_code 5 = .ok (.aload_n 0, 1) := by decide +kernel
theorem d_Model_isTrueRow_6 : decode prog_12_method_9_code 6 = .ok (.getfield 13, 3) := by decide +kernel
theorem d_Model_isTrueRow_9 : decode prog_12_method_9_code 9 = .ok (.iload_n 1, 1) := by decide +kernel
theorem d_Model_isTrueRow_10 : decode prog_12_method_9_code 10 = .ok (.iaload, 1) := by decide +kernel
theorem d_Model_isTrueRow_11 : decode prog_12_method_9_code 11 = .ok (.if_icmp .ge 57, 3) := by decide +kernel
theorem d_Model_isTrueRow_14 : decode prog_12_method_9_code 14 = .ok (.aload_n 0, 1) := by decide +kernel
theorem d_Model_isTrueRow_15 : decode prog_12_method_9_code 15 = .ok (.getfield 7, 3) := by decide +kernel
theorem d_Model_isTrueRow_18 : decode prog_12_method_9_code 18 = .ok (.bipush 120, 2) := by decide +kernel
theorem d_Model_isTrueRow_20 : decode prog_12_method_9_code 20 = .ok (.iload_n 1, 1) := by decide +kernel
theorem d_Model_isTrueRow_21 : decode prog_12_method_9_code 21 = .ok (.imul, 1) := by decide +kernel
theorem d_Model_isTrueRow_22 : decode prog_12_method_9_code 22 = .ok (.iload_n 3, 1) := by decide +kernel
theorem d_Model_isTrueRow_23 : decode prog_12_method_9_code 23 = .ok (.iadd, 1) := by decide +kernel
theorem d_Model_isTrueRow_24 : decode prog_12_method_9_code 24 = .ok (.iaload, 1) := by decide +kernel
theorem d_Model_isTrueRow_25 : decode prog_12_method_9_code 25 = .ok (.istore 4, 2) := by decide +kernel
theorem d_Model_isTrueRow_27 : decode prog_12_method_9_code 27 = .ok (.iload_n 2, 1) := by decide +kernel
theorem d_Model_isTrueRow_28 : decode prog_12_method_9_code 28 = .ok (.ifCond .ne 28, 3) := by decide +kernel
theorem d_Model_isTrueRow_31 : decode prog_12_method_9_code 31 = .ok (.iload 4, 2) := by decide +kernel
theorem d_Model_isTrueRow_33 : decode prog_12_method_9_code 33 = .ok (.ifCond .eq 27, 3) := by decide +kernel
theorem d_Model_isTrueRow_36 : decode prog_12_method_9_code 36 = .ok (.iload_n 3, 1) := by decide +kernel
theorem d_Model_isTrueRow_37 : decode prog_12_method_9_code 37 = .ok (.aload_n 0, 1) := by decide +kernel
theorem d_Model_isTrueRow_38 : decode prog_12_method_9_code 38 = .ok (.getfield 13, 3) := by decide +kernel
theorem d_Model_isTrueRow_41 : decode prog_12_method_9_code 41 = .ok (.iload_n 1, 1) := by decide +kernel
theorem d_Model_isTrueRow_42 : decode prog_12_method_9_code 42 = .ok (.iaload, 1) := by decide +kernel
theorem d_Model_isTrueRow_43 : decode prog_12_method_9_code 43 = .ok (.iconst 1, 1) := by decide +kernel
theorem d_Model_isTrueRow_44 : decode prog_12_method_9_code 44 = .ok (.isub, 1) := by decide +kernel
theorem d_Model_isTrueRow_45 : decode prog_12_method_9_code 45 = .ok (.if_icmp .lt 11, 3) := by decide +kernel
theorem d_Model_isTrueRow_48 : decode prog_12_method_9_code 48 = .ok (.iload 4, 2) := by decide +kernel
theorem d_Model_isTrueRow_50 : decode prog_12_method_9_code 50 = .ok (.sipush 128, 3) := by decide +kernel
theorem d_Model_isTrueRow_53 : decode prog_12_method_9_code 53 = .ok (.if_icmp .eq 7, 3) := by decide +kernel
theorem d_Model_isTrueRow_56 : decode prog_12_method_9_code 56 = .ok (.iconst 1, 1) := by decide +kernel
theorem d_Model_isTrueRow_57 : decode prog_12_method_9_code 57 = .ok (.goto 4, 3) := by decide +kernel
theorem d_Model_isTrueRow_60 : decode prog_12_method_9_code 60 = .ok (.iconst 0, 1) := by decide +kernel
theorem d_Model_isTrueRow_61 : decode prog_12_method_9_code 61 = .ok (.istore_n 2, 1) := by decide +kernel
theorem d_Model_isTrueRow_62 : decode prog_12_method_9_code 62 = .ok (.iinc 3 1, 3) := by decide +kernel
theorem d_Model_isTrueRow_65 : decode prog_12_method_9_code 65 = .ok (.goto (-61), 3) := by decide +kernel
theorem d_Model_isTrueRow_68 : decode prog_12_method_9_code 68 = .ok (.iload_n 2, 1) := by decide +kernel
theorem d_Model_isTrueRow_69 : decode prog_12_method_9_code 69 = .ok (.ireturn, 1) := by decide +kernel
theorem d_Model_flow_0 : decode prog_12_method_25_code 0 = .ok (.iload_n 1, 1) := by decide +kernel
theorem d_Model_flow_1 : decode prog_12_method_25_code 1 = .ok (.bipush 99, 2) := by decide +kernel
theorem d_Model_flow_3 : decode prog_12_method_25_code 3 = .ok (.if_icmp .eq 9, 3) := by decide +kernel
theorem d_Model_flow_6 : decode prog_12_method_25_code 6 = .ok (.iload_n 1, 1) := by decide +kernel
theorem d_Model_flow_7 : decode prog_12_method_25_code 7 = .ok (.bipush 100, 2) := by decide +kernel
theorem d_Model_flow_9 : decode prog_12_method_25_code 9 = .ok (.if_icmp .ne 88, 3) := by decide +kernel
theorem d_Model_flow_12 : decode prog_12_method_25_code 12 = .ok (.aload_n 0, 1) := by decide +kernel
theorem d_Model_flow_13 : decode prog_12_method_25_code 13 = .ok (.invokevirtual 160, 3) := by decide +kernel
theorem d_Model_flow_16 : decode prog_12_method_25_code 16 = .ok (.ifCond .ne 16, 3) := by decide +kernel
theorem d_Model_flow_19 : decode prog_12_method_25_code 19 = .ok (.aload_n 0, 1) := by decide +kernel
theorem d_Model_flow_20 : decode prog_12_method_25_code 20 = .ok (.getfield 23, 3) := by decide +kernel
theorem d_Model_flow_23 : decode prog_12_method_25_code 23 = .ok (.aload_n 0, 1) := by decide +kernel
theorem d_Model_flow_24 : decode prog_12_method_25_code 24 = .ok (.getfield 157, 3) := by decide +kernel
theorem d_Model_flow_27 : decode prog_12_method_25_code 27 = .ok (.iconst 3, 1) := by decide +kernel
theorem d_Model_flow_28 : decode prog_12_method_25_code 28 = .ok (.iastore, 1) := by decide +kernel
theorem d_Model_flow_29 : decode prog_12_method_25_code 29 = .ok (.goto 57, 3) := by decide +kernel
theorem d_Model_flow_32 : decode prog_12_method_25_code 32 = .ok (.aload_n 0, 1) := by decide +kernel
theorem d_Model_flow_33 : decode prog_12_method_25_code 33 = .ok (.iconst 1, 1) := by decide +kernel
theorem d_Model_flow_34 : decode prog_12_method_25_code 34 = .ok (.invokevirtual 67, 3) := by decide +kernel
theorem d_Model_flow_37 : decode prog_12_method_25_code 37 = .ok (.ifCond .eq 49, 3) := by decide +kernel
theorem d_Model_flow_40 : decode prog_12_method_25_code 40 = .ok (.aload_n 0, 1) := by decide +kernel
theorem d_Model_flow_41 : decode prog_12_method_25_code 41 = .ok (.dup, 1) := by decide +kernel
theorem d_Model_flow_42 : decode prog_12_method_25_code 42 = .ok (.getfield 47, 3) := by decide +kernel
theorem d_Model_flow_45 : decode prog_12_method_25_code 45 = .ok (.iconst 1, 1) := by decide +kernel
theorem d_Model_flow_46 : decode prog_12_method_25_code 46 = .ok (.isub, 1) := by decide +kernel
theorem d_Model_flow_47 : decode prog_12_method_25_code 47 = .ok (.putfield 47, 3) := by decide +kernel
theorem d_Model_flow_50 : decode prog_12_method_25_code 50 = .ok (.aload_n 0, 1) := by decide +kernel
theorem d_Model_flow_51 : decode prog_12_method_25_code 51 = .ok (.getfield 23, 3) := by decide +kernel
theorem d_Model_flow_54 : decode prog_12_method_25_code 54 = .ok (.aload_n 0, 1) := by decide +kernel
theorem d_Model_flow_55 : decode prog_12_method_25_code 55 = .ok (.getfield 157, 3) := by decide +kernel
theorem d_Model_flow_58 : decode prog_12_method_25_code 58 = .ok (.aload_n 0, 1) := by decide +kernel
theorem d_Model_flow_59 : decode prog_12_method_25_code 59 = .ok (.aload_n 0, 1) := by decide +kernel
theorem d_Model_flow_60 : decode prog_12_method_25_code 60 = .ok (.getfield 47, 3) := by decide +kernel
theorem d_Model_flow_63 : decode prog_12_method_25_code 63 = .ok (.invokevirtual 78, 3) := by decide +kernel
theorem d_Model_flow_66 : decode prog_12_method_25_code 66 = .ok (.iload_n 1, 1) := by decide +kernel
theorem d_Model_flow_67 : decode prog_12_method_25_code 67 = .ok (.bipush 99, 2) := by decide +kernel
theorem d_Model_flow_69 : decode prog_12_method_25_code 69 = .ok (.if_icmp .ne 7, 3) := by decide +kernel
theorem d_Model_flow_72 : decode prog_12_method_25_code 72 = .ok (.iconst 1, 1) := by decide +kernel
theorem d_Model_flow_73 : decode prog_12_method_25_code 73 = .ok (.goto 4, 3) := by decide +kernel
theorem d_Model_flow_76 : decode prog_12_method_25_code 76 = .ok (.iconst 0, 1) := by decide +kernel
theorem d_Model_flow_77 : decode prog_12_method_25_code 77 = .ok (.if_icmp .ne 7, 3) := by decide +kernel
theorem d_Model_flow_80 : decode prog_12_method_25_code 80 = .ok (.iconst 1, 1) := by decide +kernel
theorem d_Model_flow_81 : decode prog_12_method_25_code 81 = .ok (.goto 4, 3) := by decide +kernel
theorem d_Model_flow_84 : decode prog_12_method_25_code 84 = .ok (.iconst 2, 1) := by decide +kernel
theorem d_Model_flow_85 : decode prog_12_method_25_code 85 = .ok (.iastore, 1) := by decide +kernel
theorem d_Model_flow_86 : decode prog_12_method_25_code 86 = .ok (.aload_n 0, 1) := by decide +kernel
theorem d_Model_flow_87 : decode prog_12_method_25_code 87 = .ok (.dup, 1) := by decide +kernel
theorem d_Model_flow_88 : decode prog_12_method_25_code 88 = .ok (.getfield 157, 3) := by decide +kernel
theorem d_Model_flow_91 : decode prog_12_method_25_code 91 = .ok (.iconst 1, 1) := by decide +kernel
theorem d_Model_flow_92 : decode prog_12_method_25_code 92 = .ok (.iadd, 1) := by decide +kernel
theorem d_Model_flow_93 : decode prog_12_method_25_code 93 = .ok (.putfield 157, 3) := by decide +kernel
theorem d_Model_flow_96 : decode prog_12_method_25_code 96 = .ok (.return_, 1) := by decide +kernel
theorem d_Model_flow_97 : decode prog_12_method_25_code 97 = .ok (.aload_n 0, 1) := by decide +kernel
theorem d_Model_flow_98 : decode prog_12_method_25_code 98 = .ok (.getfield 157, 3) := by decide +kernel
theorem d_Model_flow_101 : decode prog_12_method_25_code 101 = .ok (.ifCond .ne 12, 3) := by decide +kernel
theorem d_Model_flow_104 : decode prog_12_method_25_code 104 = .ok (.aload_n 0, 1) := by decide +kernel
theorem d_Model_flow_105 : decode prog_12_method_25_code 105 = .ok (.bipush 10, 2) := by decide +kernel
theorem d_Model_flow_107 : decode prog_12_method_25_code 107 = .ok (.invokevirtual 63, 3) := by decide +kernel
theorem d_Model_flow_110 : decode prog_12_method_25_code 110 = .ok (.goto 57, 3) := by decide +kernel
theorem d_Model_flow_113 : decode prog_12_method_25_code 113 = .ok (.iload_n 1, 1) := by decide +kernel
theorem d_Model_flow_114 : decode prog_12_method_25_code 114 = .ok (.bipush 104, 2) := by decide +kernel
theorem d_Model_flow_116 : decode prog_12_method_25_code 116 = .ok (.if_icmp .ne 16, 3) := by decide +kernel
theorem d_Model_flow_119 : decode prog_12_method_25_code 119 = .ok (.aload_n 0, 1) := by decide +kernel
theorem d_Model_flow_120 : decode prog_12_method_25_code 120 = .ok (.dup, 1) := by decide +kernel
theorem d_Model_flow_121 : decode prog_12_method_25_code 121 = .ok (.getfield 157, 3) := by decide +kernel
theorem d_Model_flow_124 : decode prog_12_method_25_code 124 = .ok (.iconst 1, 1) := by decide +kernel
theorem d_Model_flow_125 : decode prog_12_method_25_code 125 = .ok (.isub, 1) := by decide +kernel
theorem d_Model_flow_126 : decode prog_12_method_25_code 126 = .ok (.putfield 157, 3) := by decide +kernel
theorem d_Model_flow_129 : decode prog_12_method_25_code 129 = .ok (.goto 38, 3) := by decide +kernel
theorem d_Model_flow_132 : decode prog_12_method_25_code 132 = .ok (.aload_n 0, 1) := by decide +kernel
theorem d_Model_flow_133 : decode prog_12_method_25_code 133 = .ok (.getfield 23, 3) := by decide +kernel
theorem d_Model_flow_136 : decode prog_12_method_25_code 136 = .ok (.aload_n 0, 1) := by decide +kernel
theorem d_Model_flow_137 : decode prog_12_method_25_code 137 = .ok (.getfield 157, 3) := by decide +kernel
theorem d_Model_flow_140 : decode prog_12_method_25_code 140 = .ok (.iconst 1, 1) := by decide +kernel
theorem d_Model_flow_141 : decode prog_12_method_25_code 141 = .ok (.isub, 1) := by decide +kernel
theorem d_Model_flow_142 : decode prog_12_method_25_code 142 = .ok (.iaload, 1) := by decide +kernel
theorem d_Model_flow_143 : decode prog_12_method_25_code 143 = .ok (.istore_n 2, 1) := by decide +kernel
theorem d_Model_flow_144 : decode prog_12_method_25_code 144 = .ok (.aload_n 0, 1) := by decide +kernel
theorem d_Model_flow_145 : decode prog_12_method_25_code 145 = .ok (.getfield 23, 3) := by decide +kernel
theorem d_Model_flow_148 : decode prog_12_method_25_code 148 = .ok (.aload_n 0, 1) := by decide +kernel
theorem d_Model_flow_149 : decode prog_12_method_25_code 149 = .ok (.getfield 157, 3) := by decide +kernel
theorem d_Model_flow_152 : decode prog_12_method_25_code 152 = .ok (.iconst 1, 1) := by decide +kernel
theorem d_Model_flow_153 : decode prog_12_method_25_code 153 = .ok (.isub, 1) := by decide +kernel
theorem d_Model_flow_154 : decode prog_12_method_25_code 154 = .ok (.iload_n 2, 1) := by decide +kernel
theorem d_Model_flow_155 : decode prog_12_method_25_code 155 = .ok (.iconst 3, 1) := by decide +kernel
theorem d_Model_flow_156 : decode prog_12_method_25_code 156 = .ok (.if_icmp .ne 7, 3) := by decide +kernel
theorem d_Model_flow_159 : decode prog_12_method_25_code 159 = .ok (.iconst 3, 1) := by decide +kernel
theorem d_Model_flow_160 : decode prog_12_method_25_code 160 = .ok (.goto 6, 3) := by decide +kernel
theorem d_Model_flow_163 : decode prog_12_method_25_code 163 = .ok (.iconst 3, 1) := by decide +kernel
theorem d_Model_flow_164 : decode prog_12_method_25_code 164 = .ok (.iload_n 2, 1) := by decide +kernel
theorem d_Model_flow_165 : decode prog_12_method_25_code 165 = .ok (.isub, 1) := by decide +kernel
theorem d_Model_flow_166 : decode prog_12_method_25_code 166 = .ok (.iastore, 1) := by decide +kernel
theorem d_Model_flow_167 : decode prog_12_method_25_code 167 = .ok (.return_, 1) := by decide +kernel
theorem d_Model_top_0 : decode prog_12_method_5_code 0 = .ok (.aload_n 0, 1) := by decide +kernel
theorem d_Model_top_1 : decode prog_12_method_5_code 1 = .ok (.getfield 47, 3) := by decide +kernel
theorem d_Model_top_4 : decode prog_12_method_5_code 4 = .ok (.iconst 1, 1) := by decide +kernel
theorem d_Model_top_5 : decode prog_12_method_5_code 5 = .ok (.isub, 1) := by decide +kernel
theorem d_Model_top_6 : decode prog_12_method_5_code 6 = .ok (.iload_n 1, 1) := by decide +kernel
theorem d_Model_top_7 : decode prog_12_method_5_code 7 = .ok (.isub, 1) := by decide +kernel
theorem d_Model_top_8 : decode prog_12_method_5_code 8 = .ok (.ireturn, 1) := by decide +kernel
theorem d_Model_isSame_0 : decode prog_12_method_10_code 0 = .ok (.aload_n 0, 1) := by decide +kernel
theorem d_Model_isSame_1 : decode prog_12_method_10_code 1 = .ok (.getfield 13, 3) := by decide +kernel
theorem d_Model_isSame_4 : decode prog_12_method_10_code 4 = .ok (.iload_n 1, 1) := by decide +kernel
theorem d_Model_isSame_5 : decode prog_12_method_10_code 5 = .ok (.iaload, 1) := by decide +kernel
theorem d_Model_isSame_6 : decode prog_12_method_10_code 6 = .ok (.aload_n 0, 1) := by decide +kernel
theorem d_Model_isSame_7 : decode prog_12_method_10_code 7 = .ok (.getfield 13, 3) := by decide +kernel
theorem d_Model_isSame_10 : decode prog_12_method_10_code 10 = .ok (.iload_n 2, 1) := by decide +kernel
theorem d_Model_isSame_11 : decode prog_12_method_10_code 11 = .ok (.iaload, 1) := by decide +kernel
theorem d_Model_isSame_12 : decode prog_12_method_10_code 12 = .ok (.if_icmp .ne 7, 3) := by decide +kernel
theorem d_Model_isSame_15 : decode prog_12_method_10_code 15 = .ok (.iconst 1, 1) := by decide +kernel
theorem d_Model_isSame_16 : decode prog_12_method_10_code 16 = .ok (.goto 4, 3) := by decide +kernel
theorem d_Model_isSame_19 : decode prog_12_method_10_code 19 = .ok (.iconst 0, 1) := by decide +kernel
theorem d_Model_isSame_20 : decode prog_12_method_10_code 20 = .ok (.istore_n 3, 1) := by decide +kernel
theorem d_Model_isSame_21 : decode prog_12_method_10_code 21 = .ok (.iconst 0, 1) := by decide +kernel
theorem d_Model_isSame_22 : decode prog_12_method_10_code 22 = .ok (.istore 4, 2) := by decide +kernel
theorem d_Model_isSame_24 : decode prog_12_method_10_code 24 = .ok (.iload 4, 2) := by decide +kernel
theorem d_Model_isSame_26 : decode prog_12_method_10_code 26 = .ok (.aload_n 0, 1) := by decide +kernel
theorem d_Model_isSame_27 : decode prog_12_method_10_code 27 = .ok (.getfield 13, 3) := by decide +kernel
theorem d_Model_isSame_30 : decode prog_12_method_10_code 30 = .ok (.iload_n 1, 1) := by decide +kernel
theorem d_Model_isSame_31 : decode prog_12_method_10_code 31 = .ok (.iaload, 1) := by decide +kernel
theorem d_Model_isSame_32 : decode prog_12_method_10_code 32 = .ok (.if_icmp .ge 46, 3) := by decide +kernel
theorem d_Model_isSame_35 : decode prog_12_method_10_code 35 = .ok (.iload_n 3, 1) := by decide +kernel
theorem d_Model_isSame_36 : decode prog_12_method_10_code 36 = .ok (.ifCond .eq 34, 3) := by decide +kernel
theorem d_Model_isSame_39 : decode prog_12_method_10_code 39 = .ok (.aload_n 0, 1) := by decide +kernel
theorem d_Model_isSame_40 : decode prog_12_method_10_code 40 = .ok (.getfield 7, 3) := by decide +kernel
theorem d_Model_isSame_43 : decode prog_12_method_10_code 43 = .ok (.bipush 120, 2) := by decide +kernel
theorem d_Model_isSame_45 : decode prog_12_method_10_code 45 = .ok (.iload_n 1, 1) := by decide +kernel
theorem d_Model_isSame_46 : decode prog_12_method_10_code 46 = .ok (.imul, 1) := by decide +kernel
theorem d_Model_isSame_47 : decode prog_12_method_10_code 47 = .ok (.iload 4, 2) := by decide +kernel
theorem d_Model_isSame_49 : decode prog_12_method_10_code 49 = .ok (.iadd, 1) := by decide +kernel
theorem d_Model_isSame_50 : decode prog_12_method_10_code 50 = .ok (.iaload, 1) := by decide +kernel
theorem d_Model_isSame_51 : decode prog_12_method_10_code 51 = .ok (.aload_n 0, 1) := by decide +kernel
theorem d_Model_isSame_52 : decode prog_12_method_10_code 52 = .ok (.getfield 7, 3) := by decide +kernel
theorem d_Model_isSame_55 : decode prog_12_method_10_code 55 = .ok (.bipush 120, 2) := by decide +kernel
theorem d_Model_isSame_57 : decode prog_12_method_10_code 57 = .ok (.iload_n 2, 1) := by decide +kernel
theorem d_Model_isSame_58 : decode prog_12_method_10_code 58 = .ok (.imul, 1) := by decide +kernel
theorem d_Model_isSame_59 : decode prog_12_method_10_code 59 = .ok (.iload 4, 2) := by decide +kernel
theorem d_Model_isSame_61 : decode prog_12_method_10_code 61 = .ok (.iadd, 1) := by decide +kernel
theorem d_Model_isSame_62 : decode prog_12_method_10_code 62 = .ok (.iaload, 1) := by decide +kernel
theorem d_Model_isSame_63 : decode prog_12_method_10_code 63 = .ok (.if_icmp .ne 7, 3) := by decide +kernel
theorem d_Model_isSame_66 : decode prog_12_method_10_code 66 = .ok (.iconst 1, 1) := by decide +kernel
theorem d_Model_isSame_67 : decode prog_12_method_10_code 67 = .ok (.goto 4, 3) := by decide +kernel
theorem d_Model_isSame_70 : decode prog_12_method_10_code 70 = .ok (.iconst 0, 1) := by decide +kernel
theorem d_Model_isSame_71 : decode prog_12_method_10_code 71 = .ok (.istore_n 3, 1) := by decide +kernel
theorem d_Model_isSame_72 : decode prog_12_method_10_code 72 = .ok (.iinc 4 1, 3) := by decide +kernel
theorem d_Model_isSame_75 : decode prog_12_method_10_code 75 = .ok (.goto (-51), 3) := by decide +kernel
theorem d_Model_isSame_78 : decode prog_12_method_10_code 78 = .ok (.iload_n 3, 1) := by decide +kernel
theorem d_Model_isSame_79 : decode prog_12_method_10_code 79 = .ok (.ireturn, 1) := by decide +kernel
theorem d_Model_pushNumber_0 : decode prog_12_method_7_code 0 = .ok (.lload_n 1, 1) := by decide +kernel
theorem d_Model_pushNumber_1 : decode prog_12_method_7_code 1 = .ok (.lconst 0, 1) := by decide +kernel
theorem d_Model_pushNumber_2 : decode prog_12_method_7_code 2 = .ok (.lcmp, 1) := by decide +kernel
theorem d_Model_pushNumber_3 : decode prog_12_method_7_code 3 = .ok (.ifCond .ge 8, 3) := by decide +kernel
theorem d_Model_pushNumber_6 : decode prog_12_method_7_code 6 = .ok (.lload_n 1, 1) := by decide +kernel
theorem d_Model_pushNumber_7 : decode prog_12_method_7_code 7 = .ok (.lneg, 1) := by decide +kernel
theorem d_Model_pushNumber_8 : decode prog_12_method_7_code 8 = .ok (.goto 4, 3) := by decide +kernel
theorem d_Model_pushNumber_11 : decode prog_12_method_7_code 11 = .ok (.lload_n 1, 1) := by decide +kernel
theorem d_Model_pushNumber_12 : decode prog_12_method_7_code 12 = .ok (.lstore_n 3, 1) := by decide +kernel
theorem d_Model_pushNumber_13 : decode prog_12_method_7_code 13 = .ok (.iconst 0, 1) := by decide +kernel
theorem d_Model_pushNumber_14 : decode prog_12_method_7_code 14 = .ok (.istore 5, 2) := by decide +kernel
theorem d_Model_pushNumber_16 : decode prog_12_method_7_code 16 = .ok (.lload_n 3, 1) := by decide +kernel
theorem d_Model_pushNumber_17 : decode prog_12_method_7_code 17 = .ok (.lconst 0, 1) := by decide +kernel
theorem d_Model_pushNumber_18 : decode prog_12_method_7_code 18 = .ok (.lcmp, 1) := by decide +kernel
theorem d_Model_pushNumber_19 : decode prog_12_method_7_code 19 = .ok (.ifCond .le 36, 3) := by decide +kernel
theorem d_Model_pushNumber_22 : decode prog_12_method_7_code 22 = .ok (.aload_n 0, 1) := by decide +kernel
theorem d_Model_pushNumber_23 : decode prog_12_method_7_code 23 = .ok (.getfield 7, 3) := by decide +kernel
theorem d_Model_pushNumber_26 : decode prog_12_method_7_code 26 = .ok (.bipush 120, 2) := by decide +kernel
theorem d_Model_pushNumber_28 : decode prog_12_method_7_code 28 = .ok (.aload_n 0, 1) := by decide +kernel
theorem d_Model_pushNumber_29 : decode prog_12_method_7_code 29 = .ok (.getfield 47, 3) := by decide +kernel
theorem d_Model_pushNumber_32 : decode prog_12_method_7_code 32 = .ok (.imul, 1) := by decide +kernel
theorem d_Model_pushNumber_33 : decode prog_12_method_7_code 33 = .ok (.iload 5, 2) := by decide +kernel
theorem d_Model_pushNumber_35 : decode prog_12_method_7_code 35 = .ok (.iadd, 1) := by decide +kernel
theorem d_Model_pushNumber_36 : decode prog_12_method_7_code 36 = .ok (.lload_n 3, 1) := by decide +kernel
theorem d_Model_pushNumber_37 : decode prog_12_method_7_code 37 = .ok (.ldc2_w 54, 3) := by decide +kernel
theorem d_Model_pushNumber_40 : decode prog_12_method_7_code 40 = .ok (.lrem, 1) := by decide +kernel
theorem d_Model_pushNumber_41 : decode prog_12_method_7_code 41 = .ok (.l2i, 1) := by decide +kernel
theorem d_Model_pushNumber_42 : decode prog_12_method_7_code 42 = .ok (.iastore, 1) := by decide +kernel
theorem d_Model_pushNumber_43 : decode prog_12_method_7_code 43 = .ok (.lload_n 3, 1) := by decide +kernel
theorem d_Model_pushNumber_44 : decode prog_12_method_7_code 44 = .ok (.ldc2_w 54, 3) := by decide +kernel
theorem d_Model_pushNumber_47 : decode prog_12_method_7_code 47 = .ok (.ldiv, 1) := by decide +kernel
theorem d_Model_pushNumber_48 : decode prog_12_method_7_code 48 = .ok (.lstore_n 3, 1) := by decide +kernel
theorem d_Model_pushNumber_49 : decode prog_12_method_7_code 49 = .ok (.iinc 5 1, 3) := by decide +kernel
theorem d_Model_pushNumber_52 : decode prog_12_method_7_code 52 = .ok (.goto (-36), 3) := by decide +kernel
theorem d_Model_pushNumber_55 : decode prog_12_method_7_code 55 = .ok (.iload 5, 2) := by decide +kernel
theorem d_Model_pushNumber_57 : decode prog_12_method_7_code 57 = .ok (.ifCond .le 44, 3) := by decide +kernel
theorem d_Model_pushNumber_60 : decode prog_12_method_7_code 60 = .ok (.aload_n 0, 1) := by decide +kernel
theorem d_Model_pushNumber_61 : decode prog_12_method_7_code 61 = .ok (.getfield 7, 3) := by decide +kernel
theorem d_Model_pushNumber_64 : decode prog_12_method_7_code 64 = .ok (.bipush 120, 2) := by decide +kernel
theorem d_Model_pushNumber_66 : decode prog_12_method_7_code 66 = .ok (.aload_n 0, 1) := by decide +kernel
theorem d_Model_pushNumber_67 : decode prog_12_method_7_code 67 = .ok (.getfield 47, 3) := by decide +kernel
theorem d_Model_pushNumber_70 : decode prog_12_method_7_code 70 = .ok (.imul, 1) := by decide +kernel
theorem d_Model_pushNumber_71 : decode prog_12_method_7_code 71 = .ok (.iload 5, 2) := by decide +kernel
theorem d_Model_pushNumber_73 : decode prog_12_method_7_code 73 = .ok (.iadd, 1) := by decide +kernel
theorem d_Model_pushNumber_74 : decode prog_12_method_7_code 74 = .ok (.iconst 1, 1) := by decide +kernel
theorem d_Model_pushNumber_75 : decode prog_12_method_7_code 75 = .ok (.isub, 1) := by decide +kernel
theorem d_Model_pushNumber_76 : decode prog_12_method_7_code 76 = .ok (.iaload, 1) := by decide +kernel
theorem d_Model_pushNumber_77 : decode prog_12_method_7_code 77 = .ok (.bipush 127, 2) := by decide +kernel
theorem d_Model_pushNumber_79 : decode prog_12_method_7_code 79 = .ok (.if_icmp .le 22, 3) := by decide +kernel
theorem d_Model_pushNumber_82 : decode prog_12_method_7_code 82 = .ok (.aload_n 0, 1) := by decide +kernel
theorem d_Model_pushNumber_83 : decode prog_12_method_7_code 83 = .ok (.getfield 7, 3) := by decide +kernel
theorem d_Model_pushNumber_86 : decode prog_12_method_7_code 86 = .ok (.bipush 120, 2) := by decide +kernel
theorem d_Model_pushNumber_88 : decode prog_12_method_7_code 88 = .ok (.aload_n 0, 1) := by decide +kernel
theorem d_Model_pushNumber_89 : decode prog_12_method_7_code 89 = .ok (.getfield 47, 3) := by decide +kernel
theorem d_Model_pushNumber_92 : decode prog_12_method_7_code 92 = .ok (.imul, 1) := by decide +kernel
theorem d_Model_pushNumber_93 : decode prog_12_method_7_code 93 = .ok (.iload 5, 2) := by decide +kernel
theorem d_Model_pushNumber_95 : decode prog_12_method_7_code 95 = .ok (.iadd, 1) := by decide +kernel
theorem d_Model_pushNumber_96 : decode prog_12_method_7_code 96 = .ok (.iconst 0, 1) := by decide +kernel
theorem d_Model_pushNumber_97 : decode prog_12_method_7_code 97 = .ok (.iastore, 1) := by decide +kernel
theorem d_Model_pushNumber_98 : decode prog_12_method_7_code 98 = .ok (.iinc 5 1, 3) := by decide +kernel
theorem d_Model_pushNumber_101 : decode prog_12_method_7_code 101 = .ok (.lload_n 1, 1) := by decide +kernel
theorem d_Model_pushNumber_102 : decode prog_12_method_7_code 102 = .ok (.lconst 0, 1) := by decide +kernel
theorem d_Model_pushNumber_103 : decode prog_12_method_7_code 103 = .ok (.lcmp, 1) := by decide +kernel
theorem d_Model_pushNumber_104 : decode prog_12_method_7_code 104 = .ok (.ifCond .ge 26, 3) := by decide +kernel
theorem d_Model_pushNumber_107 : decode prog_12_method_7_code 107 = .ok (.aload_n 0, 1) := by decide +kernel
theorem d_Model_pushNumber_108 : decode prog_12_method_7_code 108 = .ok (.getfield 7, 3) := by decide +kernel
theorem d_Model_pushNumber_111 : decode prog_12_method_7_code 111 = .ok (.bipush 120, 2) := by decide +kernel
theorem d_Model_pushNumber_113 : decode prog_12_method_7_code 113 = .ok (.aload_n 0, 1) := by decide +kernel
theorem d_Model_pushNumber_114 : decode prog_12_method_7_code 114 = .ok (.getfield 47, 3) := by decide +kernel
theorem d_Model_pushNumber_117 : decode prog_12_method_7_code 117 = .ok (.imul, 1) := by decide +kernel
theorem d_Model_pushNumber_118 : decode prog_12_method_7_code 118 = .ok (.iload 5, 2) := by decide +kernel
theorem d_Model_pushNumber_120 : decode prog_12_method_7_code 120 = .ok (.iadd, 1) := by decide +kernel
theorem d_Model_pushNumber_121 : decode prog_12_method_7_code 121 = .ok (.iconst 1, 1) := by decide +kernel
theorem d_Model_pushNumber_122 : decode prog_12_method_7_code 122 = .ok (.isub, 1) := by decide +kernel
theorem d_Model_pushNumber_123 : decode prog_12_method_7_code 123 = .ok (.dup2, 1) := by decide +kernel
theorem d_Model_pushNumber_124 : decode prog_12_method_7_code 124 = .ok (.iaload, 1) := by decide +kernel
theorem d_Model_pushNumber_125 : decode prog_12_method_7_code 125 = .ok (.sipush 128, 3) := by decide +kernel
theorem d_Model_pushNumber_128 : decode prog_12_method_7_code 128 = .ok (.iadd, 1) := by decide +kernel
theorem d_Model_pushNumber_129 : decode prog_12_method_7_code 129 = .ok (.iastore, 1) := by decide +kernel
theorem d_Model_pushNumber_130 : decode prog_12_method_7_code 130 = .ok (.aload_n 0, 1) := by decide +kernel
theorem d_Model_pushNumber_131 : decode prog_12_method_7_code 131 = .ok (.getfield 13, 3) := by decide +kernel
theorem d_Model_pushNumber_134 : decode prog_12_method_7_code 134 = .ok (.aload_n 0, 1) := by decide +kernel
theorem d_Model_pushNumber_135 : decode prog_12_method_7_code 135 = .ok (.getfield 47, 3) := by decide +kernel
theorem d_Model_pushNumber_138 : decode prog_12_method_7_code 138 = .ok (.iload 5, 2) := by decide +kernel
theorem d_Model_pushNumber_140 : decode prog_12_method_7_code 140 = .ok (.iastore, 1) := by decide +kernel
theorem d_Model_pushNumber_141 : decode prog_12_method_7_code 141 = .ok (.aload_n 0, 1) := by decide +kernel
theorem d_Model_pushNumber_142 : decode prog_12_method_7_code 142 = .ok (.dup, 1) := by decide +kernel
theorem d_Model_pushNumber_143 : decode prog_12_method_7_code 143 = .ok (.getfield 47, 3) := by decide +kernel
theorem d_Model_pushNumber_146 : decode prog_12_method_7_code 146 = .ok (.iconst 1, 1) := by decide +kernel
theorem d_Model_pushNumber_147 : decode prog_12_method_7_code 147 = .ok (.iadd, 1) := by decide +kernel
theorem d_Model_pushNumber_148 : decode prog_12_method_7_code 148 = .ok (.putfield 47, 3) := by decide +kernel
theorem d_Model_pushNumber_151 : decode prog_12_method_7_code 151 = .ok (.return_, 1) := by decide +kernel
theorem d_Model_pushTruth_0 : decode prog_12_method_8_code 0 = .ok (.aload_n 0, 1) := by decide +kernel
theorem d_Model_pushTruth_1 : decode prog_12_method_8_code 1 = .ok (.iload_n 1, 1) := by decide +kernel
theorem d_Model_pushTruth_2 : decode prog_12_method_8_code 2 = .ok (.ifCond .eq 7, 3) := by decide +kernel
theorem d_Model_pushTruth_5 : decode prog_12_method_8_code 5 = .ok (.lconst 1, 1) := by decide +kernel
theorem d_Model_pushTruth_6 : decode prog_12_method_8_code 6 = .ok (.goto 4, 3) := by decide +kernel
theorem d_Model_pushTruth_9 : decode prog_12_method_8_code 9 = .ok (.lconst 0, 1) := by decide +kernel
theorem d_Model_pushTruth_10 : decode prog_12_method_8_code 10 = .ok (.invokevirtual 56, 3) := by decide +kernel
theorem d_Model_pushTruth_13 : decode prog_12_method_8_code 13 = .ok (.return_, 1) := by decide +kernel
theorem d_Model_mustBeTrue_0 : decode prog_12_method_14_code 0 = .ok (.aload_n 0, 1) := by decide +kernel
theorem d_Model_mustBeTrue_1 : decode prog_12_method_14_code 1 = .ok (.iconst 1, 1) := by decide +kernel
theorem d_Model_mustBeTrue_2 : decode prog_12_method_14_code 2 = .ok (.invokevirtual 67, 3) := by decide +kernel
theorem d_Model_mustBeTrue_5 : decode prog_12_method_14_code 5 = .ok (.ifCond .eq 30, 3) := by decide +kernel
theorem d_Model_mustBeTrue_8 : decode prog_12_method_14_code 8 = .ok (.aload_n 0, 1) := by decide +kernel
theorem d_Model_mustBeTrue_9 : decode prog_12_method_14_code 9 = .ok (.dup, 1) := by decide +kernel
theorem d_Model_mustBeTrue_10 : decode prog_12_method_14_code 10 = .ok (.getfield 47, 3) := by decide +kernel
theorem d_Model_mustBeTrue_13 : decode prog_12_method_14_code 13 = .ok (.iconst 1, 1) := by decide +kernel
theorem d_Model_mustBeTrue_14 : decode prog_12_method_14_code 14 = .ok (.isub, 1) := by decide +kernel
theorem d_Model_mustBeTrue_15 : decode prog_12_method_14_code 15 = .ok (.putfield 47, 3) := by decide +kernel
theorem d_Model_mustBeTrue_18 : decode prog_12_method_14_code 18 = .ok (.aload_n 0, 1) := by decide +kernel
theorem d_Model_mustBeTrue_19 : decode prog_12_method_14_code 19 = .ok (.aload_n 0, 1) := by decide +kernel
theorem d_Model_mustBeTrue_20 : decode prog_12_method_14_code 20 = .ok (.getfield 47, 3) := by decide +kernel
theorem d_Model_mustBeTrue_23 : decode prog_12_method_14_code 23 = .ok (.invokevirtual 78, 3) := by decide +kernel
theorem d_Model_mustBeTrue_26 : decode prog_12_method_14_code 26 = .ok (.ifCond .ne 9, 3) := by decide +kernel
theorem d_Model_mustBeTrue_29 : decode prog_12_method_14_code 29 = .ok (.aload_n 0, 1) := by decide +kernel
theorem d_Model_mustBeTrue_30 : decode prog_12_method_14_code 30 = .ok (.bipush 8, 2) := by decide +kernel
theorem d_Model_mustBeTrue_32 : decode prog_12_method_14_code 32 = .ok (.invokevirtual 63, 3) := by decide +kernel
theorem d_Model_mustBeTrue_35 : decode prog_12_method_14_code 35 = .ok (.return_, 1) := by decide +kernel
theorem d_Model_equal_0 : decode prog_12_method_31_code 0 = .ok (.aload_n 0, 1) := by decide +kernel
theorem d_Model_equal_1 : decode prog_12_method_31_code 1 = .ok (.iconst 2, 1) := by decide +kernel
