theorem d_Model_pad_46 : decode prog_12_method_15_code 46 = .ok (.imul, 1) := by decide +kernel
theorem d_Model_pad_47 : decode prog_12_method_15_code 47 = .ok (.iload 5, 2) := by decide +kernel
theorem d_Model_pad_49 : decode prog_12_method_15_code 49 = .ok (.iadd, 1) := by decide +kernel
theorem d_Model_pad_50 : decode prog_12_method_15_code 50 = .ok (.iaload, 1) := by decide +kernel
theorem d_Model_pad_51 : decode prog_12_method_15_code 51 = .ok (.goto 16, 3) := by decide +kernel
theorem d_Model_pad_54 : decode prog_12_method_15_code 54 = .ok (.iload 5, 2) := by decide +kernel
theorem d_Model_pad_56 : decode prog_12_method_15_code 56 = .ok (.iload_n 3, 1) := by decide +kernel
theorem d_Model_pad_57 : decode prog_12_method_15_code 57 = .ok (.if_icmp .ne 9, 3) := by decide +kernel
theorem d_Model_pad_60 : decode prog_12_method_15_code 60 = .ok (.sipush 128, 3) := by decide +kernel
theorem d_Model_pad_63 : decode prog_12_method_15_code 63 = .ok (.goto 4, 3) := by decide +kernel
theorem d_Model_pad_66 : decode prog_12_method_15_code 66 = .ok (.iconst 0, 1) := by decide +kernel
theorem d_Model_pad_67 : decode prog_12_method_15_code 67 = .ok (.iastore, 1) := by decide +kernel
theorem d_Model_pad_68 : decode prog_12_method_15_code 68 = .ok (.iinc 5 1, 3) := by decide +kernel
theorem d_Model_pad_71 : decode prog_12_method_15_code 71 = .ok (.goto (-52), 3) := by decide +kernel
theorem d_Model_pad_74 : decode prog_12_method_15_code 74 = .ok (.bipush 8, 2) := by decide +kernel
theorem d_Model_pad_76 : decode prog_12_method_15_code 76 = .ok (.iload_n 3, 1) := by decide +kernel
theorem d_Model_pad_77 : decode prog_12_method_15_code 77 = .ok (.imul, 1) := by decide +kernel
theorem d_Model_pad_78 : decode prog_12_method_15_code 78 = .ok (.istore 5, 2) := by decide +kernel
theorem d_Model_pad_80 : decode prog_12_method_15_code 80 = .ok (.bipush 64, 2) := by decide +kernel
theorem d_Model_pad_82 : decode prog_12_method_15_code 82 = .ok (.iload 4, 2) := by decide +kernel
theorem d_Model_pad_84 : decode prog_12_method_15_code 84 = .ok (.imul, 1) := by decide +kernel
theorem d_Model_pad_85 : decode prog_12_method_15_code 85 = .ok (.istore 6, 2) := by decide +kernel
theorem d_Model_pad_87 : decode prog_12_method_15_code 87 = .ok (.aload_n 0, 1) := by decide +kernel
theorem d_Model_pad_88 : decode prog_12_method_15_code 88 = .ok (.getfield 26, 3) := by decide +kernel
theorem d_Model_pad_91 : decode prog_12_method_15_code 91 = .ok (.iload_n 2, 1) := by decide +kernel
theorem d_Model_pad_92 : decode prog_12_method_15_code 92 = .ok (.ifCond .eq 10, 3) := by decide +kernel
theorem d_Model_pad_95 : decode prog_12_method_15_code 95 = .ok (.iload 6, 2) := by decide +kernel
theorem d_Model_pad_97 : decode prog_12_method_15_code 97 = .ok (.iconst 1, 1) := by decide +kernel
theorem d_Model_pad_98 : decode prog_12_method_15_code 98 = .ok (.isub, 1) := by decide +kernel
theorem d_Model_pad_99 : decode prog_12_method_15_code 99 = .ok (.goto 8, 3) := by decide +kernel
theorem d_Model_pad_102 : decode prog_12_method_15_code 102 = .ok (.iload 6, 2) := by decide +kernel
theorem d_Model_pad_104 : decode prog_12_method_15_code 104 = .ok (.bipush 8, 2) := by decide +kernel
theorem d_Model_pad_106 : decode prog_12_method_15_code 106 = .ok (.isub, 1) := by decide +kernel
theorem d_Model_pad_107 : decode prog_12_method_15_code 107 = .ok (.iload 5, 2) := by decide +kernel
theorem d_Model_pad_109 : decode prog_12_method_15_code 109 = .ok (.sipush 256, 3) := by decide +kernel
theorem d_Model_pad_112 : decode prog_12_method_15_code 112 = .ok (.irem, 1) := by decide +kernel
theorem d_Model_pad_113 : decode prog_12_method_15_code 113 = .ok (.iastore, 1) := by decide +kernel
theorem d_Model_pad_114 : decode prog_12_method_15_code 114 = .ok (.aload_n 0, 1) := by decide +kernel
theorem d_Model_pad_115 : decode prog_12_method_15_code 115 = .ok (.getfield 26, 3) := by decide +kernel
theorem d_Model_pad_118 : decode prog_12_method_15_code 118 = .ok (.iload_n 2, 1) := by decide +kernel
theorem d_Model_pad_119 : decode prog_12_method_15_code 119 = .ok (.ifCond .eq 10, 3) := by decide +kernel
theorem d_Model_pad_122 : decode prog_12_method_15_code 122 = .ok (.iload 6, 2) := by decide +kernel
theorem d_Model_pad_124 : decode prog_12_method_15_code 124 = .ok (.iconst 2, 1) := by decide +kernel
theorem d_Model_pad_125 : decode prog_12_method_15_code 125 = .ok (.isub, 1) := by decide +kernel
theorem d_Model_pad_126 : decode prog_12_method_15_code 126 = .ok (.goto 8, 3) := by decide +kernel
theorem d_Model_pad_129 : decode prog_12_method_15_code 129 = .ok (.iload 6, 2) := by decide +kernel
theorem d_Model_pad_131 : decode prog_12_method_15_code 131 = .ok (.bipush 7, 2) := by decide +kernel
theorem d_Model_pad_133 : decode prog_12_method_15_code 133 = .ok (.isub, 1) := by decide +kernel
theorem d_Model_pad_134 : decode prog_12_method_15_code 134 = .ok (.iload 5, 2) := by decide +kernel
theorem d_Model_pad_136 : decode prog_12_method_15_code 136 = .ok (.sipush 256, 3) := by decide +kernel
theorem d_Model_pad_139 : decode prog_12_method_15_code 139 = .ok (.idiv, 1) := by decide +kernel
theorem d_Model_pad_140 : decode prog_12_method_15_code 140 = .ok (.iastore, 1) := by decide +kernel
theorem d_Model_pad_141 : decode prog_12_method_15_code 141 = .ok (.iload 4, 2) := by decide +kernel
theorem d_Model_pad_143 : decode prog_12_method_15_code 143 = .ok (.ireturn, 1) := by decide +kernel
theorem d_Model_mixed_0 : decode prog_12_method_18_code 0 = .ok (.iload_n 0, 1) := by decide +kernel
theorem d_Model_mixed_1 : decode prog_12_method_18_code 1 = .ok (.ifCond .ne 9, 3) := by decide +kernel
theorem d_Model_mixed_4 : decode prog_12_method_18_code 4 = .ok (.iload_n 1, 1) := by decide +kernel
theorem d_Model_mixed_5 : decode prog_12_method_18_code 5 = .ok (.iload_n 2, 1) := by decide +kernel
theorem d_Model_mixed_6 : decode prog_12_method_18_code 6 = .ok (.ixor, 1) := by decide +kernel
theorem d_Model_mixed_7 : decode prog_12_method_18_code 7 = .ok (.iload_n 3, 1) := by decide +kernel
theorem d_Model_mixed_8 : decode prog_12_method_18_code 8 = .ok (.ixor, 1) := by decide +kernel
theorem d_Model_mixed_9 : decode prog_12_method_18_code 9 = .ok (.ireturn, 1) := by decide +kernel
theorem d_Model_mixed_10 : decode prog_12_method_18_code 10 = .ok (.iload_n 0, 1) := by decide +kernel
theorem d_Model_mixed_11 : decode prog_12_method_18_code 11 = .ok (.iconst 1, 1) := by decide +kernel
theorem d_Model_mixed_12 : decode prog_12_method_18_code 12 = .ok (.if_icmp .ne 13, 3) := by decide +kernel
theorem d_Model_mixed_15 : decode prog_12_method_18_code 15 = .ok (.iload_n 1, 1) := by decide +kernel
theorem d_Model_mixed_16 : decode prog_12_method_18_code 16 = .ok (.iload_n 2, 1) := by decide +kernel
theorem d_Model_mixed_17 : decode prog_12_method_18_code 17 = .ok (.iand, 1) := by decide +kernel
theorem d_Model_mixed_18 : decode prog_12_method_18_code 18 = .ok (.iload_n 1, 1) := by decide +kernel
theorem d_Model_mixed_19 : decode prog_12_method_18_code 19 = .ok (.iconst (-1), 1) := by decide +kernel
theorem d_Model_mixed_20 : decode prog_12_method_18_code 20 = .ok (.ixor, 1) := by decide +kernel
theorem d_Model_mixed_21 : decode prog_12_method_18_code 21 = .ok (.iload_n 3, 1) := by decide +kernel
theorem d_Model_mixed_22 : decode prog_12_method_18_code 22 = .ok (.iand, 1) := by decide +kernel
theorem d_Model_mixed_23 : decode prog_12_method_18_code 23 = .ok (.ior, 1) := by decide +kernel
theorem d_Model_mixed_24 : decode prog_12_method_18_code 24 = .ok (.ireturn, 1) := by decide +kernel
theorem d_Model_mixed_25 : decode prog_12_method_18_code 25 = .ok (.iload_n 0, 1) := by decide +kernel
theorem d_Model_mixed_26 : decode prog_12_method_18_code 26 = .ok (.iconst 2, 1) := by decide +kernel
theorem d_Model_mixed_27 : decode prog_12_method_18_code 27 = .ok (.if_icmp .ne 11, 3) := by decide +kernel
theorem d_Model_mixed_30 : decode prog_12_method_18_code 30 = .ok (.iload_n 1, 1) := by decide +kernel
theorem d_Model_mixed_31 : decode prog_12_method_18_code 31 = .ok (.iload_n 2, 1) := by decide +kernel
theorem d_Model_mixed_32 : decode prog_12_method_18_code 32 = .ok (.iconst (-1), 1) := by decide +kernel
theorem d_Model_mixed_33 : decode prog_12_method_18_code 33 = .ok (.ixor, 1) := by decide +kernel
theorem d_Model_mixed_34 : decode prog_12_method_18_code 34 = .ok (.ior, 1) := by decide +kernel
theorem d_Model_mixed_35 : decode prog_12_method_18_code 35 = .ok (.iload_n 3, 1) := by decide +kernel
theorem d_Model_mixed_36 : decode prog_12_method_18_code 36 = .ok (.ixor, 1) := by decide +kernel
theorem d_Model_mixed_37 : decode prog_12_method_18_code 37 = .ok (.ireturn, 1) := by decide +kernel
theorem d_Model_mixed_38 : decode prog_12_method_18_code 38 = .ok (.iload_n 0, 1) := by decide +kernel
theorem d_Model_mixed_39 : decode prog_12_method_18_code 39 = .ok (.iconst 3, 1) := by decide +kernel
theorem d_Model_mixed_40 : decode prog_12_method_18_code 40 = .ok (.if_icmp .ne 15, 3) := by decide +kernel
theorem d_Model_mixed_43 : decode prog_12_method_18_code 43 = .ok (.iload_n 1, 1) := by decide +kernel
theorem d_Model_mixed_44 : decode prog_12_method_18_code 44 = .ok (.iload_n 3, 1) := by decide +kernel
theorem d_Model_mixed_45 : decode prog_12_method_18_code 45 = .ok (.iand, 1) := by decide +kernel
theorem d_Model_mixed_46 : decode prog_12_method_18_code 46 = .ok (.iload_n 2, 1) := by decide +kernel
theorem d_Model_mixed_47 : decode prog_12_method_18_code 47 = .ok (.iload_n 3, 1) := by decide +kernel
theorem d_Model_mixed_48 : decode prog_12_method_18_code 48 = .ok (.iconst (-1), 1) := by decide +kernel
theorem d_Model_mixed_49 : decode prog_12_method_18_code 49 = .ok (.ixor, 1) := by decide +kernel
theorem d_Model_mixed_50 : decode prog_12_method_18_code 50 = .ok (.iand, 1) := by decide +kernel
theorem d_Model_mixed_51 : decode prog_12_method_18_code 51 = .ok (.ior, 1) := by decide +kernel
theorem d_Model_mixed_52 : decode prog_12_method_18_code 52 = .ok (.goto 10, 3) := by decide +kernel
theorem d_Model_mixed_55 : decode prog_12_method_18_code 55 = .ok (.iload_n 1, 1) := by decide +kernel
theorem d_Model_mixed_56 : decode prog_12_method_18_code 56 = .ok (.iload_n 2, 1) := by decide +kernel
theorem d_Model_mixed_57 : decode prog_12_method_18_code 57 = .ok (.iload_n 3, 1) := by decide +kernel
theorem d_Model_mixed_58 : decode prog_12_method_18_code 58 = .ok (.iconst (-1), 1) := by decide +kernel
theorem d_Model_mixed_59 : decode prog_12_method_18_code 59 = .ok (.ixor, 1) := by decide +kernel
theorem d_Model_mixed_60 : decode prog_12_method_18_code 60 = .ok (.ior, 1) := by decide +kernel
theorem d_Model_mixed_61 : decode prog_12_method_18_code 61 = .ok (.ixor, 1) := by decide +kernel
theorem d_Model_mixed_62 : decode prog_12_method_18_code 62 = .ok (.ireturn, 1) := by decide +kernel
theorem d_Model_right_0 : decode prog_12_method_16_code 0 = .ok (.iload_n 0, 1) := by decide +kernel
theorem d_Model_right_1 : decode prog_12_method_16_code 1 = .ok (.iload_n 1, 1) := by decide +kernel
theorem d_Model_right_2 : decode prog_12_method_16_code 2 = .ok (.iushr, 1) := by decide +kernel
theorem d_Model_right_3 : decode prog_12_method_16_code 3 = .ok (.iload_n 0, 1) := by decide +kernel
theorem d_Model_right_4 : decode prog_12_method_16_code 4 = .ok (.bipush 32, 2) := by decide +kernel
theorem d_Model_right_6 : decode prog_12_method_16_code 6 = .ok (.iload_n 1, 1) := by decide +kernel
theorem d_Model_right_7 : decode prog_12_method_16_code 7 = .ok (.isub, 1) := by decide +kernel
theorem d_Model_right_8 : decode prog_12_method_16_code 8 = .ok (.ishl, 1) := by decide +kernel
theorem d_Model_right_9 : decode prog_12_method_16_code 9 = .ok (.ior, 1) := by decide +kernel
theorem d_Model_right_10 : decode prog_12_method_16_code 10 = .ok (.ireturn, 1) := by decide +kernel
theorem d_Model_step_0 : decode prog_12_method_20_code 0 = .ok (.aload_n 0, 1) := by decide +kernel
theorem d_Model_step_1 : decode prog_12_method_20_code 1 = .ok (.getfield 35, 3) := by decide +kernel
theorem d_Model_step_4 : decode prog_12_method_20_code 4 = .ok (.iload_n 1, 1) := by decide +kernel
theorem d_Model_step_5 : decode prog_12_method_20_code 5 = .ok (.iaload, 1) := by decide +kernel
theorem d_Model_step_6 : decode prog_12_method_20_code 6 = .ok (.iload_n 2, 1) := by decide +kernel
theorem d_Model_step_7 : decode prog_12_method_20_code 7 = .ok (.iadd, 1) := by decide +kernel
theorem d_Model_step_8 : decode prog_12_method_20_code 8 = .ok (.bipush 32, 2) := by decide +kernel
theorem d_Model_step_10 : decode prog_12_method_20_code 10 = .ok (.iload_n 3, 1) := by decide +kernel
theorem d_Model_step_11 : decode prog_12_method_20_code 11 = .ok (.isub, 1) := by decide +kernel
theorem d_Model_step_12 : decode prog_12_method_20_code 12 = .ok (.invokestatic 93, 3) := by decide +kernel
theorem d_Model_step_15 : decode prog_12_method_20_code 15 = .ok (.aload_n 0, 1) := by decide +kernel
theorem d_Model_step_16 : decode prog_12_method_20_code 16 = .ok (.getfield 35, 3) := by decide +kernel
theorem d_Model_step_19 : decode prog_12_method_20_code 19 = .ok (.iload_n 1, 1) := by decide +kernel
theorem d_Model_step_20 : decode prog_12_method_20_code 20 = .ok (.iconst 4, 1) := by decide +kernel
theorem d_Model_step_21 : decode prog_12_method_20_code 21 = .ok (.iadd, 1) := by decide +kernel
theorem d_Model_step_22 : decode prog_12_method_20_code 22 = .ok (.iaload, 1) := by decide +kernel
theorem d_Model_step_23 : decode prog_12_method_20_code 23 = .ok (.iadd, 1) := by decide +kernel
theorem d_Model_step_24 : decode prog_12_method_20_code 24 = .ok (.istore 4, 2) := by decide +kernel
theorem d_Model_step_26 : decode prog_12_method_20_code 26 = .ok (.aload_n 0, 1) := by decide +kernel
theorem d_Model_step_27 : decode prog_12_method_20_code 27 = .ok (.getfield 35, 3) := by decide +kernel
theorem d_Model_step_30 : decode prog_12_method_20_code 30 = .ok (.iload_n 1, 1) := by decide +kernel
theorem d_Model_step_31 : decode prog_12_method_20_code 31 = .ok (.aload_n 0, 1) := by decide +kernel
theorem d_Model_step_32 : decode prog_12_method_20_code 32 = .ok (.getfield 35, 3) := by decide +kernel
theorem d_Model_step_35 : decode prog_12_method_20_code 35 = .ok (.iload_n 1, 1) := by decide +kernel
theorem d_Model_step_36 : decode prog_12_method_20_code 36 = .ok (.iconst 4, 1) := by decide +kernel
theorem d_Model_step_37 : decode prog_12_method_20_code 37 = .ok (.iadd, 1) := by decide +kernel
theorem d_Model_step_38 : decode prog_12_method_20_code 38 = .ok (.iaload, 1) := by decide +kernel
theorem d_Model_step_39 : decode prog_12_method_20_code 39 = .ok (.iastore, 1) := by decide +kernel
theorem d_Model_step_40 : decode prog_12_method_20_code 40 = .ok (.aload_n 0, 1) := by decide +kernel
theorem d_Model_step_41 : decode prog_12_method_20_code 41 = .ok (.getfield 35, 3) := by decide +kernel
theorem d_Model_step_44 : decode prog_12_method_20_code 44 = .ok (.iload_n 1, 1) := by decide +kernel
theorem d_Model_step_45 : decode prog_12_method_20_code 45 = .ok (.iconst 4, 1) := by decide +kernel
theorem d_Model_step_46 : decode prog_12_method_20_code 46 = .ok (.iadd, 1) := by decide +kernel
theorem d_Model_step_47 : decode prog_12_method_20_code 47 = .ok (.aload_n 0, 1) := by decide +kernel
theorem d_Model_step_48 : decode prog_12_method_20_code 48 = .ok (.getfield 35, 3) := by decide +kernel
theorem d_Model_step_51 : decode prog_12_method_20_code 51 = .ok (.iload_n 1, 1) := by decide +kernel
theorem d_Model_step_52 : decode prog_12_method_20_code 52 = .ok (.iconst 3, 1) := by decide +kernel
theorem d_Model_step_53 : decode prog_12_method_20_code 53 = .ok (.iadd, 1) := by decide +kernel
theorem d_Model_step_54 : decode prog_12_method_20_code 54 = .ok (.iaload, 1) := by decide +kernel
theorem d_Model_step_55 : decode prog_12_method_20_code 55 = .ok (.iastore, 1) := by decide +kernel
theorem d_Model_step_56 : decode prog_12_method_20_code 56 = .ok (.aload_n 0, 1) := by decide +kernel
theorem d_Model_step_57 : decode prog_12_method_20_code 57 = .ok (.getfield 35, 3) := by decide +kernel
theorem d_Model_step_60 : decode prog_12_method_20_code 60 = .ok (.iload_n 1, 1) := by decide +kernel
theorem d_Model_step_61 : decode prog_12_method_20_code 61 = .ok (.iconst 3, 1) := by decide +kernel
theorem d_Model_step_62 : decode prog_12_method_20_code 62 = .ok (.iadd, 1) := by decide +kernel
theorem d_Model_step_63 : decode prog_12_method_20_code 63 = .ok (.aload_n 0, 1) := by decide +kernel
theorem d_Model_step_64 : decode prog_12_method_20_code 64 = .ok (.getfield 35, 3) := by decide +kernel
theorem d_Model_step_67 : decode prog_12_method_20_code 67 = .ok (.iload_n 1, 1) := by decide +kernel
theorem d_Model_step_68 : decode prog_12_method_20_code 68 = .ok (.iconst 2, 1) := by decide +kernel
theorem d_Model_step_69 : decode prog_12_method_20_code 69 = .ok (.iadd, 1) := by decide +kernel
theorem d_Model_step_70 : decode prog_12_method_20_code 70 = .ok (.iaload, 1) := by decide +kernel
theorem d_Model_step_71 : decode prog_12_method_20_code 71 = .ok (.bipush 22, 2) := by decide +kernel
theorem d_Model_step_73 : decode prog_12_method_20_code 73 = .ok (.invokestatic 93, 3) := by decide +kernel
theorem d_Model_step_76 : decode prog_12_method_20_code 76 = .ok (.iastore, 1) := by decide +kernel
theorem d_Model_step_77 : decode prog_12_method_20_code 77 = .ok (.aload_n 0, 1) := by decide +kernel
theorem d_Model_step_78 : decode prog_12_method_20_code 78 = .ok (.getfield 35, 3) := by decide +kernel
theorem d_Model_step_81 : decode prog_12_method_20_code 81 = .ok (.iload_n 1, 1) := by decide +kernel
theorem d_Model_step_82 : decode prog_12_method_20_code 82 = .ok (.iconst 2, 1) := by decide +kernel
theorem d_Model_step_83 : decode prog_12_method_20_code 83 = .ok (.iadd, 1) := by decide +kernel
theorem d_Model_step_84 : decode prog_12_method_20_code 84 = .ok (.aload_n 0, 1) := by decide +kernel
theorem d_Model_step_85 : decode prog_12_method_20_code 85 = .ok (.getfield 35, 3) := by decide +kernel
theorem d_Model_step_88 : decode prog_12_method_20_code 88 = .ok (.iload_n 1, 1) := by decide +kernel
theorem d_Model_step_89 : decode prog_12_method_20_code 89 = .ok (.iconst 1, 1) := by decide +kernel
theorem d_Model_step_90 : decode prog_12_method_20_code 90 = .ok (.iadd, 1) := by decide +kernel
theorem d_Model_step_91 : decode prog_12_method_20_code 91 = .ok (.iaload, 1) := by decide +kernel
theorem d_Model_step_92 : decode prog_12_method_20_code 92 = .ok (.iastore, 1) := by decide +kernel
theorem d_Model_step_93 : decode prog_12_method_20_code 93 = .ok (.aload_n 0, 1) := by decide +kernel
theorem d_Model_step_94 : decode prog_12_method_20_code 94 = .ok (.getfield 35, 3) := by decide +kernel
theorem d_Model_step_97 : decode prog_12_method_20_code 97 = .ok (.iload_n 1, 1) := by decide +kernel
theorem d_Model_step_98 : decode prog_12_method_20_code 98 = .ok (.iconst 1, 1) := by decide +kernel
theorem d_Model_step_99 : decode prog_12_method_20_code 99 = .ok (.iadd, 1) := by decide +kernel
theorem d_Model_step_100 : decode prog_12_method_20_code 100 = .ok (.iload 4, 2) := by decide +kernel
theorem d_Model_step_102 : decode prog_12_method_20_code 102 = .ok (.iastore, 1) := by decide +kernel
theorem d_Model_step_103 : decode prog_12_method_20_code 103 = .ok (.return_, 1) := by decide +kernel
theorem d_Model_small_0 : decode prog_12_method_19_code 0 = .ok (.aload_n 0, 1) := by decide +kernel
theorem d_Model_small_1 : decode prog_12_method_19_code 1 = .ok (.iload_n 1, 1) := by decide +kernel
theorem d_Model_small_2 : decode prog_12_method_19_code 2 = .ok (.iconst 0, 1) := by decide +kernel
theorem d_Model_small_3 : decode prog_12_method_19_code 3 = .ok (.invokevirtual 81, 3) := by decide +kernel
theorem d_Model_small_6 : decode prog_12_method_19_code 6 = .ok (.istore_n 2, 1) := by decide +kernel
theorem d_Model_small_7 : decode prog_12_method_19_code 7 = .ok (.aload_n 0, 1) := by decide +kernel
theorem d_Model_small_8 : decode prog_12_method_19_code 8 = .ok (.getfield 32, 3) := by decide +kernel
theorem d_Model_small_11 : decode prog_12_method_19_code 11 = .ok (.iconst 0, 1) := by decide +kernel
theorem d_Model_small_12 : decode prog_12_method_19_code 12 = .ok (.ldc 100, 2) := by decide +kernel
theorem d_Model_small_14 : decode prog_12_method_19_code 14 = .ok (.iastore, 1) := by decide +kernel
theorem d_Model_small_15 : decode prog_12_method_19_code 15 = .ok (.aload_n 0, 1) := by decide +kernel
theorem d_Model_small_16 : decode prog_12_method_19_code 16 = .ok (.getfield 32, 3) := by decide +kernel
theorem d_Model_small_19 : decode prog_12_method_19_code 19 = .ok (.iconst 1, 1) := by decide +kernel
theorem d_Model_small_20 : decode prog_12_method_19_code 20 = .ok (.ldc 101, 2) := by decide +kernel
theorem d_Model_small_22 : decode prog_12_method_19_code 22 = .ok (.iastore, 1) := by decide +kernel
theorem d_Model_small_23 : decode prog_12_method_19_code 23 = .ok (.aload_n 0, 1) := by decide +kernel
theorem d_Model_small_24 : decode prog_12_method_19_code 24 = .ok (.getfield 32, 3) := by decide +kernel
theorem d_Model_small_27 : decode prog_12_method_19_code 27 = .ok (.iconst 2, 1) := by decide +kernel
theorem d_Model_small_28 : decode prog_12_method_19_code 28 = .ok (.ldc 102, 2) := by decide +kernel
theorem d_Model_small_30 : decode prog_12_method_19_code 30 = .ok (.iastore, 1) := by decide +kernel
theorem d_Model_small_31 : decode prog_12_method_19_code 31 = .ok (.aload_n 0, 1) := by decide +kernel
theorem d_Model_small_32 : decode prog_12_method_19_code 32 = .ok (.getfield 32, 3) := by decide +kernel
theorem d_Model_small_35 : decode prog_12_method_19_code 35 = .ok (.iconst 3, 1) := by decide +kernel
theorem d_Model_small_36 : decode prog_12_method_19_code 36 = .ok (.ldc 103, 2) := by decide +kernel
theorem d_Model_small_38 : decode prog_12_method_19_code 38 = .ok (.iastore, 1) := by decide +kernel
theorem d_Model_small_39 : decode prog_12_method_19_code 39 = .ok (.aload_n 0, 1) := by decide +kernel
theorem d_Model_small_40 : decode prog_12_method_19_code 40 = .ok (.getfield 32, 3) := by decide +kernel
theorem d_Model_small_43 : decode prog_12_method_19_code 43 = .ok (.iconst 4, 1) := by decide +kernel
theorem d_Model_small_44 : decode prog_12_method_19_code 44 = .ok (.ldc 104, 2) := by decide +kernel
theorem d_Model_small_46 : decode prog_12_method_19_code 46 = .ok (.iastore, 1) := by decide +kernel
theorem d_Model_small_47 : decode prog_12_method_19_code 47 = .ok (.iconst 0, 1) := by decide +kernel
theorem d_Model_small_48 : decode prog_12_method_19_code 48 = .ok (.istore_n 3, 1) := by decide +kernel
theorem d_Model_small_49 : decode prog_12_method_19_code 49 = .ok (.iload_n 3, 1) := by decide +kernel
theorem d_Model_small_50 : decode prog_12_method_19_code 50 = .ok (.iload_n 2, 1) := by decide +kernel
theorem d_Model_small_51 : decode prog_12_method_19_code 51 = .ok (.if_icmp .ge 477, 3) := by decide +kernel
theorem d_Model_small_54 : decode prog_12_method_19_code 54 = .ok (.iconst 0, 1) := by decide +kernel
theorem d_Model_small_55 : decode prog_12_method_19_code 55 = .ok (.istore 4, 2) := by decide +kernel
theorem d_Model_small_57 : decode prog_12_method_19_code 57 = .ok (.iload 4, 2) := by decide +kernel
theorem d_Model_small_59 : decode prog_12_method_19_code 59 = .ok (.bipush 16, 2) := by decide +kernel
theorem d_Model_small_61 : decode prog_12_method_19_code 61 = .ok (.if_icmp .ge 73, 3) := by decide +kernel
theorem d_Model_small_64 : decode prog_12_method_19_code 64 = .ok (.bipush 64, 2) := by decide +kernel
theorem d_Model_small_66 : decode prog_12_method_19_code 66 = .ok (.iload_n 3, 1) := by decide +kernel
theorem d_Model_small_67 : decode prog_12_method_19_code 67 = .ok (.imul, 1) := by decide +kernel
theorem d_Model_small_68 : decode prog_12_method_19_code 68 = .ok (.iconst 4, 1) := by decide +kernel
theorem d_Model_small_69 : decode prog_12_method_19_code 69 = .ok (.iload 4, 2) := by decide +kernel
theorem d_Model_small_71 : decode prog_12_method_19_code 71 = .ok (.imul, 1) := by decide +kernel
theorem d_Model_small_72 : decode prog_12_method_19_code 72 = .ok (.iadd, 1) := by decide +kernel
theorem d_Model_small_73 : decode prog_12_method_19_code 73 = .ok (.istore 5, 2) := by decide +kernel
theorem d_Model_small_75 : decode prog_12_method_19_code 75 = .ok (.aload_n 0, 1) := by decide +kernel
theorem d_Model_small_76 : decode prog_12_method_19_code 76 = .ok (.getfield 29, 3) := by decide +kernel
theorem d_Model_small_79 : decode prog_12_method_19_code 79 = .ok (.iload 4, 2) := by decide +kernel
theorem d_Model_small_81 : decode prog_12_method_19_code 81 = .ok (.aload_n 0, 1) := by decide +kernel
theorem d_Model_small_82 : decode prog_12_method_19_code 82 = .ok (.getfield 26, 3) := by decide +kernel
theorem d_Model_small_85 : decode prog_12_method_19_code 85 = .ok (.iload 5, 2) := by decide +kernel
theorem d_Model_small_87 : decode prog_12_method_19_code 87 = .ok (.iconst 3, 1) := by decide +kernel
theorem d_Model_small_88 : decode prog_12_method_19_code 88 = .ok (.iadd, 1) := by decide +kernel
theorem d_Model_small_89 : decode prog_12_method_19_code 89 = .ok (.iaload, 1) := by decide +kernel
theorem d_Model_small_90 : decode prog_12_method_19_code 90 = .ok (.bipush 24, 2) := by decide +kernel
theorem d_Model_small_92 : decode prog_12_method_19_code 92 = .ok (.ishl, 1) := by decide +kernel
theorem d_Model_small_93 : decode prog_12_method_19_code 93 = .ok (.aload_n 0, 1) := by decide +kernel
theorem d_Model_small_94 : decode prog_12_method_19_code 94 = .ok (.getfield 26, 3) := by decide +kernel
theorem d_Model_small_97 : decode prog_12_method_19_code 97 = .ok (.iload 5, 2) := by decide +kernel
theorem d_Model_small_99 : decode prog_12_method_19_code 99 = .ok (.iconst 2, 1) := by decide +kernel
theorem d_Model_small_100 : decode prog_12_method_19_code 100 = .ok (.iadd, 1) := by decide +kernel
theorem d_Model_small_101 : decode prog_12_method_19_code 101 = .ok (.iaload, 1) := by decide +kernel
theorem d_Model_small_102 : decode prog_12_method_19_code 102 = .ok (.bipush 16, 2) := by decide +kernel
theorem d_Model_small_104 : decode prog_12_method_19_code 104 = .ok (.ishl, 1) := by decide +kernel
theorem d_Model_small_105 : decode prog_12_method_19_code 105 = .ok (.ior, 1) := by decide +kernel
theorem d_Model_small_106 : decode prog_12_method_19_code 106 = .ok (.aload_n 0, 1) := by decide +kernel
theorem d_Model_small_107 : decode prog_12_method_19_code 107 = .ok (.getfield 26, 3) := by decide +kernel
theorem d_Model_small_110 : decode prog_12_method_19_code 110 = .ok (.iload 5, 2) := by decide +kernel
theorem d_Model_small_112 : decode prog_12_method_19_code 112 = .ok (.iconst 1, 1) := by decide +kernel
theorem d_Model_small_113 : decode prog_12_method_19_code 113 = .ok (.iadd, 1) := by decide +kernel
theorem d_Model_small_114 : decode prog_12_method_19_code 114 = .ok (.iaload, 1) := by decide +kernel
theorem d_Model_small_115 : decode prog_12_method_19_code 115 = .ok (.bipush 8, 2) := by decide +kernel
theorem d_Model_small_117 : decode prog_12_method_19_code 117 = .ok (.ishl, 1) := by decide +kernel
theorem d_Model_small_118 : decode prog_12_method_19_code 118 = .ok (.ior, 1) := by decide +kernel
theorem d_Model_small_119 : decode prog_12_method_19_code 119 = .ok (.aload_n 0, 1) := by decide +kernel
theorem d_Model_small_120 : decode prog_12_method_19_code 120 = .ok (.getfield 26, 3) := by decide +kernel
theorem d_Model_small_123 : decode prog_12_method_19_code 123 = .ok (.iload 5, 2) := by decide +kernel
theorem d_Model_small_125 : decode prog_12_method_19_code 125 = .ok (.iaload, 1) := by decide +kernel
theorem d_Model_small_126 : decode prog_12_method_19_code 126 = .ok (.ior, 1) := by decide +kernel
theorem d_Model_small_127 : decode prog_12_method_19_code 127 = .ok (.iastore, 1) := by decide +kernel
theorem d_Model_small_128 : decode prog_12_method_19_code 128 = .ok (.iinc 4 1, 3) := by decide +kernel
theorem d_Model_small_131 : decode prog_12_method_19_code 131 = .ok (.goto (-74), 3) := by decide +kernel
theorem d_Model_small_134 : decode prog_12_method_19_code 134 = .ok (.iconst 0, 1) := by decide +kernel
theorem d_Model_small_135 : decode prog_12_method_19_code 135 = .ok (.istore 4, 2) := by decide +kernel
theorem d_Model_small_137 : decode prog_12_method_19_code 137 = .ok (.iload 4, 2) := by decide +kernel
theorem d_Model_small_139 : decode prog_12_method_19_code 139 = .ok (.bipush 10, 2) := by decide +kernel
theorem d_Model_small_141 : decode prog_12_method_19_code 141 = .ok (.if_icmp .ge 25, 3) := by decide +kernel
theorem d_Model_small_144 : decode prog_12_method_19_code 144 = .ok (.aload_n 0, 1) := by decide +kernel
theorem d_Model_small_145 : decode prog_12_method_19_code 145 = .ok (.getfield 35, 3) := by decide +kernel
theorem d_Model_small_148 : decode prog_12_method_19_code 148 = .ok (.iload 4, 2) := by decide +kernel
theorem d_Model_small_150 : decode prog_12_method_19_code 150 = .ok (.aload_n 0, 1) := by decide +kernel
theorem d_Model_small_151 : decode prog_12_method_19_code 151 = .ok (.getfield 32, 3) := by decide +kernel
theorem d_Model_small_154 : decode prog_12_method_19_code 154 = .ok (.iload 4, 2) := by decide +kernel
theorem d_Model_small_156 : decode prog_12_method_19_code 156 = .ok (.iconst 5, 1) := by decide +kernel
theorem d_Model_small_157 : decode prog_12_method_19_code 157 = .ok (.irem, 1) := by decide +kernel
theorem d_Model_small_158 : decode prog_12_method_19_code 158 = .ok (.iaload, 1) := by decide +kernel
theorem d_Model_small_159 : decode prog_12_method_19_code 159 = .ok (.iastore, 1) := by decide +kernel
theorem d_Model_small_160 : decode prog_12_method_19_code 160 = .ok (.iinc 4 1, 3) := by decide +kernel
theorem d_Model_small_163 : decode prog_12_method_19_code 163 = .ok (.goto (-26), 3) := by decide +kernel
theorem d_Model_small_166 : decode prog_12_method_19_code 166 = .ok (.iconst 0, 1) := by decide +kernel
theorem d_Model_small_167 : decode prog_12_method_19_code 167 = .ok (.istore 4, 2) := by decide +kernel
theorem d_Model_small_169 : decode prog_12_method_19_code 169 = .ok (.iload 4, 2) := by decide +kernel
theorem d_Model_small_171 : decode prog_12_method_19_code 171 = .ok (.bipush 80, 2) := by decide +kernel
theorem d_Model_small_173 : decode prog_12_method_19_code 173 = .ok (.if_icmp .ge 211, 3) := by decide +kernel
theorem d_Model_small_176 : decode prog_12_method_19_code 176 = .ok (.iload 4, 2) := by decide +kernel
theorem d_Model_small_178 : decode prog_12_method_19_code 178 = .ok (.bipush 16, 2) := by decide +kernel
theorem d_Model_small_180 : decode prog_12_method_19_code 180 = .ok (.idiv, 1) := by decide +kernel
theorem d_Model_small_181 : decode prog_12_method_19_code 181 = .ok (.istore 5, 2) := by decide +kernel
theorem d_Model_small_183 : decode prog_12_method_19_code 183 = .ok (.iload 5, 2) := by decide +kernel
theorem d_Model_small_185 : decode prog_12_method_19_code 185 = .ok (.ifCond .ne 7, 3) := by decide +kernel
theorem d_Model_small_188 : decode prog_12_method_19_code 188 = .ok (.iconst 0, 1) := by decide +kernel
theorem d_Model_small_189 : decode prog_12_method_19_code 189 = .ok (.goto 38, 3) := by decide +kernel
theorem d_Model_small_192 : decode prog_12_method_19_code 192 = .ok (.iload 5, 2) := by decide +kernel
theorem d_Model_small_194 : decode prog_12_method_19_code 194 = .ok (.iconst 1, 1) := by decide +kernel
theorem d_Model_small_195 : decode prog_12_method_19_code 195 = .ok (.if_icmp .ne 8, 3) := by decide +kernel
theorem d_Model_small_198 : decode prog_12_method_19_code 198 = .ok (.ldc 105, 2) := by decide +kernel
theorem d_Model_small_200 : decode prog_12_method_19_code 200 = .ok (.goto 27, 3) := by decide +kernel
theorem d_Model_small_203 : decode prog_12_method_19_code 203 = .ok (.iload 5, 2) := by decide +kernel
theorem d_Model_small_205 : decode prog_12_method_19_code 205 = .ok (.iconst 2, 1) := by decide +kernel
theorem d_Model_small_206 : decode prog_12_method_19_code 206 = .ok (.if_icmp .ne 8, 3) := by decide +kernel
theorem d_Model_small_209 : decode prog_12_method_19_code 209 = .ok (.ldc 106, 2) := by decide +kernel
theorem d_Model_small_211 : decode prog_12_method_19_code 211 = .ok (.goto 16, 3) := by decide +kernel
theorem d_Model_small_214 : decode prog_12_method_19_code 214 = .ok (.iload 5, 2) := by decide +kernel
theorem d_Model_small_216 : decode prog_12_method_19_code 216 = .ok (.iconst 3, 1) := by decide +kernel
theorem d_Model_small_217 : decode prog_12_method_19_code 217 = .ok (.if_icmp .ne 8, 3) := by decide +kernel
theorem d_Model_small_220 : decode prog_12_method_19_code 220 = .ok (.ldc 107, 2) := by decide +kernel
theorem d_Model_small_222 : decode prog_12_method_19_code 222 = .ok (.goto 5, 3) := by decide +kernel
theorem d_Model_small_225 : decode prog_12_method_19_code 225 = .ok (.ldc 108, 2) := by decide +kernel
theorem d_Model_small_227 : decode prog_12_method_19_code 227 = .ok (.istore 6, 2) := by decide +kernel
theorem d_Model_small_229 : decode prog_12_method_19_code 229 = .ok (.iload 5, 2) := by decide +kernel
theorem d_Model_small_231 : decode prog_12_method_19_code 231 = .ok (.ifCond .ne 8, 3) := by decide +kernel
theorem d_Model_small_234 : decode prog_12_method_19_code 234 = .ok (.ldc 109, 2) := by decide +kernel
theorem d_Model_small_236 : decode prog_12_method_19_code 236 = .ok (.goto 37, 3) := by decide +kernel
theorem d_Model_small_239 : decode prog_12_method_19_code 239 = .ok (.iload 5, 2) := by decide +kernel
theorem d_Model_small_241 : decode prog_12_method_19_code 241 = .ok (.iconst 1, 1) := by decide +kernel
theorem d_Model_small_242 : decode prog_12_method_19_code 242 = .ok (.if_icmp .ne 8, 3) := by decide +kernel
theorem d_Model_small_245 : decode prog_12_method_19_code 245 = .ok (.ldc 110, 2) := by decide +kernel
theorem d_Model_small_247 : decode prog_12_method_19_code 247 = .ok (.goto 26, 3) := by decide +kernel
theorem d_Model_small_250 : decode prog_12_method_19_code 250 = .ok (.iload 5, 2) := by decide +kernel
theorem d_Model_small_252 : decode prog_12_method_19_code 252 = .ok (.iconst 2, 1) := by decide +kernel
theorem d_Model_small_253 : decode prog_12_method_19_code 253 = .ok (.if_icmp .ne 8, 3) := by decide +kernel
theorem d_Model_small_256 : decode prog_12_method_19_code 256 = .ok (.ldc 111, 2) := by decide +kernel
theorem d_Model_small_258 : decode prog_12_method_19_code 258 = .ok (.goto 15, 3) := by decide +kernel
theorem d_Model_small_261 : decode prog_12_method_19_code 261 = .ok (.iload 5, 2) := by decide +kernel
theorem d_Model_small_263 : decode prog_12_method_19_code 263 = .ok (.iconst 3, 1) := by decide +kernel
theorem d_Model_small_264 : decode prog_12_method_19_code 264 = .ok (.if_icmp .ne 8, 3) := by decide +kernel
theorem d_Model_small_267 : decode prog_12_method_19_code 267 = .ok (.ldc 112, 2) := by decide +kernel
theorem d_Model_small_269 : decode prog_12_method_19_code 269 = .ok (.goto 4, 3) := by decide +kernel
theorem d_Model_small_272 : decode prog_12_method_19_code 272 = .ok (.iconst 0, 1) := by decide +kernel
theorem d_Model_small_273 : decode prog_12_method_19_code 273 = .ok (.istore 7, 2) := by decide +kernel
theorem d_Model_small_275 : decode prog_12_method_19_code 275 = .ok (.aload_n 0, 1) := by decide +kernel
theorem d_Model_small_276 : decode prog_12_method_19_code 276 = .ok (.iconst 0, 1) := by decide +kernel
theorem d_Model_small_277 : decode prog_12_method_19_code 277 = .ok (.iload 5, 2) := by decide +kernel
theorem d_Model_small_279 : decode prog_12_method_19_code 279 = .ok (.aload_n 0, 1) := by decide +kernel
theorem d_Model_small_280 : decode prog_12_method_19_code 280 = .ok (.getfield 35, 3) := by decide +kernel
theorem d_Model_small_283 : decode prog_12_method_19_code 283 = .ok (.iconst 1, 1) := by decide +kernel
theorem d_Model_small_284 : decode prog_12_method_19_code 284 = .ok (.iaload, 1) := by decide +kernel
theorem d_Model_small_285 : decode prog_12_method_19_code 285 = .ok (.aload_n 0, 1) := by decide +kernel
theorem d_Model_small_286 : decode prog_12_method_19_code 286 = .ok (.getfield 35, 3) := by decide +kernel
theorem d_Model_small_289 : decode prog_12_method_19_code 289 = .ok (.iconst 2, 1) := by decide +kernel
theorem d_Model_small_290 : decode prog_12_method_19_code 290 = .ok (.iaload, 1) := by decide +kernel
theorem d_Model_small_291 : decode prog_12_method_19_code 291 = .ok (.aload_n 0, 1) := by decide +kernel
theorem d_Model_small_292 : decode prog_12_method_19_code 292 = .ok (.getfield 35, 3) := by decide +kernel
theorem d_Model_small_295 : decode prog_12_method_19_code 295 = .ok (.iconst 3, 1) := by decide +kernel
theorem d_Model_small_296 : decode prog_12_method_19_code 296 = .ok (.iaload, 1) := by decide +kernel
theorem d_Model_small_297 : decode prog_12_method_19_code 297 = .ok (.invokestatic 113, 3) := by decide +kernel
theorem d_Model_small_300 : decode prog_12_method_19_code 300 = .ok (.aload_n 0, 1) := by decide +kernel
theorem d_Model_small_301 : decode prog_12_method_19_code 301 = .ok (.getfield 29, 3) := by decide +kernel
theorem d_Model_small_304 : decode prog_12_method_19_code 304 = .ok (.getstatic 117, 3) := by decide +kernel
theorem d_Model_small_307 : decode prog_12_method_19_code 307 = .ok (.iload 4, 2) := by decide +kernel
theorem d_Model_small_309 : decode prog_12_method_19_code 309 = .ok (.iaload, 1) := by decide +kernel
theorem d_Model_small_310 : decode prog_12_method_19_code 310 = .ok (.iaload, 1) := by decide +kernel
theorem d_Model_small_311 : decode prog_12_method_19_code 311 = .ok (.iadd, 1) := by decide +kernel
theorem d_Model_small_312 : decode prog_12_method_19_code 312 = .ok (.iload 6, 2) := by decide +kernel
theorem d_Model_small_314 : decode prog_12_method_19_code 314 = .ok (.iadd, 1) := by decide +kernel
theorem d_Model_small_315 : decode prog_12_method_19_code 315 = .ok (.getstatic 120, 3) := by decide +kernel
theorem d_Model_small_318 : decode prog_12_method_19_code 318 = .ok (.iload 4, 2) := by decide +kernel
theorem d_Model_small_320 : decode prog_12_method_19_code 320 = .ok (.iaload, 1) := by decide +kernel
theorem d_Model_small_321 : decode prog_12_method_19_code 321 = .ok (.invokevirtual 123, 3) := by decide +kernel
theorem d_Model_small_324 : decode prog_12_method_19_code 324 = .ok (.aload_n 0, 1) := by decide +kernel
theorem d_Model_small_325 : decode prog_12_method_19_code 325 = .ok (.iconst 5, 1) := by decide +kernel
theorem d_Model_small_326 : decode prog_12_method_19_code 326 = .ok (.iconst 4, 1) := by decide +kernel
theorem d_Model_small_327 : decode prog_12_method_19_code 327 = .ok (.iload 5, 2) := by decide +kernel
theorem d_Model_small_329 : decode prog_12_method_19_code 329 = .ok (.isub, 1) := by decide +kernel
theorem d_Model_small_330 : decode prog_12_method_19_code 330 = .ok (.aload_n 0, 1) := by decide +kernel
theorem d_Model_small_331 : decode prog_12_method_19_code 331 = .ok (.getfield 35, 3) := by decide +kernel
theorem d_Model_small_334 : decode prog_12_method_19_code 334 = .ok (.bipush 6, 2) := by decide +kernel
theorem d_Model_small_336 : decode prog_12_method_19_code 336 = .ok (.iaload, 1) := by decide +kernel
theorem d_Model_small_337 : decode prog_12_method_19_code 337 = .ok (.aload_n 0, 1) := by decide +kernel
theorem d_Model_small_338 : decode prog_12_method_19_code 338 = .ok (.getfield 35, 3) := by decide +kernel
theorem d_Model_small_341 : decode prog_12_method_19_code 341 = .ok (.bipush 7, 2) := by decide +kernel
theorem d_Model_small_343 : decode prog_12_method_19_code 343 = .ok (.iaload, 1) := by decide +kernel
theorem d_Model_small_344 : decode prog_12_method_19_code 344 = .ok (.aload_n 0, 1) := by decide +kernel
theorem d_Model_small_345 : decode prog_12_method_19_code 345 = .ok (.getfield 35, 3) := by decide +kernel
theorem d_Model_small_348 : decode prog_12_method_19_code 348 = .ok (.bipush 8, 2) := by decide +kernel
theorem d_Model_small_350 : decode prog_12_method_19_code 350 = .ok (.iaload, 1) := by decide +kernel
theorem d_Model_small_351 : decode prog_12_method_19_code 351 = .ok (.invokestatic 113, 3) := by decide +kernel
theorem d_Model_small_354 : decode prog_12_method_19_code 354 = .ok (.aload_n 0, 1) := by decide +kernel
theorem d_Model_small_355 : decode prog_12_method_19_code 355 = .ok (.getfield 29, 3) := by decide +kernel
theorem d_Model_small_358 : decode prog_12_method_19_code 358 = .ok (.getstatic 127, 3) := by decide +kernel
theorem d_Model_small_361 : decode prog_12_method_19_code 361 = .ok (.iload 4, 2) := by decide +kernel
theorem d_Model_small_363 : decode prog_12_method_19_code 363 = .ok (.iaload, 1) := by decide +kernel
theorem d_Model_small_364 : decode prog_12_method_19_code 364 = .ok (.iaload, 1) := by decide +kernel
theorem d_Model_small_365 : decode prog_12_method_19_code 365 = .ok (.iadd, 1) := by decide +kernel
theorem d_Model_small_366 : decode prog_12_method_19_code 366 = .ok (.iload 7, 2) := by decide +kernel
theorem d_Model_small_368 : decode prog_12_method_19_code 368 = .ok (.iadd, 1) := by decide +kernel
