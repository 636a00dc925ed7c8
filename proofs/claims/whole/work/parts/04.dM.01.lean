theorem d_Model_equal_2 : decode prog_12_method_31_code 2 = .ok (.invokevirtual 67, 3) := by decide +kernel
theorem d_Model_equal_5 : decode prog_12_method_31_code 5 = .ok (.ifCond .ne 4, 3) := by decide +kernel
theorem d_Model_equal_8 : decode prog_12_method_31_code 8 = .ok (.return_, 1) := by decide +kernel
theorem d_Model_equal_9 : decode prog_12_method_31_code 9 = .ok (.aload_n 0, 1) := by decide +kernel
theorem d_Model_equal_10 : decode prog_12_method_31_code 10 = .ok (.aload_n 0, 1) := by decide +kernel
theorem d_Model_equal_11 : decode prog_12_method_31_code 11 = .ok (.iconst 0, 1) := by decide +kernel
theorem d_Model_equal_12 : decode prog_12_method_31_code 12 = .ok (.invokevirtual 71, 3) := by decide +kernel
theorem d_Model_equal_15 : decode prog_12_method_31_code 15 = .ok (.aload_n 0, 1) := by decide +kernel
theorem d_Model_equal_16 : decode prog_12_method_31_code 16 = .ok (.iconst 1, 1) := by decide +kernel
theorem d_Model_equal_17 : decode prog_12_method_31_code 17 = .ok (.invokevirtual 71, 3) := by decide +kernel
theorem d_Model_equal_20 : decode prog_12_method_31_code 20 = .ok (.invokevirtual 182, 3) := by decide +kernel
theorem d_Model_equal_23 : decode prog_12_method_31_code 23 = .ok (.istore_n 2, 1) := by decide +kernel
theorem d_Model_equal_24 : decode prog_12_method_31_code 24 = .ok (.aload_n 0, 1) := by decide +kernel
theorem d_Model_equal_25 : decode prog_12_method_31_code 25 = .ok (.dup, 1) := by decide +kernel
theorem d_Model_equal_26 : decode prog_12_method_31_code 26 = .ok (.getfield 47, 3) := by decide +kernel
theorem d_Model_equal_29 : decode prog_12_method_31_code 29 = .ok (.iconst 2, 1) := by decide +kernel
theorem d_Model_equal_30 : decode prog_12_method_31_code 30 = .ok (.isub, 1) := by decide +kernel
theorem d_Model_equal_31 : decode prog_12_method_31_code 31 = .ok (.putfield 47, 3) := by decide +kernel
theorem d_Model_equal_34 : decode prog_12_method_31_code 34 = .ok (.aload_n 0, 1) := by decide +kernel
theorem d_Model_equal_35 : decode prog_12_method_31_code 35 = .ok (.iload_n 2, 1) := by decide +kernel
theorem d_Model_equal_36 : decode prog_12_method_31_code 36 = .ok (.invokevirtual 142, 3) := by decide +kernel
theorem d_Model_equal_39 : decode prog_12_method_31_code 39 = .ok (.iload_n 1, 1) := by decide +kernel
theorem d_Model_equal_40 : decode prog_12_method_31_code 40 = .ok (.ifCond .eq 7, 3) := by decide +kernel
theorem d_Model_equal_43 : decode prog_12_method_31_code 43 = .ok (.aload_n 0, 1) := by decide +kernel
theorem d_Model_equal_44 : decode prog_12_method_31_code 44 = .ok (.invokevirtual 146, 3) := by decide +kernel
theorem d_Model_equal_47 : decode prog_12_method_31_code 47 = .ok (.return_, 1) := by decide +kernel
theorem d_Model_reads_0 : decode prog_12_method_13_code 0 = .ok (.aload_n 0, 1) := by decide +kernel
theorem d_Model_reads_1 : decode prog_12_method_13_code 1 = .ok (.iload_n 1, 1) := by decide +kernel
theorem d_Model_reads_2 : decode prog_12_method_13_code 2 = .ok (.iconst 1, 1) := by decide +kernel
theorem d_Model_reads_3 : decode prog_12_method_13_code 3 = .ok (.iadd, 1) := by decide +kernel
theorem d_Model_reads_4 : decode prog_12_method_13_code 4 = .ok (.invokevirtual 67, 3) := by decide +kernel
theorem d_Model_reads_7 : decode prog_12_method_13_code 7 = .ok (.ifCond .ne 5, 3) := by decide +kernel
theorem d_Model_reads_10 : decode prog_12_method_13_code 10 = .ok (.iconst 0, 1) := by decide +kernel
theorem d_Model_reads_11 : decode prog_12_method_13_code 11 = .ok (.ireturn, 1) := by decide +kernel
theorem d_Model_reads_12 : decode prog_12_method_13_code 12 = .ok (.aload_n 0, 1) := by decide +kernel
theorem d_Model_reads_13 : decode prog_12_method_13_code 13 = .ok (.iload_n 1, 1) := by decide +kernel
theorem d_Model_reads_14 : decode prog_12_method_13_code 14 = .ok (.invokevirtual 71, 3) := by decide +kernel
theorem d_Model_reads_17 : decode prog_12_method_13_code 17 = .ok (.istore_n 2, 1) := by decide +kernel
theorem d_Model_reads_18 : decode prog_12_method_13_code 18 = .ok (.aload_n 0, 1) := by decide +kernel
theorem d_Model_reads_19 : decode prog_12_method_13_code 19 = .ok (.getfield 13, 3) := by decide +kernel
theorem d_Model_reads_22 : decode prog_12_method_13_code 22 = .ok (.iload_n 2, 1) := by decide +kernel
theorem d_Model_reads_23 : decode prog_12_method_13_code 23 = .ok (.iaload, 1) := by decide +kernel
theorem d_Model_reads_24 : decode prog_12_method_13_code 24 = .ok (.iconst 4, 1) := by decide +kernel
theorem d_Model_reads_25 : decode prog_12_method_13_code 25 = .ok (.if_icmp .le 11, 3) := by decide +kernel
theorem d_Model_reads_28 : decode prog_12_method_13_code 28 = .ok (.aload_n 0, 1) := by decide +kernel
theorem d_Model_reads_29 : decode prog_12_method_13_code 29 = .ok (.bipush 6, 2) := by decide +kernel
theorem d_Model_reads_31 : decode prog_12_method_13_code 31 = .ok (.invokevirtual 63, 3) := by decide +kernel
theorem d_Model_reads_34 : decode prog_12_method_13_code 34 = .ok (.iconst 0, 1) := by decide +kernel
theorem d_Model_reads_35 : decode prog_12_method_13_code 35 = .ok (.ireturn, 1) := by decide +kernel
theorem d_Model_reads_36 : decode prog_12_method_13_code 36 = .ok (.aload_n 0, 1) := by decide +kernel
theorem d_Model_reads_37 : decode prog_12_method_13_code 37 = .ok (.lconst 0, 1) := by decide +kernel
theorem d_Model_reads_38 : decode prog_12_method_13_code 38 = .ok (.putfield 75, 3) := by decide +kernel
theorem d_Model_reads_41 : decode prog_12_method_13_code 41 = .ok (.aload_n 0, 1) := by decide +kernel
theorem d_Model_reads_42 : decode prog_12_method_13_code 42 = .ok (.getfield 13, 3) := by decide +kernel
theorem d_Model_reads_45 : decode prog_12_method_13_code 45 = .ok (.iload_n 2, 1) := by decide +kernel
theorem d_Model_reads_46 : decode prog_12_method_13_code 46 = .ok (.iaload, 1) := by decide +kernel
theorem d_Model_reads_47 : decode prog_12_method_13_code 47 = .ok (.iconst 1, 1) := by decide +kernel
theorem d_Model_reads_48 : decode prog_12_method_13_code 48 = .ok (.isub, 1) := by decide +kernel
theorem d_Model_reads_49 : decode prog_12_method_13_code 49 = .ok (.istore_n 3, 1) := by decide +kernel
theorem d_Model_reads_50 : decode prog_12_method_13_code 50 = .ok (.iload_n 3, 1) := by decide +kernel
theorem d_Model_reads_51 : decode prog_12_method_13_code 51 = .ok (.ifCond .lt 59, 3) := by decide +kernel
theorem d_Model_reads_54 : decode prog_12_method_13_code 54 = .ok (.aload_n 0, 1) := by decide +kernel
theorem d_Model_reads_55 : decode prog_12_method_13_code 55 = .ok (.getfield 7, 3) := by decide +kernel
theorem d_Model_reads_58 : decode prog_12_method_13_code 58 = .ok (.bipush 120, 2) := by decide +kernel
theorem d_Model_reads_60 : decode prog_12_method_13_code 60 = .ok (.iload_n 2, 1) := by decide +kernel
theorem d_Model_reads_61 : decode prog_12_method_13_code 61 = .ok (.imul, 1) := by decide +kernel
theorem d_Model_reads_62 : decode prog_12_method_13_code 62 = .ok (.iload_n 3, 1) := by decide +kernel
theorem d_Model_reads_63 : decode prog_12_method_13_code 63 = .ok (.iadd, 1) := by decide +kernel
theorem d_Model_reads_64 : decode prog_12_method_13_code 64 = .ok (.iaload, 1) := by decide +kernel
theorem d_Model_reads_65 : decode prog_12_method_13_code 65 = .ok (.istore 4, 2) := by decide +kernel
theorem d_Model_reads_67 : decode prog_12_method_13_code 67 = .ok (.aload_n 0, 1) := by decide +kernel
theorem d_Model_reads_68 : decode prog_12_method_13_code 68 = .ok (.aload_n 0, 1) := by decide +kernel
theorem d_Model_reads_69 : decode prog_12_method_13_code 69 = .ok (.getfield 75, 3) := by decide +kernel
theorem d_Model_reads_72 : decode prog_12_method_13_code 72 = .ok (.ldc2_w 54, 3) := by decide +kernel
theorem d_Model_reads_75 : decode prog_12_method_13_code 75 = .ok (.lmul, 1) := by decide +kernel
theorem d_Model_reads_76 : decode prog_12_method_13_code 76 = .ok (.iload_n 3, 1) := by decide +kernel
theorem d_Model_reads_77 : decode prog_12_method_13_code 77 = .ok (.aload_n 0, 1) := by decide +kernel
theorem d_Model_reads_78 : decode prog_12_method_13_code 78 = .ok (.getfield 13, 3) := by decide +kernel
theorem d_Model_reads_81 : decode prog_12_method_13_code 81 = .ok (.iload_n 2, 1) := by decide +kernel
theorem d_Model_reads_82 : decode prog_12_method_13_code 82 = .ok (.iaload, 1) := by decide +kernel
theorem d_Model_reads_83 : decode prog_12_method_13_code 83 = .ok (.iconst 1, 1) := by decide +kernel
theorem d_Model_reads_84 : decode prog_12_method_13_code 84 = .ok (.isub, 1) := by decide +kernel
theorem d_Model_reads_85 : decode prog_12_method_13_code 85 = .ok (.if_icmp .ne 12, 3) := by decide +kernel
theorem d_Model_reads_88 : decode prog_12_method_13_code 88 = .ok (.iload 4, 2) := by decide +kernel
theorem d_Model_reads_90 : decode prog_12_method_13_code 90 = .ok (.sipush 128, 3) := by decide +kernel
theorem d_Model_reads_93 : decode prog_12_method_13_code 93 = .ok (.irem, 1) := by decide +kernel
theorem d_Model_reads_94 : decode prog_12_method_13_code 94 = .ok (.goto 5, 3) := by decide +kernel
theorem d_Model_reads_97 : decode prog_12_method_13_code 97 = .ok (.iload 4, 2) := by decide +kernel
theorem d_Model_reads_99 : decode prog_12_method_13_code 99 = .ok (.i2l, 1) := by decide +kernel
theorem d_Model_reads_100 : decode prog_12_method_13_code 100 = .ok (.ladd, 1) := by decide +kernel
theorem d_Model_reads_101 : decode prog_12_method_13_code 101 = .ok (.putfield 75, 3) := by decide +kernel
theorem d_Model_reads_104 : decode prog_12_method_13_code 104 = .ok (.iinc 3 (-1), 3) := by decide +kernel
theorem d_Model_reads_107 : decode prog_12_method_13_code 107 = .ok (.goto (-57), 3) := by decide +kernel
theorem d_Model_reads_110 : decode prog_12_method_13_code 110 = .ok (.aload_n 0, 1) := by decide +kernel
theorem d_Model_reads_111 : decode prog_12_method_13_code 111 = .ok (.aload_n 0, 1) := by decide +kernel
theorem d_Model_reads_112 : decode prog_12_method_13_code 112 = .ok (.getfield 13, 3) := by decide +kernel
theorem d_Model_reads_115 : decode prog_12_method_13_code 115 = .ok (.iload_n 2, 1) := by decide +kernel
theorem d_Model_reads_116 : decode prog_12_method_13_code 116 = .ok (.iaload, 1) := by decide +kernel
theorem d_Model_reads_117 : decode prog_12_method_13_code 117 = .ok (.ifCond .le 34, 3) := by decide +kernel
theorem d_Model_reads_120 : decode prog_12_method_13_code 120 = .ok (.aload_n 0, 1) := by decide +kernel
theorem d_Model_reads_121 : decode prog_12_method_13_code 121 = .ok (.getfield 7, 3) := by decide +kernel
theorem d_Model_reads_124 : decode prog_12_method_13_code 124 = .ok (.bipush 120, 2) := by decide +kernel
theorem d_Model_reads_126 : decode prog_12_method_13_code 126 = .ok (.iload_n 2, 1) := by decide +kernel
theorem d_Model_reads_127 : decode prog_12_method_13_code 127 = .ok (.imul, 1) := by decide +kernel
theorem d_Model_reads_128 : decode prog_12_method_13_code 128 = .ok (.aload_n 0, 1) := by decide +kernel
theorem d_Model_reads_129 : decode prog_12_method_13_code 129 = .ok (.getfield 13, 3) := by decide +kernel
theorem d_Model_reads_132 : decode prog_12_method_13_code 132 = .ok (.iload_n 2, 1) := by decide +kernel
theorem d_Model_reads_133 : decode prog_12_method_13_code 133 = .ok (.iaload, 1) := by decide +kernel
theorem d_Model_reads_134 : decode prog_12_method_13_code 134 = .ok (.iadd, 1) := by decide +kernel
theorem d_Model_reads_135 : decode prog_12_method_13_code 135 = .ok (.iconst 1, 1) := by decide +kernel
theorem d_Model_reads_136 : decode prog_12_method_13_code 136 = .ok (.isub, 1) := by decide +kernel
theorem d_Model_reads_137 : decode prog_12_method_13_code 137 = .ok (.iaload, 1) := by decide +kernel
theorem d_Model_reads_138 : decode prog_12_method_13_code 138 = .ok (.bipush 127, 2) := by decide +kernel
theorem d_Model_reads_140 : decode prog_12_method_13_code 140 = .ok (.if_icmp .le 11, 3) := by decide +kernel
theorem d_Model_reads_143 : decode prog_12_method_13_code 143 = .ok (.aload_n 0, 1) := by decide +kernel
theorem d_Model_reads_144 : decode prog_12_method_13_code 144 = .ok (.getfield 75, 3) := by decide +kernel
theorem d_Model_reads_147 : decode prog_12_method_13_code 147 = .ok (.lneg, 1) := by decide +kernel
theorem d_Model_reads_148 : decode prog_12_method_13_code 148 = .ok (.goto 7, 3) := by decide +kernel
theorem d_Model_reads_151 : decode prog_12_method_13_code 151 = .ok (.aload_n 0, 1) := by decide +kernel
theorem d_Model_reads_152 : decode prog_12_method_13_code 152 = .ok (.getfield 75, 3) := by decide +kernel
theorem d_Model_reads_155 : decode prog_12_method_13_code 155 = .ok (.putfield 75, 3) := by decide +kernel
theorem d_Model_reads_158 : decode prog_12_method_13_code 158 = .ok (.iconst 1, 1) := by decide +kernel
theorem d_Model_reads_159 : decode prog_12_method_13_code 159 = .ok (.ireturn, 1) := by decide +kernel
theorem d_Model_numberOfOne_0 : decode prog_12_method_32_code 0 = .ok (.aload_n 0, 1) := by decide +kernel
theorem d_Model_numberOfOne_1 : decode prog_12_method_32_code 1 = .ok (.iconst 0, 1) := by decide +kernel
theorem d_Model_numberOfOne_2 : decode prog_12_method_32_code 2 = .ok (.invokevirtual 149, 3) := by decide +kernel
theorem d_Model_numberOfOne_5 : decode prog_12_method_32_code 5 = .ok (.ifCond .ne 4, 3) := by decide +kernel
theorem d_Model_numberOfOne_8 : decode prog_12_method_32_code 8 = .ok (.return_, 1) := by decide +kernel
theorem d_Model_numberOfOne_9 : decode prog_12_method_32_code 9 = .ok (.aload_n 0, 1) := by decide +kernel
theorem d_Model_numberOfOne_10 : decode prog_12_method_32_code 10 = .ok (.dup, 1) := by decide +kernel
theorem d_Model_numberOfOne_11 : decode prog_12_method_32_code 11 = .ok (.getfield 47, 3) := by decide +kernel
theorem d_Model_numberOfOne_14 : decode prog_12_method_32_code 14 = .ok (.iconst 1, 1) := by decide +kernel
theorem d_Model_numberOfOne_15 : decode prog_12_method_32_code 15 = .ok (.isub, 1) := by decide +kernel
theorem d_Model_numberOfOne_16 : decode prog_12_method_32_code 16 = .ok (.putfield 47, 3) := by decide +kernel
theorem d_Model_numberOfOne_19 : decode prog_12_method_32_code 19 = .ok (.aload_n 0, 1) := by decide +kernel
theorem d_Model_numberOfOne_20 : decode prog_12_method_32_code 20 = .ok (.getfield 75, 3) := by decide +kernel
theorem d_Model_numberOfOne_23 : decode prog_12_method_32_code 23 = .ok (.lstore_n 2, 1) := by decide +kernel
theorem d_Model_numberOfOne_24 : decode prog_12_method_32_code 24 = .ok (.aload_n 0, 1) := by decide +kernel
theorem d_Model_numberOfOne_25 : decode prog_12_method_32_code 25 = .ok (.iload_n 1, 1) := by decide +kernel
theorem d_Model_numberOfOne_26 : decode prog_12_method_32_code 26 = .ok (.sipush 139, 3) := by decide +kernel
theorem d_Model_numberOfOne_29 : decode prog_12_method_32_code 29 = .ok (.if_icmp .ne 9, 3) := by decide +kernel
theorem d_Model_numberOfOne_32 : decode prog_12_method_32_code 32 = .ok (.lload_n 2, 1) := by decide +kernel
theorem d_Model_numberOfOne_33 : decode prog_12_method_32_code 33 = .ok (.lconst 1, 1) := by decide +kernel
theorem d_Model_numberOfOne_34 : decode prog_12_method_32_code 34 = .ok (.ladd, 1) := by decide +kernel
theorem d_Model_numberOfOne_35 : decode prog_12_method_32_code 35 = .ok (.goto 81, 3) := by decide +kernel
theorem d_Model_numberOfOne_38 : decode prog_12_method_32_code 38 = .ok (.iload_n 1, 1) := by decide +kernel
theorem d_Model_numberOfOne_39 : decode prog_12_method_32_code 39 = .ok (.sipush 140, 3) := by decide +kernel
theorem d_Model_numberOfOne_42 : decode prog_12_method_32_code 42 = .ok (.if_icmp .ne 9, 3) := by decide +kernel
theorem d_Model_numberOfOne_45 : decode prog_12_method_32_code 45 = .ok (.lload_n 2, 1) := by decide +kernel
theorem d_Model_numberOfOne_46 : decode prog_12_method_32_code 46 = .ok (.lconst 1, 1) := by decide +kernel
theorem d_Model_numberOfOne_47 : decode prog_12_method_32_code 47 = .ok (.lsub, 1) := by decide +kernel
theorem d_Model_numberOfOne_48 : decode prog_12_method_32_code 48 = .ok (.goto 68, 3) := by decide +kernel
theorem d_Model_numberOfOne_51 : decode prog_12_method_32_code 51 = .ok (.iload_n 1, 1) := by decide +kernel
theorem d_Model_numberOfOne_52 : decode prog_12_method_32_code 52 = .ok (.sipush 143, 3) := by decide +kernel
theorem d_Model_numberOfOne_55 : decode prog_12_method_32_code 55 = .ok (.if_icmp .ne 8, 3) := by decide +kernel
theorem d_Model_numberOfOne_58 : decode prog_12_method_32_code 58 = .ok (.lload_n 2, 1) := by decide +kernel
theorem d_Model_numberOfOne_59 : decode prog_12_method_32_code 59 = .ok (.lneg, 1) := by decide +kernel
theorem d_Model_numberOfOne_60 : decode prog_12_method_32_code 60 = .ok (.goto 56, 3) := by decide +kernel
theorem d_Model_numberOfOne_63 : decode prog_12_method_32_code 63 = .ok (.iload_n 1, 1) := by decide +kernel
theorem d_Model_numberOfOne_64 : decode prog_12_method_32_code 64 = .ok (.sipush 144, 3) := by decide +kernel
theorem d_Model_numberOfOne_67 : decode prog_12_method_32_code 67 = .ok (.if_icmp .ne 18, 3) := by decide +kernel
theorem d_Model_numberOfOne_70 : decode prog_12_method_32_code 70 = .ok (.lload_n 2, 1) := by decide +kernel
theorem d_Model_numberOfOne_71 : decode prog_12_method_32_code 71 = .ok (.lconst 0, 1) := by decide +kernel
theorem d_Model_numberOfOne_72 : decode prog_12_method_32_code 72 = .ok (.lcmp, 1) := by decide +kernel
theorem d_Model_numberOfOne_73 : decode prog_12_method_32_code 73 = .ok (.ifCond .ge 8, 3) := by decide +kernel
theorem d_Model_numberOfOne_76 : decode prog_12_method_32_code 76 = .ok (.lload_n 2, 1) := by decide +kernel
theorem d_Model_numberOfOne_77 : decode prog_12_method_32_code 77 = .ok (.lneg, 1) := by decide +kernel
theorem d_Model_numberOfOne_78 : decode prog_12_method_32_code 78 = .ok (.goto 38, 3) := by decide +kernel
theorem d_Model_numberOfOne_81 : decode prog_12_method_32_code 81 = .ok (.lload_n 2, 1) := by decide +kernel
theorem d_Model_numberOfOne_82 : decode prog_12_method_32_code 82 = .ok (.goto 34, 3) := by decide +kernel
theorem d_Model_numberOfOne_85 : decode prog_12_method_32_code 85 = .ok (.lload_n 2, 1) := by decide +kernel
theorem d_Model_numberOfOne_86 : decode prog_12_method_32_code 86 = .ok (.lconst 0, 1) := by decide +kernel
theorem d_Model_numberOfOne_87 : decode prog_12_method_32_code 87 = .ok (.lcmp, 1) := by decide +kernel
theorem d_Model_numberOfOne_88 : decode prog_12_method_32_code 88 = .ok (.ifCond .ne 7, 3) := by decide +kernel
theorem d_Model_numberOfOne_91 : decode prog_12_method_32_code 91 = .ok (.iconst 1, 1) := by decide +kernel
theorem d_Model_numberOfOne_92 : decode prog_12_method_32_code 92 = .ok (.goto 4, 3) := by decide +kernel
theorem d_Model_numberOfOne_95 : decode prog_12_method_32_code 95 = .ok (.iconst 0, 1) := by decide +kernel
theorem d_Model_numberOfOne_96 : decode prog_12_method_32_code 96 = .ok (.iload_n 1, 1) := by decide +kernel
theorem d_Model_numberOfOne_97 : decode prog_12_method_32_code 97 = .ok (.sipush 145, 3) := by decide +kernel
theorem d_Model_numberOfOne_100 : decode prog_12_method_32_code 100 = .ok (.if_icmp .ne 7, 3) := by decide +kernel
theorem d_Model_numberOfOne_103 : decode prog_12_method_32_code 103 = .ok (.iconst 1, 1) := by decide +kernel
theorem d_Model_numberOfOne_104 : decode prog_12_method_32_code 104 = .ok (.goto 4, 3) := by decide +kernel
theorem d_Model_numberOfOne_107 : decode prog_12_method_32_code 107 = .ok (.iconst 0, 1) := by decide +kernel
theorem d_Model_numberOfOne_108 : decode prog_12_method_32_code 108 = .ok (.if_icmp .ne 7, 3) := by decide +kernel
theorem d_Model_numberOfOne_111 : decode prog_12_method_32_code 111 = .ok (.lconst 1, 1) := by decide +kernel
theorem d_Model_numberOfOne_112 : decode prog_12_method_32_code 112 = .ok (.goto 4, 3) := by decide +kernel
theorem d_Model_numberOfOne_115 : decode prog_12_method_32_code 115 = .ok (.lconst 0, 1) := by decide +kernel
theorem d_Model_numberOfOne_116 : decode prog_12_method_32_code 116 = .ok (.invokevirtual 56, 3) := by decide +kernel
theorem d_Model_numberOfOne_119 : decode prog_12_method_32_code 119 = .ok (.return_, 1) := by decide +kernel
theorem d_Model_numberOfTwo_0 : decode prog_12_method_33_code 0 = .ok (.aload_n 0, 1) := by decide +kernel
theorem d_Model_numberOfTwo_1 : decode prog_12_method_33_code 1 = .ok (.iconst 0, 1) := by decide +kernel
theorem d_Model_numberOfTwo_2 : decode prog_12_method_33_code 2 = .ok (.invokevirtual 149, 3) := by decide +kernel
theorem d_Model_numberOfTwo_5 : decode prog_12_method_33_code 5 = .ok (.ifCond .ne 4, 3) := by decide +kernel
theorem d_Model_numberOfTwo_8 : decode prog_12_method_33_code 8 = .ok (.return_, 1) := by decide +kernel
theorem d_Model_numberOfTwo_9 : decode prog_12_method_33_code 9 = .ok (.aload_n 0, 1) := by decide +kernel
theorem d_Model_numberOfTwo_10 : decode prog_12_method_33_code 10 = .ok (.getfield 75, 3) := by decide +kernel
theorem d_Model_numberOfTwo_13 : decode prog_12_method_33_code 13 = .ok (.lstore_n 2, 1) := by decide +kernel
theorem d_Model_numberOfTwo_14 : decode prog_12_method_33_code 14 = .ok (.aload_n 0, 1) := by decide +kernel
theorem d_Model_numberOfTwo_15 : decode prog_12_method_33_code 15 = .ok (.iconst 1, 1) := by decide +kernel
theorem d_Model_numberOfTwo_16 : decode prog_12_method_33_code 16 = .ok (.invokevirtual 149, 3) := by decide +kernel
theorem d_Model_numberOfTwo_19 : decode prog_12_method_33_code 19 = .ok (.ifCond .ne 4, 3) := by decide +kernel
theorem d_Model_numberOfTwo_22 : decode prog_12_method_33_code 22 = .ok (.return_, 1) := by decide +kernel
theorem d_Model_numberOfTwo_23 : decode prog_12_method_33_code 23 = .ok (.aload_n 0, 1) := by decide +kernel
theorem d_Model_numberOfTwo_24 : decode prog_12_method_33_code 24 = .ok (.getfield 75, 3) := by decide +kernel
theorem d_Model_numberOfTwo_27 : decode prog_12_method_33_code 27 = .ok (.lstore 4, 2) := by decide +kernel
theorem d_Model_numberOfTwo_29 : decode prog_12_method_33_code 29 = .ok (.iload_n 1, 1) := by decide +kernel
theorem d_Model_numberOfTwo_30 : decode prog_12_method_33_code 30 = .ok (.sipush 165, 3) := by decide +kernel
theorem d_Model_numberOfTwo_33 : decode prog_12_method_33_code 33 = .ok (.if_icmp .ne 50, 3) := by decide +kernel
theorem d_Model_numberOfTwo_36 : decode prog_12_method_33_code 36 = .ok (.aload_n 0, 1) := by decide +kernel
theorem d_Model_numberOfTwo_37 : decode prog_12_method_33_code 37 = .ok (.iconst 2, 1) := by decide +kernel
theorem d_Model_numberOfTwo_38 : decode prog_12_method_33_code 38 = .ok (.invokevirtual 149, 3) := by decide +kernel
theorem d_Model_numberOfTwo_41 : decode prog_12_method_33_code 41 = .ok (.ifCond .eq 41, 3) := by decide +kernel
theorem d_Model_numberOfTwo_44 : decode prog_12_method_33_code 44 = .ok (.aload_n 0, 1) := by decide +kernel
theorem d_Model_numberOfTwo_45 : decode prog_12_method_33_code 45 = .ok (.dup, 1) := by decide +kernel
theorem d_Model_numberOfTwo_46 : decode prog_12_method_33_code 46 = .ok (.getfield 47, 3) := by decide +kernel
theorem d_Model_numberOfTwo_49 : decode prog_12_method_33_code 49 = .ok (.iconst 3, 1) := by decide +kernel
theorem d_Model_numberOfTwo_50 : decode prog_12_method_33_code 50 = .ok (.isub, 1) := by decide +kernel
theorem d_Model_numberOfTwo_51 : decode prog_12_method_33_code 51 = .ok (.putfield 47, 3) := by decide +kernel
theorem d_Model_numberOfTwo_54 : decode prog_12_method_33_code 54 = .ok (.aload_n 0, 1) := by decide +kernel
theorem d_Model_numberOfTwo_55 : decode prog_12_method_33_code 55 = .ok (.lload 4, 2) := by decide +kernel
theorem d_Model_numberOfTwo_57 : decode prog_12_method_33_code 57 = .ok (.aload_n 0, 1) := by decide +kernel
theorem d_Model_numberOfTwo_58 : decode prog_12_method_33_code 58 = .ok (.getfield 75, 3) := by decide +kernel
theorem d_Model_numberOfTwo_61 : decode prog_12_method_33_code 61 = .ok (.lcmp, 1) := by decide +kernel
theorem d_Model_numberOfTwo_62 : decode prog_12_method_33_code 62 = .ok (.ifCond .gt 16, 3) := by decide +kernel
theorem d_Model_numberOfTwo_65 : decode prog_12_method_33_code 65 = .ok (.aload_n 0, 1) := by decide +kernel
theorem d_Model_numberOfTwo_66 : decode prog_12_method_33_code 66 = .ok (.getfield 75, 3) := by decide +kernel
theorem d_Model_numberOfTwo_69 : decode prog_12_method_33_code 69 = .ok (.lload_n 2, 1) := by decide +kernel
theorem d_Model_numberOfTwo_70 : decode prog_12_method_33_code 70 = .ok (.lcmp, 1) := by decide +kernel
theorem d_Model_numberOfTwo_71 : decode prog_12_method_33_code 71 = .ok (.ifCond .ge 7, 3) := by decide +kernel
theorem d_Model_numberOfTwo_74 : decode prog_12_method_33_code 74 = .ok (.iconst 1, 1) := by decide +kernel
theorem d_Model_numberOfTwo_75 : decode prog_12_method_33_code 75 = .ok (.goto 4, 3) := by decide +kernel
theorem d_Model_numberOfTwo_78 : decode prog_12_method_33_code 78 = .ok (.iconst 0, 1) := by decide +kernel
theorem d_Model_numberOfTwo_79 : decode prog_12_method_33_code 79 = .ok (.invokevirtual 142, 3) := by decide +kernel
theorem d_Model_numberOfTwo_82 : decode prog_12_method_33_code 82 = .ok (.return_, 1) := by decide +kernel
theorem d_Model_numberOfTwo_83 : decode prog_12_method_33_code 83 = .ok (.aload_n 0, 1) := by decide +kernel
theorem d_Model_numberOfTwo_84 : decode prog_12_method_33_code 84 = .ok (.dup, 1) := by decide +kernel
theorem d_Model_numberOfTwo_85 : decode prog_12_method_33_code 85 = .ok (.getfield 47, 3) := by decide +kernel
theorem d_Model_numberOfTwo_88 : decode prog_12_method_33_code 88 = .ok (.iconst 2, 1) := by decide +kernel
theorem d_Model_numberOfTwo_89 : decode prog_12_method_33_code 89 = .ok (.isub, 1) := by decide +kernel
theorem d_Model_numberOfTwo_90 : decode prog_12_method_33_code 90 = .ok (.putfield 47, 3) := by decide +kernel
theorem d_Model_numberOfTwo_93 : decode prog_12_method_33_code 93 = .ok (.iload_n 1, 1) := by decide +kernel
theorem d_Model_numberOfTwo_94 : decode prog_12_method_33_code 94 = .ok (.tableswitch 311 147 163 #[82, 93, 311, 311, 311, 311, 311, 104, 129, 154, 173, 196, 215, 234, 253, 272, 291], 82) := by decide +kernel
theorem d_Model_numberOfTwo_176 : decode prog_12_method_33_code 176 = .ok (.aload_n 0, 1) := by decide +kernel
theorem d_Model_numberOfTwo_177 : decode prog_12_method_33_code 177 = .ok (.lload 4, 2) := by decide +kernel
theorem d_Model_numberOfTwo_179 : decode prog_12_method_33_code 179 = .ok (.lload_n 2, 1) := by decide +kernel
theorem d_Model_numberOfTwo_180 : decode prog_12_method_33_code 180 = .ok (.ladd, 1) := by decide +kernel
theorem d_Model_numberOfTwo_181 : decode prog_12_method_33_code 181 = .ok (.invokevirtual 56, 3) := by decide +kernel
theorem d_Model_numberOfTwo_184 : decode prog_12_method_33_code 184 = .ok (.goto 238, 3) := by decide +kernel
theorem d_Model_numberOfTwo_187 : decode prog_12_method_33_code 187 = .ok (.aload_n 0, 1) := by decide +kernel
theorem d_Model_numberOfTwo_188 : decode prog_12_method_33_code 188 = .ok (.lload 4, 2) := by decide +kernel
theorem d_Model_numberOfTwo_190 : decode prog_12_method_33_code 190 = .ok (.lload_n 2, 1) := by decide +kernel
theorem d_Model_numberOfTwo_191 : decode prog_12_method_33_code 191 = .ok (.lsub, 1) := by decide +kernel
theorem d_Model_numberOfTwo_192 : decode prog_12_method_33_code 192 = .ok (.invokevirtual 56, 3) := by decide +kernel
theorem d_Model_numberOfTwo_195 : decode prog_12_method_33_code 195 = .ok (.goto 227, 3) := by decide +kernel
theorem d_Model_numberOfTwo_198 : decode prog_12_method_33_code 198 = .ok (.aload_n 0, 1) := by decide +kernel
theorem d_Model_numberOfTwo_199 : decode prog_12_method_33_code 199 = .ok (.lload 4, 2) := by decide +kernel
theorem d_Model_numberOfTwo_201 : decode prog_12_method_33_code 201 = .ok (.lconst 0, 1) := by decide +kernel
theorem d_Model_numberOfTwo_202 : decode prog_12_method_33_code 202 = .ok (.lcmp, 1) := by decide +kernel
theorem d_Model_numberOfTwo_203 : decode prog_12_method_33_code 203 = .ok (.ifCond .eq 13, 3) := by decide +kernel
theorem d_Model_numberOfTwo_206 : decode prog_12_method_33_code 206 = .ok (.lload_n 2, 1) := by decide +kernel
theorem d_Model_numberOfTwo_207 : decode prog_12_method_33_code 207 = .ok (.lconst 0, 1) := by decide +kernel
theorem d_Model_numberOfTwo_208 : decode prog_12_method_33_code 208 = .ok (.lcmp, 1) := by decide +kernel
theorem d_Model_numberOfTwo_209 : decode prog_12_method_33_code 209 = .ok (.ifCond .eq 7, 3) := by decide +kernel
theorem d_Model_numberOfTwo_212 : decode prog_12_method_33_code 212 = .ok (.iconst 1, 1) := by decide +kernel
theorem d_Model_numberOfTwo_213 : decode prog_12_method_33_code 213 = .ok (.goto 4, 3) := by decide +kernel
theorem d_Model_numberOfTwo_216 : decode prog_12_method_33_code 216 = .ok (.iconst 0, 1) := by decide +kernel
theorem d_Model_numberOfTwo_217 : decode prog_12_method_33_code 217 = .ok (.invokevirtual 142, 3) := by decide +kernel
theorem d_Model_numberOfTwo_220 : decode prog_12_method_33_code 220 = .ok (.goto 202, 3) := by decide +kernel
theorem d_Model_numberOfTwo_223 : decode prog_12_method_33_code 223 = .ok (.aload_n 0, 1) := by decide +kernel
theorem d_Model_numberOfTwo_224 : decode prog_12_method_33_code 224 = .ok (.lload 4, 2) := by decide +kernel
theorem d_Model_numberOfTwo_226 : decode prog_12_method_33_code 226 = .ok (.lconst 0, 1) := by decide +kernel
theorem d_Model_numberOfTwo_227 : decode prog_12_method_33_code 227 = .ok (.lcmp, 1) := by decide +kernel
theorem d_Model_numberOfTwo_228 : decode prog_12_method_33_code 228 = .ok (.ifCond .ne 9, 3) := by decide +kernel
theorem d_Model_numberOfTwo_231 : decode prog_12_method_33_code 231 = .ok (.lload_n 2, 1) := by decide +kernel
theorem d_Model_numberOfTwo_232 : decode prog_12_method_33_code 232 = .ok (.lconst 0, 1) := by decide +kernel
theorem d_Model_numberOfTwo_233 : decode prog_12_method_33_code 233 = .ok (.lcmp, 1) := by decide +kernel
theorem d_Model_numberOfTwo_234 : decode prog_12_method_33_code 234 = .ok (.ifCond .eq 7, 3) := by decide +kernel
theorem d_Model_numberOfTwo_237 : decode prog_12_method_33_code 237 = .ok (.iconst 1, 1) := by decide +kernel
theorem d_Model_numberOfTwo_238 : decode prog_12_method_33_code 238 = .ok (.goto 4, 3) := by decide +kernel
theorem d_Model_numberOfTwo_241 : decode prog_12_method_33_code 241 = .ok (.iconst 0, 1) := by decide +kernel
theorem d_Model_numberOfTwo_242 : decode prog_12_method_33_code 242 = .ok (.invokevirtual 142, 3) := by decide +kernel
theorem d_Model_numberOfTwo_245 : decode prog_12_method_33_code 245 = .ok (.goto 177, 3) := by decide +kernel
theorem d_Model_numberOfTwo_248 : decode prog_12_method_33_code 248 = .ok (.aload_n 0, 1) := by decide +kernel
theorem d_Model_numberOfTwo_249 : decode prog_12_method_33_code 249 = .ok (.lload 4, 2) := by decide +kernel
theorem d_Model_numberOfTwo_251 : decode prog_12_method_33_code 251 = .ok (.lload_n 2, 1) := by decide +kernel
theorem d_Model_numberOfTwo_252 : decode prog_12_method_33_code 252 = .ok (.lcmp, 1) := by decide +kernel
theorem d_Model_numberOfTwo_253 : decode prog_12_method_33_code 253 = .ok (.ifCond .ne 7, 3) := by decide +kernel
theorem d_Model_numberOfTwo_256 : decode prog_12_method_33_code 256 = .ok (.iconst 1, 1) := by decide +kernel
theorem d_Model_numberOfTwo_257 : decode prog_12_method_33_code 257 = .ok (.goto 4, 3) := by decide +kernel
theorem d_Model_numberOfTwo_260 : decode prog_12_method_33_code 260 = .ok (.iconst 0, 1) := by decide +kernel
theorem d_Model_numberOfTwo_261 : decode prog_12_method_33_code 261 = .ok (.invokevirtual 142, 3) := by decide +kernel
theorem d_Model_numberOfTwo_264 : decode prog_12_method_33_code 264 = .ok (.goto 158, 3) := by decide +kernel
theorem d_Model_numberOfTwo_267 : decode prog_12_method_33_code 267 = .ok (.aload_n 0, 1) := by decide +kernel
theorem d_Model_numberOfTwo_268 : decode prog_12_method_33_code 268 = .ok (.lload 4, 2) := by decide +kernel
theorem d_Model_numberOfTwo_270 : decode prog_12_method_33_code 270 = .ok (.lload_n 2, 1) := by decide +kernel
theorem d_Model_numberOfTwo_271 : decode prog_12_method_33_code 271 = .ok (.lcmp, 1) := by decide +kernel
theorem d_Model_numberOfTwo_272 : decode prog_12_method_33_code 272 = .ok (.ifCond .ne 7, 3) := by decide +kernel
theorem d_Model_numberOfTwo_275 : decode prog_12_method_33_code 275 = .ok (.iconst 1, 1) := by decide +kernel
theorem d_Model_numberOfTwo_276 : decode prog_12_method_33_code 276 = .ok (.goto 4, 3) := by decide +kernel
theorem d_Model_numberOfTwo_279 : decode prog_12_method_33_code 279 = .ok (.iconst 0, 1) := by decide +kernel
theorem d_Model_numberOfTwo_280 : decode prog_12_method_33_code 280 = .ok (.invokevirtual 142, 3) := by decide +kernel
theorem d_Model_numberOfTwo_283 : decode prog_12_method_33_code 283 = .ok (.aload_n 0, 1) := by decide +kernel
theorem d_Model_numberOfTwo_284 : decode prog_12_method_33_code 284 = .ok (.invokevirtual 146, 3) := by decide +kernel
theorem d_Model_numberOfTwo_287 : decode prog_12_method_33_code 287 = .ok (.goto 135, 3) := by decide +kernel
theorem d_Model_numberOfTwo_290 : decode prog_12_method_33_code 290 = .ok (.aload_n 0, 1) := by decide +kernel
theorem d_Model_numberOfTwo_291 : decode prog_12_method_33_code 291 = .ok (.lload 4, 2) := by decide +kernel
theorem d_Model_numberOfTwo_293 : decode prog_12_method_33_code 293 = .ok (.lload_n 2, 1) := by decide +kernel
theorem d_Model_numberOfTwo_294 : decode prog_12_method_33_code 294 = .ok (.lcmp, 1) := by decide +kernel
theorem d_Model_numberOfTwo_295 : decode prog_12_method_33_code 295 = .ok (.ifCond .eq 7, 3) := by decide +kernel
theorem d_Model_numberOfTwo_298 : decode prog_12_method_33_code 298 = .ok (.iconst 1, 1) := by decide +kernel
theorem d_Model_numberOfTwo_299 : decode prog_12_method_33_code 299 = .ok (.goto 4, 3) := by decide +kernel
theorem d_Model_numberOfTwo_302 : decode prog_12_method_33_code 302 = .ok (.iconst 0, 1) := by decide +kernel
theorem d_Model_numberOfTwo_303 : decode prog_12_method_33_code 303 = .ok (.invokevirtual 142, 3) := by decide +kernel
theorem d_Model_numberOfTwo_306 : decode prog_12_method_33_code 306 = .ok (.goto 116, 3) := by decide +kernel
theorem d_Model_numberOfTwo_309 : decode prog_12_method_33_code 309 = .ok (.aload_n 0, 1) := by decide +kernel
theorem d_Model_numberOfTwo_310 : decode prog_12_method_33_code 310 = .ok (.lload 4, 2) := by decide +kernel
theorem d_Model_numberOfTwo_312 : decode prog_12_method_33_code 312 = .ok (.lload_n 2, 1) := by decide +kernel
theorem d_Model_numberOfTwo_313 : decode prog_12_method_33_code 313 = .ok (.lcmp, 1) := by decide +kernel
theorem d_Model_numberOfTwo_314 : decode prog_12_method_33_code 314 = .ok (.ifCond .ge 7, 3) := by decide +kernel
theorem d_Model_numberOfTwo_317 : decode prog_12_method_33_code 317 = .ok (.iconst 1, 1) := by decide +kernel
theorem d_Model_numberOfTwo_318 : decode prog_12_method_33_code 318 = .ok (.goto 4, 3) := by decide +kernel
theorem d_Model_numberOfTwo_321 : decode prog_12_method_33_code 321 = .ok (.iconst 0, 1) := by decide +kernel
theorem d_Model_numberOfTwo_322 : decode prog_12_method_33_code 322 = .ok (.invokevirtual 142, 3) := by decide +kernel
theorem d_Model_numberOfTwo_325 : decode prog_12_method_33_code 325 = .ok (.goto 97, 3) := by decide +kernel
theorem d_Model_numberOfTwo_328 : decode prog_12_method_33_code 328 = .ok (.aload_n 0, 1) := by decide +kernel
theorem d_Model_numberOfTwo_329 : decode prog_12_method_33_code 329 = .ok (.lload 4, 2) := by decide +kernel
theorem d_Model_numberOfTwo_331 : decode prog_12_method_33_code 331 = .ok (.lload_n 2, 1) := by decide +kernel
theorem d_Model_numberOfTwo_332 : decode prog_12_method_33_code 332 = .ok (.lcmp, 1) := by decide +kernel
theorem d_Model_numberOfTwo_333 : decode prog_12_method_33_code 333 = .ok (.ifCond .le 7, 3) := by decide +kernel
theorem d_Model_numberOfTwo_336 : decode prog_12_method_33_code 336 = .ok (.iconst 1, 1) := by decide +kernel
theorem d_Model_numberOfTwo_337 : decode prog_12_method_33_code 337 = .ok (.goto 4, 3) := by decide +kernel
theorem d_Model_numberOfTwo_340 : decode prog_12_method_33_code 340 = .ok (.iconst 0, 1) := by decide +kernel
theorem d_Model_numberOfTwo_341 : decode prog_12_method_33_code 341 = .ok (.invokevirtual 142, 3) := by decide +kernel
theorem d_Model_numberOfTwo_344 : decode prog_12_method_33_code 344 = .ok (.goto 78, 3) := by decide +kernel
theorem d_Model_numberOfTwo_347 : decode prog_12_method_33_code 347 = .ok (.aload_n 0, 1) := by decide +kernel
theorem d_Model_numberOfTwo_348 : decode prog_12_method_33_code 348 = .ok (.lload 4, 2) := by decide +kernel
theorem d_Model_numberOfTwo_350 : decode prog_12_method_33_code 350 = .ok (.lload_n 2, 1) := by decide +kernel
theorem d_Model_numberOfTwo_351 : decode prog_12_method_33_code 351 = .ok (.lcmp, 1) := by decide +kernel
theorem d_Model_numberOfTwo_352 : decode prog_12_method_33_code 352 = .ok (.ifCond .gt 7, 3) := by decide +kernel
theorem d_Model_numberOfTwo_355 : decode prog_12_method_33_code 355 = .ok (.iconst 1, 1) := by decide +kernel
theorem d_Model_numberOfTwo_356 : decode prog_12_method_33_code 356 = .ok (.goto 4, 3) := by decide +kernel
theorem d_Model_numberOfTwo_359 : decode prog_12_method_33_code 359 = .ok (.iconst 0, 1) := by decide +kernel
theorem d_Model_numberOfTwo_360 : decode prog_12_method_33_code 360 = .ok (.invokevirtual 142, 3) := by decide +kernel
theorem d_Model_numberOfTwo_363 : decode prog_12_method_33_code 363 = .ok (.goto 59, 3) := by decide +kernel
theorem d_Model_numberOfTwo_366 : decode prog_12_method_33_code 366 = .ok (.aload_n 0, 1) := by decide +kernel
theorem d_Model_numberOfTwo_367 : decode prog_12_method_33_code 367 = .ok (.lload 4, 2) := by decide +kernel
theorem d_Model_numberOfTwo_369 : decode prog_12_method_33_code 369 = .ok (.lload_n 2, 1) := by decide +kernel
theorem d_Model_numberOfTwo_370 : decode prog_12_method_33_code 370 = .ok (.lcmp, 1) := by decide +kernel
theorem d_Model_numberOfTwo_371 : decode prog_12_method_33_code 371 = .ok (.ifCond .lt 7, 3) := by decide +kernel
theorem d_Model_numberOfTwo_374 : decode prog_12_method_33_code 374 = .ok (.iconst 1, 1) := by decide +kernel
theorem d_Model_numberOfTwo_375 : decode prog_12_method_33_code 375 = .ok (.goto 4, 3) := by decide +kernel
theorem d_Model_numberOfTwo_378 : decode prog_12_method_33_code 378 = .ok (.iconst 0, 1) := by decide +kernel
theorem d_Model_numberOfTwo_379 : decode prog_12_method_33_code 379 = .ok (.invokevirtual 142, 3) := by decide +kernel
theorem d_Model_numberOfTwo_382 : decode prog_12_method_33_code 382 = .ok (.goto 40, 3) := by decide +kernel
theorem d_Model_numberOfTwo_385 : decode prog_12_method_33_code 385 = .ok (.aload_n 0, 1) := by decide +kernel
theorem d_Model_numberOfTwo_386 : decode prog_12_method_33_code 386 = .ok (.lload 4, 2) := by decide +kernel
theorem d_Model_numberOfTwo_388 : decode prog_12_method_33_code 388 = .ok (.lload_n 2, 1) := by decide +kernel
theorem d_Model_numberOfTwo_389 : decode prog_12_method_33_code 389 = .ok (.lcmp, 1) := by decide +kernel
theorem d_Model_numberOfTwo_390 : decode prog_12_method_33_code 390 = .ok (.ifCond .ge 8, 3) := by decide +kernel
theorem d_Model_numberOfTwo_393 : decode prog_12_method_33_code 393 = .ok (.lload 4, 2) := by decide +kernel
theorem d_Model_numberOfTwo_395 : decode prog_12_method_33_code 395 = .ok (.goto 4, 3) := by decide +kernel
theorem d_Model_numberOfTwo_398 : decode prog_12_method_33_code 398 = .ok (.lload_n 2, 1) := by decide +kernel
theorem d_Model_numberOfTwo_399 : decode prog_12_method_33_code 399 = .ok (.invokevirtual 56, 3) := by decide +kernel
theorem d_Model_numberOfTwo_402 : decode prog_12_method_33_code 402 = .ok (.goto 20, 3) := by decide +kernel
theorem d_Model_numberOfTwo_405 : decode prog_12_method_33_code 405 = .ok (.aload_n 0, 1) := by decide +kernel
theorem d_Model_numberOfTwo_406 : decode prog_12_method_33_code 406 = .ok (.lload 4, 2) := by decide +kernel
theorem d_Model_numberOfTwo_408 : decode prog_12_method_33_code 408 = .ok (.lload_n 2, 1) := by decide +kernel
theorem d_Model_numberOfTwo_409 : decode prog_12_method_33_code 409 = .ok (.lcmp, 1) := by decide +kernel
theorem d_Model_numberOfTwo_410 : decode prog_12_method_33_code 410 = .ok (.ifCond .le 8, 3) := by decide +kernel
theorem d_Model_numberOfTwo_413 : decode prog_12_method_33_code 413 = .ok (.lload 4, 2) := by decide +kernel
theorem d_Model_numberOfTwo_415 : decode prog_12_method_33_code 415 = .ok (.goto 4, 3) := by decide +kernel
theorem d_Model_numberOfTwo_418 : decode prog_12_method_33_code 418 = .ok (.lload_n 2, 1) := by decide +kernel
theorem d_Model_numberOfTwo_419 : decode prog_12_method_33_code 419 = .ok (.invokevirtual 56, 3) := by decide +kernel
theorem d_Model_numberOfTwo_422 : decode prog_12_method_33_code 422 = .ok (.return_, 1) := by decide +kernel
theorem d_Model_pad_0 : decode prog_12_method_15_code 0 = .ok (.aload_n 0, 1) := by decide +kernel
theorem d_Model_pad_1 : decode prog_12_method_15_code 1 = .ok (.getfield 13, 3) := by decide +kernel
theorem d_Model_pad_4 : decode prog_12_method_15_code 4 = .ok (.iload_n 1, 1) := by decide +kernel
theorem d_Model_pad_5 : decode prog_12_method_15_code 5 = .ok (.iaload, 1) := by decide +kernel
theorem d_Model_pad_6 : decode prog_12_method_15_code 6 = .ok (.istore_n 3, 1) := by decide +kernel
theorem d_Model_pad_7 : decode prog_12_method_15_code 7 = .ok (.iload_n 3, 1) := by decide +kernel
theorem d_Model_pad_8 : decode prog_12_method_15_code 8 = .ok (.bipush 72, 2) := by decide +kernel
theorem d_Model_pad_10 : decode prog_12_method_15_code 10 = .ok (.iadd, 1) := by decide +kernel
theorem d_Model_pad_11 : decode prog_12_method_15_code 11 = .ok (.bipush 64, 2) := by decide +kernel
theorem d_Model_pad_13 : decode prog_12_method_15_code 13 = .ok (.idiv, 1) := by decide +kernel
theorem d_Model_pad_14 : decode prog_12_method_15_code 14 = .ok (.istore 4, 2) := by decide +kernel
theorem d_Model_pad_16 : decode prog_12_method_15_code 16 = .ok (.iconst 0, 1) := by decide +kernel
theorem d_Model_pad_17 : decode prog_12_method_15_code 17 = .ok (.istore 5, 2) := by decide +kernel
theorem d_Model_pad_19 : decode prog_12_method_15_code 19 = .ok (.iload 5, 2) := by decide +kernel
theorem d_Model_pad_21 : decode prog_12_method_15_code 21 = .ok (.sipush 192, 3) := by decide +kernel
theorem d_Model_pad_24 : decode prog_12_method_15_code 24 = .ok (.if_icmp .ge 50, 3) := by decide +kernel
theorem d_Model_pad_27 : decode prog_12_method_15_code 27 = .ok (.aload_n 0, 1) := by decide +kernel
theorem d_Model_pad_28 : decode prog_12_method_15_code 28 = .ok (.getfield 26, 3) := by decide +kernel
theorem d_Model_pad_31 : decode prog_12_method_15_code 31 = .ok (.iload 5, 2) := by decide +kernel
theorem d_Model_pad_33 : decode prog_12_method_15_code 33 = .ok (.iload 5, 2) := by decide +kernel
theorem d_Model_pad_35 : decode prog_12_method_15_code 35 = .ok (.iload_n 3, 1) := by decide +kernel
theorem d_Model_pad_36 : decode prog_12_method_15_code 36 = .ok (.if_icmp .ge 18, 3) := by decide +kernel
theorem d_Model_pad_39 : decode prog_12_method_15_code 39 = .ok (.aload_n 0, 1) := by decide +kernel
theorem d_Model_pad_40 : decode prog_12_method_15_code 40 = .ok (.getfield 7, 3) := by decide +kernel
theorem d_Model_pad_43 : decode prog_12_method_15_code 43 = .ok (.bipush 120, 2) := by decide +kernel
theorem d_Model_pad_45 : decode prog_12_method_15_code 45 = .ok (.iload_n 1, 1) := by decide +kernel
