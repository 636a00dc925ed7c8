theorem d_Signatures_fits_6 : decode prog_9_method_7_code 6 = .ok (.iadd, 1) := by decide +kernel
theorem d_Signatures_fits_7 : decode prog_9_method_7_code 7 = .ok (.putfield 58, 3) := by decide +kernel
theorem d_Signatures_fits_10 : decode prog_9_method_7_code 10 = .ok (.aload_n 1, 1) := by decide +kernel
theorem d_Signatures_fits_11 : decode prog_9_method_7_code 11 = .ok (.iload_n 2, 1) := by decide +kernel
theorem d_Signatures_fits_12 : decode prog_9_method_7_code 12 = .ok (.invokevirtual 61, 3) := by decide +kernel
theorem d_Signatures_fits_15 : decode prog_9_method_7_code 15 = .ok (.istore 4, 2) := by decide +kernel
theorem d_Signatures_fits_17 : decode prog_9_method_7_code 17 = .ok (.aload_n 1, 1) := by decide +kernel
theorem d_Signatures_fits_18 : decode prog_9_method_7_code 18 = .ok (.iload_n 3, 1) := by decide +kernel
theorem d_Signatures_fits_19 : decode prog_9_method_7_code 19 = .ok (.invokevirtual 61, 3) := by decide +kernel
theorem d_Signatures_fits_22 : decode prog_9_method_7_code 22 = .ok (.istore 5, 2) := by decide +kernel
theorem d_Signatures_fits_24 : decode prog_9_method_7_code 24 = .ok (.iload 4, 2) := by decide +kernel
theorem d_Signatures_fits_26 : decode prog_9_method_7_code 26 = .ok (.iconst 1, 1) := by decide +kernel
theorem d_Signatures_fits_27 : decode prog_9_method_7_code 27 = .ok (.if_icmp .lt 9, 3) := by decide +kernel
theorem d_Signatures_fits_30 : decode prog_9_method_7_code 30 = .ok (.iload 5, 2) := by decide +kernel
theorem d_Signatures_fits_32 : decode prog_9_method_7_code 32 = .ok (.iconst 1, 1) := by decide +kernel
theorem d_Signatures_fits_33 : decode prog_9_method_7_code 33 = .ok (.if_icmp .ge 5, 3) := by decide +kernel
theorem d_Signatures_fits_36 : decode prog_9_method_7_code 36 = .ok (.iconst 0, 1) := by decide +kernel
theorem d_Signatures_fits_37 : decode prog_9_method_7_code 37 = .ok (.ireturn, 1) := by decide +kernel
theorem d_Signatures_fits_38 : decode prog_9_method_7_code 38 = .ok (.aload_n 1, 1) := by decide +kernel
theorem d_Signatures_fits_39 : decode prog_9_method_7_code 39 = .ok (.iload_n 2, 1) := by decide +kernel
theorem d_Signatures_fits_40 : decode prog_9_method_7_code 40 = .ok (.iconst 0, 1) := by decide +kernel
theorem d_Signatures_fits_41 : decode prog_9_method_7_code 41 = .ok (.invokevirtual 64, 3) := by decide +kernel
theorem d_Signatures_fits_44 : decode prog_9_method_7_code 44 = .ok (.i2l, 1) := by decide +kernel
theorem d_Signatures_fits_45 : decode prog_9_method_7_code 45 = .ok (.lstore 6, 2) := by decide +kernel
theorem d_Signatures_fits_47 : decode prog_9_method_7_code 47 = .ok (.aload_n 1, 1) := by decide +kernel
theorem d_Signatures_fits_48 : decode prog_9_method_7_code 48 = .ok (.iload_n 2, 1) := by decide +kernel
theorem d_Signatures_fits_49 : decode prog_9_method_7_code 49 = .ok (.iload 4, 2) := by decide +kernel
theorem d_Signatures_fits_51 : decode prog_9_method_7_code 51 = .ok (.iconst 1, 1) := by decide +kernel
theorem d_Signatures_fits_52 : decode prog_9_method_7_code 52 = .ok (.isub, 1) := by decide +kernel
theorem d_Signatures_fits_53 : decode prog_9_method_7_code 53 = .ok (.invokevirtual 64, 3) := by decide +kernel
theorem d_Signatures_fits_56 : decode prog_9_method_7_code 56 = .ok (.i2l, 1) := by decide +kernel
theorem d_Signatures_fits_57 : decode prog_9_method_7_code 57 = .ok (.lstore 8, 2) := by decide +kernel
theorem d_Signatures_fits_59 : decode prog_9_method_7_code 59 = .ok (.aload_n 1, 1) := by decide +kernel
theorem d_Signatures_fits_60 : decode prog_9_method_7_code 60 = .ok (.iload_n 3, 1) := by decide +kernel
theorem d_Signatures_fits_61 : decode prog_9_method_7_code 61 = .ok (.iload 5, 2) := by decide +kernel
theorem d_Signatures_fits_63 : decode prog_9_method_7_code 63 = .ok (.iconst 1, 1) := by decide +kernel
theorem d_Signatures_fits_64 : decode prog_9_method_7_code 64 = .ok (.isub, 1) := by decide +kernel
theorem d_Signatures_fits_65 : decode prog_9_method_7_code 65 = .ok (.invokevirtual 64, 3) := by decide +kernel
theorem d_Signatures_fits_68 : decode prog_9_method_7_code 68 = .ok (.i2l, 1) := by decide +kernel
theorem d_Signatures_fits_69 : decode prog_9_method_7_code 69 = .ok (.lstore 10, 2) := by decide +kernel
theorem d_Signatures_fits_71 : decode prog_9_method_7_code 71 = .ok (.aload_n 0, 1) := by decide +kernel
theorem d_Signatures_fits_72 : decode prog_9_method_7_code 72 = .ok (.getfield 68, 3) := by decide +kernel
theorem d_Signatures_fits_75 : decode prog_9_method_7_code 75 = .ok (.i2l, 1) := by decide +kernel
theorem d_Signatures_fits_76 : decode prog_9_method_7_code 76 = .ok (.lload 6, 2) := by decide +kernel
theorem d_Signatures_fits_78 : decode prog_9_method_7_code 78 = .ok (.lload 10, 2) := by decide +kernel
theorem d_Signatures_fits_80 : decode prog_9_method_7_code 80 = .ok (.lmul, 1) := by decide +kernel
theorem d_Signatures_fits_81 : decode prog_9_method_7_code 81 = .ok (.ladd, 1) := by decide +kernel
theorem d_Signatures_fits_82 : decode prog_9_method_7_code 82 = .ok (.lload 8, 2) := by decide +kernel
theorem d_Signatures_fits_84 : decode prog_9_method_7_code 84 = .ok (.ladd, 1) := by decide +kernel
theorem d_Signatures_fits_85 : decode prog_9_method_7_code 85 = .ok (.ldc2_w 71, 3) := by decide +kernel
theorem d_Signatures_fits_88 : decode prog_9_method_7_code 88 = .ok (.lrem, 1) := by decide +kernel
theorem d_Signatures_fits_89 : decode prog_9_method_7_code 89 = .ok (.lconst 0, 1) := by decide +kernel
theorem d_Signatures_fits_90 : decode prog_9_method_7_code 90 = .ok (.lcmp, 1) := by decide +kernel
theorem d_Signatures_fits_91 : decode prog_9_method_7_code 91 = .ok (.ifCond .ne 7, 3) := by decide +kernel
theorem d_Signatures_fits_94 : decode prog_9_method_7_code 94 = .ok (.iconst 1, 1) := by decide +kernel
theorem d_Signatures_fits_95 : decode prog_9_method_7_code 95 = .ok (.goto 4, 3) := by decide +kernel
theorem d_Signatures_fits_98 : decode prog_9_method_7_code 98 = .ok (.iconst 0, 1) := by decide +kernel
theorem d_Signatures_fits_99 : decode prog_9_method_7_code 99 = .ok (.ireturn, 1) := by decide +kernel
theorem d_Signatures_allFit_0 : decode prog_9_method_6_code 0 = .ok (.iconst 0, 1) := by decide +kernel
theorem d_Signatures_allFit_1 : decode prog_9_method_6_code 1 = .ok (.istore 4, 2) := by decide +kernel
theorem d_Signatures_allFit_3 : decode prog_9_method_6_code 3 = .ok (.iconst 0, 1) := by decide +kernel
theorem d_Signatures_allFit_4 : decode prog_9_method_6_code 4 = .ok (.istore 5, 2) := by decide +kernel
theorem d_Signatures_allFit_6 : decode prog_9_method_6_code 6 = .ok (.iload 5, 2) := by decide +kernel
theorem d_Signatures_allFit_8 : decode prog_9_method_6_code 8 = .ok (.iload_n 2, 1) := by decide +kernel
theorem d_Signatures_allFit_9 : decode prog_9_method_6_code 9 = .ok (.if_icmp .ge 47, 3) := by decide +kernel
theorem d_Signatures_allFit_12 : decode prog_9_method_6_code 12 = .ok (.iload 4, 2) := by decide +kernel
theorem d_Signatures_allFit_14 : decode prog_9_method_6_code 14 = .ok (.iload_n 3, 1) := by decide +kernel
theorem d_Signatures_allFit_15 : decode prog_9_method_6_code 15 = .ok (.if_icmp .ge 41, 3) := by decide +kernel
theorem d_Signatures_allFit_18 : decode prog_9_method_6_code 18 = .ok (.iload_n 3, 1) := by decide +kernel
theorem d_Signatures_allFit_19 : decode prog_9_method_6_code 19 = .ok (.iload 4, 2) := by decide +kernel
theorem d_Signatures_allFit_21 : decode prog_9_method_6_code 21 = .ok (.isub, 1) := by decide +kernel
theorem d_Signatures_allFit_22 : decode prog_9_method_6_code 22 = .ok (.iload_n 2, 1) := by decide +kernel
theorem d_Signatures_allFit_23 : decode prog_9_method_6_code 23 = .ok (.iload 5, 2) := by decide +kernel
theorem d_Signatures_allFit_25 : decode prog_9_method_6_code 25 = .ok (.isub, 1) := by decide +kernel
theorem d_Signatures_allFit_26 : decode prog_9_method_6_code 26 = .ok (.if_icmp .gt 30, 3) := by decide +kernel
theorem d_Signatures_allFit_29 : decode prog_9_method_6_code 29 = .ok (.aload_n 0, 1) := by decide +kernel
theorem d_Signatures_allFit_30 : decode prog_9_method_6_code 30 = .ok (.aload_n 1, 1) := by decide +kernel
theorem d_Signatures_allFit_31 : decode prog_9_method_6_code 31 = .ok (.iload_n 2, 1) := by decide +kernel
theorem d_Signatures_allFit_32 : decode prog_9_method_6_code 32 = .ok (.iconst 2, 1) := by decide +kernel
theorem d_Signatures_allFit_33 : decode prog_9_method_6_code 33 = .ok (.iadd, 1) := by decide +kernel
theorem d_Signatures_allFit_34 : decode prog_9_method_6_code 34 = .ok (.iload 4, 2) := by decide +kernel
theorem d_Signatures_allFit_36 : decode prog_9_method_6_code 36 = .ok (.iadd, 1) := by decide +kernel
theorem d_Signatures_allFit_37 : decode prog_9_method_6_code 37 = .ok (.iconst 1, 1) := by decide +kernel
theorem d_Signatures_allFit_38 : decode prog_9_method_6_code 38 = .ok (.iload 5, 2) := by decide +kernel
theorem d_Signatures_allFit_40 : decode prog_9_method_6_code 40 = .ok (.iadd, 1) := by decide +kernel
theorem d_Signatures_allFit_41 : decode prog_9_method_6_code 41 = .ok (.invokevirtual 29, 3) := by decide +kernel
theorem d_Signatures_allFit_44 : decode prog_9_method_6_code 44 = .ok (.ifCond .eq 6, 3) := by decide +kernel
theorem d_Signatures_allFit_47 : decode prog_9_method_6_code 47 = .ok (.iinc 4 1, 3) := by decide +kernel
theorem d_Signatures_allFit_50 : decode prog_9_method_6_code 50 = .ok (.iinc 5 1, 3) := by decide +kernel
theorem d_Signatures_allFit_53 : decode prog_9_method_6_code 53 = .ok (.goto (-47), 3) := by decide +kernel
theorem d_Signatures_allFit_56 : decode prog_9_method_6_code 56 = .ok (.iload 4, 2) := by decide +kernel
theorem d_Signatures_allFit_58 : decode prog_9_method_6_code 58 = .ok (.iload_n 3, 1) := by decide +kernel
theorem d_Signatures_allFit_59 : decode prog_9_method_6_code 59 = .ok (.if_icmp .ne 7, 3) := by decide +kernel
theorem d_Signatures_allFit_62 : decode prog_9_method_6_code 62 = .ok (.iconst 1, 1) := by decide +kernel
theorem d_Signatures_allFit_63 : decode prog_9_method_6_code 63 = .ok (.goto 4, 3) := by decide +kernel
theorem d_Signatures_allFit_66 : decode prog_9_method_6_code 66 = .ok (.iconst 0, 1) := by decide +kernel
theorem d_Signatures_allFit_67 : decode prog_9_method_6_code 67 = .ok (.ireturn, 1) := by decide +kernel
theorem d_Elements_pushNumber_0 : decode prog_3_method_14_code 0 = .ok (.aload_n 0, 1) := by decide +kernel
theorem d_Elements_pushNumber_1 : decode prog_3_method_14_code 1 = .ok (.getfield 21, 3) := by decide +kernel
theorem d_Elements_pushNumber_4 : decode prog_3_method_14_code 4 = .ok (.aload_n 0, 1) := by decide +kernel
theorem d_Elements_pushNumber_5 : decode prog_3_method_14_code 5 = .ok (.getfield 25, 3) := by decide +kernel
theorem d_Elements_pushNumber_8 : decode prog_3_method_14_code 8 = .ok (.iadd, 1) := by decide +kernel
theorem d_Elements_pushNumber_9 : decode prog_3_method_14_code 9 = .ok (.bipush 64, 2) := by decide +kernel
theorem d_Elements_pushNumber_11 : decode prog_3_method_14_code 11 = .ok (.if_icmp .lt 4, 3) := by decide +kernel
theorem d_Elements_pushNumber_14 : decode prog_3_method_14_code 14 = .ok (.return_, 1) := by decide +kernel
theorem d_Elements_pushNumber_15 : decode prog_3_method_14_code 15 = .ok (.aload_n 0, 1) := by decide +kernel
theorem d_Elements_pushNumber_16 : decode prog_3_method_14_code 16 = .ok (.getfield 18, 3) := by decide +kernel
theorem d_Elements_pushNumber_19 : decode prog_3_method_14_code 19 = .ok (.aload_n 0, 1) := by decide +kernel
theorem d_Elements_pushNumber_20 : decode prog_3_method_14_code 20 = .ok (.getfield 21, 3) := by decide +kernel
theorem d_Elements_pushNumber_23 : decode prog_3_method_14_code 23 = .ok (.iaload, 1) := by decide +kernel
theorem d_Elements_pushNumber_24 : decode prog_3_method_14_code 24 = .ok (.istore_n 3, 1) := by decide +kernel
theorem d_Elements_pushNumber_25 : decode prog_3_method_14_code 25 = .ok (.iload_n 3, 1) := by decide +kernel
theorem d_Elements_pushNumber_26 : decode prog_3_method_14_code 26 = .ok (.bipush 120, 2) := by decide +kernel
theorem d_Elements_pushNumber_28 : decode prog_3_method_14_code 28 = .ok (.imul, 1) := by decide +kernel
theorem d_Elements_pushNumber_29 : decode prog_3_method_14_code 29 = .ok (.istore 4, 2) := by decide +kernel
theorem d_Elements_pushNumber_31 : decode prog_3_method_14_code 31 = .ok (.lload_n 1, 1) := by decide +kernel
theorem d_Elements_pushNumber_32 : decode prog_3_method_14_code 32 = .ok (.lconst 0, 1) := by decide +kernel
theorem d_Elements_pushNumber_33 : decode prog_3_method_14_code 33 = .ok (.lcmp, 1) := by decide +kernel
theorem d_Elements_pushNumber_34 : decode prog_3_method_14_code 34 = .ok (.ifCond .ge 8, 3) := by decide +kernel
theorem d_Elements_pushNumber_37 : decode prog_3_method_14_code 37 = .ok (.lload_n 1, 1) := by decide +kernel
theorem d_Elements_pushNumber_38 : decode prog_3_method_14_code 38 = .ok (.lneg, 1) := by decide +kernel
theorem d_Elements_pushNumber_39 : decode prog_3_method_14_code 39 = .ok (.goto 4, 3) := by decide +kernel
theorem d_Elements_pushNumber_42 : decode prog_3_method_14_code 42 = .ok (.lload_n 1, 1) := by decide +kernel
theorem d_Elements_pushNumber_43 : decode prog_3_method_14_code 43 = .ok (.lstore 5, 2) := by decide +kernel
theorem d_Elements_pushNumber_45 : decode prog_3_method_14_code 45 = .ok (.iconst 0, 1) := by decide +kernel
theorem d_Elements_pushNumber_46 : decode prog_3_method_14_code 46 = .ok (.istore 7, 2) := by decide +kernel
theorem d_Elements_pushNumber_48 : decode prog_3_method_14_code 48 = .ok (.iload 7, 2) := by decide +kernel
theorem d_Elements_pushNumber_50 : decode prog_3_method_14_code 50 = .ok (.bipush 8, 2) := by decide +kernel
theorem d_Elements_pushNumber_52 : decode prog_3_method_14_code 52 = .ok (.if_icmp .ge 40, 3) := by decide +kernel
theorem d_Elements_pushNumber_55 : decode prog_3_method_14_code 55 = .ok (.lload 5, 2) := by decide +kernel
theorem d_Elements_pushNumber_57 : decode prog_3_method_14_code 57 = .ok (.lconst 0, 1) := by decide +kernel
theorem d_Elements_pushNumber_58 : decode prog_3_method_14_code 58 = .ok (.lcmp, 1) := by decide +kernel
theorem d_Elements_pushNumber_59 : decode prog_3_method_14_code 59 = .ok (.ifCond .le 33, 3) := by decide +kernel
theorem d_Elements_pushNumber_62 : decode prog_3_method_14_code 62 = .ok (.aload_n 0, 1) := by decide +kernel
theorem d_Elements_pushNumber_63 : decode prog_3_method_14_code 63 = .ok (.getfield 11, 3) := by decide +kernel
theorem d_Elements_pushNumber_66 : decode prog_3_method_14_code 66 = .ok (.iload 4, 2) := by decide +kernel
theorem d_Elements_pushNumber_68 : decode prog_3_method_14_code 68 = .ok (.iload 7, 2) := by decide +kernel
theorem d_Elements_pushNumber_70 : decode prog_3_method_14_code 70 = .ok (.iadd, 1) := by decide +kernel
theorem d_Elements_pushNumber_71 : decode prog_3_method_14_code 71 = .ok (.lload 5, 2) := by decide +kernel
theorem d_Elements_pushNumber_73 : decode prog_3_method_14_code 73 = .ok (.ldc2_w 57, 3) := by decide +kernel
theorem d_Elements_pushNumber_76 : decode prog_3_method_14_code 76 = .ok (.land, 1) := by decide +kernel
theorem d_Elements_pushNumber_77 : decode prog_3_method_14_code 77 = .ok (.l2i, 1) := by decide +kernel
theorem d_Elements_pushNumber_78 : decode prog_3_method_14_code 78 = .ok (.iastore, 1) := by decide +kernel
theorem d_Elements_pushNumber_79 : decode prog_3_method_14_code 79 = .ok (.lload 5, 2) := by decide +kernel
theorem d_Elements_pushNumber_81 : decode prog_3_method_14_code 81 = .ok (.bipush 8, 2) := by decide +kernel
theorem d_Elements_pushNumber_83 : decode prog_3_method_14_code 83 = .ok (.lshr, 1) := by decide +kernel
theorem d_Elements_pushNumber_84 : decode prog_3_method_14_code 84 = .ok (.lstore 5, 2) := by decide +kernel
theorem d_Elements_pushNumber_86 : decode prog_3_method_14_code 86 = .ok (.iinc 7 1, 3) := by decide +kernel
theorem d_Elements_pushNumber_89 : decode prog_3_method_14_code 89 = .ok (.goto (-41), 3) := by decide +kernel
theorem d_Elements_pushNumber_92 : decode prog_3_method_14_code 92 = .ok (.iload 7, 2) := by decide +kernel
theorem d_Elements_pushNumber_94 : decode prog_3_method_14_code 94 = .ok (.ifCond .le 35, 3) := by decide +kernel
theorem d_Elements_pushNumber_97 : decode prog_3_method_14_code 97 = .ok (.aload_n 0, 1) := by decide +kernel
theorem d_Elements_pushNumber_98 : decode prog_3_method_14_code 98 = .ok (.getfield 11, 3) := by decide +kernel
theorem d_Elements_pushNumber_101 : decode prog_3_method_14_code 101 = .ok (.iload 4, 2) := by decide +kernel
theorem d_Elements_pushNumber_103 : decode prog_3_method_14_code 103 = .ok (.iload 7, 2) := by decide +kernel
theorem d_Elements_pushNumber_105 : decode prog_3_method_14_code 105 = .ok (.iadd, 1) := by decide +kernel
theorem d_Elements_pushNumber_106 : decode prog_3_method_14_code 106 = .ok (.iconst 1, 1) := by decide +kernel
theorem d_Elements_pushNumber_107 : decode prog_3_method_14_code 107 = .ok (.isub, 1) := by decide +kernel
theorem d_Elements_pushNumber_108 : decode prog_3_method_14_code 108 = .ok (.iaload, 1) := by decide +kernel
theorem d_Elements_pushNumber_109 : decode prog_3_method_14_code 109 = .ok (.sipush 128, 3) := by decide +kernel
theorem d_Elements_pushNumber_112 : decode prog_3_method_14_code 112 = .ok (.if_icmp .lt 17, 3) := by decide +kernel
theorem d_Elements_pushNumber_115 : decode prog_3_method_14_code 115 = .ok (.aload_n 0, 1) := by decide +kernel
theorem d_Elements_pushNumber_116 : decode prog_3_method_14_code 116 = .ok (.getfield 11, 3) := by decide +kernel
theorem d_Elements_pushNumber_119 : decode prog_3_method_14_code 119 = .ok (.iload 4, 2) := by decide +kernel
theorem d_Elements_pushNumber_121 : decode prog_3_method_14_code 121 = .ok (.iload 7, 2) := by decide +kernel
theorem d_Elements_pushNumber_123 : decode prog_3_method_14_code 123 = .ok (.iadd, 1) := by decide +kernel
theorem d_Elements_pushNumber_124 : decode prog_3_method_14_code 124 = .ok (.iconst 0, 1) := by decide +kernel
theorem d_Elements_pushNumber_125 : decode prog_3_method_14_code 125 = .ok (.iastore, 1) := by decide +kernel
theorem d_Elements_pushNumber_126 : decode prog_3_method_14_code 126 = .ok (.iinc 7 1, 3) := by decide +kernel
theorem d_Elements_pushNumber_129 : decode prog_3_method_14_code 129 = .ok (.lload_n 1, 1) := by decide +kernel
theorem d_Elements_pushNumber_130 : decode prog_3_method_14_code 130 = .ok (.lconst 0, 1) := by decide +kernel
theorem d_Elements_pushNumber_131 : decode prog_3_method_14_code 131 = .ok (.lcmp, 1) := by decide +kernel
theorem d_Elements_pushNumber_132 : decode prog_3_method_14_code 132 = .ok (.ifCond .ge 26, 3) := by decide +kernel
theorem d_Elements_pushNumber_135 : decode prog_3_method_14_code 135 = .ok (.iload 7, 2) := by decide +kernel
theorem d_Elements_pushNumber_137 : decode prog_3_method_14_code 137 = .ok (.ifCond .le 21, 3) := by decide +kernel
theorem d_Elements_pushNumber_140 : decode prog_3_method_14_code 140 = .ok (.aload_n 0, 1) := by decide +kernel
theorem d_Elements_pushNumber_141 : decode prog_3_method_14_code 141 = .ok (.getfield 11, 3) := by decide +kernel
theorem d_Elements_pushNumber_144 : decode prog_3_method_14_code 144 = .ok (.iload 4, 2) := by decide +kernel
theorem d_Elements_pushNumber_146 : decode prog_3_method_14_code 146 = .ok (.iload 7, 2) := by decide +kernel
theorem d_Elements_pushNumber_148 : decode prog_3_method_14_code 148 = .ok (.iadd, 1) := by decide +kernel
theorem d_Elements_pushNumber_149 : decode prog_3_method_14_code 149 = .ok (.iconst 1, 1) := by decide +kernel
theorem d_Elements_pushNumber_150 : decode prog_3_method_14_code 150 = .ok (.isub, 1) := by decide +kernel
theorem d_Elements_pushNumber_151 : decode prog_3_method_14_code 151 = .ok (.dup2, 1) := by decide +kernel
theorem d_Elements_pushNumber_152 : decode prog_3_method_14_code 152 = .ok (.iaload, 1) := by decide +kernel
theorem d_Elements_pushNumber_153 : decode prog_3_method_14_code 153 = .ok (.sipush 128, 3) := by decide +kernel
theorem d_Elements_pushNumber_156 : decode prog_3_method_14_code 156 = .ok (.ior, 1) := by decide +kernel
theorem d_Elements_pushNumber_157 : decode prog_3_method_14_code 157 = .ok (.iastore, 1) := by decide +kernel
theorem d_Elements_pushNumber_158 : decode prog_3_method_14_code 158 = .ok (.aload_n 0, 1) := by decide +kernel
theorem d_Elements_pushNumber_159 : decode prog_3_method_14_code 159 = .ok (.getfield 15, 3) := by decide +kernel
theorem d_Elements_pushNumber_162 : decode prog_3_method_14_code 162 = .ok (.iload_n 3, 1) := by decide +kernel
theorem d_Elements_pushNumber_163 : decode prog_3_method_14_code 163 = .ok (.iload 7, 2) := by decide +kernel
theorem d_Elements_pushNumber_165 : decode prog_3_method_14_code 165 = .ok (.iastore, 1) := by decide +kernel
theorem d_Elements_pushNumber_166 : decode prog_3_method_14_code 166 = .ok (.aload_n 0, 1) := by decide +kernel
theorem d_Elements_pushNumber_167 : decode prog_3_method_14_code 167 = .ok (.dup, 1) := by decide +kernel
theorem d_Elements_pushNumber_168 : decode prog_3_method_14_code 168 = .ok (.getfield 21, 3) := by decide +kernel
theorem d_Elements_pushNumber_171 : decode prog_3_method_14_code 171 = .ok (.iconst 1, 1) := by decide +kernel
theorem d_Elements_pushNumber_172 : decode prog_3_method_14_code 172 = .ok (.iadd, 1) := by decide +kernel
theorem d_Elements_pushNumber_173 : decode prog_3_method_14_code 173 = .ok (.putfield 21, 3) := by decide +kernel
theorem d_Elements_pushNumber_176 : decode prog_3_method_14_code 176 = .ok (.return_, 1) := by decide +kernel
theorem d_Elements_replaceByTruth_0 : decode prog_3_method_15_code 0 = .ok (.aload_n 0, 1) := by decide +kernel
theorem d_Elements_replaceByTruth_1 : decode prog_3_method_15_code 1 = .ok (.iload_n 1, 1) := by decide +kernel
theorem d_Elements_replaceByTruth_2 : decode prog_3_method_15_code 2 = .ok (.invokevirtual 59, 3) := by decide +kernel
theorem d_Elements_replaceByTruth_5 : decode prog_3_method_15_code 5 = .ok (.aload_n 0, 1) := by decide +kernel
theorem d_Elements_replaceByTruth_6 : decode prog_3_method_15_code 6 = .ok (.iload_n 2, 1) := by decide +kernel
theorem d_Elements_replaceByTruth_7 : decode prog_3_method_15_code 7 = .ok (.ifCond .eq 7, 3) := by decide +kernel
theorem d_Elements_replaceByTruth_10 : decode prog_3_method_15_code 10 = .ok (.lconst 1, 1) := by decide +kernel
theorem d_Elements_replaceByTruth_11 : decode prog_3_method_15_code 11 = .ok (.goto 4, 3) := by decide +kernel
theorem d_Elements_replaceByTruth_14 : decode prog_3_method_15_code 14 = .ok (.lconst 0, 1) := by decide +kernel
theorem d_Elements_replaceByTruth_15 : decode prog_3_method_15_code 15 = .ok (.invokevirtual 62, 3) := by decide +kernel
theorem d_Elements_replaceByTruth_18 : decode prog_3_method_15_code 18 = .ok (.return_, 1) := by decide +kernel
theorem d_Signatures_askMany_0 : decode prog_9_method_4_code 0 = .ok (.aload_n 1, 1) := by decide +kernel
theorem d_Signatures_askMany_1 : decode prog_9_method_4_code 1 = .ok (.iconst 0, 1) := by decide +kernel
theorem d_Signatures_askMany_2 : decode prog_9_method_4_code 2 = .ok (.bipush 8, 2) := by decide +kernel
theorem d_Signatures_askMany_4 : decode prog_9_method_4_code 4 = .ok (.invokestatic 37, 3) := by decide +kernel
theorem d_Signatures_askMany_7 : decode prog_9_method_4_code 7 = .ok (.istore_n 3, 1) := by decide +kernel
theorem d_Signatures_askMany_8 : decode prog_9_method_4_code 8 = .ok (.iload_n 3, 1) := by decide +kernel
theorem d_Signatures_askMany_9 : decode prog_9_method_4_code 9 = .ok (.ifCond .eq 5, 3) := by decide +kernel
theorem d_Signatures_askMany_12 : decode prog_9_method_4_code 12 = .ok (.iload_n 3, 1) := by decide +kernel
theorem d_Signatures_askMany_13 : decode prog_9_method_4_code 13 = .ok (.ireturn, 1) := by decide +kernel
theorem d_Signatures_askMany_14 : decode prog_9_method_4_code 14 = .ok (.aload_n 1, 1) := by decide +kernel
theorem d_Signatures_askMany_15 : decode prog_9_method_4_code 15 = .ok (.iconst 0, 1) := by decide +kernel
theorem d_Signatures_askMany_16 : decode prog_9_method_4_code 16 = .ok (.invokevirtual 41, 3) := by decide +kernel
theorem d_Signatures_askMany_19 : decode prog_9_method_4_code 19 = .ok (.l2i, 1) := by decide +kernel
theorem d_Signatures_askMany_20 : decode prog_9_method_4_code 20 = .ok (.istore 4, 2) := by decide +kernel
theorem d_Signatures_askMany_22 : decode prog_9_method_4_code 22 = .ok (.aload_n 2, 1) := by decide +kernel
theorem d_Signatures_askMany_23 : decode prog_9_method_4_code 23 = .ok (.iload 4, 2) := by decide +kernel
theorem d_Signatures_askMany_25 : decode prog_9_method_4_code 25 = .ok (.invokevirtual 45, 3) := by decide +kernel
theorem d_Signatures_askMany_28 : decode prog_9_method_4_code 28 = .ok (.ifCond .eq 5, 3) := by decide +kernel
theorem d_Signatures_askMany_31 : decode prog_9_method_4_code 31 = .ok (.iconst 3, 1) := by decide +kernel
theorem d_Signatures_askMany_32 : decode prog_9_method_4_code 32 = .ok (.ireturn, 1) := by decide +kernel
theorem d_Signatures_askMany_33 : decode prog_9_method_4_code 33 = .ok (.aload_n 1, 1) := by decide +kernel
theorem d_Signatures_askMany_34 : decode prog_9_method_4_code 34 = .ok (.iload 4, 2) := by decide +kernel
theorem d_Signatures_askMany_36 : decode prog_9_method_4_code 36 = .ok (.iconst 1, 1) := by decide +kernel
theorem d_Signatures_askMany_37 : decode prog_9_method_4_code 37 = .ok (.iadd, 1) := by decide +kernel
theorem d_Signatures_askMany_38 : decode prog_9_method_4_code 38 = .ok (.iload 4, 2) := by decide +kernel
theorem d_Signatures_askMany_40 : decode prog_9_method_4_code 40 = .ok (.invokestatic 37, 3) := by decide +kernel
theorem d_Signatures_askMany_43 : decode prog_9_method_4_code 43 = .ok (.istore_n 3, 1) := by decide +kernel
theorem d_Signatures_askMany_44 : decode prog_9_method_4_code 44 = .ok (.iload_n 3, 1) := by decide +kernel
theorem d_Signatures_askMany_45 : decode prog_9_method_4_code 45 = .ok (.ifCond .eq 5, 3) := by decide +kernel
theorem d_Signatures_askMany_48 : decode prog_9_method_4_code 48 = .ok (.iload_n 3, 1) := by decide +kernel
theorem d_Signatures_askMany_49 : decode prog_9_method_4_code 49 = .ok (.ireturn, 1) := by decide +kernel
theorem d_Signatures_askMany_50 : decode prog_9_method_4_code 50 = .ok (.aload_n 1, 1) := by decide +kernel
theorem d_Signatures_askMany_51 : decode prog_9_method_4_code 51 = .ok (.iload 4, 2) := by decide +kernel
theorem d_Signatures_askMany_53 : decode prog_9_method_4_code 53 = .ok (.iconst 1, 1) := by decide +kernel
theorem d_Signatures_askMany_54 : decode prog_9_method_4_code 54 = .ok (.iadd, 1) := by decide +kernel
theorem d_Signatures_askMany_55 : decode prog_9_method_4_code 55 = .ok (.invokevirtual 41, 3) := by decide +kernel
theorem d_Signatures_askMany_58 : decode prog_9_method_4_code 58 = .ok (.l2i, 1) := by decide +kernel
theorem d_Signatures_askMany_59 : decode prog_9_method_4_code 59 = .ok (.istore 5, 2) := by decide +kernel
theorem d_Signatures_askMany_61 : decode prog_9_method_4_code 61 = .ok (.iload 4, 2) := by decide +kernel
theorem d_Signatures_askMany_63 : decode prog_9_method_4_code 63 = .ok (.iload 5, 2) := by decide +kernel
theorem d_Signatures_askMany_65 : decode prog_9_method_4_code 65 = .ok (.iadd, 1) := by decide +kernel
theorem d_Signatures_askMany_66 : decode prog_9_method_4_code 66 = .ok (.iconst 3, 1) := by decide +kernel
theorem d_Signatures_askMany_67 : decode prog_9_method_4_code 67 = .ok (.iadd, 1) := by decide +kernel
theorem d_Signatures_askMany_68 : decode prog_9_method_4_code 68 = .ok (.istore 6, 2) := by decide +kernel
theorem d_Signatures_askMany_70 : decode prog_9_method_4_code 70 = .ok (.aload_n 1, 1) := by decide +kernel
theorem d_Signatures_askMany_71 : decode prog_9_method_4_code 71 = .ok (.getfield 25, 3) := by decide +kernel
theorem d_Signatures_askMany_74 : decode prog_9_method_4_code 74 = .ok (.iload 6, 2) := by decide +kernel
theorem d_Signatures_askMany_76 : decode prog_9_method_4_code 76 = .ok (.if_icmp .ge 5, 3) := by decide +kernel
theorem d_Signatures_askMany_79 : decode prog_9_method_4_code 79 = .ok (.iconst 5, 1) := by decide +kernel
theorem d_Signatures_askMany_80 : decode prog_9_method_4_code 80 = .ok (.ireturn, 1) := by decide +kernel
theorem d_Signatures_askMany_81 : decode prog_9_method_4_code 81 = .ok (.aload_n 0, 1) := by decide +kernel
theorem d_Signatures_askMany_82 : decode prog_9_method_4_code 82 = .ok (.aload_n 1, 1) := by decide +kernel
theorem d_Signatures_askMany_83 : decode prog_9_method_4_code 83 = .ok (.iload 4, 2) := by decide +kernel
theorem d_Signatures_askMany_85 : decode prog_9_method_4_code 85 = .ok (.iload 5, 2) := by decide +kernel
theorem d_Signatures_askMany_87 : decode prog_9_method_4_code 87 = .ok (.invokevirtual 51, 3) := by decide +kernel
theorem d_Signatures_askMany_90 : decode prog_9_method_4_code 90 = .ok (.istore 7, 2) := by decide +kernel
theorem d_Signatures_askMany_92 : decode prog_9_method_4_code 92 = .ok (.aload_n 1, 1) := by decide +kernel
theorem d_Signatures_askMany_93 : decode prog_9_method_4_code 93 = .ok (.iload 6, 2) := by decide +kernel
theorem d_Signatures_askMany_95 : decode prog_9_method_4_code 95 = .ok (.iload 7, 2) := by decide +kernel
theorem d_Signatures_askMany_97 : decode prog_9_method_4_code 97 = .ok (.invokevirtual 33, 3) := by decide +kernel
theorem d_Signatures_askMany_100 : decode prog_9_method_4_code 100 = .ok (.iconst 0, 1) := by decide +kernel
theorem d_Signatures_askMany_101 : decode prog_9_method_4_code 101 = .ok (.ireturn, 1) := by decide +kernel
theorem d_Elements_takeTrue_0 : decode prog_3_method_19_code 0 = .ok (.aload_n 0, 1) := by decide +kernel
theorem d_Elements_takeTrue_1 : decode prog_3_method_19_code 1 = .ok (.getfield 21, 3) := by decide +kernel
theorem d_Elements_takeTrue_4 : decode prog_3_method_19_code 4 = .ok (.iconst 1, 1) := by decide +kernel
theorem d_Elements_takeTrue_5 : decode prog_3_method_19_code 5 = .ok (.if_icmp .ge 5, 3) := by decide +kernel
theorem d_Elements_takeTrue_8 : decode prog_3_method_19_code 8 = .ok (.iconst 5, 1) := by decide +kernel
theorem d_Elements_takeTrue_9 : decode prog_3_method_19_code 9 = .ok (.ireturn, 1) := by decide +kernel
theorem d_Elements_takeTrue_10 : decode prog_3_method_19_code 10 = .ok (.aload_n 0, 1) := by decide +kernel
theorem d_Elements_takeTrue_11 : decode prog_3_method_19_code 11 = .ok (.invokevirtual 70, 3) := by decide +kernel
theorem d_Elements_takeTrue_14 : decode prog_3_method_19_code 14 = .ok (.ifCond .ne 6, 3) := by decide +kernel
theorem d_Elements_takeTrue_17 : decode prog_3_method_19_code 17 = .ok (.bipush 8, 2) := by decide +kernel
theorem d_Elements_takeTrue_19 : decode prog_3_method_19_code 19 = .ok (.ireturn, 1) := by decide +kernel
theorem d_Elements_takeTrue_20 : decode prog_3_method_19_code 20 = .ok (.aload_n 0, 1) := by decide +kernel
theorem d_Elements_takeTrue_21 : decode prog_3_method_19_code 21 = .ok (.iconst 1, 1) := by decide +kernel
theorem d_Elements_takeTrue_22 : decode prog_3_method_19_code 22 = .ok (.invokevirtual 59, 3) := by decide +kernel
theorem d_Elements_takeTrue_25 : decode prog_3_method_19_code 25 = .ok (.iconst 0, 1) := by decide +kernel
theorem d_Elements_takeTrue_26 : decode prog_3_method_19_code 26 = .ok (.ireturn, 1) := by decide +kernel
theorem d_Signatures_askOne_0 : decode prog_9_method_3_code 0 = .ok (.aload_n 1, 1) := by decide +kernel
theorem d_Signatures_askOne_1 : decode prog_9_method_3_code 1 = .ok (.getfield 25, 3) := by decide +kernel
theorem d_Signatures_askOne_4 : decode prog_9_method_3_code 4 = .ok (.iconst 2, 1) := by decide +kernel
theorem d_Signatures_askOne_5 : decode prog_9_method_3_code 5 = .ok (.if_icmp .ge 5, 3) := by decide +kernel
theorem d_Signatures_askOne_8 : decode prog_9_method_3_code 8 = .ok (.iconst 5, 1) := by decide +kernel
theorem d_Signatures_askOne_9 : decode prog_9_method_3_code 9 = .ok (.ireturn, 1) := by decide +kernel
theorem d_Signatures_askOne_10 : decode prog_9_method_3_code 10 = .ok (.aload_n 0, 1) := by decide +kernel
theorem d_Signatures_askOne_11 : decode prog_9_method_3_code 11 = .ok (.aload_n 1, 1) := by decide +kernel
theorem d_Signatures_askOne_12 : decode prog_9_method_3_code 12 = .ok (.iconst 1, 1) := by decide +kernel
theorem d_Signatures_askOne_13 : decode prog_9_method_3_code 13 = .ok (.iconst 0, 1) := by decide +kernel
theorem d_Signatures_askOne_14 : decode prog_9_method_3_code 14 = .ok (.invokevirtual 29, 3) := by decide +kernel
theorem d_Signatures_askOne_17 : decode prog_9_method_3_code 17 = .ok (.istore_n 2, 1) := by decide +kernel
theorem d_Signatures_askOne_18 : decode prog_9_method_3_code 18 = .ok (.aload_n 1, 1) := by decide +kernel
theorem d_Signatures_askOne_19 : decode prog_9_method_3_code 19 = .ok (.iconst 2, 1) := by decide +kernel
theorem d_Signatures_askOne_20 : decode prog_9_method_3_code 20 = .ok (.iload_n 2, 1) := by decide +kernel
theorem d_Signatures_askOne_21 : decode prog_9_method_3_code 21 = .ok (.invokevirtual 33, 3) := by decide +kernel
theorem d_Signatures_askOne_24 : decode prog_9_method_3_code 24 = .ok (.iconst 0, 1) := by decide +kernel
theorem d_Signatures_askOne_25 : decode prog_9_method_3_code 25 = .ok (.ireturn, 1) := by decide +kernel
theorem d_Signatures_perform_0 : decode prog_9_method_2_code 0 = .ok (.iload_n 3, 1) := by decide +kernel
theorem d_Signatures_perform_1 : decode prog_9_method_2_code 1 = .ok (.sipush 172, 3) := by decide +kernel
theorem d_Signatures_perform_4 : decode prog_9_method_2_code 4 = .ok (.if_icmp .lt 10, 3) := by decide +kernel
theorem d_Signatures_perform_7 : decode prog_9_method_2_code 7 = .ok (.iload_n 3, 1) := by decide +kernel
theorem d_Signatures_perform_8 : decode prog_9_method_2_code 8 = .ok (.sipush 175, 3) := by decide +kernel
theorem d_Signatures_perform_11 : decode prog_9_method_2_code 11 = .ok (.if_icmp .le 5, 3) := by decide +kernel
theorem d_Signatures_perform_14 : decode prog_9_method_2_code 14 = .ok (.iconst 4, 1) := by decide +kernel
theorem d_Signatures_perform_15 : decode prog_9_method_2_code 15 = .ok (.ireturn, 1) := by decide +kernel
theorem d_Signatures_perform_16 : decode prog_9_method_2_code 16 = .ok (.iload_n 3, 1) := by decide +kernel
theorem d_Signatures_perform_17 : decode prog_9_method_2_code 17 = .ok (.sipush 173, 3) := by decide +kernel
theorem d_Signatures_perform_20 : decode prog_9_method_2_code 20 = .ok (.if_icmp .gt 11, 3) := by decide +kernel
theorem d_Signatures_perform_23 : decode prog_9_method_2_code 23 = .ok (.aload_n 0, 1) := by decide +kernel
theorem d_Signatures_perform_24 : decode prog_9_method_2_code 24 = .ok (.aload_n 1, 1) := by decide +kernel
theorem d_Signatures_perform_25 : decode prog_9_method_2_code 25 = .ok (.invokevirtual 9, 3) := by decide +kernel
theorem d_Signatures_perform_28 : decode prog_9_method_2_code 28 = .ok (.goto 9, 3) := by decide +kernel
theorem d_Signatures_perform_31 : decode prog_9_method_2_code 31 = .ok (.aload_n 0, 1) := by decide +kernel
theorem d_Signatures_perform_32 : decode prog_9_method_2_code 32 = .ok (.aload_n 1, 1) := by decide +kernel
theorem d_Signatures_perform_33 : decode prog_9_method_2_code 33 = .ok (.aload_n 2, 1) := by decide +kernel
theorem d_Signatures_perform_34 : decode prog_9_method_2_code 34 = .ok (.invokevirtual 15, 3) := by decide +kernel
theorem d_Signatures_perform_37 : decode prog_9_method_2_code 37 = .ok (.istore 4, 2) := by decide +kernel
theorem d_Signatures_perform_39 : decode prog_9_method_2_code 39 = .ok (.iload_n 3, 1) := by decide +kernel
theorem d_Signatures_perform_40 : decode prog_9_method_2_code 40 = .ok (.sipush 173, 3) := by decide +kernel
theorem d_Signatures_perform_43 : decode prog_9_method_2_code 43 = .ok (.if_icmp .eq 10, 3) := by decide +kernel
theorem d_Signatures_perform_46 : decode prog_9_method_2_code 46 = .ok (.iload_n 3, 1) := by decide +kernel
theorem d_Signatures_perform_47 : decode prog_9_method_2_code 47 = .ok (.sipush 175, 3) := by decide +kernel
theorem d_Signatures_perform_50 : decode prog_9_method_2_code 50 = .ok (.if_icmp .ne 7, 3) := by decide +kernel
theorem d_Signatures_perform_53 : decode prog_9_method_2_code 53 = .ok (.iconst 1, 1) := by decide +kernel
theorem d_Signatures_perform_54 : decode prog_9_method_2_code 54 = .ok (.goto 4, 3) := by decide +kernel
theorem d_Signatures_perform_57 : decode prog_9_method_2_code 57 = .ok (.iconst 0, 1) := by decide +kernel
theorem d_Signatures_perform_58 : decode prog_9_method_2_code 58 = .ok (.istore 5, 2) := by decide +kernel
theorem d_Signatures_perform_60 : decode prog_9_method_2_code 60 = .ok (.iload 4, 2) := by decide +kernel
theorem d_Signatures_perform_62 : decode prog_9_method_2_code 62 = .ok (.ifCond .ne 15, 3) := by decide +kernel
theorem d_Signatures_perform_65 : decode prog_9_method_2_code 65 = .ok (.iload 5, 2) := by decide +kernel
theorem d_Signatures_perform_67 : decode prog_9_method_2_code 67 = .ok (.ifCond .eq 10, 3) := by decide +kernel
theorem d_Signatures_perform_70 : decode prog_9_method_2_code 70 = .ok (.aload_n 1, 1) := by decide +kernel
theorem d_Signatures_perform_71 : decode prog_9_method_2_code 71 = .ok (.invokevirtual 19, 3) := by decide +kernel
theorem d_Signatures_perform_74 : decode prog_9_method_2_code 74 = .ok (.goto 5, 3) := by decide +kernel
theorem d_Signatures_perform_77 : decode prog_9_method_2_code 77 = .ok (.iload 4, 2) := by decide +kernel
theorem d_Signatures_perform_79 : decode prog_9_method_2_code 79 = .ok (.ireturn, 1) := by decide +kernel
theorem d_Arrays_fill_0 : decode prog_15_method_103_code 0 = .ok (.iconst 0, 1) := by decide +kernel
theorem d_Arrays_fill_1 : decode prog_15_method_103_code 1 = .ok (.istore_n 2, 1) := by decide +kernel
theorem d_Arrays_fill_2 : decode prog_15_method_103_code 2 = .ok (.aload_n 0, 1) := by decide +kernel
theorem d_Arrays_fill_3 : decode prog_15_method_103_code 3 = .ok (.arraylength, 1) := by decide +kernel
theorem d_Arrays_fill_4 : decode prog_15_method_103_code 4 = .ok (.istore_n 3, 1) := by decide +kernel
theorem d_Arrays_fill_5 : decode prog_15_method_103_code 5 = .ok (.iload_n 2, 1) := by decide +kernel
theorem d_Arrays_fill_6 : decode prog_15_method_103_code 6 = .ok (.iload_n 3, 1) := by decide +kernel
theorem d_Arrays_fill_7 : decode prog_15_method_103_code 7 = .ok (.if_icmp .ge 13, 3) := by decide +kernel
theorem d_Arrays_fill_10 : decode prog_15_method_103_code 10 = .ok (.aload_n 0, 1) := by decide +kernel
theorem d_Arrays_fill_11 : decode prog_15_method_103_code 11 = .ok (.iload_n 2, 1) := by decide +kernel
theorem d_Arrays_fill_12 : decode prog_15_method_103_code 12 = .ok (.iload_n 1, 1) := by decide +kernel
theorem d_Arrays_fill_13 : decode prog_15_method_103_code 13 = .ok (.iastore, 1) := by decide +kernel
theorem d_Arrays_fill_14 : decode prog_15_method_103_code 14 = .ok (.iinc 2 1, 3) := by decide +kernel
theorem d_Arrays_fill_17 : decode prog_15_method_103_code 17 = .ok (.goto (-12), 3) := by decide +kernel
theorem d_Arrays_fill_20 : decode prog_15_method_103_code 20 = .ok (.return_, 1) := by decide +kernel
theorem d_BlockDigest_shiftOf_0 : decode prog_2_method_8_code 0 = .ok (.aload_n 0, 1) := by decide +kernel
theorem d_BlockDigest_shiftOf_1 : decode prog_2_method_8_code 1 = .ok (.getfield 15, 3) := by decide +kernel
theorem d_BlockDigest_shiftOf_4 : decode prog_2_method_8_code 4 = .ok (.ifCond .eq 13, 3) := by decide +kernel
theorem d_BlockDigest_shiftOf_7 : decode prog_2_method_8_code 7 = .ok (.bipush 24, 2) := by decide +kernel
theorem d_BlockDigest_shiftOf_9 : decode prog_2_method_8_code 9 = .ok (.bipush 8, 2) := by decide +kernel
theorem d_BlockDigest_shiftOf_11 : decode prog_2_method_8_code 11 = .ok (.iload_n 1, 1) := by decide +kernel
theorem d_BlockDigest_shiftOf_12 : decode prog_2_method_8_code 12 = .ok (.imul, 1) := by decide +kernel
theorem d_BlockDigest_shiftOf_13 : decode prog_2_method_8_code 13 = .ok (.isub, 1) := by decide +kernel
theorem d_BlockDigest_shiftOf_14 : decode prog_2_method_8_code 14 = .ok (.goto 7, 3) := by decide +kernel
theorem d_BlockDigest_shiftOf_17 : decode prog_2_method_8_code 17 = .ok (.bipush 8, 2) := by decide +kernel
theorem d_BlockDigest_shiftOf_19 : decode prog_2_method_8_code 19 = .ok (.iload_n 1, 1) := by decide +kernel
theorem d_BlockDigest_shiftOf_20 : decode prog_2_method_8_code 20 = .ok (.imul, 1) := by decide +kernel
theorem d_BlockDigest_shiftOf_21 : decode prog_2_method_8_code 21 = .ok (.ireturn, 1) := by decide +kernel
theorem d_BlockDigest_write_0 : decode prog_2_method_7_code 0 = .ok (.iload_n 3, 1) := by decide +kernel
theorem d_BlockDigest_write_1 : decode prog_2_method_7_code 1 = .ok (.ifCond .lt 11, 3) := by decide +kernel
theorem d_BlockDigest_write_4 : decode prog_2_method_7_code 4 = .ok (.iload_n 3, 1) := by decide +kernel
theorem d_BlockDigest_write_5 : decode prog_2_method_7_code 5 = .ok (.aload_n 2, 1) := by decide +kernel
theorem d_BlockDigest_write_6 : decode prog_2_method_7_code 6 = .ok (.arraylength, 1) := by decide +kernel
theorem d_BlockDigest_write_7 : decode prog_2_method_7_code 7 = .ok (.iconst 4, 1) := by decide +kernel
theorem d_BlockDigest_write_8 : decode prog_2_method_7_code 8 = .ok (.isub, 1) := by decide +kernel
theorem d_BlockDigest_write_9 : decode prog_2_method_7_code 9 = .ok (.if_icmp .le 4, 3) := by decide +kernel
theorem d_BlockDigest_write_12 : decode prog_2_method_7_code 12 = .ok (.return_, 1) := by decide +kernel
theorem d_BlockDigest_write_13 : decode prog_2_method_7_code 13 = .ok (.iconst 0, 1) := by decide +kernel
theorem d_BlockDigest_write_14 : decode prog_2_method_7_code 14 = .ok (.istore 4, 2) := by decide +kernel
theorem d_BlockDigest_write_16 : decode prog_2_method_7_code 16 = .ok (.iload 4, 2) := by decide +kernel
theorem d_BlockDigest_write_18 : decode prog_2_method_7_code 18 = .ok (.iconst 4, 1) := by decide +kernel
theorem d_BlockDigest_write_19 : decode prog_2_method_7_code 19 = .ok (.if_icmp .ge 27, 3) := by decide +kernel
theorem d_BlockDigest_write_22 : decode prog_2_method_7_code 22 = .ok (.aload_n 2, 1) := by decide +kernel
theorem d_BlockDigest_write_23 : decode prog_2_method_7_code 23 = .ok (.iload_n 3, 1) := by decide +kernel
theorem d_BlockDigest_write_24 : decode prog_2_method_7_code 24 = .ok (.iload 4, 2) := by decide +kernel
theorem d_BlockDigest_write_26 : decode prog_2_method_7_code 26 = .ok (.iadd, 1) := by decide +kernel
theorem d_BlockDigest_write_27 : decode prog_2_method_7_code 27 = .ok (.iload_n 1, 1) := by decide +kernel
theorem d_BlockDigest_write_28 : decode prog_2_method_7_code 28 = .ok (.aload_n 0, 1) := by decide +kernel
theorem d_BlockDigest_write_29 : decode prog_2_method_7_code 29 = .ok (.iload 4, 2) := by decide +kernel
theorem d_BlockDigest_write_31 : decode prog_2_method_7_code 31 = .ok (.invokevirtual 69, 3) := by decide +kernel
theorem d_BlockDigest_write_34 : decode prog_2_method_7_code 34 = .ok (.iushr, 1) := by decide +kernel
theorem d_BlockDigest_write_35 : decode prog_2_method_7_code 35 = .ok (.sipush 255, 3) := by decide +kernel
theorem d_BlockDigest_write_38 : decode prog_2_method_7_code 38 = .ok (.iand, 1) := by decide +kernel
theorem d_BlockDigest_write_39 : decode prog_2_method_7_code 39 = .ok (.iastore, 1) := by decide +kernel
theorem d_BlockDigest_write_40 : decode prog_2_method_7_code 40 = .ok (.iinc 4 1, 3) := by decide +kernel
