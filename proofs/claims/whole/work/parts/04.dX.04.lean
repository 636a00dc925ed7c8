theorem d_Desk_performDigest_59 : decode prog_1_method_19_code 59 = .ok (.sipush 166, 3) := by decide +kernel
theorem d_Desk_performDigest_62 : decode prog_1_method_19_code 62 = .ok (.if_icmp .eq 10, 3) := by decide +kernel
theorem d_Desk_performDigest_65 : decode prog_1_method_19_code 65 = .ok (.iload_n 1, 1) := by decide +kernel
theorem d_Desk_performDigest_66 : decode prog_1_method_19_code 66 = .ok (.sipush 169, 3) := by decide +kernel
theorem d_Desk_performDigest_69 : decode prog_1_method_19_code 69 = .ok (.if_icmp .ne 14, 3) := by decide +kernel
theorem d_Desk_performDigest_72 : decode prog_1_method_19_code 72 = .ok (.aload_n 0, 1) := by decide +kernel
theorem d_Desk_performDigest_73 : decode prog_1_method_19_code 73 = .ok (.getfield 61, 3) := by decide +kernel
theorem d_Desk_performDigest_76 : decode prog_1_method_19_code 76 = .ok (.aload_n 0, 1) := by decide +kernel
theorem d_Desk_performDigest_77 : decode prog_1_method_19_code 77 = .ok (.getfield 26, 3) := by decide +kernel
theorem d_Desk_performDigest_80 : decode prog_1_method_19_code 80 = .ok (.invokevirtual 176, 3) := by decide +kernel
theorem d_Desk_performDigest_83 : decode prog_1_method_19_code 83 = .ok (.iconst 0, 1) := by decide +kernel
theorem d_Desk_performDigest_84 : decode prog_1_method_19_code 84 = .ok (.ireturn, 1) := by decide +kernel
theorem d_Numbers_operandsOf_0 : decode prog_6_method_3_code 0 = .ok (.iload_n 0, 1) := by decide +kernel
theorem d_Numbers_operandsOf_1 : decode prog_6_method_3_code 1 = .ok (.sipush 139, 3) := by decide +kernel
theorem d_Numbers_operandsOf_4 : decode prog_6_method_3_code 4 = .ok (.if_icmp .eq 24, 3) := by decide +kernel
theorem d_Numbers_operandsOf_7 : decode prog_6_method_3_code 7 = .ok (.iload_n 0, 1) := by decide +kernel
theorem d_Numbers_operandsOf_8 : decode prog_6_method_3_code 8 = .ok (.sipush 140, 3) := by decide +kernel
theorem d_Numbers_operandsOf_11 : decode prog_6_method_3_code 11 = .ok (.if_icmp .eq 17, 3) := by decide +kernel
theorem d_Numbers_operandsOf_14 : decode prog_6_method_3_code 14 = .ok (.iload_n 0, 1) := by decide +kernel
theorem d_Numbers_operandsOf_15 : decode prog_6_method_3_code 15 = .ok (.sipush 143, 3) := by decide +kernel
theorem d_Numbers_operandsOf_18 : decode prog_6_method_3_code 18 = .ok (.if_icmp .lt 12, 3) := by decide +kernel
theorem d_Numbers_operandsOf_21 : decode prog_6_method_3_code 21 = .ok (.iload_n 0, 1) := by decide +kernel
theorem d_Numbers_operandsOf_22 : decode prog_6_method_3_code 22 = .ok (.sipush 146, 3) := by decide +kernel
theorem d_Numbers_operandsOf_25 : decode prog_6_method_3_code 25 = .ok (.if_icmp .gt 5, 3) := by decide +kernel
theorem d_Numbers_operandsOf_28 : decode prog_6_method_3_code 28 = .ok (.iconst 1, 1) := by decide +kernel
theorem d_Numbers_operandsOf_29 : decode prog_6_method_3_code 29 = .ok (.ireturn, 1) := by decide +kernel
theorem d_Numbers_operandsOf_30 : decode prog_6_method_3_code 30 = .ok (.iload_n 0, 1) := by decide +kernel
theorem d_Numbers_operandsOf_31 : decode prog_6_method_3_code 31 = .ok (.sipush 147, 3) := by decide +kernel
theorem d_Numbers_operandsOf_34 : decode prog_6_method_3_code 34 = .ok (.if_icmp .eq 24, 3) := by decide +kernel
theorem d_Numbers_operandsOf_37 : decode prog_6_method_3_code 37 = .ok (.iload_n 0, 1) := by decide +kernel
theorem d_Numbers_operandsOf_38 : decode prog_6_method_3_code 38 = .ok (.sipush 148, 3) := by decide +kernel
theorem d_Numbers_operandsOf_41 : decode prog_6_method_3_code 41 = .ok (.if_icmp .eq 17, 3) := by decide +kernel
theorem d_Numbers_operandsOf_44 : decode prog_6_method_3_code 44 = .ok (.iload_n 0, 1) := by decide +kernel
theorem d_Numbers_operandsOf_45 : decode prog_6_method_3_code 45 = .ok (.sipush 154, 3) := by decide +kernel
theorem d_Numbers_operandsOf_48 : decode prog_6_method_3_code 48 = .ok (.if_icmp .lt 12, 3) := by decide +kernel
theorem d_Numbers_operandsOf_51 : decode prog_6_method_3_code 51 = .ok (.iload_n 0, 1) := by decide +kernel
theorem d_Numbers_operandsOf_52 : decode prog_6_method_3_code 52 = .ok (.sipush 164, 3) := by decide +kernel
theorem d_Numbers_operandsOf_55 : decode prog_6_method_3_code 55 = .ok (.if_icmp .gt 5, 3) := by decide +kernel
theorem d_Numbers_operandsOf_58 : decode prog_6_method_3_code 58 = .ok (.iconst 2, 1) := by decide +kernel
theorem d_Numbers_operandsOf_59 : decode prog_6_method_3_code 59 = .ok (.ireturn, 1) := by decide +kernel
theorem d_Numbers_operandsOf_60 : decode prog_6_method_3_code 60 = .ok (.iload_n 0, 1) := by decide +kernel
theorem d_Numbers_operandsOf_61 : decode prog_6_method_3_code 61 = .ok (.sipush 165, 3) := by decide +kernel
theorem d_Numbers_operandsOf_64 : decode prog_6_method_3_code 64 = .ok (.if_icmp .ne 7, 3) := by decide +kernel
theorem d_Numbers_operandsOf_67 : decode prog_6_method_3_code 67 = .ok (.iconst 3, 1) := by decide +kernel
theorem d_Numbers_operandsOf_68 : decode prog_6_method_3_code 68 = .ok (.goto 4, 3) := by decide +kernel
theorem d_Numbers_operandsOf_71 : decode prog_6_method_3_code 71 = .ok (.iconst 0, 1) := by decide +kernel
theorem d_Numbers_operandsOf_72 : decode prog_6_method_3_code 72 = .ok (.ireturn, 1) := by decide +kernel
theorem d_Numbers_compare_0 : decode prog_6_method_6_code 0 = .ok (.iload_n 0, 1) := by decide +kernel
theorem d_Numbers_compare_1 : decode prog_6_method_6_code 1 = .ok (.tableswitch 143 154 161 #[47, 65, 83, 83, 95, 107, 119, 131], 47) := by decide +kernel
theorem d_Numbers_compare_48 : decode prog_6_method_6_code 48 = .ok (.lload_n 1, 1) := by decide +kernel
theorem d_Numbers_compare_49 : decode prog_6_method_6_code 49 = .ok (.lconst 0, 1) := by decide +kernel
theorem d_Numbers_compare_50 : decode prog_6_method_6_code 50 = .ok (.lcmp, 1) := by decide +kernel
theorem d_Numbers_compare_51 : decode prog_6_method_6_code 51 = .ok (.ifCond .eq 13, 3) := by decide +kernel
theorem d_Numbers_compare_54 : decode prog_6_method_6_code 54 = .ok (.lload_n 3, 1) := by decide +kernel
theorem d_Numbers_compare_55 : decode prog_6_method_6_code 55 = .ok (.lconst 0, 1) := by decide +kernel
theorem d_Numbers_compare_56 : decode prog_6_method_6_code 56 = .ok (.lcmp, 1) := by decide +kernel
theorem d_Numbers_compare_57 : decode prog_6_method_6_code 57 = .ok (.ifCond .eq 7, 3) := by decide +kernel
theorem d_Numbers_compare_60 : decode prog_6_method_6_code 60 = .ok (.iconst 1, 1) := by decide +kernel
theorem d_Numbers_compare_61 : decode prog_6_method_6_code 61 = .ok (.goto 4, 3) := by decide +kernel
theorem d_Numbers_compare_64 : decode prog_6_method_6_code 64 = .ok (.iconst 0, 1) := by decide +kernel
theorem d_Numbers_compare_65 : decode prog_6_method_6_code 65 = .ok (.ireturn, 1) := by decide +kernel
theorem d_Numbers_compare_66 : decode prog_6_method_6_code 66 = .ok (.lload_n 1, 1) := by decide +kernel
theorem d_Numbers_compare_67 : decode prog_6_method_6_code 67 = .ok (.lconst 0, 1) := by decide +kernel
theorem d_Numbers_compare_68 : decode prog_6_method_6_code 68 = .ok (.lcmp, 1) := by decide +kernel
theorem d_Numbers_compare_69 : decode prog_6_method_6_code 69 = .ok (.ifCond .ne 9, 3) := by decide +kernel
theorem d_Numbers_compare_72 : decode prog_6_method_6_code 72 = .ok (.lload_n 3, 1) := by decide +kernel
theorem d_Numbers_compare_73 : decode prog_6_method_6_code 73 = .ok (.lconst 0, 1) := by decide +kernel
theorem d_Numbers_compare_74 : decode prog_6_method_6_code 74 = .ok (.lcmp, 1) := by decide +kernel
theorem d_Numbers_compare_75 : decode prog_6_method_6_code 75 = .ok (.ifCond .eq 7, 3) := by decide +kernel
theorem d_Numbers_compare_78 : decode prog_6_method_6_code 78 = .ok (.iconst 1, 1) := by decide +kernel
theorem d_Numbers_compare_79 : decode prog_6_method_6_code 79 = .ok (.goto 4, 3) := by decide +kernel
theorem d_Numbers_compare_82 : decode prog_6_method_6_code 82 = .ok (.iconst 0, 1) := by decide +kernel
theorem d_Numbers_compare_83 : decode prog_6_method_6_code 83 = .ok (.ireturn, 1) := by decide +kernel
theorem d_Numbers_compare_84 : decode prog_6_method_6_code 84 = .ok (.lload_n 1, 1) := by decide +kernel
theorem d_Numbers_compare_85 : decode prog_6_method_6_code 85 = .ok (.lload_n 3, 1) := by decide +kernel
theorem d_Numbers_compare_86 : decode prog_6_method_6_code 86 = .ok (.lcmp, 1) := by decide +kernel
theorem d_Numbers_compare_87 : decode prog_6_method_6_code 87 = .ok (.ifCond .ne 7, 3) := by decide +kernel
theorem d_Numbers_compare_90 : decode prog_6_method_6_code 90 = .ok (.iconst 1, 1) := by decide +kernel
theorem d_Numbers_compare_91 : decode prog_6_method_6_code 91 = .ok (.goto 4, 3) := by decide +kernel
theorem d_Numbers_compare_94 : decode prog_6_method_6_code 94 = .ok (.iconst 0, 1) := by decide +kernel
theorem d_Numbers_compare_95 : decode prog_6_method_6_code 95 = .ok (.ireturn, 1) := by decide +kernel
theorem d_Numbers_compare_96 : decode prog_6_method_6_code 96 = .ok (.lload_n 1, 1) := by decide +kernel
theorem d_Numbers_compare_97 : decode prog_6_method_6_code 97 = .ok (.lload_n 3, 1) := by decide +kernel
theorem d_Numbers_compare_98 : decode prog_6_method_6_code 98 = .ok (.lcmp, 1) := by decide +kernel
theorem d_Numbers_compare_99 : decode prog_6_method_6_code 99 = .ok (.ifCond .eq 7, 3) := by decide +kernel
theorem d_Numbers_compare_102 : decode prog_6_method_6_code 102 = .ok (.iconst 1, 1) := by decide +kernel
theorem d_Numbers_compare_103 : decode prog_6_method_6_code 103 = .ok (.goto 4, 3) := by decide +kernel
theorem d_Numbers_compare_106 : decode prog_6_method_6_code 106 = .ok (.iconst 0, 1) := by decide +kernel
theorem d_Numbers_compare_107 : decode prog_6_method_6_code 107 = .ok (.ireturn, 1) := by decide +kernel
theorem d_Numbers_compare_108 : decode prog_6_method_6_code 108 = .ok (.lload_n 1, 1) := by decide +kernel
theorem d_Numbers_compare_109 : decode prog_6_method_6_code 109 = .ok (.lload_n 3, 1) := by decide +kernel
theorem d_Numbers_compare_110 : decode prog_6_method_6_code 110 = .ok (.lcmp, 1) := by decide +kernel
theorem d_Numbers_compare_111 : decode prog_6_method_6_code 111 = .ok (.ifCond .ge 7, 3) := by decide +kernel
theorem d_Numbers_compare_114 : decode prog_6_method_6_code 114 = .ok (.iconst 1, 1) := by decide +kernel
theorem d_Numbers_compare_115 : decode prog_6_method_6_code 115 = .ok (.goto 4, 3) := by decide +kernel
theorem d_Numbers_compare_118 : decode prog_6_method_6_code 118 = .ok (.iconst 0, 1) := by decide +kernel
theorem d_Numbers_compare_119 : decode prog_6_method_6_code 119 = .ok (.ireturn, 1) := by decide +kernel
theorem d_Numbers_compare_120 : decode prog_6_method_6_code 120 = .ok (.lload_n 1, 1) := by decide +kernel
theorem d_Numbers_compare_121 : decode prog_6_method_6_code 121 = .ok (.lload_n 3, 1) := by decide +kernel
theorem d_Numbers_compare_122 : decode prog_6_method_6_code 122 = .ok (.lcmp, 1) := by decide +kernel
theorem d_Numbers_compare_123 : decode prog_6_method_6_code 123 = .ok (.ifCond .le 7, 3) := by decide +kernel
theorem d_Numbers_compare_126 : decode prog_6_method_6_code 126 = .ok (.iconst 1, 1) := by decide +kernel
theorem d_Numbers_compare_127 : decode prog_6_method_6_code 127 = .ok (.goto 4, 3) := by decide +kernel
theorem d_Numbers_compare_130 : decode prog_6_method_6_code 130 = .ok (.iconst 0, 1) := by decide +kernel
theorem d_Numbers_compare_131 : decode prog_6_method_6_code 131 = .ok (.ireturn, 1) := by decide +kernel
theorem d_Numbers_compare_132 : decode prog_6_method_6_code 132 = .ok (.lload_n 1, 1) := by decide +kernel
theorem d_Numbers_compare_133 : decode prog_6_method_6_code 133 = .ok (.lload_n 3, 1) := by decide +kernel
theorem d_Numbers_compare_134 : decode prog_6_method_6_code 134 = .ok (.lcmp, 1) := by decide +kernel
theorem d_Numbers_compare_135 : decode prog_6_method_6_code 135 = .ok (.ifCond .gt 7, 3) := by decide +kernel
theorem d_Numbers_compare_138 : decode prog_6_method_6_code 138 = .ok (.iconst 1, 1) := by decide +kernel
theorem d_Numbers_compare_139 : decode prog_6_method_6_code 139 = .ok (.goto 4, 3) := by decide +kernel
theorem d_Numbers_compare_142 : decode prog_6_method_6_code 142 = .ok (.iconst 0, 1) := by decide +kernel
theorem d_Numbers_compare_143 : decode prog_6_method_6_code 143 = .ok (.ireturn, 1) := by decide +kernel
theorem d_Numbers_compare_144 : decode prog_6_method_6_code 144 = .ok (.lload_n 1, 1) := by decide +kernel
theorem d_Numbers_compare_145 : decode prog_6_method_6_code 145 = .ok (.lload_n 3, 1) := by decide +kernel
theorem d_Numbers_compare_146 : decode prog_6_method_6_code 146 = .ok (.lcmp, 1) := by decide +kernel
theorem d_Numbers_compare_147 : decode prog_6_method_6_code 147 = .ok (.ifCond .lt 7, 3) := by decide +kernel
theorem d_Numbers_compare_150 : decode prog_6_method_6_code 150 = .ok (.iconst 1, 1) := by decide +kernel
theorem d_Numbers_compare_151 : decode prog_6_method_6_code 151 = .ok (.goto 4, 3) := by decide +kernel
theorem d_Numbers_compare_154 : decode prog_6_method_6_code 154 = .ok (.iconst 0, 1) := by decide +kernel
theorem d_Numbers_compare_155 : decode prog_6_method_6_code 155 = .ok (.ireturn, 1) := by decide +kernel
theorem d_Numbers_ofOne_0 : decode prog_6_method_5_code 0 = .ok (.iload_n 0, 1) := by decide +kernel
theorem d_Numbers_ofOne_1 : decode prog_6_method_5_code 1 = .ok (.tableswitch 79 139 145 #[43, 47, 79, 79, 51, 54, 67], 43) := by decide +kernel
theorem d_Numbers_ofOne_44 : decode prog_6_method_5_code 44 = .ok (.lload_n 1, 1) := by decide +kernel
theorem d_Numbers_ofOne_45 : decode prog_6_method_5_code 45 = .ok (.lconst 1, 1) := by decide +kernel
theorem d_Numbers_ofOne_46 : decode prog_6_method_5_code 46 = .ok (.ladd, 1) := by decide +kernel
theorem d_Numbers_ofOne_47 : decode prog_6_method_5_code 47 = .ok (.lreturn, 1) := by decide +kernel
theorem d_Numbers_ofOne_48 : decode prog_6_method_5_code 48 = .ok (.lload_n 1, 1) := by decide +kernel
theorem d_Numbers_ofOne_49 : decode prog_6_method_5_code 49 = .ok (.lconst 1, 1) := by decide +kernel
theorem d_Numbers_ofOne_50 : decode prog_6_method_5_code 50 = .ok (.lsub, 1) := by decide +kernel
theorem d_Numbers_ofOne_51 : decode prog_6_method_5_code 51 = .ok (.lreturn, 1) := by decide +kernel
theorem d_Numbers_ofOne_52 : decode prog_6_method_5_code 52 = .ok (.lload_n 1, 1) := by decide +kernel
theorem d_Numbers_ofOne_53 : decode prog_6_method_5_code 53 = .ok (.lneg, 1) := by decide +kernel
theorem d_Numbers_ofOne_54 : decode prog_6_method_5_code 54 = .ok (.lreturn, 1) := by decide +kernel
theorem d_Numbers_ofOne_55 : decode prog_6_method_5_code 55 = .ok (.lload_n 1, 1) := by decide +kernel
theorem d_Numbers_ofOne_56 : decode prog_6_method_5_code 56 = .ok (.lconst 0, 1) := by decide +kernel
theorem d_Numbers_ofOne_57 : decode prog_6_method_5_code 57 = .ok (.lcmp, 1) := by decide +kernel
theorem d_Numbers_ofOne_58 : decode prog_6_method_5_code 58 = .ok (.ifCond .ge 8, 3) := by decide +kernel
theorem d_Numbers_ofOne_61 : decode prog_6_method_5_code 61 = .ok (.lload_n 1, 1) := by decide +kernel
theorem d_Numbers_ofOne_62 : decode prog_6_method_5_code 62 = .ok (.lneg, 1) := by decide +kernel
theorem d_Numbers_ofOne_63 : decode prog_6_method_5_code 63 = .ok (.goto 4, 3) := by decide +kernel
theorem d_Numbers_ofOne_66 : decode prog_6_method_5_code 66 = .ok (.lload_n 1, 1) := by decide +kernel
theorem d_Numbers_ofOne_67 : decode prog_6_method_5_code 67 = .ok (.lreturn, 1) := by decide +kernel
theorem d_Numbers_ofOne_68 : decode prog_6_method_5_code 68 = .ok (.lload_n 1, 1) := by decide +kernel
theorem d_Numbers_ofOne_69 : decode prog_6_method_5_code 69 = .ok (.lconst 0, 1) := by decide +kernel
theorem d_Numbers_ofOne_70 : decode prog_6_method_5_code 70 = .ok (.lcmp, 1) := by decide +kernel
theorem d_Numbers_ofOne_71 : decode prog_6_method_5_code 71 = .ok (.ifCond .ne 7, 3) := by decide +kernel
theorem d_Numbers_ofOne_74 : decode prog_6_method_5_code 74 = .ok (.lconst 1, 1) := by decide +kernel
theorem d_Numbers_ofOne_75 : decode prog_6_method_5_code 75 = .ok (.goto 4, 3) := by decide +kernel
theorem d_Numbers_ofOne_78 : decode prog_6_method_5_code 78 = .ok (.lconst 0, 1) := by decide +kernel
theorem d_Numbers_ofOne_79 : decode prog_6_method_5_code 79 = .ok (.lreturn, 1) := by decide +kernel
theorem d_Numbers_ofOne_80 : decode prog_6_method_5_code 80 = .ok (.lload_n 1, 1) := by decide +kernel
theorem d_Numbers_ofOne_81 : decode prog_6_method_5_code 81 = .ok (.lconst 0, 1) := by decide +kernel
theorem d_Numbers_ofOne_82 : decode prog_6_method_5_code 82 = .ok (.lcmp, 1) := by decide +kernel
theorem d_Numbers_ofOne_83 : decode prog_6_method_5_code 83 = .ok (.ifCond .eq 7, 3) := by decide +kernel
theorem d_Numbers_ofOne_86 : decode prog_6_method_5_code 86 = .ok (.lconst 1, 1) := by decide +kernel
theorem d_Numbers_ofOne_87 : decode prog_6_method_5_code 87 = .ok (.goto 4, 3) := by decide +kernel
theorem d_Numbers_ofOne_90 : decode prog_6_method_5_code 90 = .ok (.lconst 0, 1) := by decide +kernel
theorem d_Numbers_ofOne_91 : decode prog_6_method_5_code 91 = .ok (.lreturn, 1) := by decide +kernel
theorem d_Numbers_resultOf_0 : decode prog_6_method_4_code 0 = .ok (.aload_n 0, 1) := by decide +kernel
theorem d_Numbers_resultOf_1 : decode prog_6_method_4_code 1 = .ok (.iconst 0, 1) := by decide +kernel
theorem d_Numbers_resultOf_2 : decode prog_6_method_4_code 2 = .ok (.invokevirtual 36, 3) := by decide +kernel
theorem d_Numbers_resultOf_5 : decode prog_6_method_4_code 5 = .ok (.lstore_n 3, 1) := by decide +kernel
theorem d_Numbers_resultOf_6 : decode prog_6_method_4_code 6 = .ok (.iload_n 2, 1) := by decide +kernel
theorem d_Numbers_resultOf_7 : decode prog_6_method_4_code 7 = .ok (.iconst 1, 1) := by decide +kernel
theorem d_Numbers_resultOf_8 : decode prog_6_method_4_code 8 = .ok (.if_icmp .ne 9, 3) := by decide +kernel
theorem d_Numbers_resultOf_11 : decode prog_6_method_4_code 11 = .ok (.iload_n 1, 1) := by decide +kernel
theorem d_Numbers_resultOf_12 : decode prog_6_method_4_code 12 = .ok (.lload_n 3, 1) := by decide +kernel
theorem d_Numbers_resultOf_13 : decode prog_6_method_4_code 13 = .ok (.invokestatic 40, 3) := by decide +kernel
theorem d_Numbers_resultOf_16 : decode prog_6_method_4_code 16 = .ok (.lreturn, 1) := by decide +kernel
theorem d_Numbers_resultOf_17 : decode prog_6_method_4_code 17 = .ok (.aload_n 0, 1) := by decide +kernel
theorem d_Numbers_resultOf_18 : decode prog_6_method_4_code 18 = .ok (.iconst 1, 1) := by decide +kernel
theorem d_Numbers_resultOf_19 : decode prog_6_method_4_code 19 = .ok (.invokevirtual 36, 3) := by decide +kernel
theorem d_Numbers_resultOf_22 : decode prog_6_method_4_code 22 = .ok (.lstore 5, 2) := by decide +kernel
theorem d_Numbers_resultOf_24 : decode prog_6_method_4_code 24 = .ok (.iload_n 2, 1) := by decide +kernel
theorem d_Numbers_resultOf_25 : decode prog_6_method_4_code 25 = .ok (.iconst 3, 1) := by decide +kernel
theorem d_Numbers_resultOf_26 : decode prog_6_method_4_code 26 = .ok (.if_icmp .ne 31, 3) := by decide +kernel
theorem d_Numbers_resultOf_29 : decode prog_6_method_4_code 29 = .ok (.aload_n 0, 1) := by decide +kernel
theorem d_Numbers_resultOf_30 : decode prog_6_method_4_code 30 = .ok (.iconst 2, 1) := by decide +kernel
theorem d_Numbers_resultOf_31 : decode prog_6_method_4_code 31 = .ok (.invokevirtual 36, 3) := by decide +kernel
theorem d_Numbers_resultOf_34 : decode prog_6_method_4_code 34 = .ok (.lstore 7, 2) := by decide +kernel
theorem d_Numbers_resultOf_36 : decode prog_6_method_4_code 36 = .ok (.lload 5, 2) := by decide +kernel
theorem d_Numbers_resultOf_38 : decode prog_6_method_4_code 38 = .ok (.lload 7, 2) := by decide +kernel
theorem d_Numbers_resultOf_40 : decode prog_6_method_4_code 40 = .ok (.lcmp, 1) := by decide +kernel
theorem d_Numbers_resultOf_41 : decode prog_6_method_4_code 41 = .ok (.ifCond .gt 14, 3) := by decide +kernel
theorem d_Numbers_resultOf_44 : decode prog_6_method_4_code 44 = .ok (.lload 7, 2) := by decide +kernel
theorem d_Numbers_resultOf_46 : decode prog_6_method_4_code 46 = .ok (.lload_n 3, 1) := by decide +kernel
theorem d_Numbers_resultOf_47 : decode prog_6_method_4_code 47 = .ok (.lcmp, 1) := by decide +kernel
theorem d_Numbers_resultOf_48 : decode prog_6_method_4_code 48 = .ok (.ifCond .ge 7, 3) := by decide +kernel
theorem d_Numbers_resultOf_51 : decode prog_6_method_4_code 51 = .ok (.lconst 1, 1) := by decide +kernel
theorem d_Numbers_resultOf_52 : decode prog_6_method_4_code 52 = .ok (.goto 4, 3) := by decide +kernel
theorem d_Numbers_resultOf_55 : decode prog_6_method_4_code 55 = .ok (.lconst 0, 1) := by decide +kernel
theorem d_Numbers_resultOf_56 : decode prog_6_method_4_code 56 = .ok (.lreturn, 1) := by decide +kernel
theorem d_Numbers_resultOf_57 : decode prog_6_method_4_code 57 = .ok (.iload_n 1, 1) := by decide +kernel
theorem d_Numbers_resultOf_58 : decode prog_6_method_4_code 58 = .ok (.sipush 147, 3) := by decide +kernel
theorem d_Numbers_resultOf_61 : decode prog_6_method_4_code 61 = .ok (.if_icmp .eq 10, 3) := by decide +kernel
theorem d_Numbers_resultOf_64 : decode prog_6_method_4_code 64 = .ok (.iload_n 1, 1) := by decide +kernel
theorem d_Numbers_resultOf_65 : decode prog_6_method_4_code 65 = .ok (.sipush 148, 3) := by decide +kernel
theorem d_Numbers_resultOf_68 : decode prog_6_method_4_code 68 = .ok (.if_icmp .ne 22, 3) := by decide +kernel
theorem d_Numbers_resultOf_71 : decode prog_6_method_4_code 71 = .ok (.iload_n 1, 1) := by decide +kernel
theorem d_Numbers_resultOf_72 : decode prog_6_method_4_code 72 = .ok (.sipush 147, 3) := by decide +kernel
theorem d_Numbers_resultOf_75 : decode prog_6_method_4_code 75 = .ok (.if_icmp .ne 10, 3) := by decide +kernel
theorem d_Numbers_resultOf_78 : decode prog_6_method_4_code 78 = .ok (.lload 5, 2) := by decide +kernel
theorem d_Numbers_resultOf_80 : decode prog_6_method_4_code 80 = .ok (.lload_n 3, 1) := by decide +kernel
theorem d_Numbers_resultOf_81 : decode prog_6_method_4_code 81 = .ok (.ladd, 1) := by decide +kernel
theorem d_Numbers_resultOf_82 : decode prog_6_method_4_code 82 = .ok (.goto 7, 3) := by decide +kernel
theorem d_Numbers_resultOf_85 : decode prog_6_method_4_code 85 = .ok (.lload 5, 2) := by decide +kernel
theorem d_Numbers_resultOf_87 : decode prog_6_method_4_code 87 = .ok (.lload_n 3, 1) := by decide +kernel
theorem d_Numbers_resultOf_88 : decode prog_6_method_4_code 88 = .ok (.lsub, 1) := by decide +kernel
theorem d_Numbers_resultOf_89 : decode prog_6_method_4_code 89 = .ok (.lreturn, 1) := by decide +kernel
theorem d_Numbers_resultOf_90 : decode prog_6_method_4_code 90 = .ok (.iload_n 1, 1) := by decide +kernel
theorem d_Numbers_resultOf_91 : decode prog_6_method_4_code 91 = .ok (.sipush 163, 3) := by decide +kernel
theorem d_Numbers_resultOf_94 : decode prog_6_method_4_code 94 = .ok (.if_icmp .eq 10, 3) := by decide +kernel
theorem d_Numbers_resultOf_97 : decode prog_6_method_4_code 97 = .ok (.iload_n 1, 1) := by decide +kernel
theorem d_Numbers_resultOf_98 : decode prog_6_method_4_code 98 = .ok (.sipush 164, 3) := by decide +kernel
theorem d_Numbers_resultOf_101 : decode prog_6_method_4_code 101 = .ok (.if_icmp .ne 26, 3) := by decide +kernel
theorem d_Numbers_resultOf_104 : decode prog_6_method_4_code 104 = .ok (.iload_n 1, 1) := by decide +kernel
theorem d_Numbers_resultOf_105 : decode prog_6_method_4_code 105 = .ok (.sipush 163, 3) := by decide +kernel
theorem d_Numbers_resultOf_108 : decode prog_6_method_4_code 108 = .ok (.if_icmp .ne 12, 3) := by decide +kernel
theorem d_Numbers_resultOf_111 : decode prog_6_method_4_code 111 = .ok (.lload 5, 2) := by decide +kernel
theorem d_Numbers_resultOf_113 : decode prog_6_method_4_code 113 = .ok (.lload_n 3, 1) := by decide +kernel
theorem d_Numbers_resultOf_114 : decode prog_6_method_4_code 114 = .ok (.invokestatic 44, 3) := by decide +kernel
theorem d_Numbers_resultOf_117 : decode prog_6_method_4_code 117 = .ok (.goto 9, 3) := by decide +kernel
theorem d_Numbers_resultOf_120 : decode prog_6_method_4_code 120 = .ok (.lload 5, 2) := by decide +kernel
theorem d_Numbers_resultOf_122 : decode prog_6_method_4_code 122 = .ok (.lload_n 3, 1) := by decide +kernel
theorem d_Numbers_resultOf_123 : decode prog_6_method_4_code 123 = .ok (.invokestatic 50, 3) := by decide +kernel
theorem d_Numbers_resultOf_126 : decode prog_6_method_4_code 126 = .ok (.lreturn, 1) := by decide +kernel
theorem d_Numbers_resultOf_127 : decode prog_6_method_4_code 127 = .ok (.iload_n 1, 1) := by decide +kernel
theorem d_Numbers_resultOf_128 : decode prog_6_method_4_code 128 = .ok (.lload 5, 2) := by decide +kernel
theorem d_Numbers_resultOf_130 : decode prog_6_method_4_code 130 = .ok (.lload_n 3, 1) := by decide +kernel
theorem d_Numbers_resultOf_131 : decode prog_6_method_4_code 131 = .ok (.invokestatic 53, 3) := by decide +kernel
theorem d_Numbers_resultOf_134 : decode prog_6_method_4_code 134 = .ok (.ifCond .eq 7, 3) := by decide +kernel
theorem d_Numbers_resultOf_137 : decode prog_6_method_4_code 137 = .ok (.lconst 1, 1) := by decide +kernel
theorem d_Numbers_resultOf_138 : decode prog_6_method_4_code 138 = .ok (.goto 4, 3) := by decide +kernel
theorem d_Numbers_resultOf_141 : decode prog_6_method_4_code 141 = .ok (.lconst 0, 1) := by decide +kernel
theorem d_Numbers_resultOf_142 : decode prog_6_method_4_code 142 = .ok (.lreturn, 1) := by decide +kernel
theorem d_Numbers_perform_0 : decode prog_6_method_2_code 0 = .ok (.iload_n 1, 1) := by decide +kernel
theorem d_Numbers_perform_1 : decode prog_6_method_2_code 1 = .ok (.invokestatic 9, 3) := by decide +kernel
theorem d_Numbers_perform_4 : decode prog_6_method_2_code 4 = .ok (.istore_n 2, 1) := by decide +kernel
theorem d_Numbers_perform_5 : decode prog_6_method_2_code 5 = .ok (.iload_n 2, 1) := by decide +kernel
theorem d_Numbers_perform_6 : decode prog_6_method_2_code 6 = .ok (.ifCond .ne 5, 3) := by decide +kernel
theorem d_Numbers_perform_9 : decode prog_6_method_2_code 9 = .ok (.iconst 4, 1) := by decide +kernel
theorem d_Numbers_perform_10 : decode prog_6_method_2_code 10 = .ok (.ireturn, 1) := by decide +kernel
theorem d_Numbers_perform_11 : decode prog_6_method_2_code 11 = .ok (.iconst 0, 1) := by decide +kernel
theorem d_Numbers_perform_12 : decode prog_6_method_2_code 12 = .ok (.istore_n 3, 1) := by decide +kernel
theorem d_Numbers_perform_13 : decode prog_6_method_2_code 13 = .ok (.iload_n 3, 1) := by decide +kernel
theorem d_Numbers_perform_14 : decode prog_6_method_2_code 14 = .ok (.iload_n 2, 1) := by decide +kernel
theorem d_Numbers_perform_15 : decode prog_6_method_2_code 15 = .ok (.if_icmp .ge 24, 3) := by decide +kernel
theorem d_Numbers_perform_18 : decode prog_6_method_2_code 18 = .ok (.aload_n 0, 1) := by decide +kernel
theorem d_Numbers_perform_19 : decode prog_6_method_2_code 19 = .ok (.iload_n 3, 1) := by decide +kernel
theorem d_Numbers_perform_20 : decode prog_6_method_2_code 20 = .ok (.invokevirtual 15, 3) := by decide +kernel
theorem d_Numbers_perform_23 : decode prog_6_method_2_code 23 = .ok (.istore 4, 2) := by decide +kernel
theorem d_Numbers_perform_25 : decode prog_6_method_2_code 25 = .ok (.iload 4, 2) := by decide +kernel
theorem d_Numbers_perform_27 : decode prog_6_method_2_code 27 = .ok (.ifCond .eq 6, 3) := by decide +kernel
theorem d_Numbers_perform_30 : decode prog_6_method_2_code 30 = .ok (.iload 4, 2) := by decide +kernel
theorem d_Numbers_perform_32 : decode prog_6_method_2_code 32 = .ok (.ireturn, 1) := by decide +kernel
theorem d_Numbers_perform_33 : decode prog_6_method_2_code 33 = .ok (.iinc 3 1, 3) := by decide +kernel
theorem d_Numbers_perform_36 : decode prog_6_method_2_code 36 = .ok (.goto (-23), 3) := by decide +kernel
theorem d_Numbers_perform_39 : decode prog_6_method_2_code 39 = .ok (.aload_n 0, 1) := by decide +kernel
theorem d_Numbers_perform_40 : decode prog_6_method_2_code 40 = .ok (.iload_n 1, 1) := by decide +kernel
theorem d_Numbers_perform_41 : decode prog_6_method_2_code 41 = .ok (.iload_n 2, 1) := by decide +kernel
theorem d_Numbers_perform_42 : decode prog_6_method_2_code 42 = .ok (.invokestatic 20, 3) := by decide +kernel
theorem d_Numbers_perform_45 : decode prog_6_method_2_code 45 = .ok (.lstore_n 3, 1) := by decide +kernel
theorem d_Numbers_perform_46 : decode prog_6_method_2_code 46 = .ok (.aload_n 0, 1) := by decide +kernel
theorem d_Numbers_perform_47 : decode prog_6_method_2_code 47 = .ok (.iload_n 2, 1) := by decide +kernel
theorem d_Numbers_perform_48 : decode prog_6_method_2_code 48 = .ok (.invokevirtual 24, 3) := by decide +kernel
theorem d_Numbers_perform_51 : decode prog_6_method_2_code 51 = .ok (.aload_n 0, 1) := by decide +kernel
theorem d_Numbers_perform_52 : decode prog_6_method_2_code 52 = .ok (.lload_n 3, 1) := by decide +kernel
theorem d_Numbers_perform_53 : decode prog_6_method_2_code 53 = .ok (.invokevirtual 28, 3) := by decide +kernel
theorem d_Numbers_perform_56 : decode prog_6_method_2_code 56 = .ok (.iload_n 1, 1) := by decide +kernel
theorem d_Numbers_perform_57 : decode prog_6_method_2_code 57 = .ok (.sipush 157, 3) := by decide +kernel
theorem d_Numbers_perform_60 : decode prog_6_method_2_code 60 = .ok (.if_icmp .ne 10, 3) := by decide +kernel
theorem d_Numbers_perform_63 : decode prog_6_method_2_code 63 = .ok (.aload_n 0, 1) := by decide +kernel
theorem d_Numbers_perform_64 : decode prog_6_method_2_code 64 = .ok (.invokevirtual 32, 3) := by decide +kernel
theorem d_Numbers_perform_67 : decode prog_6_method_2_code 67 = .ok (.goto 4, 3) := by decide +kernel
theorem d_Numbers_perform_70 : decode prog_6_method_2_code 70 = .ok (.iconst 0, 1) := by decide +kernel
theorem d_Numbers_perform_71 : decode prog_6_method_2_code 71 = .ok (.ireturn, 1) := by decide +kernel
theorem d_Elements_pushCopy_0 : decode prog_3_method_12_code 0 = .ok (.aload_n 0, 1) := by decide +kernel
theorem d_Elements_pushCopy_1 : decode prog_3_method_12_code 1 = .ok (.iload_n 1, 1) := by decide +kernel
theorem d_Elements_pushCopy_2 : decode prog_3_method_12_code 2 = .ok (.invokevirtual 28, 3) := by decide +kernel
theorem d_Elements_pushCopy_5 : decode prog_3_method_12_code 5 = .ok (.istore_n 2, 1) := by decide +kernel
theorem d_Elements_pushCopy_6 : decode prog_3_method_12_code 6 = .ok (.iload_n 2, 1) := by decide +kernel
theorem d_Elements_pushCopy_7 : decode prog_3_method_12_code 7 = .ok (.ifCond .lt 28, 3) := by decide +kernel
theorem d_Elements_pushCopy_10 : decode prog_3_method_12_code 10 = .ok (.aload_n 0, 1) := by decide +kernel
theorem d_Elements_pushCopy_11 : decode prog_3_method_12_code 11 = .ok (.aload_n 0, 1) := by decide +kernel
theorem d_Elements_pushCopy_12 : decode prog_3_method_12_code 12 = .ok (.getfield 11, 3) := by decide +kernel
theorem d_Elements_pushCopy_15 : decode prog_3_method_12_code 15 = .ok (.aload_n 0, 1) := by decide +kernel
theorem d_Elements_pushCopy_16 : decode prog_3_method_12_code 16 = .ok (.getfield 18, 3) := by decide +kernel
theorem d_Elements_pushCopy_19 : decode prog_3_method_12_code 19 = .ok (.aload_n 0, 1) := by decide +kernel
theorem d_Elements_pushCopy_20 : decode prog_3_method_12_code 20 = .ok (.getfield 21, 3) := by decide +kernel
theorem d_Elements_pushCopy_23 : decode prog_3_method_12_code 23 = .ok (.iconst 1, 1) := by decide +kernel
theorem d_Elements_pushCopy_24 : decode prog_3_method_12_code 24 = .ok (.isub, 1) := by decide +kernel
theorem d_Elements_pushCopy_25 : decode prog_3_method_12_code 25 = .ok (.iload_n 1, 1) := by decide +kernel
theorem d_Elements_pushCopy_26 : decode prog_3_method_12_code 26 = .ok (.isub, 1) := by decide +kernel
theorem d_Elements_pushCopy_27 : decode prog_3_method_12_code 27 = .ok (.iaload, 1) := by decide +kernel
theorem d_Elements_pushCopy_28 : decode prog_3_method_12_code 28 = .ok (.bipush 120, 2) := by decide +kernel
theorem d_Elements_pushCopy_30 : decode prog_3_method_12_code 30 = .ok (.imul, 1) := by decide +kernel
theorem d_Elements_pushCopy_31 : decode prog_3_method_12_code 31 = .ok (.iload_n 2, 1) := by decide +kernel
theorem d_Elements_pushCopy_32 : decode prog_3_method_12_code 32 = .ok (.invokevirtual 49, 3) := by decide +kernel
theorem d_Elements_pushCopy_35 : decode prog_3_method_12_code 35 = .ok (.return_, 1) := by decide +kernel
theorem d_Elements_lift_0 : decode prog_3_method_16_code 0 = .ok (.iload_n 1, 1) := by decide +kernel
theorem d_Elements_lift_1 : decode prog_3_method_16_code 1 = .ok (.ifCond .lt 11, 3) := by decide +kernel
theorem d_Elements_lift_4 : decode prog_3_method_16_code 4 = .ok (.iload_n 1, 1) := by decide +kernel
theorem d_Elements_lift_5 : decode prog_3_method_16_code 5 = .ok (.aload_n 0, 1) := by decide +kernel
theorem d_Elements_lift_6 : decode prog_3_method_16_code 6 = .ok (.getfield 21, 3) := by decide +kernel
theorem d_Elements_lift_9 : decode prog_3_method_16_code 9 = .ok (.if_icmp .lt 4, 3) := by decide +kernel
theorem d_Elements_lift_12 : decode prog_3_method_16_code 12 = .ok (.return_, 1) := by decide +kernel
theorem d_Elements_lift_13 : decode prog_3_method_16_code 13 = .ok (.aload_n 0, 1) := by decide +kernel
theorem d_Elements_lift_14 : decode prog_3_method_16_code 14 = .ok (.getfield 21, 3) := by decide +kernel
theorem d_Elements_lift_17 : decode prog_3_method_16_code 17 = .ok (.iconst 1, 1) := by decide +kernel
theorem d_Elements_lift_18 : decode prog_3_method_16_code 18 = .ok (.isub, 1) := by decide +kernel
theorem d_Elements_lift_19 : decode prog_3_method_16_code 19 = .ok (.istore_n 2, 1) := by decide +kernel
theorem d_Elements_lift_20 : decode prog_3_method_16_code 20 = .ok (.aload_n 0, 1) := by decide +kernel
theorem d_Elements_lift_21 : decode prog_3_method_16_code 21 = .ok (.getfield 18, 3) := by decide +kernel
theorem d_Elements_lift_24 : decode prog_3_method_16_code 24 = .ok (.iload_n 2, 1) := by decide +kernel
theorem d_Elements_lift_25 : decode prog_3_method_16_code 25 = .ok (.iload_n 1, 1) := by decide +kernel
theorem d_Elements_lift_26 : decode prog_3_method_16_code 26 = .ok (.isub, 1) := by decide +kernel
theorem d_Elements_lift_27 : decode prog_3_method_16_code 27 = .ok (.iaload, 1) := by decide +kernel
theorem d_Elements_lift_28 : decode prog_3_method_16_code 28 = .ok (.istore_n 3, 1) := by decide +kernel
theorem d_Elements_lift_29 : decode prog_3_method_16_code 29 = .ok (.iload_n 2, 1) := by decide +kernel
theorem d_Elements_lift_30 : decode prog_3_method_16_code 30 = .ok (.iload_n 1, 1) := by decide +kernel
theorem d_Elements_lift_31 : decode prog_3_method_16_code 31 = .ok (.isub, 1) := by decide +kernel
theorem d_Elements_lift_32 : decode prog_3_method_16_code 32 = .ok (.istore 4, 2) := by decide +kernel
theorem d_Elements_lift_34 : decode prog_3_method_16_code 34 = .ok (.iload 4, 2) := by decide +kernel
theorem d_Elements_lift_36 : decode prog_3_method_16_code 36 = .ok (.iload_n 2, 1) := by decide +kernel
theorem d_Elements_lift_37 : decode prog_3_method_16_code 37 = .ok (.if_icmp .ge 25, 3) := by decide +kernel
theorem d_Elements_lift_40 : decode prog_3_method_16_code 40 = .ok (.aload_n 0, 1) := by decide +kernel
theorem d_Elements_lift_41 : decode prog_3_method_16_code 41 = .ok (.getfield 18, 3) := by decide +kernel
theorem d_Elements_lift_44 : decode prog_3_method_16_code 44 = .ok (.iload 4, 2) := by decide +kernel
theorem d_Elements_lift_46 : decode prog_3_method_16_code 46 = .ok (.aload_n 0, 1) := by decide +kernel
theorem d_Elements_lift_47 : decode prog_3_method_16_code 47 = .ok (.getfield 18, 3) := by decide +kernel
theorem d_Elements_lift_50 : decode prog_3_method_16_code 50 = .ok (.iload 4, 2) := by decide +kernel
theorem d_Elements_lift_52 : decode prog_3_method_16_code 52 = .ok (.iconst 1, 1) := by decide +kernel
theorem d_Elements_lift_53 : decode prog_3_method_16_code 53 = .ok (.iadd, 1) := by decide +kernel
theorem d_Elements_lift_54 : decode prog_3_method_16_code 54 = .ok (.iaload, 1) := by decide +kernel
theorem d_Elements_lift_55 : decode prog_3_method_16_code 55 = .ok (.iastore, 1) := by decide +kernel
theorem d_Elements_lift_56 : decode prog_3_method_16_code 56 = .ok (.iinc 4 1, 3) := by decide +kernel
theorem d_Elements_lift_59 : decode prog_3_method_16_code 59 = .ok (.goto (-25), 3) := by decide +kernel
theorem d_Elements_lift_62 : decode prog_3_method_16_code 62 = .ok (.aload_n 0, 1) := by decide +kernel
theorem d_Elements_lift_63 : decode prog_3_method_16_code 63 = .ok (.getfield 18, 3) := by decide +kernel
theorem d_Elements_lift_66 : decode prog_3_method_16_code 66 = .ok (.iload_n 2, 1) := by decide +kernel
theorem d_Elements_lift_67 : decode prog_3_method_16_code 67 = .ok (.iload_n 3, 1) := by decide +kernel
theorem d_Elements_lift_68 : decode prog_3_method_16_code 68 = .ok (.iastore, 1) := by decide +kernel
theorem d_Elements_lift_69 : decode prog_3_method_16_code 69 = .ok (.return_, 1) := by decide +kernel
theorem d_Moves_pick_0 : decode prog_5_method_4_code 0 = .ok (.aload_n 0, 1) := by decide +kernel
theorem d_Moves_pick_1 : decode prog_5_method_4_code 1 = .ok (.iconst 0, 1) := by decide +kernel
theorem d_Moves_pick_2 : decode prog_5_method_4_code 2 = .ok (.invokevirtual 36, 3) := by decide +kernel
theorem d_Moves_pick_5 : decode prog_5_method_4_code 5 = .ok (.istore_n 2, 1) := by decide +kernel
theorem d_Moves_pick_6 : decode prog_5_method_4_code 6 = .ok (.iload_n 2, 1) := by decide +kernel
theorem d_Moves_pick_7 : decode prog_5_method_4_code 7 = .ok (.ifCond .eq 5, 3) := by decide +kernel
theorem d_Moves_pick_10 : decode prog_5_method_4_code 10 = .ok (.iload_n 2, 1) := by decide +kernel
theorem d_Moves_pick_11 : decode prog_5_method_4_code 11 = .ok (.ireturn, 1) := by decide +kernel
theorem d_Moves_pick_12 : decode prog_5_method_4_code 12 = .ok (.aload_n 0, 1) := by decide +kernel
theorem d_Moves_pick_13 : decode prog_5_method_4_code 13 = .ok (.iconst 0, 1) := by decide +kernel
theorem d_Moves_pick_14 : decode prog_5_method_4_code 14 = .ok (.invokevirtual 39, 3) := by decide +kernel
theorem d_Moves_pick_17 : decode prog_5_method_4_code 17 = .ok (.lstore_n 3, 1) := by decide +kernel
theorem d_Moves_pick_18 : decode prog_5_method_4_code 18 = .ok (.lload_n 3, 1) := by decide +kernel
theorem d_Moves_pick_19 : decode prog_5_method_4_code 19 = .ok (.lconst 0, 1) := by decide +kernel
theorem d_Moves_pick_20 : decode prog_5_method_4_code 20 = .ok (.lcmp, 1) := by decide +kernel
theorem d_Moves_pick_21 : decode prog_5_method_4_code 21 = .ok (.ifCond .lt 15, 3) := by decide +kernel
theorem d_Moves_pick_24 : decode prog_5_method_4_code 24 = .ok (.lload_n 3, 1) := by decide +kernel
theorem d_Moves_pick_25 : decode prog_5_method_4_code 25 = .ok (.aload_n 0, 1) := by decide +kernel
theorem d_Moves_pick_26 : decode prog_5_method_4_code 26 = .ok (.getfield 19, 3) := by decide +kernel
theorem d_Moves_pick_29 : decode prog_5_method_4_code 29 = .ok (.iconst 1, 1) := by decide +kernel
theorem d_Moves_pick_30 : decode prog_5_method_4_code 30 = .ok (.isub, 1) := by decide +kernel
theorem d_Moves_pick_31 : decode prog_5_method_4_code 31 = .ok (.i2l, 1) := by decide +kernel
theorem d_Moves_pick_32 : decode prog_5_method_4_code 32 = .ok (.lcmp, 1) := by decide +kernel
theorem d_Moves_pick_33 : decode prog_5_method_4_code 33 = .ok (.ifCond .lt 6, 3) := by decide +kernel
theorem d_Moves_pick_36 : decode prog_5_method_4_code 36 = .ok (.bipush 7, 2) := by decide +kernel
theorem d_Moves_pick_38 : decode prog_5_method_4_code 38 = .ok (.ireturn, 1) := by decide +kernel
theorem d_Moves_pick_39 : decode prog_5_method_4_code 39 = .ok (.aload_n 0, 1) := by decide +kernel
theorem d_Moves_pick_40 : decode prog_5_method_4_code 40 = .ok (.iconst 1, 1) := by decide +kernel
theorem d_Moves_pick_41 : decode prog_5_method_4_code 41 = .ok (.invokevirtual 43, 3) := by decide +kernel
theorem d_Moves_pick_44 : decode prog_5_method_4_code 44 = .ok (.iload_n 1, 1) := by decide +kernel
theorem d_Moves_pick_45 : decode prog_5_method_4_code 45 = .ok (.ifCond .eq 12, 3) := by decide +kernel
theorem d_Moves_pick_48 : decode prog_5_method_4_code 48 = .ok (.aload_n 0, 1) := by decide +kernel
theorem d_Moves_pick_49 : decode prog_5_method_4_code 49 = .ok (.lload_n 3, 1) := by decide +kernel
theorem d_Moves_pick_50 : decode prog_5_method_4_code 50 = .ok (.l2i, 1) := by decide +kernel
theorem d_Moves_pick_51 : decode prog_5_method_4_code 51 = .ok (.invokevirtual 47, 3) := by decide +kernel
theorem d_Moves_pick_54 : decode prog_5_method_4_code 54 = .ok (.goto 9, 3) := by decide +kernel
theorem d_Moves_pick_57 : decode prog_5_method_4_code 57 = .ok (.aload_n 0, 1) := by decide +kernel
theorem d_Moves_pick_58 : decode prog_5_method_4_code 58 = .ok (.lload_n 3, 1) := by decide +kernel
theorem d_Moves_pick_59 : decode prog_5_method_4_code 59 = .ok (.l2i, 1) := by decide +kernel
theorem d_Moves_pick_60 : decode prog_5_method_4_code 60 = .ok (.invokevirtual 50, 3) := by decide +kernel
theorem d_Moves_pick_63 : decode prog_5_method_4_code 63 = .ok (.iconst 0, 1) := by decide +kernel
theorem d_Moves_pick_64 : decode prog_5_method_4_code 64 = .ok (.ireturn, 1) := by decide +kernel
theorem d_Moves_operandsOf_0 : decode prog_5_method_3_code 0 = .ok (.iload_n 0, 1) := by decide +kernel
theorem d_Moves_operandsOf_1 : decode prog_5_method_3_code 1 = .ok (.tableswitch 140 109 136 #[131, 131, 133, 135, 137, 135, 129, 127, 129, 129, 131, 131, 140, 140, 133, 131, 131, 140, 140, 140, 140, 129, 140, 140, 140, 140, 131, 131], 127) := by decide +kernel
theorem d_Moves_operandsOf_128 : decode prog_5_method_3_code 128 = .ok (.iconst 0, 1) := by decide +kernel
theorem d_Moves_operandsOf_129 : decode prog_5_method_3_code 129 = .ok (.ireturn, 1) := by decide +kernel
theorem d_Moves_operandsOf_130 : decode prog_5_method_3_code 130 = .ok (.iconst 1, 1) := by decide +kernel
theorem d_Moves_operandsOf_131 : decode prog_5_method_3_code 131 = .ok (.ireturn, 1) := by decide +kernel
theorem d_Moves_operandsOf_132 : decode prog_5_method_3_code 132 = .ok (.iconst 2, 1) := by decide +kernel
theorem d_Moves_operandsOf_133 : decode prog_5_method_3_code 133 = .ok (.ireturn, 1) := by decide +kernel
theorem d_Moves_operandsOf_134 : decode prog_5_method_3_code 134 = .ok (.iconst 3, 1) := by decide +kernel
theorem d_Moves_operandsOf_135 : decode prog_5_method_3_code 135 = .ok (.ireturn, 1) := by decide +kernel
theorem d_Moves_operandsOf_136 : decode prog_5_method_3_code 136 = .ok (.iconst 4, 1) := by decide +kernel
theorem d_Moves_operandsOf_137 : decode prog_5_method_3_code 137 = .ok (.ireturn, 1) := by decide +kernel
theorem d_Moves_operandsOf_138 : decode prog_5_method_3_code 138 = .ok (.bipush 6, 2) := by decide +kernel
theorem d_Moves_operandsOf_140 : decode prog_5_method_3_code 140 = .ok (.ireturn, 1) := by decide +kernel
