theorem d_Desk_perform_135 : decode prog_1_method_14_code 135 = .ok (.getfield 26, 3) := by decide +kernel
theorem d_Desk_perform_138 : decode prog_1_method_14_code 138 = .ok (.iload_n 1, 1) := by decide +kernel
theorem d_Desk_perform_139 : decode prog_1_method_14_code 139 = .ok (.invokestatic 143, 3) := by decide +kernel
theorem d_Desk_perform_142 : decode prog_1_method_14_code 142 = .ok (.ireturn, 1) := by decide +kernel
theorem d_Desk_perform_143 : decode prog_1_method_14_code 143 = .ok (.iload_n 1, 1) := by decide +kernel
theorem d_Desk_perform_144 : decode prog_1_method_14_code 144 = .ok (.sipush 170, 3) := by decide +kernel
theorem d_Desk_perform_147 : decode prog_1_method_14_code 147 = .ok (.if_icmp .gt 11, 3) := by decide +kernel
theorem d_Desk_perform_150 : decode prog_1_method_14_code 150 = .ok (.aload_n 0, 1) := by decide +kernel
theorem d_Desk_perform_151 : decode prog_1_method_14_code 151 = .ok (.iload_n 1, 1) := by decide +kernel
theorem d_Desk_perform_152 : decode prog_1_method_14_code 152 = .ok (.invokevirtual 146, 3) := by decide +kernel
theorem d_Desk_perform_155 : decode prog_1_method_14_code 155 = .ok (.goto 19, 3) := by decide +kernel
theorem d_Desk_perform_158 : decode prog_1_method_14_code 158 = .ok (.aload_n 0, 1) := by decide +kernel
theorem d_Desk_perform_159 : decode prog_1_method_14_code 159 = .ok (.getfield 47, 3) := by decide +kernel
theorem d_Desk_perform_162 : decode prog_1_method_14_code 162 = .ok (.aload_n 0, 1) := by decide +kernel
theorem d_Desk_perform_163 : decode prog_1_method_14_code 163 = .ok (.getfield 26, 3) := by decide +kernel
theorem d_Desk_perform_166 : decode prog_1_method_14_code 166 = .ok (.aload_n 0, 1) := by decide +kernel
theorem d_Desk_perform_167 : decode prog_1_method_14_code 167 = .ok (.getfield 33, 3) := by decide +kernel
theorem d_Desk_perform_170 : decode prog_1_method_14_code 170 = .ok (.iload_n 1, 1) := by decide +kernel
theorem d_Desk_perform_171 : decode prog_1_method_14_code 171 = .ok (.invokevirtual 149, 3) := by decide +kernel
theorem d_Desk_perform_174 : decode prog_1_method_14_code 174 = .ok (.ireturn, 1) := by decide +kernel
theorem d_Elements_areTooMany_0 : decode prog_3_method_2_code 0 = .ok (.aload_n 0, 1) := by decide +kernel
theorem d_Elements_areTooMany_1 : decode prog_3_method_2_code 1 = .ok (.getfield 21, 3) := by decide +kernel
theorem d_Elements_areTooMany_4 : decode prog_3_method_2_code 4 = .ok (.aload_n 0, 1) := by decide +kernel
theorem d_Elements_areTooMany_5 : decode prog_3_method_2_code 5 = .ok (.getfield 25, 3) := by decide +kernel
theorem d_Elements_areTooMany_8 : decode prog_3_method_2_code 8 = .ok (.iadd, 1) := by decide +kernel
theorem d_Elements_areTooMany_9 : decode prog_3_method_2_code 9 = .ok (.bipush 60, 2) := by decide +kernel
theorem d_Elements_areTooMany_11 : decode prog_3_method_2_code 11 = .ok (.if_icmp .le 7, 3) := by decide +kernel
theorem d_Elements_areTooMany_14 : decode prog_3_method_2_code 14 = .ok (.iconst 1, 1) := by decide +kernel
theorem d_Elements_areTooMany_15 : decode prog_3_method_2_code 15 = .ok (.goto 4, 3) := by decide +kernel
theorem d_Elements_areTooMany_18 : decode prog_3_method_2_code 18 = .ok (.iconst 0, 1) := by decide +kernel
theorem d_Elements_areTooMany_19 : decode prog_3_method_2_code 19 = .ok (.ireturn, 1) := by decide +kernel
theorem d_Desk_pushFromScript_0 : decode prog_1_method_13_code 0 = .ok (.iload_n 1, 1) := by decide +kernel
theorem d_Desk_pushFromScript_1 : decode prog_1_method_13_code 1 = .ok (.bipush 75, 2) := by decide +kernel
theorem d_Desk_pushFromScript_3 : decode prog_1_method_13_code 3 = .ok (.if_icmp .gt 7, 3) := by decide +kernel
theorem d_Desk_pushFromScript_6 : decode prog_1_method_13_code 6 = .ok (.iconst 0, 1) := by decide +kernel
theorem d_Desk_pushFromScript_7 : decode prog_1_method_13_code 7 = .ok (.goto 7, 3) := by decide +kernel
theorem d_Desk_pushFromScript_10 : decode prog_1_method_13_code 10 = .ok (.iload_n 1, 1) := by decide +kernel
theorem d_Desk_pushFromScript_11 : decode prog_1_method_13_code 11 = .ok (.bipush 75, 2) := by decide +kernel
theorem d_Desk_pushFromScript_13 : decode prog_1_method_13_code 13 = .ok (.isub, 1) := by decide +kernel
theorem d_Desk_pushFromScript_14 : decode prog_1_method_13_code 14 = .ok (.istore 4, 2) := by decide +kernel
theorem d_Desk_pushFromScript_16 : decode prog_1_method_13_code 16 = .ok (.iload_n 2, 1) := by decide +kernel
theorem d_Desk_pushFromScript_17 : decode prog_1_method_13_code 17 = .ok (.iconst 1, 1) := by decide +kernel
theorem d_Desk_pushFromScript_18 : decode prog_1_method_13_code 18 = .ok (.iadd, 1) := by decide +kernel
theorem d_Desk_pushFromScript_19 : decode prog_1_method_13_code 19 = .ok (.iload 4, 2) := by decide +kernel
theorem d_Desk_pushFromScript_21 : decode prog_1_method_13_code 21 = .ok (.iadd, 1) := by decide +kernel
theorem d_Desk_pushFromScript_22 : decode prog_1_method_13_code 22 = .ok (.istore 5, 2) := by decide +kernel
theorem d_Desk_pushFromScript_24 : decode prog_1_method_13_code 24 = .ok (.iload 5, 2) := by decide +kernel
theorem d_Desk_pushFromScript_26 : decode prog_1_method_13_code 26 = .ok (.iload_n 3, 1) := by decide +kernel
theorem d_Desk_pushFromScript_27 : decode prog_1_method_13_code 27 = .ok (.if_icmp .le 5, 3) := by decide +kernel
theorem d_Desk_pushFromScript_30 : decode prog_1_method_13_code 30 = .ok (.iconst 1, 1) := by decide +kernel
theorem d_Desk_pushFromScript_31 : decode prog_1_method_13_code 31 = .ok (.ireturn, 1) := by decide +kernel
theorem d_Desk_pushFromScript_32 : decode prog_1_method_13_code 32 = .ok (.iload_n 1, 1) := by decide +kernel
theorem d_Desk_pushFromScript_33 : decode prog_1_method_13_code 33 = .ok (.istore 6, 2) := by decide +kernel
theorem d_Desk_pushFromScript_35 : decode prog_1_method_13_code 35 = .ok (.iload 4, 2) := by decide +kernel
theorem d_Desk_pushFromScript_37 : decode prog_1_method_13_code 37 = .ok (.ifCond .le 36, 3) := by decide +kernel
theorem d_Desk_pushFromScript_40 : decode prog_1_method_13_code 40 = .ok (.aload_n 0, 1) := by decide +kernel
theorem d_Desk_pushFromScript_41 : decode prog_1_method_13_code 41 = .ok (.getfield 9, 3) := by decide +kernel
theorem d_Desk_pushFromScript_44 : decode prog_1_method_13_code 44 = .ok (.iload_n 2, 1) := by decide +kernel
theorem d_Desk_pushFromScript_45 : decode prog_1_method_13_code 45 = .ok (.iconst 1, 1) := by decide +kernel
theorem d_Desk_pushFromScript_46 : decode prog_1_method_13_code 46 = .ok (.iadd, 1) := by decide +kernel
theorem d_Desk_pushFromScript_47 : decode prog_1_method_13_code 47 = .ok (.iaload, 1) := by decide +kernel
theorem d_Desk_pushFromScript_48 : decode prog_1_method_13_code 48 = .ok (.iload 4, 2) := by decide +kernel
theorem d_Desk_pushFromScript_50 : decode prog_1_method_13_code 50 = .ok (.iconst 2, 1) := by decide +kernel
theorem d_Desk_pushFromScript_51 : decode prog_1_method_13_code 51 = .ok (.if_icmp .ne 18, 3) := by decide +kernel
theorem d_Desk_pushFromScript_54 : decode prog_1_method_13_code 54 = .ok (.sipush 256, 3) := by decide +kernel
theorem d_Desk_pushFromScript_57 : decode prog_1_method_13_code 57 = .ok (.aload_n 0, 1) := by decide +kernel
theorem d_Desk_pushFromScript_58 : decode prog_1_method_13_code 58 = .ok (.getfield 9, 3) := by decide +kernel
theorem d_Desk_pushFromScript_61 : decode prog_1_method_13_code 61 = .ok (.iload_n 2, 1) := by decide +kernel
theorem d_Desk_pushFromScript_62 : decode prog_1_method_13_code 62 = .ok (.iconst 2, 1) := by decide +kernel
theorem d_Desk_pushFromScript_63 : decode prog_1_method_13_code 63 = .ok (.iadd, 1) := by decide +kernel
theorem d_Desk_pushFromScript_64 : decode prog_1_method_13_code 64 = .ok (.iaload, 1) := by decide +kernel
theorem d_Desk_pushFromScript_65 : decode prog_1_method_13_code 65 = .ok (.imul, 1) := by decide +kernel
theorem d_Desk_pushFromScript_66 : decode prog_1_method_13_code 66 = .ok (.goto 4, 3) := by decide +kernel
theorem d_Desk_pushFromScript_69 : decode prog_1_method_13_code 69 = .ok (.iconst 0, 1) := by decide +kernel
theorem d_Desk_pushFromScript_70 : decode prog_1_method_13_code 70 = .ok (.iadd, 1) := by decide +kernel
theorem d_Desk_pushFromScript_71 : decode prog_1_method_13_code 71 = .ok (.istore 6, 2) := by decide +kernel
theorem d_Desk_pushFromScript_73 : decode prog_1_method_13_code 73 = .ok (.iload 6, 2) := by decide +kernel
theorem d_Desk_pushFromScript_75 : decode prog_1_method_13_code 75 = .ok (.iload_n 3, 1) := by decide +kernel
theorem d_Desk_pushFromScript_76 : decode prog_1_method_13_code 76 = .ok (.iload 5, 2) := by decide +kernel
theorem d_Desk_pushFromScript_78 : decode prog_1_method_13_code 78 = .ok (.isub, 1) := by decide +kernel
theorem d_Desk_pushFromScript_79 : decode prog_1_method_13_code 79 = .ok (.if_icmp .le 5, 3) := by decide +kernel
theorem d_Desk_pushFromScript_82 : decode prog_1_method_13_code 82 = .ok (.iconst 1, 1) := by decide +kernel
theorem d_Desk_pushFromScript_83 : decode prog_1_method_13_code 83 = .ok (.ireturn, 1) := by decide +kernel
theorem d_Desk_pushFromScript_84 : decode prog_1_method_13_code 84 = .ok (.iload 6, 2) := by decide +kernel
theorem d_Desk_pushFromScript_86 : decode prog_1_method_13_code 86 = .ok (.bipush 120, 2) := by decide +kernel
theorem d_Desk_pushFromScript_88 : decode prog_1_method_13_code 88 = .ok (.if_icmp .le 5, 3) := by decide +kernel
theorem d_Desk_pushFromScript_91 : decode prog_1_method_13_code 91 = .ok (.iconst 2, 1) := by decide +kernel
theorem d_Desk_pushFromScript_92 : decode prog_1_method_13_code 92 = .ok (.ireturn, 1) := by decide +kernel
theorem d_Desk_pushFromScript_93 : decode prog_1_method_13_code 93 = .ok (.aload_n 0, 1) := by decide +kernel
theorem d_Desk_pushFromScript_94 : decode prog_1_method_13_code 94 = .ok (.iload 5, 2) := by decide +kernel
theorem d_Desk_pushFromScript_96 : decode prog_1_method_13_code 96 = .ok (.iload 6, 2) := by decide +kernel
theorem d_Desk_pushFromScript_98 : decode prog_1_method_13_code 98 = .ok (.iadd, 1) := by decide +kernel
theorem d_Desk_pushFromScript_99 : decode prog_1_method_13_code 99 = .ok (.putfield 17, 3) := by decide +kernel
theorem d_Desk_pushFromScript_102 : decode prog_1_method_13_code 102 = .ok (.aload_n 0, 1) := by decide +kernel
theorem d_Desk_pushFromScript_103 : decode prog_1_method_13_code 103 = .ok (.getfield 40, 3) := by decide +kernel
theorem d_Desk_pushFromScript_106 : decode prog_1_method_13_code 106 = .ok (.invokevirtual 114, 3) := by decide +kernel
theorem d_Desk_pushFromScript_109 : decode prog_1_method_13_code 109 = .ok (.ifCond .eq 18, 3) := by decide +kernel
theorem d_Desk_pushFromScript_112 : decode prog_1_method_13_code 112 = .ok (.aload_n 0, 1) := by decide +kernel
theorem d_Desk_pushFromScript_113 : decode prog_1_method_13_code 113 = .ok (.getfield 26, 3) := by decide +kernel
theorem d_Desk_pushFromScript_116 : decode prog_1_method_13_code 116 = .ok (.aload_n 0, 1) := by decide +kernel
theorem d_Desk_pushFromScript_117 : decode prog_1_method_13_code 117 = .ok (.getfield 9, 3) := by decide +kernel
theorem d_Desk_pushFromScript_120 : decode prog_1_method_13_code 120 = .ok (.iload 5, 2) := by decide +kernel
theorem d_Desk_pushFromScript_122 : decode prog_1_method_13_code 122 = .ok (.iload 6, 2) := by decide +kernel
theorem d_Desk_pushFromScript_124 : decode prog_1_method_13_code 124 = .ok (.invokevirtual 117, 3) := by decide +kernel
theorem d_Desk_pushFromScript_127 : decode prog_1_method_13_code 127 = .ok (.iconst 0, 1) := by decide +kernel
theorem d_Desk_pushFromScript_128 : decode prog_1_method_13_code 128 = .ok (.ireturn, 1) := by decide +kernel
theorem d_Elements_dropSide_0 : decode prog_3_method_10_code 0 = .ok (.aload_n 0, 1) := by decide +kernel
theorem d_Elements_dropSide_1 : decode prog_3_method_10_code 1 = .ok (.iconst 0, 1) := by decide +kernel
theorem d_Elements_dropSide_2 : decode prog_3_method_10_code 2 = .ok (.putfield 25, 3) := by decide +kernel
theorem d_Elements_dropSide_5 : decode prog_3_method_10_code 5 = .ok (.return_, 1) := by decide +kernel
theorem d_Desk_run_0 : decode prog_1_method_4_code 0 = .ok (.aload_n 0, 1) := by decide +kernel
theorem d_Desk_run_1 : decode prog_1_method_4_code 1 = .ok (.getfield 13, 3) := by decide +kernel
theorem d_Desk_run_4 : decode prog_1_method_4_code 4 = .ok (.istore_n 1, 1) := by decide +kernel
theorem d_Desk_run_5 : decode prog_1_method_4_code 5 = .ok (.aload_n 0, 1) := by decide +kernel
theorem d_Desk_run_6 : decode prog_1_method_4_code 6 = .ok (.invokevirtual 69, 3) := by decide +kernel
theorem d_Desk_run_9 : decode prog_1_method_4_code 9 = .ok (.iconst 0, 1) := by decide +kernel
theorem d_Desk_run_10 : decode prog_1_method_4_code 10 = .ok (.istore_n 2, 1) := by decide +kernel
theorem d_Desk_run_11 : decode prog_1_method_4_code 11 = .ok (.iconst 0, 1) := by decide +kernel
theorem d_Desk_run_12 : decode prog_1_method_4_code 12 = .ok (.istore_n 3, 1) := by decide +kernel
theorem d_Desk_run_13 : decode prog_1_method_4_code 13 = .ok (.iconst 0, 1) := by decide +kernel
theorem d_Desk_run_14 : decode prog_1_method_4_code 14 = .ok (.istore 4, 2) := by decide +kernel
theorem d_Desk_run_16 : decode prog_1_method_4_code 16 = .ok (.iload 4, 2) := by decide +kernel
theorem d_Desk_run_18 : decode prog_1_method_4_code 18 = .ok (.sipush 200, 3) := by decide +kernel
theorem d_Desk_run_21 : decode prog_1_method_4_code 21 = .ok (.if_icmp .ge 83, 3) := by decide +kernel
theorem d_Desk_run_24 : decode prog_1_method_4_code 24 = .ok (.aload_n 0, 1) := by decide +kernel
theorem d_Desk_run_25 : decode prog_1_method_4_code 25 = .ok (.getfield 17, 3) := by decide +kernel
theorem d_Desk_run_28 : decode prog_1_method_4_code 28 = .ok (.iload_n 1, 1) := by decide +kernel
theorem d_Desk_run_29 : decode prog_1_method_4_code 29 = .ok (.if_icmp .ge 75, 3) := by decide +kernel
theorem d_Desk_run_32 : decode prog_1_method_4_code 32 = .ok (.iload_n 3, 1) := by decide +kernel
theorem d_Desk_run_33 : decode prog_1_method_4_code 33 = .ok (.ifCond .ne 71, 3) := by decide +kernel
theorem d_Desk_run_36 : decode prog_1_method_4_code 36 = .ok (.aload_n 0, 1) := by decide +kernel
theorem d_Desk_run_37 : decode prog_1_method_4_code 37 = .ok (.getfield 17, 3) := by decide +kernel
theorem d_Desk_run_40 : decode prog_1_method_4_code 40 = .ok (.istore_n 2, 1) := by decide +kernel
theorem d_Desk_run_41 : decode prog_1_method_4_code 41 = .ok (.aload_n 0, 1) := by decide +kernel
theorem d_Desk_run_42 : decode prog_1_method_4_code 42 = .ok (.iload_n 2, 1) := by decide +kernel
theorem d_Desk_run_43 : decode prog_1_method_4_code 43 = .ok (.iconst 1, 1) := by decide +kernel
theorem d_Desk_run_44 : decode prog_1_method_4_code 44 = .ok (.iadd, 1) := by decide +kernel
theorem d_Desk_run_45 : decode prog_1_method_4_code 45 = .ok (.putfield 17, 3) := by decide +kernel
theorem d_Desk_run_48 : decode prog_1_method_4_code 48 = .ok (.aload_n 0, 1) := by decide +kernel
theorem d_Desk_run_49 : decode prog_1_method_4_code 49 = .ok (.getfield 9, 3) := by decide +kernel
theorem d_Desk_run_52 : decode prog_1_method_4_code 52 = .ok (.iload_n 2, 1) := by decide +kernel
theorem d_Desk_run_53 : decode prog_1_method_4_code 53 = .ok (.iaload, 1) := by decide +kernel
theorem d_Desk_run_54 : decode prog_1_method_4_code 54 = .ok (.istore 5, 2) := by decide +kernel
theorem d_Desk_run_56 : decode prog_1_method_4_code 56 = .ok (.iload 5, 2) := by decide +kernel
theorem d_Desk_run_58 : decode prog_1_method_4_code 58 = .ok (.bipush 77, 2) := by decide +kernel
theorem d_Desk_run_60 : decode prog_1_method_4_code 60 = .ok (.if_icmp .gt 14, 3) := by decide +kernel
theorem d_Desk_run_63 : decode prog_1_method_4_code 63 = .ok (.aload_n 0, 1) := by decide +kernel
theorem d_Desk_run_64 : decode prog_1_method_4_code 64 = .ok (.iload 5, 2) := by decide +kernel
theorem d_Desk_run_66 : decode prog_1_method_4_code 66 = .ok (.iload_n 2, 1) := by decide +kernel
theorem d_Desk_run_67 : decode prog_1_method_4_code 67 = .ok (.iload_n 1, 1) := by decide +kernel
theorem d_Desk_run_68 : decode prog_1_method_4_code 68 = .ok (.invokevirtual 72, 3) := by decide +kernel
theorem d_Desk_run_71 : decode prog_1_method_4_code 71 = .ok (.goto 9, 3) := by decide +kernel
theorem d_Desk_run_74 : decode prog_1_method_4_code 74 = .ok (.aload_n 0, 1) := by decide +kernel
theorem d_Desk_run_75 : decode prog_1_method_4_code 75 = .ok (.iload 5, 2) := by decide +kernel
theorem d_Desk_run_77 : decode prog_1_method_4_code 77 = .ok (.invokevirtual 76, 3) := by decide +kernel
theorem d_Desk_run_80 : decode prog_1_method_4_code 80 = .ok (.istore_n 3, 1) := by decide +kernel
theorem d_Desk_run_81 : decode prog_1_method_4_code 81 = .ok (.iload_n 3, 1) := by decide +kernel
theorem d_Desk_run_82 : decode prog_1_method_4_code 82 = .ok (.ifCond .ne 16, 3) := by decide +kernel
theorem d_Desk_run_85 : decode prog_1_method_4_code 85 = .ok (.aload_n 0, 1) := by decide +kernel
theorem d_Desk_run_86 : decode prog_1_method_4_code 86 = .ok (.getfield 26, 3) := by decide +kernel
theorem d_Desk_run_89 : decode prog_1_method_4_code 89 = .ok (.invokevirtual 80, 3) := by decide +kernel
theorem d_Desk_run_92 : decode prog_1_method_4_code 92 = .ok (.ifCond .eq 6, 3) := by decide +kernel
theorem d_Desk_run_95 : decode prog_1_method_4_code 95 = .ok (.bipush 11, 2) := by decide +kernel
theorem d_Desk_run_97 : decode prog_1_method_4_code 97 = .ok (.istore_n 3, 1) := by decide +kernel
theorem d_Desk_run_98 : decode prog_1_method_4_code 98 = .ok (.iinc 4 1, 3) := by decide +kernel
theorem d_Desk_run_101 : decode prog_1_method_4_code 101 = .ok (.goto (-85), 3) := by decide +kernel
theorem d_Desk_run_104 : decode prog_1_method_4_code 104 = .ok (.iload_n 3, 1) := by decide +kernel
theorem d_Desk_run_105 : decode prog_1_method_4_code 105 = .ok (.ifCond .ne 18, 3) := by decide +kernel
theorem d_Desk_run_108 : decode prog_1_method_4_code 108 = .ok (.aload_n 0, 1) := by decide +kernel
theorem d_Desk_run_109 : decode prog_1_method_4_code 109 = .ok (.getfield 40, 3) := by decide +kernel
theorem d_Desk_run_112 : decode prog_1_method_4_code 112 = .ok (.invokevirtual 84, 3) := by decide +kernel
theorem d_Desk_run_115 : decode prog_1_method_4_code 115 = .ok (.ifCond .eq 8, 3) := by decide +kernel
theorem d_Desk_run_118 : decode prog_1_method_4_code 118 = .ok (.iload_n 1, 1) := by decide +kernel
theorem d_Desk_run_119 : decode prog_1_method_4_code 119 = .ok (.istore_n 2, 1) := by decide +kernel
theorem d_Desk_run_120 : decode prog_1_method_4_code 120 = .ok (.bipush 12, 2) := by decide +kernel
theorem d_Desk_run_122 : decode prog_1_method_4_code 122 = .ok (.istore_n 3, 1) := by decide +kernel
theorem d_Desk_run_123 : decode prog_1_method_4_code 123 = .ok (.aload_n 0, 1) := by decide +kernel
theorem d_Desk_run_124 : decode prog_1_method_4_code 124 = .ok (.getfield 26, 3) := by decide +kernel
theorem d_Desk_run_127 : decode prog_1_method_4_code 127 = .ok (.invokevirtual 87, 3) := by decide +kernel
theorem d_Desk_run_130 : decode prog_1_method_4_code 130 = .ok (.iload_n 3, 1) := by decide +kernel
theorem d_Desk_run_131 : decode prog_1_method_4_code 131 = .ok (.ifCond .ne 5, 3) := by decide +kernel
theorem d_Desk_run_134 : decode prog_1_method_4_code 134 = .ok (.iconst 1, 1) := by decide +kernel
theorem d_Desk_run_135 : decode prog_1_method_4_code 135 = .ok (.ireturn, 1) := by decide +kernel
theorem d_Desk_run_136 : decode prog_1_method_4_code 136 = .ok (.aload_n 0, 1) := by decide +kernel
theorem d_Desk_run_137 : decode prog_1_method_4_code 137 = .ok (.getfield 26, 3) := by decide +kernel
theorem d_Desk_run_140 : decode prog_1_method_4_code 140 = .ok (.aload_n 0, 1) := by decide +kernel
theorem d_Desk_run_141 : decode prog_1_method_4_code 141 = .ok (.getfield 26, 3) := by decide +kernel
theorem d_Desk_run_144 : decode prog_1_method_4_code 144 = .ok (.getfield 90, 3) := by decide +kernel
theorem d_Desk_run_147 : decode prog_1_method_4_code 147 = .ok (.invokevirtual 93, 3) := by decide +kernel
theorem d_Desk_run_150 : decode prog_1_method_4_code 150 = .ok (.aload_n 0, 1) := by decide +kernel
theorem d_Desk_run_151 : decode prog_1_method_4_code 151 = .ok (.iload_n 2, 1) := by decide +kernel
theorem d_Desk_run_152 : decode prog_1_method_4_code 152 = .ok (.putfield 20, 3) := by decide +kernel
theorem d_Desk_run_155 : decode prog_1_method_4_code 155 = .ok (.iconst (-1), 1) := by decide +kernel
theorem d_Desk_run_156 : decode prog_1_method_4_code 156 = .ok (.iload_n 3, 1) := by decide +kernel
theorem d_Desk_run_157 : decode prog_1_method_4_code 157 = .ok (.isub, 1) := by decide +kernel
theorem d_Desk_run_158 : decode prog_1_method_4_code 158 = .ok (.ireturn, 1) := by decide +kernel
theorem d_Desk_place_0 : decode prog_1_method_5_code 0 = .ok (.aload_n 0, 1) := by decide +kernel
theorem d_Desk_place_1 : decode prog_1_method_5_code 1 = .ok (.getfield 20, 3) := by decide +kernel
theorem d_Desk_place_4 : decode prog_1_method_5_code 4 = .ok (.ireturn, 1) := by decide +kernel
theorem d_Desk_clear_0 : decode prog_1_method_6_code 0 = .ok (.aload_n 0, 1) := by decide +kernel
theorem d_Desk_clear_1 : decode prog_1_method_6_code 1 = .ok (.getfield 26, 3) := by decide +kernel
theorem d_Desk_clear_4 : decode prog_1_method_6_code 4 = .ok (.getfield 90, 3) := by decide +kernel
theorem d_Desk_clear_7 : decode prog_1_method_6_code 7 = .ok (.istore_n 1, 1) := by decide +kernel
theorem d_Desk_clear_8 : decode prog_1_method_6_code 8 = .ok (.aload_n 0, 1) := by decide +kernel
theorem d_Desk_clear_9 : decode prog_1_method_6_code 9 = .ok (.getfield 26, 3) := by decide +kernel
theorem d_Desk_clear_12 : decode prog_1_method_6_code 12 = .ok (.iload_n 1, 1) := by decide +kernel
theorem d_Desk_clear_13 : decode prog_1_method_6_code 13 = .ok (.invokevirtual 93, 3) := by decide +kernel
theorem d_Desk_clear_16 : decode prog_1_method_6_code 16 = .ok (.iload_n 1, 1) := by decide +kernel
theorem d_Desk_clear_17 : decode prog_1_method_6_code 17 = .ok (.ireturn, 1) := by decide +kernel
theorem d_Desk_size_0 : decode prog_1_method_7_code 0 = .ok (.aload_n 0, 1) := by decide +kernel
theorem d_Desk_size_1 : decode prog_1_method_7_code 1 = .ok (.getfield 26, 3) := by decide +kernel
theorem d_Desk_size_4 : decode prog_1_method_7_code 4 = .ok (.getfield 90, 3) := by decide +kernel
theorem d_Desk_size_7 : decode prog_1_method_7_code 7 = .ok (.ireturn, 1) := by decide +kernel
theorem d_Desk_isTrue_0 : decode prog_1_method_8_code 0 = .ok (.aload_n 0, 1) := by decide +kernel
theorem d_Desk_isTrue_1 : decode prog_1_method_8_code 1 = .ok (.getfield 26, 3) := by decide +kernel
theorem d_Desk_isTrue_4 : decode prog_1_method_8_code 4 = .ok (.invokevirtual 97, 3) := by decide +kernel
theorem d_Desk_isTrue_7 : decode prog_1_method_8_code 7 = .ok (.ireturn, 1) := by decide +kernel
theorem d_Desk_bytes_0 : decode prog_1_method_9_code 0 = .ok (.aload_n 0, 1) := by decide +kernel
theorem d_Desk_bytes_1 : decode prog_1_method_9_code 1 = .ok (.getfield 26, 3) := by decide +kernel
theorem d_Desk_bytes_4 : decode prog_1_method_9_code 4 = .ok (.iload_n 1, 1) := by decide +kernel
theorem d_Desk_bytes_5 : decode prog_1_method_9_code 5 = .ok (.invokevirtual 100, 3) := by decide +kernel
theorem d_Desk_bytes_8 : decode prog_1_method_9_code 8 = .ok (.ireturn, 1) := by decide +kernel
theorem d_Desk_byteOf_0 : decode prog_1_method_10_code 0 = .ok (.aload_n 0, 1) := by decide +kernel
theorem d_Desk_byteOf_1 : decode prog_1_method_10_code 1 = .ok (.getfield 26, 3) := by decide +kernel
theorem d_Desk_byteOf_4 : decode prog_1_method_10_code 4 = .ok (.iload_n 1, 1) := by decide +kernel
theorem d_Desk_byteOf_5 : decode prog_1_method_10_code 5 = .ok (.iload_n 2, 1) := by decide +kernel
theorem d_Desk_byteOf_6 : decode prog_1_method_10_code 6 = .ok (.invokevirtual 103, 3) := by decide +kernel
theorem d_Desk_byteOf_9 : decode prog_1_method_10_code 9 = .ok (.ireturn, 1) := by decide +kernel
theorem d_Desk_count_0 : decode prog_1_method_11_code 0 = .ok (.iload_n 1, 1) := by decide +kernel
theorem d_Desk_count_1 : decode prog_1_method_11_code 1 = .ok (.ifCond .ne 11, 3) := by decide +kernel
theorem d_Desk_count_4 : decode prog_1_method_11_code 4 = .ok (.aload_n 0, 1) := by decide +kernel
theorem d_Desk_count_5 : decode prog_1_method_11_code 5 = .ok (.getfield 33, 3) := by decide +kernel
theorem d_Desk_count_8 : decode prog_1_method_11_code 8 = .ok (.getfield 107, 3) := by decide +kernel
theorem d_Desk_count_11 : decode prog_1_method_11_code 11 = .ok (.ireturn, 1) := by decide +kernel
theorem d_Desk_count_12 : decode prog_1_method_11_code 12 = .ok (.iload_n 1, 1) := by decide +kernel
theorem d_Desk_count_13 : decode prog_1_method_11_code 13 = .ok (.iconst 1, 1) := by decide +kernel
theorem d_Desk_count_14 : decode prog_1_method_11_code 14 = .ok (.if_icmp .ne 13, 3) := by decide +kernel
theorem d_Desk_count_17 : decode prog_1_method_11_code 17 = .ok (.aload_n 0, 1) := by decide +kernel
theorem d_Desk_count_18 : decode prog_1_method_11_code 18 = .ok (.getfield 47, 3) := by decide +kernel
theorem d_Desk_count_21 : decode prog_1_method_11_code 21 = .ok (.getfield 110, 3) := by decide +kernel
theorem d_Desk_count_24 : decode prog_1_method_11_code 24 = .ok (.goto 4, 3) := by decide +kernel
theorem d_Desk_count_27 : decode prog_1_method_11_code 27 = .ok (.iconst (-1), 1) := by decide +kernel
theorem d_Desk_count_28 : decode prog_1_method_11_code 28 = .ok (.ireturn, 1) := by decide +kernel
