theorem d_Model_operation_57 : decode prog_12_method_35_code 57 = .ok (.goto 209, 3) := by decide +kernel
theorem d_Model_operation_60 : decode prog_12_method_35_code 60 = .ok (.iload_n 1, 1) := by decide +kernel
theorem d_Model_operation_61 : decode prog_12_method_35_code 61 = .ok (.sipush 139, 3) := by decide +kernel
theorem d_Model_operation_64 : decode prog_12_method_35_code 64 = .ok (.if_icmp .eq 24, 3) := by decide +kernel
theorem d_Model_operation_67 : decode prog_12_method_35_code 67 = .ok (.iload_n 1, 1) := by decide +kernel
theorem d_Model_operation_68 : decode prog_12_method_35_code 68 = .ok (.sipush 140, 3) := by decide +kernel
theorem d_Model_operation_71 : decode prog_12_method_35_code 71 = .ok (.if_icmp .eq 17, 3) := by decide +kernel
theorem d_Model_operation_74 : decode prog_12_method_35_code 74 = .ok (.iload_n 1, 1) := by decide +kernel
theorem d_Model_operation_75 : decode prog_12_method_35_code 75 = .ok (.sipush 143, 3) := by decide +kernel
theorem d_Model_operation_78 : decode prog_12_method_35_code 78 = .ok (.if_icmp .lt 18, 3) := by decide +kernel
theorem d_Model_operation_81 : decode prog_12_method_35_code 81 = .ok (.iload_n 1, 1) := by decide +kernel
theorem d_Model_operation_82 : decode prog_12_method_35_code 82 = .ok (.sipush 146, 3) := by decide +kernel
theorem d_Model_operation_85 : decode prog_12_method_35_code 85 = .ok (.if_icmp .gt 11, 3) := by decide +kernel
theorem d_Model_operation_88 : decode prog_12_method_35_code 88 = .ok (.aload_n 0, 1) := by decide +kernel
theorem d_Model_operation_89 : decode prog_12_method_35_code 89 = .ok (.iload_n 1, 1) := by decide +kernel
theorem d_Model_operation_90 : decode prog_12_method_35_code 90 = .ok (.invokevirtual 197, 3) := by decide +kernel
theorem d_Model_operation_93 : decode prog_12_method_35_code 93 = .ok (.goto 173, 3) := by decide +kernel
theorem d_Model_operation_96 : decode prog_12_method_35_code 96 = .ok (.iload_n 1, 1) := by decide +kernel
theorem d_Model_operation_97 : decode prog_12_method_35_code 97 = .ok (.sipush 147, 3) := by decide +kernel
theorem d_Model_operation_100 : decode prog_12_method_35_code 100 = .ok (.if_icmp .eq 24, 3) := by decide +kernel
theorem d_Model_operation_103 : decode prog_12_method_35_code 103 = .ok (.iload_n 1, 1) := by decide +kernel
theorem d_Model_operation_104 : decode prog_12_method_35_code 104 = .ok (.sipush 148, 3) := by decide +kernel
theorem d_Model_operation_107 : decode prog_12_method_35_code 107 = .ok (.if_icmp .eq 17, 3) := by decide +kernel
theorem d_Model_operation_110 : decode prog_12_method_35_code 110 = .ok (.iload_n 1, 1) := by decide +kernel
theorem d_Model_operation_111 : decode prog_12_method_35_code 111 = .ok (.sipush 154, 3) := by decide +kernel
theorem d_Model_operation_114 : decode prog_12_method_35_code 114 = .ok (.if_icmp .lt 18, 3) := by decide +kernel
theorem d_Model_operation_117 : decode prog_12_method_35_code 117 = .ok (.iload_n 1, 1) := by decide +kernel
theorem d_Model_operation_118 : decode prog_12_method_35_code 118 = .ok (.sipush 165, 3) := by decide +kernel
theorem d_Model_operation_121 : decode prog_12_method_35_code 121 = .ok (.if_icmp .gt 11, 3) := by decide +kernel
theorem d_Model_operation_124 : decode prog_12_method_35_code 124 = .ok (.aload_n 0, 1) := by decide +kernel
theorem d_Model_operation_125 : decode prog_12_method_35_code 125 = .ok (.iload_n 1, 1) := by decide +kernel
theorem d_Model_operation_126 : decode prog_12_method_35_code 126 = .ok (.invokevirtual 200, 3) := by decide +kernel
theorem d_Model_operation_129 : decode prog_12_method_35_code 129 = .ok (.goto 137, 3) := by decide +kernel
theorem d_Model_operation_132 : decode prog_12_method_35_code 132 = .ok (.iload_n 1, 1) := by decide +kernel
theorem d_Model_operation_133 : decode prog_12_method_35_code 133 = .ok (.sipush 166, 3) := by decide +kernel
theorem d_Model_operation_136 : decode prog_12_method_35_code 136 = .ok (.if_icmp .eq 17, 3) := by decide +kernel
theorem d_Model_operation_139 : decode prog_12_method_35_code 139 = .ok (.iload_n 1, 1) := by decide +kernel
theorem d_Model_operation_140 : decode prog_12_method_35_code 140 = .ok (.sipush 168, 3) := by decide +kernel
theorem d_Model_operation_143 : decode prog_12_method_35_code 143 = .ok (.if_icmp .lt 18, 3) := by decide +kernel
theorem d_Model_operation_146 : decode prog_12_method_35_code 146 = .ok (.iload_n 1, 1) := by decide +kernel
theorem d_Model_operation_147 : decode prog_12_method_35_code 147 = .ok (.sipush 170, 3) := by decide +kernel
theorem d_Model_operation_150 : decode prog_12_method_35_code 150 = .ok (.if_icmp .gt 11, 3) := by decide +kernel
theorem d_Model_operation_153 : decode prog_12_method_35_code 153 = .ok (.aload_n 0, 1) := by decide +kernel
theorem d_Model_operation_154 : decode prog_12_method_35_code 154 = .ok (.iload_n 1, 1) := by decide +kernel
theorem d_Model_operation_155 : decode prog_12_method_35_code 155 = .ok (.invokevirtual 203, 3) := by decide +kernel
theorem d_Model_operation_158 : decode prog_12_method_35_code 158 = .ok (.goto 108, 3) := by decide +kernel
theorem d_Model_operation_161 : decode prog_12_method_35_code 161 = .ok (.iload_n 1, 1) := by decide +kernel
theorem d_Model_operation_162 : decode prog_12_method_35_code 162 = .ok (.sipush 172, 3) := by decide +kernel
theorem d_Model_operation_165 : decode prog_12_method_35_code 165 = .ok (.if_icmp .eq 10, 3) := by decide +kernel
theorem d_Model_operation_168 : decode prog_12_method_35_code 168 = .ok (.iload_n 1, 1) := by decide +kernel
theorem d_Model_operation_169 : decode prog_12_method_35_code 169 = .ok (.sipush 173, 3) := by decide +kernel
theorem d_Model_operation_172 : decode prog_12_method_35_code 172 = .ok (.if_icmp .ne 22, 3) := by decide +kernel
theorem d_Model_operation_175 : decode prog_12_method_35_code 175 = .ok (.aload_n 0, 1) := by decide +kernel
theorem d_Model_operation_176 : decode prog_12_method_35_code 176 = .ok (.iload_n 1, 1) := by decide +kernel
theorem d_Model_operation_177 : decode prog_12_method_35_code 177 = .ok (.sipush 173, 3) := by decide +kernel
theorem d_Model_operation_180 : decode prog_12_method_35_code 180 = .ok (.if_icmp .ne 7, 3) := by decide +kernel
theorem d_Model_operation_183 : decode prog_12_method_35_code 183 = .ok (.iconst 1, 1) := by decide +kernel
theorem d_Model_operation_184 : decode prog_12_method_35_code 184 = .ok (.goto 4, 3) := by decide +kernel
theorem d_Model_operation_187 : decode prog_12_method_35_code 187 = .ok (.iconst 0, 1) := by decide +kernel
theorem d_Model_operation_188 : decode prog_12_method_35_code 188 = .ok (.invokevirtual 206, 3) := by decide +kernel
theorem d_Model_operation_191 : decode prog_12_method_35_code 191 = .ok (.goto 75, 3) := by decide +kernel
theorem d_Model_operation_194 : decode prog_12_method_35_code 194 = .ok (.iload_n 1, 1) := by decide +kernel
theorem d_Model_operation_195 : decode prog_12_method_35_code 195 = .ok (.sipush 174, 3) := by decide +kernel
theorem d_Model_operation_198 : decode prog_12_method_35_code 198 = .ok (.if_icmp .eq 10, 3) := by decide +kernel
theorem d_Model_operation_201 : decode prog_12_method_35_code 201 = .ok (.iload_n 1, 1) := by decide +kernel
theorem d_Model_operation_202 : decode prog_12_method_35_code 202 = .ok (.sipush 175, 3) := by decide +kernel
theorem d_Model_operation_205 : decode prog_12_method_35_code 205 = .ok (.if_icmp .ne 22, 3) := by decide +kernel
theorem d_Model_operation_208 : decode prog_12_method_35_code 208 = .ok (.aload_n 0, 1) := by decide +kernel
theorem d_Model_operation_209 : decode prog_12_method_35_code 209 = .ok (.iload_n 1, 1) := by decide +kernel
theorem d_Model_operation_210 : decode prog_12_method_35_code 210 = .ok (.sipush 175, 3) := by decide +kernel
theorem d_Model_operation_213 : decode prog_12_method_35_code 213 = .ok (.if_icmp .ne 7, 3) := by decide +kernel
theorem d_Model_operation_216 : decode prog_12_method_35_code 216 = .ok (.iconst 1, 1) := by decide +kernel
theorem d_Model_operation_217 : decode prog_12_method_35_code 217 = .ok (.goto 4, 3) := by decide +kernel
theorem d_Model_operation_220 : decode prog_12_method_35_code 220 = .ok (.iconst 0, 1) := by decide +kernel
theorem d_Model_operation_221 : decode prog_12_method_35_code 221 = .ok (.invokevirtual 209, 3) := by decide +kernel
theorem d_Model_operation_224 : decode prog_12_method_35_code 224 = .ok (.goto 42, 3) := by decide +kernel
theorem d_Model_operation_227 : decode prog_12_method_35_code 227 = .ok (.iload_n 1, 1) := by decide +kernel
theorem d_Model_operation_228 : decode prog_12_method_35_code 228 = .ok (.bipush 105, 2) := by decide +kernel
theorem d_Model_operation_230 : decode prog_12_method_35_code 230 = .ok (.if_icmp .ne 10, 3) := by decide +kernel
theorem d_Model_operation_233 : decode prog_12_method_35_code 233 = .ok (.aload_n 0, 1) := by decide +kernel
theorem d_Model_operation_234 : decode prog_12_method_35_code 234 = .ok (.invokevirtual 146, 3) := by decide +kernel
theorem d_Model_operation_237 : decode prog_12_method_35_code 237 = .ok (.goto 29, 3) := by decide +kernel
theorem d_Model_operation_240 : decode prog_12_method_35_code 240 = .ok (.iload_n 1, 1) := by decide +kernel
theorem d_Model_operation_241 : decode prog_12_method_35_code 241 = .ok (.bipush 106, 2) := by decide +kernel
theorem d_Model_operation_243 : decode prog_12_method_35_code 243 = .ok (.if_icmp .ne 12, 3) := by decide +kernel
theorem d_Model_operation_246 : decode prog_12_method_35_code 246 = .ok (.aload_n 0, 1) := by decide +kernel
theorem d_Model_operation_247 : decode prog_12_method_35_code 247 = .ok (.bipush 9, 2) := by decide +kernel
theorem d_Model_operation_249 : decode prog_12_method_35_code 249 = .ok (.invokevirtual 63, 3) := by decide +kernel
theorem d_Model_operation_252 : decode prog_12_method_35_code 252 = .ok (.goto 14, 3) := by decide +kernel
theorem d_Model_operation_255 : decode prog_12_method_35_code 255 = .ok (.iload_n 1, 1) := by decide +kernel
theorem d_Model_operation_256 : decode prog_12_method_35_code 256 = .ok (.bipush 97, 2) := by decide +kernel
theorem d_Model_operation_258 : decode prog_12_method_35_code 258 = .ok (.if_icmp .eq 8, 3) := by decide +kernel
theorem d_Model_operation_261 : decode prog_12_method_35_code 261 = .ok (.aload_n 0, 1) := by decide +kernel
theorem d_Model_operation_262 : decode prog_12_method_35_code 262 = .ok (.iconst 4, 1) := by decide +kernel
theorem d_Model_operation_263 : decode prog_12_method_35_code 263 = .ok (.invokevirtual 63, 3) := by decide +kernel
theorem d_Model_operation_266 : decode prog_12_method_35_code 266 = .ok (.return_, 1) := by decide +kernel
theorem d_Model_pushes_0 : decode prog_12_method_36_code 0 = .ok (.iload_n 1, 1) := by decide +kernel
theorem d_Model_pushes_1 : decode prog_12_method_36_code 1 = .ok (.iload_n 2, 1) := by decide +kernel
theorem d_Model_pushes_2 : decode prog_12_method_36_code 2 = .ok (.iadd, 1) := by decide +kernel
theorem d_Model_pushes_3 : decode prog_12_method_36_code 3 = .ok (.aload_n 0, 1) := by decide +kernel
theorem d_Model_pushes_4 : decode prog_12_method_36_code 4 = .ok (.getfield 38, 3) := by decide +kernel
theorem d_Model_pushes_7 : decode prog_12_method_36_code 7 = .ok (.if_icmp .le 13, 3) := by decide +kernel
theorem d_Model_pushes_10 : decode prog_12_method_36_code 10 = .ok (.aload_n 0, 1) := by decide +kernel
theorem d_Model_pushes_11 : decode prog_12_method_36_code 11 = .ok (.iconst 1, 1) := by decide +kernel
theorem d_Model_pushes_12 : decode prog_12_method_36_code 12 = .ok (.invokevirtual 63, 3) := by decide +kernel
theorem d_Model_pushes_15 : decode prog_12_method_36_code 15 = .ok (.aload_n 0, 1) := by decide +kernel
theorem d_Model_pushes_16 : decode prog_12_method_36_code 16 = .ok (.getfield 38, 3) := by decide +kernel
theorem d_Model_pushes_19 : decode prog_12_method_36_code 19 = .ok (.ireturn, 1) := by decide +kernel
theorem d_Model_pushes_20 : decode prog_12_method_36_code 20 = .ok (.iload_n 2, 1) := by decide +kernel
theorem d_Model_pushes_21 : decode prog_12_method_36_code 21 = .ok (.bipush 120, 2) := by decide +kernel
theorem d_Model_pushes_23 : decode prog_12_method_36_code 23 = .ok (.if_icmp .le 11, 3) := by decide +kernel
theorem d_Model_pushes_26 : decode prog_12_method_36_code 26 = .ok (.aload_n 0, 1) := by decide +kernel
theorem d_Model_pushes_27 : decode prog_12_method_36_code 27 = .ok (.iconst 2, 1) := by decide +kernel
theorem d_Model_pushes_28 : decode prog_12_method_36_code 28 = .ok (.invokevirtual 63, 3) := by decide +kernel
theorem d_Model_pushes_31 : decode prog_12_method_36_code 31 = .ok (.goto 66, 3) := by decide +kernel
theorem d_Model_pushes_34 : decode prog_12_method_36_code 34 = .ok (.iload_n 3, 1) := by decide +kernel
theorem d_Model_pushes_35 : decode prog_12_method_36_code 35 = .ok (.ifCond .eq 62, 3) := by decide +kernel
theorem d_Model_pushes_38 : decode prog_12_method_36_code 38 = .ok (.aload_n 0, 1) := by decide +kernel
theorem d_Model_pushes_39 : decode prog_12_method_36_code 39 = .ok (.getfield 13, 3) := by decide +kernel
theorem d_Model_pushes_42 : decode prog_12_method_36_code 42 = .ok (.aload_n 0, 1) := by decide +kernel
theorem d_Model_pushes_43 : decode prog_12_method_36_code 43 = .ok (.getfield 47, 3) := by decide +kernel
theorem d_Model_pushes_46 : decode prog_12_method_36_code 46 = .ok (.iload_n 2, 1) := by decide +kernel
theorem d_Model_pushes_47 : decode prog_12_method_36_code 47 = .ok (.iastore, 1) := by decide +kernel
theorem d_Model_pushes_48 : decode prog_12_method_36_code 48 = .ok (.iconst 0, 1) := by decide +kernel
theorem d_Model_pushes_49 : decode prog_12_method_36_code 49 = .ok (.istore 4, 2) := by decide +kernel
theorem d_Model_pushes_51 : decode prog_12_method_36_code 51 = .ok (.iload 4, 2) := by decide +kernel
theorem d_Model_pushes_53 : decode prog_12_method_36_code 53 = .ok (.iload_n 2, 1) := by decide +kernel
theorem d_Model_pushes_54 : decode prog_12_method_36_code 54 = .ok (.if_icmp .ge 33, 3) := by decide +kernel
theorem d_Model_pushes_57 : decode prog_12_method_36_code 57 = .ok (.aload_n 0, 1) := by decide +kernel
theorem d_Model_pushes_58 : decode prog_12_method_36_code 58 = .ok (.getfield 7, 3) := by decide +kernel
theorem d_Model_pushes_61 : decode prog_12_method_36_code 61 = .ok (.bipush 120, 2) := by decide +kernel
theorem d_Model_pushes_63 : decode prog_12_method_36_code 63 = .ok (.aload_n 0, 1) := by decide +kernel
theorem d_Model_pushes_64 : decode prog_12_method_36_code 64 = .ok (.getfield 47, 3) := by decide +kernel
theorem d_Model_pushes_67 : decode prog_12_method_36_code 67 = .ok (.imul, 1) := by decide +kernel
theorem d_Model_pushes_68 : decode prog_12_method_36_code 68 = .ok (.iload 4, 2) := by decide +kernel
theorem d_Model_pushes_70 : decode prog_12_method_36_code 70 = .ok (.iadd, 1) := by decide +kernel
theorem d_Model_pushes_71 : decode prog_12_method_36_code 71 = .ok (.aload_n 0, 1) := by decide +kernel
theorem d_Model_pushes_72 : decode prog_12_method_36_code 72 = .ok (.getfield 16, 3) := by decide +kernel
theorem d_Model_pushes_75 : decode prog_12_method_36_code 75 = .ok (.iload_n 1, 1) := by decide +kernel
theorem d_Model_pushes_76 : decode prog_12_method_36_code 76 = .ok (.iload 4, 2) := by decide +kernel
theorem d_Model_pushes_78 : decode prog_12_method_36_code 78 = .ok (.iadd, 1) := by decide +kernel
theorem d_Model_pushes_79 : decode prog_12_method_36_code 79 = .ok (.iaload, 1) := by decide +kernel
theorem d_Model_pushes_80 : decode prog_12_method_36_code 80 = .ok (.iastore, 1) := by decide +kernel
theorem d_Model_pushes_81 : decode prog_12_method_36_code 81 = .ok (.iinc 4 1, 3) := by decide +kernel
theorem d_Model_pushes_84 : decode prog_12_method_36_code 84 = .ok (.goto (-33), 3) := by decide +kernel
theorem d_Model_pushes_87 : decode prog_12_method_36_code 87 = .ok (.aload_n 0, 1) := by decide +kernel
theorem d_Model_pushes_88 : decode prog_12_method_36_code 88 = .ok (.dup, 1) := by decide +kernel
theorem d_Model_pushes_89 : decode prog_12_method_36_code 89 = .ok (.getfield 47, 3) := by decide +kernel
theorem d_Model_pushes_92 : decode prog_12_method_36_code 92 = .ok (.iconst 1, 1) := by decide +kernel
theorem d_Model_pushes_93 : decode prog_12_method_36_code 93 = .ok (.iadd, 1) := by decide +kernel
theorem d_Model_pushes_94 : decode prog_12_method_36_code 94 = .ok (.putfield 47, 3) := by decide +kernel
theorem d_Model_pushes_97 : decode prog_12_method_36_code 97 = .ok (.iload_n 1, 1) := by decide +kernel
theorem d_Model_pushes_98 : decode prog_12_method_36_code 98 = .ok (.iload_n 2, 1) := by decide +kernel
theorem d_Model_pushes_99 : decode prog_12_method_36_code 99 = .ok (.iadd, 1) := by decide +kernel
theorem d_Model_pushes_100 : decode prog_12_method_36_code 100 = .ok (.ireturn, 1) := by decide +kernel
theorem d_Model_next_0 : decode prog_12_method_37_code 0 = .ok (.aload_n 0, 1) := by decide +kernel
theorem d_Model_next_1 : decode prog_12_method_37_code 1 = .ok (.getfield 16, 3) := by decide +kernel
theorem d_Model_next_4 : decode prog_12_method_37_code 4 = .ok (.iload_n 1, 1) := by decide +kernel
theorem d_Model_next_5 : decode prog_12_method_37_code 5 = .ok (.iaload, 1) := by decide +kernel
theorem d_Model_next_6 : decode prog_12_method_37_code 6 = .ok (.istore_n 2, 1) := by decide +kernel
theorem d_Model_next_7 : decode prog_12_method_37_code 7 = .ok (.aload_n 0, 1) := by decide +kernel
theorem d_Model_next_8 : decode prog_12_method_37_code 8 = .ok (.invokevirtual 160, 3) := by decide +kernel
theorem d_Model_next_11 : decode prog_12_method_37_code 11 = .ok (.istore_n 3, 1) := by decide +kernel
theorem d_Model_next_12 : decode prog_12_method_37_code 12 = .ok (.iload_n 2, 1) := by decide +kernel
theorem d_Model_next_13 : decode prog_12_method_37_code 13 = .ok (.bipush 78, 2) := by decide +kernel
theorem d_Model_next_15 : decode prog_12_method_37_code 15 = .ok (.if_icmp .ge 99, 3) := by decide +kernel
theorem d_Model_next_18 : decode prog_12_method_37_code 18 = .ok (.iload_n 2, 1) := by decide +kernel
theorem d_Model_next_19 : decode prog_12_method_37_code 19 = .ok (.bipush 76, 2) := by decide +kernel
theorem d_Model_next_21 : decode prog_12_method_37_code 21 = .ok (.if_icmp .ge 7, 3) := by decide +kernel
theorem d_Model_next_24 : decode prog_12_method_37_code 24 = .ok (.iconst 0, 1) := by decide +kernel
theorem d_Model_next_25 : decode prog_12_method_37_code 25 = .ok (.goto 7, 3) := by decide +kernel
theorem d_Model_next_28 : decode prog_12_method_37_code 28 = .ok (.iload_n 2, 1) := by decide +kernel
theorem d_Model_next_29 : decode prog_12_method_37_code 29 = .ok (.bipush 75, 2) := by decide +kernel
theorem d_Model_next_31 : decode prog_12_method_37_code 31 = .ok (.isub, 1) := by decide +kernel
theorem d_Model_next_32 : decode prog_12_method_37_code 32 = .ok (.istore 4, 2) := by decide +kernel
theorem d_Model_next_34 : decode prog_12_method_37_code 34 = .ok (.iload_n 1, 1) := by decide +kernel
theorem d_Model_next_35 : decode prog_12_method_37_code 35 = .ok (.iconst 1, 1) := by decide +kernel
theorem d_Model_next_36 : decode prog_12_method_37_code 36 = .ok (.iadd, 1) := by decide +kernel
theorem d_Model_next_37 : decode prog_12_method_37_code 37 = .ok (.iload 4, 2) := by decide +kernel
theorem d_Model_next_39 : decode prog_12_method_37_code 39 = .ok (.iadd, 1) := by decide +kernel
theorem d_Model_next_40 : decode prog_12_method_37_code 40 = .ok (.aload_n 0, 1) := by decide +kernel
theorem d_Model_next_41 : decode prog_12_method_37_code 41 = .ok (.getfield 38, 3) := by decide +kernel
theorem d_Model_next_44 : decode prog_12_method_37_code 44 = .ok (.if_icmp .le 13, 3) := by decide +kernel
theorem d_Model_next_47 : decode prog_12_method_37_code 47 = .ok (.aload_n 0, 1) := by decide +kernel
theorem d_Model_next_48 : decode prog_12_method_37_code 48 = .ok (.iconst 1, 1) := by decide +kernel
theorem d_Model_next_49 : decode prog_12_method_37_code 49 = .ok (.invokevirtual 63, 3) := by decide +kernel
theorem d_Model_next_52 : decode prog_12_method_37_code 52 = .ok (.aload_n 0, 1) := by decide +kernel
theorem d_Model_next_53 : decode prog_12_method_37_code 53 = .ok (.getfield 38, 3) := by decide +kernel
theorem d_Model_next_56 : decode prog_12_method_37_code 56 = .ok (.ireturn, 1) := by decide +kernel
theorem d_Model_next_57 : decode prog_12_method_37_code 57 = .ok (.iload_n 2, 1) := by decide +kernel
theorem d_Model_next_58 : decode prog_12_method_37_code 58 = .ok (.bipush 76, 2) := by decide +kernel
theorem d_Model_next_60 : decode prog_12_method_37_code 60 = .ok (.if_icmp .ge 7, 3) := by decide +kernel
theorem d_Model_next_63 : decode prog_12_method_37_code 63 = .ok (.iload_n 2, 1) := by decide +kernel
theorem d_Model_next_64 : decode prog_12_method_37_code 64 = .ok (.goto 34, 3) := by decide +kernel
theorem d_Model_next_67 : decode prog_12_method_37_code 67 = .ok (.aload_n 0, 1) := by decide +kernel
theorem d_Model_next_68 : decode prog_12_method_37_code 68 = .ok (.getfield 16, 3) := by decide +kernel
theorem d_Model_next_71 : decode prog_12_method_37_code 71 = .ok (.iload_n 1, 1) := by decide +kernel
theorem d_Model_next_72 : decode prog_12_method_37_code 72 = .ok (.iconst 1, 1) := by decide +kernel
theorem d_Model_next_73 : decode prog_12_method_37_code 73 = .ok (.iadd, 1) := by decide +kernel
theorem d_Model_next_74 : decode prog_12_method_37_code 74 = .ok (.iaload, 1) := by decide +kernel
theorem d_Model_next_75 : decode prog_12_method_37_code 75 = .ok (.iload 4, 2) := by decide +kernel
theorem d_Model_next_77 : decode prog_12_method_37_code 77 = .ok (.iconst 2, 1) := by decide +kernel
theorem d_Model_next_78 : decode prog_12_method_37_code 78 = .ok (.if_icmp .ne 18, 3) := by decide +kernel
theorem d_Model_next_81 : decode prog_12_method_37_code 81 = .ok (.sipush 256, 3) := by decide +kernel
theorem d_Model_next_84 : decode prog_12_method_37_code 84 = .ok (.aload_n 0, 1) := by decide +kernel
theorem d_Model_next_85 : decode prog_12_method_37_code 85 = .ok (.getfield 16, 3) := by decide +kernel
theorem d_Model_next_88 : decode prog_12_method_37_code 88 = .ok (.iload_n 1, 1) := by decide +kernel
theorem d_Model_next_89 : decode prog_12_method_37_code 89 = .ok (.iconst 2, 1) := by decide +kernel
theorem d_Model_next_90 : decode prog_12_method_37_code 90 = .ok (.iadd, 1) := by decide +kernel
theorem d_Model_next_91 : decode prog_12_method_37_code 91 = .ok (.iaload, 1) := by decide +kernel
theorem d_Model_next_92 : decode prog_12_method_37_code 92 = .ok (.imul, 1) := by decide +kernel
theorem d_Model_next_93 : decode prog_12_method_37_code 93 = .ok (.goto 4, 3) := by decide +kernel
theorem d_Model_next_96 : decode prog_12_method_37_code 96 = .ok (.iconst 0, 1) := by decide +kernel
theorem d_Model_next_97 : decode prog_12_method_37_code 97 = .ok (.iadd, 1) := by decide +kernel
theorem d_Model_next_98 : decode prog_12_method_37_code 98 = .ok (.istore 5, 2) := by decide +kernel
theorem d_Model_next_100 : decode prog_12_method_37_code 100 = .ok (.aload_n 0, 1) := by decide +kernel
theorem d_Model_next_101 : decode prog_12_method_37_code 101 = .ok (.iload_n 1, 1) := by decide +kernel
theorem d_Model_next_102 : decode prog_12_method_37_code 102 = .ok (.iconst 1, 1) := by decide +kernel
theorem d_Model_next_103 : decode prog_12_method_37_code 103 = .ok (.iadd, 1) := by decide +kernel
theorem d_Model_next_104 : decode prog_12_method_37_code 104 = .ok (.iload 4, 2) := by decide +kernel
theorem d_Model_next_106 : decode prog_12_method_37_code 106 = .ok (.iadd, 1) := by decide +kernel
theorem d_Model_next_107 : decode prog_12_method_37_code 107 = .ok (.iload 5, 2) := by decide +kernel
theorem d_Model_next_109 : decode prog_12_method_37_code 109 = .ok (.iload_n 3, 1) := by decide +kernel
theorem d_Model_next_110 : decode prog_12_method_37_code 110 = .ok (.invokevirtual 212, 3) := by decide +kernel
theorem d_Model_next_113 : decode prog_12_method_37_code 113 = .ok (.ireturn, 1) := by decide +kernel
theorem d_Model_next_114 : decode prog_12_method_37_code 114 = .ok (.aload_n 0, 1) := by decide +kernel
theorem d_Model_next_115 : decode prog_12_method_37_code 115 = .ok (.iload_n 2, 1) := by decide +kernel
theorem d_Model_next_116 : decode prog_12_method_37_code 116 = .ok (.bipush 96, 2) := by decide +kernel
theorem d_Model_next_118 : decode prog_12_method_37_code 118 = .ok (.if_icmp .le 12, 3) := by decide +kernel
theorem d_Model_next_121 : decode prog_12_method_37_code 121 = .ok (.aload_n 0, 1) := by decide +kernel
theorem d_Model_next_122 : decode prog_12_method_37_code 122 = .ok (.getfield 154, 3) := by decide +kernel
theorem d_Model_next_125 : decode prog_12_method_37_code 125 = .ok (.iconst 1, 1) := by decide +kernel
theorem d_Model_next_126 : decode prog_12_method_37_code 126 = .ok (.iadd, 1) := by decide +kernel
theorem d_Model_next_127 : decode prog_12_method_37_code 127 = .ok (.goto 7, 3) := by decide +kernel
theorem d_Model_next_130 : decode prog_12_method_37_code 130 = .ok (.aload_n 0, 1) := by decide +kernel
theorem d_Model_next_131 : decode prog_12_method_37_code 131 = .ok (.getfield 154, 3) := by decide +kernel
theorem d_Model_next_134 : decode prog_12_method_37_code 134 = .ok (.putfield 154, 3) := by decide +kernel
theorem d_Model_next_137 : decode prog_12_method_37_code 137 = .ok (.aload_n 0, 1) := by decide +kernel
theorem d_Model_next_138 : decode prog_12_method_37_code 138 = .ok (.getfield 154, 3) := by decide +kernel
theorem d_Model_next_141 : decode prog_12_method_37_code 141 = .ok (.bipush 100, 2) := by decide +kernel
theorem d_Model_next_143 : decode prog_12_method_37_code 143 = .ok (.if_icmp .le 11, 3) := by decide +kernel
theorem d_Model_next_146 : decode prog_12_method_37_code 146 = .ok (.aload_n 0, 1) := by decide +kernel
theorem d_Model_next_147 : decode prog_12_method_37_code 147 = .ok (.iconst 3, 1) := by decide +kernel
theorem d_Model_next_148 : decode prog_12_method_37_code 148 = .ok (.invokevirtual 63, 3) := by decide +kernel
theorem d_Model_next_151 : decode prog_12_method_37_code 151 = .ok (.goto 110, 3) := by decide +kernel
theorem d_Model_next_154 : decode prog_12_method_37_code 154 = .ok (.iload_n 2, 1) := by decide +kernel
theorem d_Model_next_155 : decode prog_12_method_37_code 155 = .ok (.bipush 99, 2) := by decide +kernel
theorem d_Model_next_157 : decode prog_12_method_37_code 157 = .ok (.if_icmp .eq 21, 3) := by decide +kernel
theorem d_Model_next_160 : decode prog_12_method_37_code 160 = .ok (.iload_n 2, 1) := by decide +kernel
theorem d_Model_next_161 : decode prog_12_method_37_code 161 = .ok (.bipush 100, 2) := by decide +kernel
theorem d_Model_next_163 : decode prog_12_method_37_code 163 = .ok (.if_icmp .eq 15, 3) := by decide +kernel
theorem d_Model_next_166 : decode prog_12_method_37_code 166 = .ok (.iload_n 2, 1) := by decide +kernel
theorem d_Model_next_167 : decode prog_12_method_37_code 167 = .ok (.bipush 103, 2) := by decide +kernel
theorem d_Model_next_169 : decode prog_12_method_37_code 169 = .ok (.if_icmp .eq 9, 3) := by decide +kernel
theorem d_Model_next_172 : decode prog_12_method_37_code 172 = .ok (.iload_n 2, 1) := by decide +kernel
theorem d_Model_next_173 : decode prog_12_method_37_code 173 = .ok (.bipush 104, 2) := by decide +kernel
theorem d_Model_next_175 : decode prog_12_method_37_code 175 = .ok (.if_icmp .ne 11, 3) := by decide +kernel
theorem d_Model_next_178 : decode prog_12_method_37_code 178 = .ok (.aload_n 0, 1) := by decide +kernel
theorem d_Model_next_179 : decode prog_12_method_37_code 179 = .ok (.iload_n 2, 1) := by decide +kernel
theorem d_Model_next_180 : decode prog_12_method_37_code 180 = .ok (.invokevirtual 216, 3) := by decide +kernel
theorem d_Model_next_183 : decode prog_12_method_37_code 183 = .ok (.goto 78, 3) := by decide +kernel
theorem d_Model_next_186 : decode prog_12_method_37_code 186 = .ok (.iload_n 3, 1) := by decide +kernel
theorem d_Model_next_187 : decode prog_12_method_37_code 187 = .ok (.ifCond .eq 19, 3) := by decide +kernel
theorem d_Model_next_190 : decode prog_12_method_37_code 190 = .ok (.iload_n 2, 1) := by decide +kernel
theorem d_Model_next_191 : decode prog_12_method_37_code 191 = .ok (.bipush 79, 2) := by decide +kernel
theorem d_Model_next_193 : decode prog_12_method_37_code 193 = .ok (.if_icmp .ne 13, 3) := by decide +kernel
theorem d_Model_next_196 : decode prog_12_method_37_code 196 = .ok (.aload_n 0, 1) := by decide +kernel
theorem d_Model_next_197 : decode prog_12_method_37_code 197 = .ok (.ldc2_w 219, 3) := by decide +kernel
theorem d_Model_next_200 : decode prog_12_method_37_code 200 = .ok (.invokevirtual 56, 3) := by decide +kernel
theorem d_Model_next_203 : decode prog_12_method_37_code 203 = .ok (.goto 58, 3) := by decide +kernel
theorem d_Model_next_206 : decode prog_12_method_37_code 206 = .ok (.iload_n 3, 1) := by decide +kernel
theorem d_Model_next_207 : decode prog_12_method_37_code 207 = .ok (.ifCond .eq 27, 3) := by decide +kernel
theorem d_Model_next_210 : decode prog_12_method_37_code 210 = .ok (.iload_n 2, 1) := by decide +kernel
theorem d_Model_next_211 : decode prog_12_method_37_code 211 = .ok (.bipush 80, 2) := by decide +kernel
theorem d_Model_next_213 : decode prog_12_method_37_code 213 = .ok (.if_icmp .le 21, 3) := by decide +kernel
theorem d_Model_next_216 : decode prog_12_method_37_code 216 = .ok (.iload_n 2, 1) := by decide +kernel
theorem d_Model_next_217 : decode prog_12_method_37_code 217 = .ok (.bipush 97, 2) := by decide +kernel
theorem d_Model_next_219 : decode prog_12_method_37_code 219 = .ok (.if_icmp .ge 15, 3) := by decide +kernel
theorem d_Model_next_222 : decode prog_12_method_37_code 222 = .ok (.aload_n 0, 1) := by decide +kernel
theorem d_Model_next_223 : decode prog_12_method_37_code 223 = .ok (.iload_n 2, 1) := by decide +kernel
theorem d_Model_next_224 : decode prog_12_method_37_code 224 = .ok (.bipush 80, 2) := by decide +kernel
theorem d_Model_next_226 : decode prog_12_method_37_code 226 = .ok (.isub, 1) := by decide +kernel
theorem d_Model_next_227 : decode prog_12_method_37_code 227 = .ok (.i2l, 1) := by decide +kernel
theorem d_Model_next_228 : decode prog_12_method_37_code 228 = .ok (.invokevirtual 56, 3) := by decide +kernel
theorem d_Model_next_231 : decode prog_12_method_37_code 231 = .ok (.goto 30, 3) := by decide +kernel
theorem d_Model_next_234 : decode prog_12_method_37_code 234 = .ok (.iload_n 3, 1) := by decide +kernel
theorem d_Model_next_235 : decode prog_12_method_37_code 235 = .ok (.ifCond .eq 17, 3) := by decide +kernel
theorem d_Model_next_238 : decode prog_12_method_37_code 238 = .ok (.iload_n 2, 1) := by decide +kernel
theorem d_Model_next_239 : decode prog_12_method_37_code 239 = .ok (.bipush 97, 2) := by decide +kernel
theorem d_Model_next_241 : decode prog_12_method_37_code 241 = .ok (.if_icmp .ge 11, 3) := by decide +kernel
theorem d_Model_next_244 : decode prog_12_method_37_code 244 = .ok (.aload_n 0, 1) := by decide +kernel
theorem d_Model_next_245 : decode prog_12_method_37_code 245 = .ok (.iconst 4, 1) := by decide +kernel
theorem d_Model_next_246 : decode prog_12_method_37_code 246 = .ok (.invokevirtual 63, 3) := by decide +kernel
theorem d_Model_next_249 : decode prog_12_method_37_code 249 = .ok (.goto 12, 3) := by decide +kernel
theorem d_Model_next_252 : decode prog_12_method_37_code 252 = .ok (.iload_n 3, 1) := by decide +kernel
theorem d_Model_next_253 : decode prog_12_method_37_code 253 = .ok (.ifCond .eq 8, 3) := by decide +kernel
theorem d_Model_next_256 : decode prog_12_method_37_code 256 = .ok (.aload_n 0, 1) := by decide +kernel
theorem d_Model_next_257 : decode prog_12_method_37_code 257 = .ok (.iload_n 2, 1) := by decide +kernel
theorem d_Model_next_258 : decode prog_12_method_37_code 258 = .ok (.invokevirtual 221, 3) := by decide +kernel
theorem d_Model_next_261 : decode prog_12_method_37_code 261 = .ok (.iload_n 1, 1) := by decide +kernel
theorem d_Model_next_262 : decode prog_12_method_37_code 262 = .ok (.iconst 1, 1) := by decide +kernel
theorem d_Model_next_263 : decode prog_12_method_37_code 263 = .ok (.iadd, 1) := by decide +kernel
theorem d_Model_next_264 : decode prog_12_method_37_code 264 = .ok (.ireturn, 1) := by decide +kernel
theorem d_Model_run_0 : decode prog_12_method_38_code 0 = .ok (.aload_n 0, 1) := by decide +kernel
theorem d_Model_run_1 : decode prog_12_method_38_code 1 = .ok (.iconst 0, 1) := by decide +kernel
theorem d_Model_run_2 : decode prog_12_method_38_code 2 = .ok (.putfield 170, 3) := by decide +kernel
theorem d_Model_run_5 : decode prog_12_method_38_code 5 = .ok (.aload_n 0, 1) := by decide +kernel
theorem d_Model_run_6 : decode prog_12_method_38_code 6 = .ok (.iconst 0, 1) := by decide +kernel
theorem d_Model_run_7 : decode prog_12_method_38_code 7 = .ok (.putfield 157, 3) := by decide +kernel
theorem d_Model_run_10 : decode prog_12_method_38_code 10 = .ok (.aload_n 0, 1) := by decide +kernel
theorem d_Model_run_11 : decode prog_12_method_38_code 11 = .ok (.iconst 0, 1) := by decide +kernel
theorem d_Model_run_12 : decode prog_12_method_38_code 12 = .ok (.putfield 60, 3) := by decide +kernel
theorem d_Model_run_15 : decode prog_12_method_38_code 15 = .ok (.aload_n 0, 1) := by decide +kernel
theorem d_Model_run_16 : decode prog_12_method_38_code 16 = .ok (.iconst (-1), 1) := by decide +kernel
theorem d_Model_run_17 : decode prog_12_method_38_code 17 = .ok (.putfield 19, 3) := by decide +kernel
theorem d_Model_run_20 : decode prog_12_method_38_code 20 = .ok (.aload_n 0, 1) := by decide +kernel
theorem d_Model_run_21 : decode prog_12_method_38_code 21 = .ok (.iconst 0, 1) := by decide +kernel
theorem d_Model_run_22 : decode prog_12_method_38_code 22 = .ok (.putfield 154, 3) := by decide +kernel
theorem d_Model_run_25 : decode prog_12_method_38_code 25 = .ok (.aload_n 0, 1) := by decide +kernel
theorem d_Model_run_26 : decode prog_12_method_38_code 26 = .ok (.iconst 0, 1) := by decide +kernel
theorem d_Model_run_27 : decode prog_12_method_38_code 27 = .ok (.putfield 133, 3) := by decide +kernel
theorem d_Model_run_30 : decode prog_12_method_38_code 30 = .ok (.iconst 0, 1) := by decide +kernel
theorem d_Model_run_31 : decode prog_12_method_38_code 31 = .ok (.istore_n 1, 1) := by decide +kernel
theorem d_Model_run_32 : decode prog_12_method_38_code 32 = .ok (.iload_n 1, 1) := by decide +kernel
theorem d_Model_run_33 : decode prog_12_method_38_code 33 = .ok (.aload_n 0, 1) := by decide +kernel
theorem d_Model_run_34 : decode prog_12_method_38_code 34 = .ok (.getfield 38, 3) := by decide +kernel
theorem d_Model_run_37 : decode prog_12_method_38_code 37 = .ok (.if_icmp .ge 64, 3) := by decide +kernel
theorem d_Model_run_40 : decode prog_12_method_38_code 40 = .ok (.aload_n 0, 1) := by decide +kernel
theorem d_Model_run_41 : decode prog_12_method_38_code 41 = .ok (.getfield 60, 3) := by decide +kernel
theorem d_Model_run_44 : decode prog_12_method_38_code 44 = .ok (.ifCond .ne 57, 3) := by decide +kernel
theorem d_Model_run_47 : decode prog_12_method_38_code 47 = .ok (.iload_n 1, 1) := by decide +kernel
theorem d_Model_run_48 : decode prog_12_method_38_code 48 = .ok (.istore_n 2, 1) := by decide +kernel
theorem d_Model_run_49 : decode prog_12_method_38_code 49 = .ok (.aload_n 0, 1) := by decide +kernel
theorem d_Model_run_50 : decode prog_12_method_38_code 50 = .ok (.iload_n 1, 1) := by decide +kernel
theorem d_Model_run_51 : decode prog_12_method_38_code 51 = .ok (.invokevirtual 224, 3) := by decide +kernel
theorem d_Model_run_54 : decode prog_12_method_38_code 54 = .ok (.istore_n 1, 1) := by decide +kernel
theorem d_Model_run_55 : decode prog_12_method_38_code 55 = .ok (.aload_n 0, 1) := by decide +kernel
theorem d_Model_run_56 : decode prog_12_method_38_code 56 = .ok (.getfield 60, 3) := by decide +kernel
theorem d_Model_run_59 : decode prog_12_method_38_code 59 = .ok (.ifCond .ne 23, 3) := by decide +kernel
theorem d_Model_run_62 : decode prog_12_method_38_code 62 = .ok (.aload_n 0, 1) := by decide +kernel
theorem d_Model_run_63 : decode prog_12_method_38_code 63 = .ok (.getfield 47, 3) := by decide +kernel
theorem d_Model_run_66 : decode prog_12_method_38_code 66 = .ok (.aload_n 0, 1) := by decide +kernel
theorem d_Model_run_67 : decode prog_12_method_38_code 67 = .ok (.getfield 170, 3) := by decide +kernel
theorem d_Model_run_70 : decode prog_12_method_38_code 70 = .ok (.iadd, 1) := by decide +kernel
theorem d_Model_run_71 : decode prog_12_method_38_code 71 = .ok (.bipush 60, 2) := by decide +kernel
theorem d_Model_run_73 : decode prog_12_method_38_code 73 = .ok (.if_icmp .le 9, 3) := by decide +kernel
theorem d_Model_run_76 : decode prog_12_method_38_code 76 = .ok (.aload_n 0, 1) := by decide +kernel
theorem d_Model_run_77 : decode prog_12_method_38_code 77 = .ok (.bipush 11, 2) := by decide +kernel
theorem d_Model_run_79 : decode prog_12_method_38_code 79 = .ok (.invokevirtual 63, 3) := by decide +kernel
theorem d_Model_run_82 : decode prog_12_method_38_code 82 = .ok (.aload_n 0, 1) := by decide +kernel
theorem d_Model_run_83 : decode prog_12_method_38_code 83 = .ok (.aload_n 0, 1) := by decide +kernel
theorem d_Model_run_84 : decode prog_12_method_38_code 84 = .ok (.getfield 60, 3) := by decide +kernel
theorem d_Model_run_87 : decode prog_12_method_38_code 87 = .ok (.ifCond .le 7, 3) := by decide +kernel
theorem d_Model_run_90 : decode prog_12_method_38_code 90 = .ok (.iload_n 2, 1) := by decide +kernel
theorem d_Model_run_91 : decode prog_12_method_38_code 91 = .ok (.goto 4, 3) := by decide +kernel
theorem d_Model_run_94 : decode prog_12_method_38_code 94 = .ok (.iconst (-1), 1) := by decide +kernel
theorem d_Model_run_95 : decode prog_12_method_38_code 95 = .ok (.putfield 19, 3) := by decide +kernel
theorem d_Model_run_98 : decode prog_12_method_38_code 98 = .ok (.goto (-66), 3) := by decide +kernel
theorem d_Model_run_101 : decode prog_12_method_38_code 101 = .ok (.aload_n 0, 1) := by decide +kernel
theorem d_Model_run_102 : decode prog_12_method_38_code 102 = .ok (.getfield 60, 3) := by decide +kernel
theorem d_Model_run_105 : decode prog_12_method_38_code 105 = .ok (.ifCond .ne 24, 3) := by decide +kernel
theorem d_Model_run_108 : decode prog_12_method_38_code 108 = .ok (.aload_n 0, 1) := by decide +kernel
theorem d_Model_run_109 : decode prog_12_method_38_code 109 = .ok (.getfield 157, 3) := by decide +kernel
theorem d_Model_run_112 : decode prog_12_method_38_code 112 = .ok (.ifCond .le 17, 3) := by decide +kernel
theorem d_Model_run_115 : decode prog_12_method_38_code 115 = .ok (.aload_n 0, 1) := by decide +kernel
theorem d_Model_run_116 : decode prog_12_method_38_code 116 = .ok (.bipush 12, 2) := by decide +kernel
theorem d_Model_run_118 : decode prog_12_method_38_code 118 = .ok (.invokevirtual 63, 3) := by decide +kernel
theorem d_Model_run_121 : decode prog_12_method_38_code 121 = .ok (.aload_n 0, 1) := by decide +kernel
theorem d_Model_run_122 : decode prog_12_method_38_code 122 = .ok (.aload_n 0, 1) := by decide +kernel
theorem d_Model_run_123 : decode prog_12_method_38_code 123 = .ok (.getfield 38, 3) := by decide +kernel
theorem d_Model_run_126 : decode prog_12_method_38_code 126 = .ok (.putfield 19, 3) := by decide +kernel
theorem d_Model_run_129 : decode prog_12_method_38_code 129 = .ok (.aload_n 0, 1) := by decide +kernel
theorem d_Model_run_130 : decode prog_12_method_38_code 130 = .ok (.iconst 0, 1) := by decide +kernel
theorem d_Model_run_131 : decode prog_12_method_38_code 131 = .ok (.putfield 38, 3) := by decide +kernel
theorem d_Model_run_134 : decode prog_12_method_38_code 134 = .ok (.aload_n 0, 1) := by decide +kernel
theorem d_Model_run_135 : decode prog_12_method_38_code 135 = .ok (.aload_n 0, 1) := by decide +kernel
theorem d_Model_run_136 : decode prog_12_method_38_code 136 = .ok (.getfield 60, 3) := by decide +kernel
theorem d_Model_run_139 : decode prog_12_method_38_code 139 = .ok (.ifCond .le 7, 3) := by decide +kernel
theorem d_Model_run_142 : decode prog_12_method_38_code 142 = .ok (.iconst 0, 1) := by decide +kernel
theorem d_Model_run_143 : decode prog_12_method_38_code 143 = .ok (.goto 7, 3) := by decide +kernel
theorem d_Model_run_146 : decode prog_12_method_38_code 146 = .ok (.aload_n 0, 1) := by decide +kernel
theorem d_Model_run_147 : decode prog_12_method_38_code 147 = .ok (.getfield 47, 3) := by decide +kernel
theorem d_Model_run_150 : decode prog_12_method_38_code 150 = .ok (.putfield 47, 3) := by decide +kernel
theorem d_Model_run_153 : decode prog_12_method_38_code 153 = .ok (.aload_n 0, 1) := by decide +kernel
theorem d_Model_run_154 : decode prog_12_method_38_code 154 = .ok (.getfield 60, 3) := by decide +kernel
theorem d_Model_run_157 : decode prog_12_method_38_code 157 = .ok (.ifCond .le 12, 3) := by decide +kernel
theorem d_Model_run_160 : decode prog_12_method_38_code 160 = .ok (.iconst (-1), 1) := by decide +kernel
theorem d_Model_run_161 : decode prog_12_method_38_code 161 = .ok (.aload_n 0, 1) := by decide +kernel
theorem d_Model_run_162 : decode prog_12_method_38_code 162 = .ok (.getfield 60, 3) := by decide +kernel
theorem d_Model_run_165 : decode prog_12_method_38_code 165 = .ok (.isub, 1) := by decide +kernel
theorem d_Model_run_166 : decode prog_12_method_38_code 166 = .ok (.goto 4, 3) := by decide +kernel
theorem d_Model_run_169 : decode prog_12_method_38_code 169 = .ok (.iconst 1, 1) := by decide +kernel
theorem d_Model_run_170 : decode prog_12_method_38_code 170 = .ok (.ireturn, 1) := by decide +kernel
theorem d_Model_place_0 : decode prog_12_method_39_code 0 = .ok (.aload_n 0, 1) := by decide +kernel
theorem d_Model_place_1 : decode prog_12_method_39_code 1 = .ok (.getfield 19, 3) := by decide +kernel
theorem d_Model_place_4 : decode prog_12_method_39_code 4 = .ok (.ireturn, 1) := by decide +kernel
theorem d_Model_clear_0 : decode prog_12_method_40_code 0 = .ok (.aload_n 0, 1) := by decide +kernel
theorem d_Model_clear_1 : decode prog_12_method_40_code 1 = .ok (.getfield 47, 3) := by decide +kernel
theorem d_Model_clear_4 : decode prog_12_method_40_code 4 = .ok (.istore_n 1, 1) := by decide +kernel
theorem d_Model_clear_5 : decode prog_12_method_40_code 5 = .ok (.aload_n 0, 1) := by decide +kernel
