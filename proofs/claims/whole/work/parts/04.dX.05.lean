theorem d_Moves_operandsOf_141 : decode prog_5_method_3_code 141 = .ok (.iconst (-1), 1) := by decide +kernel
theorem d_Moves_operandsOf_142 : decode prog_5_method_3_code 142 = .ok (.ireturn, 1) := by decide +kernel
theorem d_Elements_pushCopies_0 : decode prog_3_method_13_code 0 = .ok (.iconst 0, 1) := by decide +kernel
theorem d_Elements_pushCopies_1 : decode prog_3_method_13_code 1 = .ok (.istore_n 3, 1) := by decide +kernel
theorem d_Elements_pushCopies_2 : decode prog_3_method_13_code 2 = .ok (.iload_n 3, 1) := by decide +kernel
theorem d_Elements_pushCopies_3 : decode prog_3_method_13_code 3 = .ok (.iload_n 2, 1) := by decide +kernel
theorem d_Elements_pushCopies_4 : decode prog_3_method_13_code 4 = .ok (.if_icmp .ge 14, 3) := by decide +kernel
theorem d_Elements_pushCopies_7 : decode prog_3_method_13_code 7 = .ok (.aload_n 0, 1) := by decide +kernel
theorem d_Elements_pushCopies_8 : decode prog_3_method_13_code 8 = .ok (.iload_n 1, 1) := by decide +kernel
theorem d_Elements_pushCopies_9 : decode prog_3_method_13_code 9 = .ok (.invokevirtual 53, 3) := by decide +kernel
theorem d_Elements_pushCopies_12 : decode prog_3_method_13_code 12 = .ok (.iinc 3 1, 3) := by decide +kernel
theorem d_Elements_pushCopies_15 : decode prog_3_method_13_code 15 = .ok (.goto (-13), 3) := by decide +kernel
theorem d_Elements_pushCopies_18 : decode prog_3_method_13_code 18 = .ok (.return_, 1) := by decide +kernel
theorem d_Moves_moveSingles_0 : decode prog_5_method_6_code 0 = .ok (.iload_n 1, 1) := by decide +kernel
theorem d_Moves_moveSingles_1 : decode prog_5_method_6_code 1 = .ok (.tableswitch 140 115 124 #[55, 75, 87, 95, 103, 116, 140, 140, 124, 132], 55) := by decide +kernel
theorem d_Moves_moveSingles_56 : decode prog_5_method_6_code 56 = .ok (.aload_n 0, 1) := by decide +kernel
theorem d_Moves_moveSingles_57 : decode prog_5_method_6_code 57 = .ok (.iconst 0, 1) := by decide +kernel
theorem d_Moves_moveSingles_58 : decode prog_5_method_6_code 58 = .ok (.aload_n 0, 1) := by decide +kernel
theorem d_Moves_moveSingles_59 : decode prog_5_method_6_code 59 = .ok (.invokevirtual 57, 3) := by decide +kernel
theorem d_Moves_moveSingles_62 : decode prog_5_method_6_code 62 = .ok (.ifCond .eq 7, 3) := by decide +kernel
theorem d_Moves_moveSingles_65 : decode prog_5_method_6_code 65 = .ok (.iconst 1, 1) := by decide +kernel
theorem d_Moves_moveSingles_66 : decode prog_5_method_6_code 66 = .ok (.goto 4, 3) := by decide +kernel
theorem d_Moves_moveSingles_69 : decode prog_5_method_6_code 69 = .ok (.iconst 0, 1) := by decide +kernel
theorem d_Moves_moveSingles_70 : decode prog_5_method_6_code 70 = .ok (.invokevirtual 53, 3) := by decide +kernel
theorem d_Moves_moveSingles_73 : decode prog_5_method_6_code 73 = .ok (.goto 78, 3) := by decide +kernel
theorem d_Moves_moveSingles_76 : decode prog_5_method_6_code 76 = .ok (.aload_n 0, 1) := by decide +kernel
theorem d_Moves_moveSingles_77 : decode prog_5_method_6_code 77 = .ok (.aload_n 0, 1) := by decide +kernel
theorem d_Moves_moveSingles_78 : decode prog_5_method_6_code 78 = .ok (.getfield 19, 3) := by decide +kernel
theorem d_Moves_moveSingles_81 : decode prog_5_method_6_code 81 = .ok (.i2l, 1) := by decide +kernel
theorem d_Moves_moveSingles_82 : decode prog_5_method_6_code 82 = .ok (.invokevirtual 61, 3) := by decide +kernel
theorem d_Moves_moveSingles_85 : decode prog_5_method_6_code 85 = .ok (.goto 66, 3) := by decide +kernel
theorem d_Moves_moveSingles_88 : decode prog_5_method_6_code 88 = .ok (.aload_n 0, 1) := by decide +kernel
theorem d_Moves_moveSingles_89 : decode prog_5_method_6_code 89 = .ok (.iconst 1, 1) := by decide +kernel
theorem d_Moves_moveSingles_90 : decode prog_5_method_6_code 90 = .ok (.invokevirtual 43, 3) := by decide +kernel
theorem d_Moves_moveSingles_93 : decode prog_5_method_6_code 93 = .ok (.goto 58, 3) := by decide +kernel
theorem d_Moves_moveSingles_96 : decode prog_5_method_6_code 96 = .ok (.aload_n 0, 1) := by decide +kernel
theorem d_Moves_moveSingles_97 : decode prog_5_method_6_code 97 = .ok (.iconst 0, 1) := by decide +kernel
theorem d_Moves_moveSingles_98 : decode prog_5_method_6_code 98 = .ok (.invokevirtual 50, 3) := by decide +kernel
theorem d_Moves_moveSingles_101 : decode prog_5_method_6_code 101 = .ok (.goto 50, 3) := by decide +kernel
theorem d_Moves_moveSingles_104 : decode prog_5_method_6_code 104 = .ok (.aload_n 0, 1) := by decide +kernel
theorem d_Moves_moveSingles_105 : decode prog_5_method_6_code 105 = .ok (.iconst 1, 1) := by decide +kernel
theorem d_Moves_moveSingles_106 : decode prog_5_method_6_code 106 = .ok (.invokevirtual 47, 3) := by decide +kernel
theorem d_Moves_moveSingles_109 : decode prog_5_method_6_code 109 = .ok (.aload_n 0, 1) := by decide +kernel
theorem d_Moves_moveSingles_110 : decode prog_5_method_6_code 110 = .ok (.iconst 1, 1) := by decide +kernel
theorem d_Moves_moveSingles_111 : decode prog_5_method_6_code 111 = .ok (.invokevirtual 43, 3) := by decide +kernel
theorem d_Moves_moveSingles_114 : decode prog_5_method_6_code 114 = .ok (.goto 37, 3) := by decide +kernel
theorem d_Moves_moveSingles_117 : decode prog_5_method_6_code 117 = .ok (.aload_n 0, 1) := by decide +kernel
theorem d_Moves_moveSingles_118 : decode prog_5_method_6_code 118 = .ok (.iconst 1, 1) := by decide +kernel
theorem d_Moves_moveSingles_119 : decode prog_5_method_6_code 119 = .ok (.invokevirtual 50, 3) := by decide +kernel
theorem d_Moves_moveSingles_122 : decode prog_5_method_6_code 122 = .ok (.goto 29, 3) := by decide +kernel
theorem d_Moves_moveSingles_125 : decode prog_5_method_6_code 125 = .ok (.aload_n 0, 1) := by decide +kernel
theorem d_Moves_moveSingles_126 : decode prog_5_method_6_code 126 = .ok (.iconst 2, 1) := by decide +kernel
theorem d_Moves_moveSingles_127 : decode prog_5_method_6_code 127 = .ok (.invokevirtual 47, 3) := by decide +kernel
theorem d_Moves_moveSingles_130 : decode prog_5_method_6_code 130 = .ok (.goto 21, 3) := by decide +kernel
theorem d_Moves_moveSingles_133 : decode prog_5_method_6_code 133 = .ok (.aload_n 0, 1) := by decide +kernel
theorem d_Moves_moveSingles_134 : decode prog_5_method_6_code 134 = .ok (.iconst 1, 1) := by decide +kernel
theorem d_Moves_moveSingles_135 : decode prog_5_method_6_code 135 = .ok (.invokevirtual 47, 3) := by decide +kernel
theorem d_Moves_moveSingles_138 : decode prog_5_method_6_code 138 = .ok (.goto 13, 3) := by decide +kernel
theorem d_Moves_moveSingles_141 : decode prog_5_method_6_code 141 = .ok (.aload_n 0, 1) := by decide +kernel
theorem d_Moves_moveSingles_142 : decode prog_5_method_6_code 142 = .ok (.iconst 1, 1) := by decide +kernel
theorem d_Moves_moveSingles_143 : decode prog_5_method_6_code 143 = .ok (.invokevirtual 47, 3) := by decide +kernel
theorem d_Moves_moveSingles_146 : decode prog_5_method_6_code 146 = .ok (.aload_n 0, 1) := by decide +kernel
theorem d_Moves_moveSingles_147 : decode prog_5_method_6_code 147 = .ok (.iconst 1, 1) := by decide +kernel
theorem d_Moves_moveSingles_148 : decode prog_5_method_6_code 148 = .ok (.invokevirtual 50, 3) := by decide +kernel
theorem d_Moves_moveSingles_151 : decode prog_5_method_6_code 151 = .ok (.return_, 1) := by decide +kernel
theorem d_Moves_moveGroups_0 : decode prog_5_method_5_code 0 = .ok (.iload_n 1, 1) := by decide +kernel
theorem d_Moves_moveGroups_1 : decode prog_5_method_5_code 1 = .ok (.tableswitch 83 109 113 #[35, 43, 52, 61, 70], 35) := by decide +kernel
theorem d_Moves_moveGroups_36 : decode prog_5_method_5_code 36 = .ok (.aload_n 0, 1) := by decide +kernel
theorem d_Moves_moveGroups_37 : decode prog_5_method_5_code 37 = .ok (.iconst 2, 1) := by decide +kernel
theorem d_Moves_moveGroups_38 : decode prog_5_method_5_code 38 = .ok (.invokevirtual 43, 3) := by decide +kernel
theorem d_Moves_moveGroups_41 : decode prog_5_method_5_code 41 = .ok (.goto 53, 3) := by decide +kernel
theorem d_Moves_moveGroups_44 : decode prog_5_method_5_code 44 = .ok (.aload_n 0, 1) := by decide +kernel
theorem d_Moves_moveGroups_45 : decode prog_5_method_5_code 45 = .ok (.iconst 1, 1) := by decide +kernel
theorem d_Moves_moveGroups_46 : decode prog_5_method_5_code 46 = .ok (.iconst 2, 1) := by decide +kernel
theorem d_Moves_moveGroups_47 : decode prog_5_method_5_code 47 = .ok (.invokevirtual 53, 3) := by decide +kernel
theorem d_Moves_moveGroups_50 : decode prog_5_method_5_code 50 = .ok (.goto 44, 3) := by decide +kernel
theorem d_Moves_moveGroups_53 : decode prog_5_method_5_code 53 = .ok (.aload_n 0, 1) := by decide +kernel
theorem d_Moves_moveGroups_54 : decode prog_5_method_5_code 54 = .ok (.iconst 2, 1) := by decide +kernel
theorem d_Moves_moveGroups_55 : decode prog_5_method_5_code 55 = .ok (.iconst 3, 1) := by decide +kernel
theorem d_Moves_moveGroups_56 : decode prog_5_method_5_code 56 = .ok (.invokevirtual 53, 3) := by decide +kernel
theorem d_Moves_moveGroups_59 : decode prog_5_method_5_code 59 = .ok (.goto 35, 3) := by decide +kernel
theorem d_Moves_moveGroups_62 : decode prog_5_method_5_code 62 = .ok (.aload_n 0, 1) := by decide +kernel
theorem d_Moves_moveGroups_63 : decode prog_5_method_5_code 63 = .ok (.iconst 3, 1) := by decide +kernel
theorem d_Moves_moveGroups_64 : decode prog_5_method_5_code 64 = .ok (.iconst 2, 1) := by decide +kernel
theorem d_Moves_moveGroups_65 : decode prog_5_method_5_code 65 = .ok (.invokevirtual 53, 3) := by decide +kernel
theorem d_Moves_moveGroups_68 : decode prog_5_method_5_code 68 = .ok (.goto 26, 3) := by decide +kernel
theorem d_Moves_moveGroups_71 : decode prog_5_method_5_code 71 = .ok (.aload_n 0, 1) := by decide +kernel
theorem d_Moves_moveGroups_72 : decode prog_5_method_5_code 72 = .ok (.iconst 5, 1) := by decide +kernel
theorem d_Moves_moveGroups_73 : decode prog_5_method_5_code 73 = .ok (.invokevirtual 47, 3) := by decide +kernel
theorem d_Moves_moveGroups_76 : decode prog_5_method_5_code 76 = .ok (.aload_n 0, 1) := by decide +kernel
theorem d_Moves_moveGroups_77 : decode prog_5_method_5_code 77 = .ok (.iconst 5, 1) := by decide +kernel
theorem d_Moves_moveGroups_78 : decode prog_5_method_5_code 78 = .ok (.invokevirtual 47, 3) := by decide +kernel
theorem d_Moves_moveGroups_81 : decode prog_5_method_5_code 81 = .ok (.goto 13, 3) := by decide +kernel
theorem d_Moves_moveGroups_84 : decode prog_5_method_5_code 84 = .ok (.aload_n 0, 1) := by decide +kernel
theorem d_Moves_moveGroups_85 : decode prog_5_method_5_code 85 = .ok (.iconst 3, 1) := by decide +kernel
theorem d_Moves_moveGroups_86 : decode prog_5_method_5_code 86 = .ok (.invokevirtual 47, 3) := by decide +kernel
theorem d_Moves_moveGroups_89 : decode prog_5_method_5_code 89 = .ok (.aload_n 0, 1) := by decide +kernel
theorem d_Moves_moveGroups_90 : decode prog_5_method_5_code 90 = .ok (.iconst 3, 1) := by decide +kernel
theorem d_Moves_moveGroups_91 : decode prog_5_method_5_code 91 = .ok (.invokevirtual 47, 3) := by decide +kernel
theorem d_Moves_moveGroups_94 : decode prog_5_method_5_code 94 = .ok (.return_, 1) := by decide +kernel
theorem d_Elements_areSame_0 : decode prog_3_method_6_code 0 = .ok (.aload_n 0, 1) := by decide +kernel
theorem d_Elements_areSame_1 : decode prog_3_method_6_code 1 = .ok (.iload_n 1, 1) := by decide +kernel
theorem d_Elements_areSame_2 : decode prog_3_method_6_code 2 = .ok (.invokevirtual 28, 3) := by decide +kernel
theorem d_Elements_areSame_5 : decode prog_3_method_6_code 5 = .ok (.istore_n 3, 1) := by decide +kernel
theorem d_Elements_areSame_6 : decode prog_3_method_6_code 6 = .ok (.iload_n 3, 1) := by decide +kernel
theorem d_Elements_areSame_7 : decode prog_3_method_6_code 7 = .ok (.aload_n 0, 1) := by decide +kernel
theorem d_Elements_areSame_8 : decode prog_3_method_6_code 8 = .ok (.iload_n 2, 1) := by decide +kernel
theorem d_Elements_areSame_9 : decode prog_3_method_6_code 9 = .ok (.invokevirtual 28, 3) := by decide +kernel
theorem d_Elements_areSame_12 : decode prog_3_method_6_code 12 = .ok (.if_icmp .eq 5, 3) := by decide +kernel
theorem d_Elements_areSame_15 : decode prog_3_method_6_code 15 = .ok (.iconst 0, 1) := by decide +kernel
theorem d_Elements_areSame_16 : decode prog_3_method_6_code 16 = .ok (.ireturn, 1) := by decide +kernel
theorem d_Elements_areSame_17 : decode prog_3_method_6_code 17 = .ok (.iconst 0, 1) := by decide +kernel
theorem d_Elements_areSame_18 : decode prog_3_method_6_code 18 = .ok (.istore 4, 2) := by decide +kernel
theorem d_Elements_areSame_20 : decode prog_3_method_6_code 20 = .ok (.iload 4, 2) := by decide +kernel
theorem d_Elements_areSame_22 : decode prog_3_method_6_code 22 = .ok (.iload_n 3, 1) := by decide +kernel
theorem d_Elements_areSame_23 : decode prog_3_method_6_code 23 = .ok (.if_icmp .ge 28, 3) := by decide +kernel
theorem d_Elements_areSame_26 : decode prog_3_method_6_code 26 = .ok (.aload_n 0, 1) := by decide +kernel
theorem d_Elements_areSame_27 : decode prog_3_method_6_code 27 = .ok (.iload_n 1, 1) := by decide +kernel
theorem d_Elements_areSame_28 : decode prog_3_method_6_code 28 = .ok (.iload 4, 2) := by decide +kernel
theorem d_Elements_areSame_30 : decode prog_3_method_6_code 30 = .ok (.invokevirtual 32, 3) := by decide +kernel
theorem d_Elements_areSame_33 : decode prog_3_method_6_code 33 = .ok (.aload_n 0, 1) := by decide +kernel
theorem d_Elements_areSame_34 : decode prog_3_method_6_code 34 = .ok (.iload_n 2, 1) := by decide +kernel
theorem d_Elements_areSame_35 : decode prog_3_method_6_code 35 = .ok (.iload 4, 2) := by decide +kernel
theorem d_Elements_areSame_37 : decode prog_3_method_6_code 37 = .ok (.invokevirtual 32, 3) := by decide +kernel
theorem d_Elements_areSame_40 : decode prog_3_method_6_code 40 = .ok (.if_icmp .eq 5, 3) := by decide +kernel
theorem d_Elements_areSame_43 : decode prog_3_method_6_code 43 = .ok (.iconst 0, 1) := by decide +kernel
theorem d_Elements_areSame_44 : decode prog_3_method_6_code 44 = .ok (.ireturn, 1) := by decide +kernel
theorem d_Elements_areSame_45 : decode prog_3_method_6_code 45 = .ok (.iinc 4 1, 3) := by decide +kernel
theorem d_Elements_areSame_48 : decode prog_3_method_6_code 48 = .ok (.goto (-28), 3) := by decide +kernel
theorem d_Elements_areSame_51 : decode prog_3_method_6_code 51 = .ok (.iconst 1, 1) := by decide +kernel
theorem d_Elements_areSame_52 : decode prog_3_method_6_code 52 = .ok (.ireturn, 1) := by decide +kernel
theorem d_Moves_look_0 : decode prog_5_method_7_code 0 = .ok (.iload_n 1, 1) := by decide +kernel
theorem d_Moves_look_1 : decode prog_5_method_7_code 1 = .ok (.sipush 130, 3) := by decide +kernel
theorem d_Moves_look_4 : decode prog_5_method_7_code 4 = .ok (.if_icmp .ne 15, 3) := by decide +kernel
theorem d_Moves_look_7 : decode prog_5_method_7_code 7 = .ok (.aload_n 0, 1) := by decide +kernel
theorem d_Moves_look_8 : decode prog_5_method_7_code 8 = .ok (.aload_n 0, 1) := by decide +kernel
theorem d_Moves_look_9 : decode prog_5_method_7_code 9 = .ok (.iconst 0, 1) := by decide +kernel
theorem d_Moves_look_10 : decode prog_5_method_7_code 10 = .ok (.invokevirtual 65, 3) := by decide +kernel
theorem d_Moves_look_13 : decode prog_5_method_7_code 13 = .ok (.i2l, 1) := by decide +kernel
theorem d_Moves_look_14 : decode prog_5_method_7_code 14 = .ok (.invokevirtual 61, 3) := by decide +kernel
theorem d_Moves_look_17 : decode prog_5_method_7_code 17 = .ok (.iconst 0, 1) := by decide +kernel
theorem d_Moves_look_18 : decode prog_5_method_7_code 18 = .ok (.ireturn, 1) := by decide +kernel
theorem d_Moves_look_19 : decode prog_5_method_7_code 19 = .ok (.aload_n 0, 1) := by decide +kernel
theorem d_Moves_look_20 : decode prog_5_method_7_code 20 = .ok (.iconst 0, 1) := by decide +kernel
theorem d_Moves_look_21 : decode prog_5_method_7_code 21 = .ok (.iconst 1, 1) := by decide +kernel
theorem d_Moves_look_22 : decode prog_5_method_7_code 22 = .ok (.invokevirtual 68, 3) := by decide +kernel
theorem d_Moves_look_25 : decode prog_5_method_7_code 25 = .ok (.istore_n 2, 1) := by decide +kernel
theorem d_Moves_look_26 : decode prog_5_method_7_code 26 = .ok (.aload_n 0, 1) := by decide +kernel
theorem d_Moves_look_27 : decode prog_5_method_7_code 27 = .ok (.iconst 2, 1) := by decide +kernel
theorem d_Moves_look_28 : decode prog_5_method_7_code 28 = .ok (.iload_n 2, 1) := by decide +kernel
theorem d_Moves_look_29 : decode prog_5_method_7_code 29 = .ok (.invokevirtual 72, 3) := by decide +kernel
theorem d_Moves_look_32 : decode prog_5_method_7_code 32 = .ok (.iload_n 1, 1) := by decide +kernel
theorem d_Moves_look_33 : decode prog_5_method_7_code 33 = .ok (.sipush 136, 3) := by decide +kernel
theorem d_Moves_look_36 : decode prog_5_method_7_code 36 = .ok (.if_icmp .ne 10, 3) := by decide +kernel
theorem d_Moves_look_39 : decode prog_5_method_7_code 39 = .ok (.aload_n 0, 1) := by decide +kernel
theorem d_Moves_look_40 : decode prog_5_method_7_code 40 = .ok (.invokevirtual 76, 3) := by decide +kernel
theorem d_Moves_look_43 : decode prog_5_method_7_code 43 = .ok (.goto 4, 3) := by decide +kernel
theorem d_Moves_look_46 : decode prog_5_method_7_code 46 = .ok (.iconst 0, 1) := by decide +kernel
theorem d_Moves_look_47 : decode prog_5_method_7_code 47 = .ok (.ireturn, 1) := by decide +kernel
theorem d_Moves_perform_0 : decode prog_5_method_2_code 0 = .ok (.iload_n 1, 1) := by decide +kernel
theorem d_Moves_perform_1 : decode prog_5_method_2_code 1 = .ok (.bipush 121, 2) := by decide +kernel
theorem d_Moves_perform_3 : decode prog_5_method_2_code 3 = .ok (.if_icmp .eq 9, 3) := by decide +kernel
theorem d_Moves_perform_6 : decode prog_5_method_2_code 6 = .ok (.iload_n 1, 1) := by decide +kernel
theorem d_Moves_perform_7 : decode prog_5_method_2_code 7 = .ok (.bipush 122, 2) := by decide +kernel
theorem d_Moves_perform_9 : decode prog_5_method_2_code 9 = .ok (.if_icmp .ne 19, 3) := by decide +kernel
theorem d_Moves_perform_12 : decode prog_5_method_2_code 12 = .ok (.aload_n 0, 1) := by decide +kernel
theorem d_Moves_perform_13 : decode prog_5_method_2_code 13 = .ok (.iload_n 1, 1) := by decide +kernel
theorem d_Moves_perform_14 : decode prog_5_method_2_code 14 = .ok (.bipush 122, 2) := by decide +kernel
theorem d_Moves_perform_16 : decode prog_5_method_2_code 16 = .ok (.if_icmp .ne 7, 3) := by decide +kernel
theorem d_Moves_perform_19 : decode prog_5_method_2_code 19 = .ok (.iconst 1, 1) := by decide +kernel
theorem d_Moves_perform_20 : decode prog_5_method_2_code 20 = .ok (.goto 4, 3) := by decide +kernel
theorem d_Moves_perform_23 : decode prog_5_method_2_code 23 = .ok (.iconst 0, 1) := by decide +kernel
theorem d_Moves_perform_24 : decode prog_5_method_2_code 24 = .ok (.invokestatic 9, 3) := by decide +kernel
theorem d_Moves_perform_27 : decode prog_5_method_2_code 27 = .ok (.ireturn, 1) := by decide +kernel
theorem d_Moves_perform_28 : decode prog_5_method_2_code 28 = .ok (.iload_n 1, 1) := by decide +kernel
theorem d_Moves_perform_29 : decode prog_5_method_2_code 29 = .ok (.invokestatic 15, 3) := by decide +kernel
theorem d_Moves_perform_32 : decode prog_5_method_2_code 32 = .ok (.istore_n 2, 1) := by decide +kernel
theorem d_Moves_perform_33 : decode prog_5_method_2_code 33 = .ok (.iload_n 2, 1) := by decide +kernel
theorem d_Moves_perform_34 : decode prog_5_method_2_code 34 = .ok (.ifCond .ge 5, 3) := by decide +kernel
theorem d_Moves_perform_37 : decode prog_5_method_2_code 37 = .ok (.iconst 4, 1) := by decide +kernel
theorem d_Moves_perform_38 : decode prog_5_method_2_code 38 = .ok (.ireturn, 1) := by decide +kernel
theorem d_Moves_perform_39 : decode prog_5_method_2_code 39 = .ok (.aload_n 0, 1) := by decide +kernel
theorem d_Moves_perform_40 : decode prog_5_method_2_code 40 = .ok (.getfield 19, 3) := by decide +kernel
theorem d_Moves_perform_43 : decode prog_5_method_2_code 43 = .ok (.iload_n 2, 1) := by decide +kernel
theorem d_Moves_perform_44 : decode prog_5_method_2_code 44 = .ok (.if_icmp .ge 5, 3) := by decide +kernel
theorem d_Moves_perform_47 : decode prog_5_method_2_code 47 = .ok (.iconst 5, 1) := by decide +kernel
theorem d_Moves_perform_48 : decode prog_5_method_2_code 48 = .ok (.ireturn, 1) := by decide +kernel
theorem d_Moves_perform_49 : decode prog_5_method_2_code 49 = .ok (.iload_n 1, 1) := by decide +kernel
theorem d_Moves_perform_50 : decode prog_5_method_2_code 50 = .ok (.sipush 130, 3) := by decide +kernel
theorem d_Moves_perform_53 : decode prog_5_method_2_code 53 = .ok (.if_icmp .lt 9, 3) := by decide +kernel
theorem d_Moves_perform_56 : decode prog_5_method_2_code 56 = .ok (.aload_n 0, 1) := by decide +kernel
theorem d_Moves_perform_57 : decode prog_5_method_2_code 57 = .ok (.iload_n 1, 1) := by decide +kernel
theorem d_Moves_perform_58 : decode prog_5_method_2_code 58 = .ok (.invokestatic 25, 3) := by decide +kernel
theorem d_Moves_perform_61 : decode prog_5_method_2_code 61 = .ok (.ireturn, 1) := by decide +kernel
theorem d_Moves_perform_62 : decode prog_5_method_2_code 62 = .ok (.iload_n 1, 1) := by decide +kernel
theorem d_Moves_perform_63 : decode prog_5_method_2_code 63 = .ok (.bipush 114, 2) := by decide +kernel
theorem d_Moves_perform_65 : decode prog_5_method_2_code 65 = .ok (.if_icmp .gt 11, 3) := by decide +kernel
theorem d_Moves_perform_68 : decode prog_5_method_2_code 68 = .ok (.aload_n 0, 1) := by decide +kernel
theorem d_Moves_perform_69 : decode prog_5_method_2_code 69 = .ok (.iload_n 1, 1) := by decide +kernel
theorem d_Moves_perform_70 : decode prog_5_method_2_code 70 = .ok (.invokestatic 29, 3) := by decide +kernel
theorem d_Moves_perform_73 : decode prog_5_method_2_code 73 = .ok (.goto 8, 3) := by decide +kernel
theorem d_Moves_perform_76 : decode prog_5_method_2_code 76 = .ok (.aload_n 0, 1) := by decide +kernel
theorem d_Moves_perform_77 : decode prog_5_method_2_code 77 = .ok (.iload_n 1, 1) := by decide +kernel
theorem d_Moves_perform_78 : decode prog_5_method_2_code 78 = .ok (.invokestatic 33, 3) := by decide +kernel
theorem d_Moves_perform_81 : decode prog_5_method_2_code 81 = .ok (.iconst 0, 1) := by decide +kernel
theorem d_Moves_perform_82 : decode prog_5_method_2_code 82 = .ok (.ireturn, 1) := by decide +kernel
theorem d_Elements_swapSlots_0 : decode prog_3_method_20_code 0 = .ok (.aload_n 0, 1) := by decide +kernel
theorem d_Elements_swapSlots_1 : decode prog_3_method_20_code 1 = .ok (.getfield 18, 3) := by decide +kernel
theorem d_Elements_swapSlots_4 : decode prog_3_method_20_code 4 = .ok (.iload_n 1, 1) := by decide +kernel
theorem d_Elements_swapSlots_5 : decode prog_3_method_20_code 5 = .ok (.iaload, 1) := by decide +kernel
theorem d_Elements_swapSlots_6 : decode prog_3_method_20_code 6 = .ok (.istore_n 3, 1) := by decide +kernel
theorem d_Elements_swapSlots_7 : decode prog_3_method_20_code 7 = .ok (.aload_n 0, 1) := by decide +kernel
theorem d_Elements_swapSlots_8 : decode prog_3_method_20_code 8 = .ok (.getfield 18, 3) := by decide +kernel
theorem d_Elements_swapSlots_11 : decode prog_3_method_20_code 11 = .ok (.iload_n 1, 1) := by decide +kernel
theorem d_Elements_swapSlots_12 : decode prog_3_method_20_code 12 = .ok (.aload_n 0, 1) := by decide +kernel
theorem d_Elements_swapSlots_13 : decode prog_3_method_20_code 13 = .ok (.getfield 18, 3) := by decide +kernel
theorem d_Elements_swapSlots_16 : decode prog_3_method_20_code 16 = .ok (.iload_n 2, 1) := by decide +kernel
theorem d_Elements_swapSlots_17 : decode prog_3_method_20_code 17 = .ok (.iaload, 1) := by decide +kernel
theorem d_Elements_swapSlots_18 : decode prog_3_method_20_code 18 = .ok (.iastore, 1) := by decide +kernel
theorem d_Elements_swapSlots_19 : decode prog_3_method_20_code 19 = .ok (.aload_n 0, 1) := by decide +kernel
theorem d_Elements_swapSlots_20 : decode prog_3_method_20_code 20 = .ok (.getfield 18, 3) := by decide +kernel
theorem d_Elements_swapSlots_23 : decode prog_3_method_20_code 23 = .ok (.iload_n 2, 1) := by decide +kernel
theorem d_Elements_swapSlots_24 : decode prog_3_method_20_code 24 = .ok (.iload_n 3, 1) := by decide +kernel
theorem d_Elements_swapSlots_25 : decode prog_3_method_20_code 25 = .ok (.iastore, 1) := by decide +kernel
theorem d_Elements_swapSlots_26 : decode prog_3_method_20_code 26 = .ok (.return_, 1) := by decide +kernel
theorem d_Elements_toSide_0 : decode prog_3_method_17_code 0 = .ok (.aload_n 0, 1) := by decide +kernel
theorem d_Elements_toSide_1 : decode prog_3_method_17_code 1 = .ok (.getfield 21, 3) := by decide +kernel
theorem d_Elements_toSide_4 : decode prog_3_method_17_code 4 = .ok (.iconst 1, 1) := by decide +kernel
theorem d_Elements_toSide_5 : decode prog_3_method_17_code 5 = .ok (.if_icmp .lt 12, 3) := by decide +kernel
theorem d_Elements_toSide_8 : decode prog_3_method_17_code 8 = .ok (.aload_n 0, 1) := by decide +kernel
theorem d_Elements_toSide_9 : decode prog_3_method_17_code 9 = .ok (.getfield 25, 3) := by decide +kernel
theorem d_Elements_toSide_12 : decode prog_3_method_17_code 12 = .ok (.bipush 64, 2) := by decide +kernel
theorem d_Elements_toSide_14 : decode prog_3_method_17_code 14 = .ok (.if_icmp .lt 5, 3) := by decide +kernel
theorem d_Elements_toSide_17 : decode prog_3_method_17_code 17 = .ok (.iconst 5, 1) := by decide +kernel
theorem d_Elements_toSide_18 : decode prog_3_method_17_code 18 = .ok (.ireturn, 1) := by decide +kernel
theorem d_Elements_toSide_19 : decode prog_3_method_17_code 19 = .ok (.aload_n 0, 1) := by decide +kernel
theorem d_Elements_toSide_20 : decode prog_3_method_17_code 20 = .ok (.aload_n 0, 1) := by decide +kernel
theorem d_Elements_toSide_21 : decode prog_3_method_17_code 21 = .ok (.getfield 21, 3) := by decide +kernel
theorem d_Elements_toSide_24 : decode prog_3_method_17_code 24 = .ok (.iconst 1, 1) := by decide +kernel
theorem d_Elements_toSide_25 : decode prog_3_method_17_code 25 = .ok (.isub, 1) := by decide +kernel
theorem d_Elements_toSide_26 : decode prog_3_method_17_code 26 = .ok (.bipush 63, 2) := by decide +kernel
theorem d_Elements_toSide_28 : decode prog_3_method_17_code 28 = .ok (.aload_n 0, 1) := by decide +kernel
theorem d_Elements_toSide_29 : decode prog_3_method_17_code 29 = .ok (.getfield 25, 3) := by decide +kernel
theorem d_Elements_toSide_32 : decode prog_3_method_17_code 32 = .ok (.isub, 1) := by decide +kernel
theorem d_Elements_toSide_33 : decode prog_3_method_17_code 33 = .ok (.invokevirtual 66, 3) := by decide +kernel
theorem d_Elements_toSide_36 : decode prog_3_method_17_code 36 = .ok (.aload_n 0, 1) := by decide +kernel
theorem d_Elements_toSide_37 : decode prog_3_method_17_code 37 = .ok (.dup, 1) := by decide +kernel
theorem d_Elements_toSide_38 : decode prog_3_method_17_code 38 = .ok (.getfield 21, 3) := by decide +kernel
theorem d_Elements_toSide_41 : decode prog_3_method_17_code 41 = .ok (.iconst 1, 1) := by decide +kernel
theorem d_Elements_toSide_42 : decode prog_3_method_17_code 42 = .ok (.isub, 1) := by decide +kernel
theorem d_Elements_toSide_43 : decode prog_3_method_17_code 43 = .ok (.putfield 21, 3) := by decide +kernel
theorem d_Elements_toSide_46 : decode prog_3_method_17_code 46 = .ok (.aload_n 0, 1) := by decide +kernel
theorem d_Elements_toSide_47 : decode prog_3_method_17_code 47 = .ok (.dup, 1) := by decide +kernel
theorem d_Elements_toSide_48 : decode prog_3_method_17_code 48 = .ok (.getfield 25, 3) := by decide +kernel
theorem d_Elements_toSide_51 : decode prog_3_method_17_code 51 = .ok (.iconst 1, 1) := by decide +kernel
theorem d_Elements_toSide_52 : decode prog_3_method_17_code 52 = .ok (.iadd, 1) := by decide +kernel
theorem d_Elements_toSide_53 : decode prog_3_method_17_code 53 = .ok (.putfield 25, 3) := by decide +kernel
theorem d_Elements_toSide_56 : decode prog_3_method_17_code 56 = .ok (.iconst 0, 1) := by decide +kernel
theorem d_Elements_toSide_57 : decode prog_3_method_17_code 57 = .ok (.ireturn, 1) := by decide +kernel
theorem d_Elements_fromSide_0 : decode prog_3_method_18_code 0 = .ok (.aload_n 0, 1) := by decide +kernel
theorem d_Elements_fromSide_1 : decode prog_3_method_18_code 1 = .ok (.getfield 25, 3) := by decide +kernel
theorem d_Elements_fromSide_4 : decode prog_3_method_18_code 4 = .ok (.iconst 1, 1) := by decide +kernel
theorem d_Elements_fromSide_5 : decode prog_3_method_18_code 5 = .ok (.if_icmp .lt 12, 3) := by decide +kernel
theorem d_Elements_fromSide_8 : decode prog_3_method_18_code 8 = .ok (.aload_n 0, 1) := by decide +kernel
theorem d_Elements_fromSide_9 : decode prog_3_method_18_code 9 = .ok (.getfield 21, 3) := by decide +kernel
theorem d_Elements_fromSide_12 : decode prog_3_method_18_code 12 = .ok (.bipush 64, 2) := by decide +kernel
theorem d_Elements_fromSide_14 : decode prog_3_method_18_code 14 = .ok (.if_icmp .lt 5, 3) := by decide +kernel
theorem d_Elements_fromSide_17 : decode prog_3_method_18_code 17 = .ok (.iconst 5, 1) := by decide +kernel
theorem d_Elements_fromSide_18 : decode prog_3_method_18_code 18 = .ok (.ireturn, 1) := by decide +kernel
theorem d_Elements_fromSide_19 : decode prog_3_method_18_code 19 = .ok (.aload_n 0, 1) := by decide +kernel
theorem d_Elements_fromSide_20 : decode prog_3_method_18_code 20 = .ok (.aload_n 0, 1) := by decide +kernel
theorem d_Elements_fromSide_21 : decode prog_3_method_18_code 21 = .ok (.getfield 21, 3) := by decide +kernel
theorem d_Elements_fromSide_24 : decode prog_3_method_18_code 24 = .ok (.bipush 64, 2) := by decide +kernel
theorem d_Elements_fromSide_26 : decode prog_3_method_18_code 26 = .ok (.aload_n 0, 1) := by decide +kernel
theorem d_Elements_fromSide_27 : decode prog_3_method_18_code 27 = .ok (.getfield 25, 3) := by decide +kernel
theorem d_Elements_fromSide_30 : decode prog_3_method_18_code 30 = .ok (.isub, 1) := by decide +kernel
theorem d_Elements_fromSide_31 : decode prog_3_method_18_code 31 = .ok (.invokevirtual 66, 3) := by decide +kernel
theorem d_Elements_fromSide_34 : decode prog_3_method_18_code 34 = .ok (.aload_n 0, 1) := by decide +kernel
theorem d_Elements_fromSide_35 : decode prog_3_method_18_code 35 = .ok (.dup, 1) := by decide +kernel
theorem d_Elements_fromSide_36 : decode prog_3_method_18_code 36 = .ok (.getfield 25, 3) := by decide +kernel
theorem d_Elements_fromSide_39 : decode prog_3_method_18_code 39 = .ok (.iconst 1, 1) := by decide +kernel
theorem d_Elements_fromSide_40 : decode prog_3_method_18_code 40 = .ok (.isub, 1) := by decide +kernel
theorem d_Elements_fromSide_41 : decode prog_3_method_18_code 41 = .ok (.putfield 25, 3) := by decide +kernel
theorem d_Elements_fromSide_44 : decode prog_3_method_18_code 44 = .ok (.aload_n 0, 1) := by decide +kernel
theorem d_Elements_fromSide_45 : decode prog_3_method_18_code 45 = .ok (.dup, 1) := by decide +kernel
theorem d_Elements_fromSide_46 : decode prog_3_method_18_code 46 = .ok (.getfield 21, 3) := by decide +kernel
theorem d_Elements_fromSide_49 : decode prog_3_method_18_code 49 = .ok (.iconst 1, 1) := by decide +kernel
theorem d_Elements_fromSide_50 : decode prog_3_method_18_code 50 = .ok (.iadd, 1) := by decide +kernel
theorem d_Elements_fromSide_51 : decode prog_3_method_18_code 51 = .ok (.putfield 21, 3) := by decide +kernel
theorem d_Elements_fromSide_54 : decode prog_3_method_18_code 54 = .ok (.iconst 0, 1) := by decide +kernel
theorem d_Elements_fromSide_55 : decode prog_3_method_18_code 55 = .ok (.ireturn, 1) := by decide +kernel
theorem d_Desk_performPlain_0 : decode prog_1_method_18_code 0 = .ok (.iload_n 1, 1) := by decide +kernel
theorem d_Desk_performPlain_1 : decode prog_1_method_18_code 1 = .ok (.tableswitch 92 97 108 #[63, 92, 92, 92, 92, 92, 92, 92, 65, 73, 76, 84], 63) := by decide +kernel
theorem d_Desk_performPlain_64 : decode prog_1_method_18_code 64 = .ok (.iconst 0, 1) := by decide +kernel
theorem d_Desk_performPlain_65 : decode prog_1_method_18_code 65 = .ok (.ireturn, 1) := by decide +kernel
theorem d_Desk_performPlain_66 : decode prog_1_method_18_code 66 = .ok (.aload_n 0, 1) := by decide +kernel
theorem d_Desk_performPlain_67 : decode prog_1_method_18_code 67 = .ok (.getfield 26, 3) := by decide +kernel
theorem d_Desk_performPlain_70 : decode prog_1_method_18_code 70 = .ok (.invokevirtual 166, 3) := by decide +kernel
theorem d_Desk_performPlain_73 : decode prog_1_method_18_code 73 = .ok (.ireturn, 1) := by decide +kernel
theorem d_Desk_performPlain_74 : decode prog_1_method_18_code 74 = .ok (.bipush 9, 2) := by decide +kernel
theorem d_Desk_performPlain_76 : decode prog_1_method_18_code 76 = .ok (.ireturn, 1) := by decide +kernel
theorem d_Desk_performPlain_77 : decode prog_1_method_18_code 77 = .ok (.aload_n 0, 1) := by decide +kernel
theorem d_Desk_performPlain_78 : decode prog_1_method_18_code 78 = .ok (.getfield 26, 3) := by decide +kernel
theorem d_Desk_performPlain_81 : decode prog_1_method_18_code 81 = .ok (.invokevirtual 170, 3) := by decide +kernel
theorem d_Desk_performPlain_84 : decode prog_1_method_18_code 84 = .ok (.ireturn, 1) := by decide +kernel
theorem d_Desk_performPlain_85 : decode prog_1_method_18_code 85 = .ok (.aload_n 0, 1) := by decide +kernel
theorem d_Desk_performPlain_86 : decode prog_1_method_18_code 86 = .ok (.getfield 26, 3) := by decide +kernel
theorem d_Desk_performPlain_89 : decode prog_1_method_18_code 89 = .ok (.invokevirtual 173, 3) := by decide +kernel
theorem d_Desk_performPlain_92 : decode prog_1_method_18_code 92 = .ok (.ireturn, 1) := by decide +kernel
theorem d_Desk_performPlain_93 : decode prog_1_method_18_code 93 = .ok (.iconst 4, 1) := by decide +kernel
theorem d_Desk_performPlain_94 : decode prog_1_method_18_code 94 = .ok (.ireturn, 1) := by decide +kernel
theorem d_Desk_pushSmallNumber_0 : decode prog_1_method_17_code 0 = .ok (.iload_n 1, 1) := by decide +kernel
theorem d_Desk_pushSmallNumber_1 : decode prog_1_method_17_code 1 = .ok (.bipush 79, 2) := by decide +kernel
theorem d_Desk_pushSmallNumber_3 : decode prog_1_method_17_code 3 = .ok (.if_icmp .eq 11, 3) := by decide +kernel
theorem d_Desk_pushSmallNumber_6 : decode prog_1_method_17_code 6 = .ok (.iload_n 1, 1) := by decide +kernel
theorem d_Desk_pushSmallNumber_7 : decode prog_1_method_17_code 7 = .ok (.bipush 81, 2) := by decide +kernel
theorem d_Desk_pushSmallNumber_9 : decode prog_1_method_17_code 9 = .ok (.if_icmp .ge 5, 3) := by decide +kernel
theorem d_Desk_pushSmallNumber_12 : decode prog_1_method_17_code 12 = .ok (.iconst 4, 1) := by decide +kernel
theorem d_Desk_pushSmallNumber_13 : decode prog_1_method_17_code 13 = .ok (.ireturn, 1) := by decide +kernel
theorem d_Desk_pushSmallNumber_14 : decode prog_1_method_17_code 14 = .ok (.aload_n 0, 1) := by decide +kernel
theorem d_Desk_pushSmallNumber_15 : decode prog_1_method_17_code 15 = .ok (.getfield 26, 3) := by decide +kernel
theorem d_Desk_pushSmallNumber_18 : decode prog_1_method_17_code 18 = .ok (.iload_n 1, 1) := by decide +kernel
theorem d_Desk_pushSmallNumber_19 : decode prog_1_method_17_code 19 = .ok (.bipush 80, 2) := by decide +kernel
theorem d_Desk_pushSmallNumber_21 : decode prog_1_method_17_code 21 = .ok (.isub, 1) := by decide +kernel
theorem d_Desk_pushSmallNumber_22 : decode prog_1_method_17_code 22 = .ok (.i2l, 1) := by decide +kernel
theorem d_Desk_pushSmallNumber_23 : decode prog_1_method_17_code 23 = .ok (.invokevirtual 162, 3) := by decide +kernel
theorem d_Desk_pushSmallNumber_26 : decode prog_1_method_17_code 26 = .ok (.iconst 0, 1) := by decide +kernel
theorem d_Desk_pushSmallNumber_27 : decode prog_1_method_17_code 27 = .ok (.ireturn, 1) := by decide +kernel
theorem d_Desk_perform_0 : decode prog_1_method_14_code 0 = .ok (.iload_n 1, 1) := by decide +kernel
theorem d_Desk_perform_1 : decode prog_1_method_14_code 1 = .ok (.bipush 96, 2) := by decide +kernel
theorem d_Desk_perform_3 : decode prog_1_method_14_code 3 = .ok (.if_icmp .le 16, 3) := by decide +kernel
theorem d_Desk_perform_6 : decode prog_1_method_14_code 6 = .ok (.aload_n 0, 1) := by decide +kernel
theorem d_Desk_perform_7 : decode prog_1_method_14_code 7 = .ok (.getfield 33, 3) := by decide +kernel
theorem d_Desk_perform_10 : decode prog_1_method_14_code 10 = .ok (.iconst 1, 1) := by decide +kernel
theorem d_Desk_perform_11 : decode prog_1_method_14_code 11 = .ok (.invokevirtual 121, 3) := by decide +kernel
theorem d_Desk_perform_14 : decode prog_1_method_14_code 14 = .ok (.ifCond .eq 5, 3) := by decide +kernel
theorem d_Desk_perform_17 : decode prog_1_method_14_code 17 = .ok (.iconst 3, 1) := by decide +kernel
theorem d_Desk_perform_18 : decode prog_1_method_14_code 18 = .ok (.ireturn, 1) := by decide +kernel
theorem d_Desk_perform_19 : decode prog_1_method_14_code 19 = .ok (.iload_n 1, 1) := by decide +kernel
theorem d_Desk_perform_20 : decode prog_1_method_14_code 20 = .ok (.bipush 99, 2) := by decide +kernel
theorem d_Desk_perform_22 : decode prog_1_method_14_code 22 = .ok (.if_icmp .eq 9, 3) := by decide +kernel
theorem d_Desk_perform_25 : decode prog_1_method_14_code 25 = .ok (.iload_n 1, 1) := by decide +kernel
theorem d_Desk_perform_26 : decode prog_1_method_14_code 26 = .ok (.bipush 100, 2) := by decide +kernel
theorem d_Desk_perform_28 : decode prog_1_method_14_code 28 = .ok (.if_icmp .ne 19, 3) := by decide +kernel
theorem d_Desk_perform_31 : decode prog_1_method_14_code 31 = .ok (.aload_n 0, 1) := by decide +kernel
theorem d_Desk_perform_32 : decode prog_1_method_14_code 32 = .ok (.iload_n 1, 1) := by decide +kernel
theorem d_Desk_perform_33 : decode prog_1_method_14_code 33 = .ok (.bipush 99, 2) := by decide +kernel
theorem d_Desk_perform_35 : decode prog_1_method_14_code 35 = .ok (.if_icmp .ne 7, 3) := by decide +kernel
theorem d_Desk_perform_38 : decode prog_1_method_14_code 38 = .ok (.iconst 1, 1) := by decide +kernel
theorem d_Desk_perform_39 : decode prog_1_method_14_code 39 = .ok (.goto 4, 3) := by decide +kernel
theorem d_Desk_perform_42 : decode prog_1_method_14_code 42 = .ok (.iconst 0, 1) := by decide +kernel
theorem d_Desk_perform_43 : decode prog_1_method_14_code 43 = .ok (.invokevirtual 125, 3) := by decide +kernel
theorem d_Desk_perform_46 : decode prog_1_method_14_code 46 = .ok (.ireturn, 1) := by decide +kernel
theorem d_Desk_perform_47 : decode prog_1_method_14_code 47 = .ok (.iload_n 1, 1) := by decide +kernel
theorem d_Desk_perform_48 : decode prog_1_method_14_code 48 = .ok (.bipush 103, 2) := by decide +kernel
theorem d_Desk_perform_50 : decode prog_1_method_14_code 50 = .ok (.if_icmp .eq 9, 3) := by decide +kernel
theorem d_Desk_perform_53 : decode prog_1_method_14_code 53 = .ok (.iload_n 1, 1) := by decide +kernel
theorem d_Desk_perform_54 : decode prog_1_method_14_code 54 = .ok (.bipush 104, 2) := by decide +kernel
theorem d_Desk_perform_56 : decode prog_1_method_14_code 56 = .ok (.if_icmp .ne 19, 3) := by decide +kernel
theorem d_Desk_perform_59 : decode prog_1_method_14_code 59 = .ok (.aload_n 0, 1) := by decide +kernel
theorem d_Desk_perform_60 : decode prog_1_method_14_code 60 = .ok (.iload_n 1, 1) := by decide +kernel
theorem d_Desk_perform_61 : decode prog_1_method_14_code 61 = .ok (.bipush 104, 2) := by decide +kernel
theorem d_Desk_perform_63 : decode prog_1_method_14_code 63 = .ok (.if_icmp .ne 7, 3) := by decide +kernel
theorem d_Desk_perform_66 : decode prog_1_method_14_code 66 = .ok (.iconst 1, 1) := by decide +kernel
theorem d_Desk_perform_67 : decode prog_1_method_14_code 67 = .ok (.goto 4, 3) := by decide +kernel
theorem d_Desk_perform_70 : decode prog_1_method_14_code 70 = .ok (.iconst 0, 1) := by decide +kernel
theorem d_Desk_perform_71 : decode prog_1_method_14_code 71 = .ok (.invokevirtual 129, 3) := by decide +kernel
theorem d_Desk_perform_74 : decode prog_1_method_14_code 74 = .ok (.ireturn, 1) := by decide +kernel
theorem d_Desk_perform_75 : decode prog_1_method_14_code 75 = .ok (.aload_n 0, 1) := by decide +kernel
theorem d_Desk_perform_76 : decode prog_1_method_14_code 76 = .ok (.getfield 40, 3) := by decide +kernel
theorem d_Desk_perform_79 : decode prog_1_method_14_code 79 = .ok (.invokevirtual 114, 3) := by decide +kernel
theorem d_Desk_perform_82 : decode prog_1_method_14_code 82 = .ok (.ifCond .ne 5, 3) := by decide +kernel
theorem d_Desk_perform_85 : decode prog_1_method_14_code 85 = .ok (.iconst 0, 1) := by decide +kernel
theorem d_Desk_perform_86 : decode prog_1_method_14_code 86 = .ok (.ireturn, 1) := by decide +kernel
theorem d_Desk_perform_87 : decode prog_1_method_14_code 87 = .ok (.iload_n 1, 1) := by decide +kernel
theorem d_Desk_perform_88 : decode prog_1_method_14_code 88 = .ok (.bipush 96, 2) := by decide +kernel
theorem d_Desk_perform_90 : decode prog_1_method_14_code 90 = .ok (.if_icmp .gt 9, 3) := by decide +kernel
theorem d_Desk_perform_93 : decode prog_1_method_14_code 93 = .ok (.aload_n 0, 1) := by decide +kernel
theorem d_Desk_perform_94 : decode prog_1_method_14_code 94 = .ok (.iload_n 1, 1) := by decide +kernel
theorem d_Desk_perform_95 : decode prog_1_method_14_code 95 = .ok (.invokevirtual 132, 3) := by decide +kernel
theorem d_Desk_perform_98 : decode prog_1_method_14_code 98 = .ok (.ireturn, 1) := by decide +kernel
theorem d_Desk_perform_99 : decode prog_1_method_14_code 99 = .ok (.iload_n 1, 1) := by decide +kernel
theorem d_Desk_perform_100 : decode prog_1_method_14_code 100 = .ok (.bipush 108, 2) := by decide +kernel
theorem d_Desk_perform_102 : decode prog_1_method_14_code 102 = .ok (.if_icmp .gt 9, 3) := by decide +kernel
theorem d_Desk_perform_105 : decode prog_1_method_14_code 105 = .ok (.aload_n 0, 1) := by decide +kernel
theorem d_Desk_perform_106 : decode prog_1_method_14_code 106 = .ok (.iload_n 1, 1) := by decide +kernel
theorem d_Desk_perform_107 : decode prog_1_method_14_code 107 = .ok (.invokevirtual 135, 3) := by decide +kernel
theorem d_Desk_perform_110 : decode prog_1_method_14_code 110 = .ok (.ireturn, 1) := by decide +kernel
theorem d_Desk_perform_111 : decode prog_1_method_14_code 111 = .ok (.iload_n 1, 1) := by decide +kernel
theorem d_Desk_perform_112 : decode prog_1_method_14_code 112 = .ok (.sipush 136, 3) := by decide +kernel
theorem d_Desk_perform_115 : decode prog_1_method_14_code 115 = .ok (.if_icmp .gt 12, 3) := by decide +kernel
theorem d_Desk_perform_118 : decode prog_1_method_14_code 118 = .ok (.aload_n 0, 1) := by decide +kernel
theorem d_Desk_perform_119 : decode prog_1_method_14_code 119 = .ok (.getfield 26, 3) := by decide +kernel
theorem d_Desk_perform_122 : decode prog_1_method_14_code 122 = .ok (.iload_n 1, 1) := by decide +kernel
theorem d_Desk_perform_123 : decode prog_1_method_14_code 123 = .ok (.invokestatic 138, 3) := by decide +kernel
theorem d_Desk_perform_126 : decode prog_1_method_14_code 126 = .ok (.ireturn, 1) := by decide +kernel
theorem d_Desk_perform_127 : decode prog_1_method_14_code 127 = .ok (.iload_n 1, 1) := by decide +kernel
theorem d_Desk_perform_128 : decode prog_1_method_14_code 128 = .ok (.sipush 165, 3) := by decide +kernel
theorem d_Desk_perform_131 : decode prog_1_method_14_code 131 = .ok (.if_icmp .gt 12, 3) := by decide +kernel
theorem d_Desk_perform_134 : decode prog_1_method_14_code 134 = .ok (.aload_n 0, 1) := by decide +kernel
