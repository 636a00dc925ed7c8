theorem d_Elements_push_31 : decode prog_3_method_11_code 31 = .ok (.bipush 64, 2) := by decide +kernel
theorem d_Elements_push_33 : decode prog_3_method_11_code 33 = .ok (.if_icmp .lt 4, 3) := by decide +kernel
theorem d_Elements_push_36 : decode prog_3_method_11_code 36 = .ok (.return_, 1) := by decide +kernel
theorem d_Elements_push_37 : decode prog_3_method_11_code 37 = .ok (.aload_n 0, 1) := by decide +kernel
theorem d_Elements_push_38 : decode prog_3_method_11_code 38 = .ok (.getfield 18, 3) := by decide +kernel
theorem d_Elements_push_41 : decode prog_3_method_11_code 41 = .ok (.aload_n 0, 1) := by decide +kernel
theorem d_Elements_push_42 : decode prog_3_method_11_code 42 = .ok (.getfield 21, 3) := by decide +kernel
theorem d_Elements_push_45 : decode prog_3_method_11_code 45 = .ok (.iaload, 1) := by decide +kernel
theorem d_Elements_push_46 : decode prog_3_method_11_code 46 = .ok (.istore 4, 2) := by decide +kernel
theorem d_Elements_push_48 : decode prog_3_method_11_code 48 = .ok (.aload_n 1, 1) := by decide +kernel
theorem d_Elements_push_49 : decode prog_3_method_11_code 49 = .ok (.iload_n 2, 1) := by decide +kernel
theorem d_Elements_push_50 : decode prog_3_method_11_code 50 = .ok (.aload_n 0, 1) := by decide +kernel
theorem d_Elements_push_51 : decode prog_3_method_11_code 51 = .ok (.getfield 11, 3) := by decide +kernel
theorem d_Elements_push_54 : decode prog_3_method_11_code 54 = .ok (.iload 4, 2) := by decide +kernel
theorem d_Elements_push_56 : decode prog_3_method_11_code 56 = .ok (.bipush 120, 2) := by decide +kernel
theorem d_Elements_push_58 : decode prog_3_method_11_code 58 = .ok (.imul, 1) := by decide +kernel
theorem d_Elements_push_59 : decode prog_3_method_11_code 59 = .ok (.iload_n 3, 1) := by decide +kernel
theorem d_Elements_push_60 : decode prog_3_method_11_code 60 = .ok (.invokestatic 43, 3) := by decide +kernel
theorem d_Elements_push_63 : decode prog_3_method_11_code 63 = .ok (.aload_n 0, 1) := by decide +kernel
theorem d_Elements_push_64 : decode prog_3_method_11_code 64 = .ok (.getfield 15, 3) := by decide +kernel
theorem d_Elements_push_67 : decode prog_3_method_11_code 67 = .ok (.iload 4, 2) := by decide +kernel
theorem d_Elements_push_69 : decode prog_3_method_11_code 69 = .ok (.iload_n 3, 1) := by decide +kernel
theorem d_Elements_push_70 : decode prog_3_method_11_code 70 = .ok (.iastore, 1) := by decide +kernel
theorem d_Elements_push_71 : decode prog_3_method_11_code 71 = .ok (.aload_n 0, 1) := by decide +kernel
theorem d_Elements_push_72 : decode prog_3_method_11_code 72 = .ok (.dup, 1) := by decide +kernel
theorem d_Elements_push_73 : decode prog_3_method_11_code 73 = .ok (.getfield 21, 3) := by decide +kernel
theorem d_Elements_push_76 : decode prog_3_method_11_code 76 = .ok (.iconst 1, 1) := by decide +kernel
theorem d_Elements_push_77 : decode prog_3_method_11_code 77 = .ok (.iadd, 1) := by decide +kernel
theorem d_Elements_push_78 : decode prog_3_method_11_code 78 = .ok (.putfield 21, 3) := by decide +kernel
theorem d_Elements_push_81 : decode prog_3_method_11_code 81 = .ok (.return_, 1) := by decide +kernel
theorem d_BlockDigest_replaceTop_0 : decode prog_2_method_4_code 0 = .ok (.aload_n 1, 1) := by decide +kernel
theorem d_BlockDigest_replaceTop_1 : decode prog_2_method_4_code 1 = .ok (.iconst 0, 1) := by decide +kernel
theorem d_BlockDigest_replaceTop_2 : decode prog_2_method_4_code 2 = .ok (.invokevirtual 28, 3) := by decide +kernel
theorem d_BlockDigest_replaceTop_5 : decode prog_2_method_4_code 5 = .ok (.istore_n 2, 1) := by decide +kernel
theorem d_BlockDigest_replaceTop_6 : decode prog_2_method_4_code 6 = .ok (.iload_n 2, 1) := by decide +kernel
theorem d_BlockDigest_replaceTop_7 : decode prog_2_method_4_code 7 = .ok (.ifCond .lt 9, 3) := by decide +kernel
theorem d_BlockDigest_replaceTop_10 : decode prog_2_method_4_code 10 = .ok (.iload_n 2, 1) := by decide +kernel
theorem d_BlockDigest_replaceTop_11 : decode prog_2_method_4_code 11 = .ok (.bipush 120, 2) := by decide +kernel
theorem d_BlockDigest_replaceTop_13 : decode prog_2_method_4_code 13 = .ok (.if_icmp .le 4, 3) := by decide +kernel
theorem d_BlockDigest_replaceTop_16 : decode prog_2_method_4_code 16 = .ok (.return_, 1) := by decide +kernel
theorem d_BlockDigest_replaceTop_17 : decode prog_2_method_4_code 17 = .ok (.aload_n 0, 1) := by decide +kernel
theorem d_BlockDigest_replaceTop_18 : decode prog_2_method_4_code 18 = .ok (.aload_n 1, 1) := by decide +kernel
theorem d_BlockDigest_replaceTop_19 : decode prog_2_method_4_code 19 = .ok (.iload_n 2, 1) := by decide +kernel
theorem d_BlockDigest_replaceTop_20 : decode prog_2_method_4_code 20 = .ok (.invokevirtual 34, 3) := by decide +kernel
theorem d_BlockDigest_replaceTop_23 : decode prog_2_method_4_code 23 = .ok (.istore_n 3, 1) := by decide +kernel
theorem d_BlockDigest_replaceTop_24 : decode prog_2_method_4_code 24 = .ok (.aload_n 0, 1) := by decide +kernel
theorem d_BlockDigest_replaceTop_25 : decode prog_2_method_4_code 25 = .ok (.invokevirtual 38, 3) := by decide +kernel
theorem d_BlockDigest_replaceTop_28 : decode prog_2_method_4_code 28 = .ok (.iconst 0, 1) := by decide +kernel
theorem d_BlockDigest_replaceTop_29 : decode prog_2_method_4_code 29 = .ok (.istore 4, 2) := by decide +kernel
theorem d_BlockDigest_replaceTop_31 : decode prog_2_method_4_code 31 = .ok (.iload 4, 2) := by decide +kernel
theorem d_BlockDigest_replaceTop_33 : decode prog_2_method_4_code 33 = .ok (.iload_n 3, 1) := by decide +kernel
theorem d_BlockDigest_replaceTop_34 : decode prog_2_method_4_code 34 = .ok (.if_icmp .ge 19, 3) := by decide +kernel
theorem d_BlockDigest_replaceTop_37 : decode prog_2_method_4_code 37 = .ok (.aload_n 0, 1) := by decide +kernel
theorem d_BlockDigest_replaceTop_38 : decode prog_2_method_4_code 38 = .ok (.iload 4, 2) := by decide +kernel
theorem d_BlockDigest_replaceTop_40 : decode prog_2_method_4_code 40 = .ok (.invokevirtual 41, 3) := by decide +kernel
theorem d_BlockDigest_replaceTop_43 : decode prog_2_method_4_code 43 = .ok (.aload_n 0, 1) := by decide +kernel
theorem d_BlockDigest_replaceTop_44 : decode prog_2_method_4_code 44 = .ok (.invokevirtual 45, 3) := by decide +kernel
theorem d_BlockDigest_replaceTop_47 : decode prog_2_method_4_code 47 = .ok (.iinc 4 64, 3) := by decide +kernel
theorem d_BlockDigest_replaceTop_50 : decode prog_2_method_4_code 50 = .ok (.goto (-19), 3) := by decide +kernel
theorem d_BlockDigest_replaceTop_53 : decode prog_2_method_4_code 53 = .ok (.iconst 0, 1) := by decide +kernel
theorem d_BlockDigest_replaceTop_54 : decode prog_2_method_4_code 54 = .ok (.istore 4, 2) := by decide +kernel
theorem d_BlockDigest_replaceTop_56 : decode prog_2_method_4_code 56 = .ok (.iload 4, 2) := by decide +kernel
theorem d_BlockDigest_replaceTop_58 : decode prog_2_method_4_code 58 = .ok (.aload_n 0, 1) := by decide +kernel
theorem d_BlockDigest_replaceTop_59 : decode prog_2_method_4_code 59 = .ok (.getfield 22, 3) := by decide +kernel
theorem d_BlockDigest_replaceTop_62 : decode prog_2_method_4_code 62 = .ok (.arraylength, 1) := by decide +kernel
theorem d_BlockDigest_replaceTop_63 : decode prog_2_method_4_code 63 = .ok (.if_icmp .ge 28, 3) := by decide +kernel
theorem d_BlockDigest_replaceTop_66 : decode prog_2_method_4_code 66 = .ok (.aload_n 0, 1) := by decide +kernel
theorem d_BlockDigest_replaceTop_67 : decode prog_2_method_4_code 67 = .ok (.aload_n 0, 1) := by decide +kernel
theorem d_BlockDigest_replaceTop_68 : decode prog_2_method_4_code 68 = .ok (.getfield 22, 3) := by decide +kernel
theorem d_BlockDigest_replaceTop_71 : decode prog_2_method_4_code 71 = .ok (.iload 4, 2) := by decide +kernel
theorem d_BlockDigest_replaceTop_73 : decode prog_2_method_4_code 73 = .ok (.iaload, 1) := by decide +kernel
theorem d_BlockDigest_replaceTop_74 : decode prog_2_method_4_code 74 = .ok (.aload_n 0, 1) := by decide +kernel
theorem d_BlockDigest_replaceTop_75 : decode prog_2_method_4_code 75 = .ok (.getfield 25, 3) := by decide +kernel
theorem d_BlockDigest_replaceTop_78 : decode prog_2_method_4_code 78 = .ok (.iconst 4, 1) := by decide +kernel
theorem d_BlockDigest_replaceTop_79 : decode prog_2_method_4_code 79 = .ok (.iload 4, 2) := by decide +kernel
theorem d_BlockDigest_replaceTop_81 : decode prog_2_method_4_code 81 = .ok (.imul, 1) := by decide +kernel
theorem d_BlockDigest_replaceTop_82 : decode prog_2_method_4_code 82 = .ok (.invokevirtual 48, 3) := by decide +kernel
theorem d_BlockDigest_replaceTop_85 : decode prog_2_method_4_code 85 = .ok (.iinc 4 1, 3) := by decide +kernel
theorem d_BlockDigest_replaceTop_88 : decode prog_2_method_4_code 88 = .ok (.goto (-32), 3) := by decide +kernel
theorem d_BlockDigest_replaceTop_91 : decode prog_2_method_4_code 91 = .ok (.aload_n 1, 1) := by decide +kernel
theorem d_BlockDigest_replaceTop_92 : decode prog_2_method_4_code 92 = .ok (.iconst 1, 1) := by decide +kernel
theorem d_BlockDigest_replaceTop_93 : decode prog_2_method_4_code 93 = .ok (.invokevirtual 52, 3) := by decide +kernel
theorem d_BlockDigest_replaceTop_96 : decode prog_2_method_4_code 96 = .ok (.aload_n 1, 1) := by decide +kernel
theorem d_BlockDigest_replaceTop_97 : decode prog_2_method_4_code 97 = .ok (.aload_n 0, 1) := by decide +kernel
theorem d_BlockDigest_replaceTop_98 : decode prog_2_method_4_code 98 = .ok (.getfield 25, 3) := by decide +kernel
theorem d_BlockDigest_replaceTop_101 : decode prog_2_method_4_code 101 = .ok (.iconst 0, 1) := by decide +kernel
theorem d_BlockDigest_replaceTop_102 : decode prog_2_method_4_code 102 = .ok (.aload_n 0, 1) := by decide +kernel
theorem d_BlockDigest_replaceTop_103 : decode prog_2_method_4_code 103 = .ok (.getfield 25, 3) := by decide +kernel
theorem d_BlockDigest_replaceTop_106 : decode prog_2_method_4_code 106 = .ok (.arraylength, 1) := by decide +kernel
theorem d_BlockDigest_replaceTop_107 : decode prog_2_method_4_code 107 = .ok (.invokevirtual 55, 3) := by decide +kernel
theorem d_BlockDigest_replaceTop_110 : decode prog_2_method_4_code 110 = .ok (.return_, 1) := by decide +kernel
theorem d_Sha256_begin_0 : decode prog_8_method_2_code 0 = .ok (.getstatic 7, 3) := by decide +kernel
theorem d_Sha256_begin_3 : decode prog_8_method_2_code 3 = .ok (.iconst 0, 1) := by decide +kernel
theorem d_Sha256_begin_4 : decode prog_8_method_2_code 4 = .ok (.aload_n 0, 1) := by decide +kernel
theorem d_Sha256_begin_5 : decode prog_8_method_2_code 5 = .ok (.getfield 13, 3) := by decide +kernel
theorem d_Sha256_begin_8 : decode prog_8_method_2_code 8 = .ok (.iconst 0, 1) := by decide +kernel
theorem d_Sha256_begin_9 : decode prog_8_method_2_code 9 = .ok (.bipush 8, 2) := by decide +kernel
theorem d_Sha256_begin_11 : decode prog_8_method_2_code 11 = .ok (.invokestatic 16, 3) := by decide +kernel
theorem d_Sha256_begin_14 : decode prog_8_method_2_code 14 = .ok (.return_, 1) := by decide +kernel
theorem d_Sha256_turned_0 : decode prog_8_method_5_code 0 = .ok (.iload_n 0, 1) := by decide +kernel
theorem d_Sha256_turned_1 : decode prog_8_method_5_code 1 = .ok (.iload_n 1, 1) := by decide +kernel
theorem d_Sha256_turned_2 : decode prog_8_method_5_code 2 = .ok (.iushr, 1) := by decide +kernel
theorem d_Sha256_turned_3 : decode prog_8_method_5_code 3 = .ok (.iload_n 0, 1) := by decide +kernel
theorem d_Sha256_turned_4 : decode prog_8_method_5_code 4 = .ok (.bipush 32, 2) := by decide +kernel
theorem d_Sha256_turned_6 : decode prog_8_method_5_code 6 = .ok (.iload_n 1, 1) := by decide +kernel
theorem d_Sha256_turned_7 : decode prog_8_method_5_code 7 = .ok (.isub, 1) := by decide +kernel
theorem d_Sha256_turned_8 : decode prog_8_method_5_code 8 = .ok (.ishl, 1) := by decide +kernel
theorem d_Sha256_turned_9 : decode prog_8_method_5_code 9 = .ok (.ior, 1) := by decide +kernel
theorem d_Sha256_turned_10 : decode prog_8_method_5_code 10 = .ok (.ireturn, 1) := by decide +kernel
theorem d_Sha256_spreadWords_0 : decode prog_8_method_4_code 0 = .ok (.bipush 16, 2) := by decide +kernel
theorem d_Sha256_spreadWords_2 : decode prog_8_method_4_code 2 = .ok (.istore_n 1, 1) := by decide +kernel
theorem d_Sha256_spreadWords_3 : decode prog_8_method_4_code 3 = .ok (.iload_n 1, 1) := by decide +kernel
theorem d_Sha256_spreadWords_4 : decode prog_8_method_4_code 4 = .ok (.bipush 64, 2) := by decide +kernel
theorem d_Sha256_spreadWords_6 : decode prog_8_method_4_code 6 = .ok (.if_icmp .ge 98, 3) := by decide +kernel
theorem d_Sha256_spreadWords_9 : decode prog_8_method_4_code 9 = .ok (.aload_n 0, 1) := by decide +kernel
theorem d_Sha256_spreadWords_10 : decode prog_8_method_4_code 10 = .ok (.getfield 33, 3) := by decide +kernel
theorem d_Sha256_spreadWords_13 : decode prog_8_method_4_code 13 = .ok (.iload_n 1, 1) := by decide +kernel
theorem d_Sha256_spreadWords_14 : decode prog_8_method_4_code 14 = .ok (.bipush 15, 2) := by decide +kernel
theorem d_Sha256_spreadWords_16 : decode prog_8_method_4_code 16 = .ok (.isub, 1) := by decide +kernel
theorem d_Sha256_spreadWords_17 : decode prog_8_method_4_code 17 = .ok (.iaload, 1) := by decide +kernel
theorem d_Sha256_spreadWords_18 : decode prog_8_method_4_code 18 = .ok (.istore_n 2, 1) := by decide +kernel
theorem d_Sha256_spreadWords_19 : decode prog_8_method_4_code 19 = .ok (.aload_n 0, 1) := by decide +kernel
theorem d_Sha256_spreadWords_20 : decode prog_8_method_4_code 20 = .ok (.getfield 33, 3) := by decide +kernel
theorem d_Sha256_spreadWords_23 : decode prog_8_method_4_code 23 = .ok (.iload_n 1, 1) := by decide +kernel
theorem d_Sha256_spreadWords_24 : decode prog_8_method_4_code 24 = .ok (.iconst 2, 1) := by decide +kernel
theorem d_Sha256_spreadWords_25 : decode prog_8_method_4_code 25 = .ok (.isub, 1) := by decide +kernel
theorem d_Sha256_spreadWords_26 : decode prog_8_method_4_code 26 = .ok (.iaload, 1) := by decide +kernel
theorem d_Sha256_spreadWords_27 : decode prog_8_method_4_code 27 = .ok (.istore_n 3, 1) := by decide +kernel
theorem d_Sha256_spreadWords_28 : decode prog_8_method_4_code 28 = .ok (.iload_n 2, 1) := by decide +kernel
theorem d_Sha256_spreadWords_29 : decode prog_8_method_4_code 29 = .ok (.bipush 7, 2) := by decide +kernel
theorem d_Sha256_spreadWords_31 : decode prog_8_method_4_code 31 = .ok (.invokestatic 26, 3) := by decide +kernel
theorem d_Sha256_spreadWords_34 : decode prog_8_method_4_code 34 = .ok (.iload_n 2, 1) := by decide +kernel
theorem d_Sha256_spreadWords_35 : decode prog_8_method_4_code 35 = .ok (.bipush 18, 2) := by decide +kernel
theorem d_Sha256_spreadWords_37 : decode prog_8_method_4_code 37 = .ok (.invokestatic 26, 3) := by decide +kernel
theorem d_Sha256_spreadWords_40 : decode prog_8_method_4_code 40 = .ok (.ixor, 1) := by decide +kernel
theorem d_Sha256_spreadWords_41 : decode prog_8_method_4_code 41 = .ok (.iload_n 2, 1) := by decide +kernel
theorem d_Sha256_spreadWords_42 : decode prog_8_method_4_code 42 = .ok (.iconst 3, 1) := by decide +kernel
theorem d_Sha256_spreadWords_43 : decode prog_8_method_4_code 43 = .ok (.iushr, 1) := by decide +kernel
theorem d_Sha256_spreadWords_44 : decode prog_8_method_4_code 44 = .ok (.ixor, 1) := by decide +kernel
theorem d_Sha256_spreadWords_45 : decode prog_8_method_4_code 45 = .ok (.istore 4, 2) := by decide +kernel
theorem d_Sha256_spreadWords_47 : decode prog_8_method_4_code 47 = .ok (.iload_n 3, 1) := by decide +kernel
theorem d_Sha256_spreadWords_48 : decode prog_8_method_4_code 48 = .ok (.bipush 17, 2) := by decide +kernel
theorem d_Sha256_spreadWords_50 : decode prog_8_method_4_code 50 = .ok (.invokestatic 26, 3) := by decide +kernel
theorem d_Sha256_spreadWords_53 : decode prog_8_method_4_code 53 = .ok (.iload_n 3, 1) := by decide +kernel
theorem d_Sha256_spreadWords_54 : decode prog_8_method_4_code 54 = .ok (.bipush 19, 2) := by decide +kernel
theorem d_Sha256_spreadWords_56 : decode prog_8_method_4_code 56 = .ok (.invokestatic 26, 3) := by decide +kernel
theorem d_Sha256_spreadWords_59 : decode prog_8_method_4_code 59 = .ok (.ixor, 1) := by decide +kernel
theorem d_Sha256_spreadWords_60 : decode prog_8_method_4_code 60 = .ok (.iload_n 3, 1) := by decide +kernel
theorem d_Sha256_spreadWords_61 : decode prog_8_method_4_code 61 = .ok (.bipush 10, 2) := by decide +kernel
theorem d_Sha256_spreadWords_63 : decode prog_8_method_4_code 63 = .ok (.iushr, 1) := by decide +kernel
theorem d_Sha256_spreadWords_64 : decode prog_8_method_4_code 64 = .ok (.ixor, 1) := by decide +kernel
theorem d_Sha256_spreadWords_65 : decode prog_8_method_4_code 65 = .ok (.istore 5, 2) := by decide +kernel
theorem d_Sha256_spreadWords_67 : decode prog_8_method_4_code 67 = .ok (.aload_n 0, 1) := by decide +kernel
theorem d_Sha256_spreadWords_68 : decode prog_8_method_4_code 68 = .ok (.getfield 33, 3) := by decide +kernel
theorem d_Sha256_spreadWords_71 : decode prog_8_method_4_code 71 = .ok (.iload_n 1, 1) := by decide +kernel
theorem d_Sha256_spreadWords_72 : decode prog_8_method_4_code 72 = .ok (.iload 5, 2) := by decide +kernel
theorem d_Sha256_spreadWords_74 : decode prog_8_method_4_code 74 = .ok (.aload_n 0, 1) := by decide +kernel
theorem d_Sha256_spreadWords_75 : decode prog_8_method_4_code 75 = .ok (.getfield 33, 3) := by decide +kernel
theorem d_Sha256_spreadWords_78 : decode prog_8_method_4_code 78 = .ok (.iload_n 1, 1) := by decide +kernel
theorem d_Sha256_spreadWords_79 : decode prog_8_method_4_code 79 = .ok (.bipush 7, 2) := by decide +kernel
theorem d_Sha256_spreadWords_81 : decode prog_8_method_4_code 81 = .ok (.isub, 1) := by decide +kernel
theorem d_Sha256_spreadWords_82 : decode prog_8_method_4_code 82 = .ok (.iaload, 1) := by decide +kernel
theorem d_Sha256_spreadWords_83 : decode prog_8_method_4_code 83 = .ok (.iadd, 1) := by decide +kernel
theorem d_Sha256_spreadWords_84 : decode prog_8_method_4_code 84 = .ok (.iload 4, 2) := by decide +kernel
theorem d_Sha256_spreadWords_86 : decode prog_8_method_4_code 86 = .ok (.iadd, 1) := by decide +kernel
theorem d_Sha256_spreadWords_87 : decode prog_8_method_4_code 87 = .ok (.aload_n 0, 1) := by decide +kernel
theorem d_Sha256_spreadWords_88 : decode prog_8_method_4_code 88 = .ok (.getfield 33, 3) := by decide +kernel
theorem d_Sha256_spreadWords_91 : decode prog_8_method_4_code 91 = .ok (.iload_n 1, 1) := by decide +kernel
theorem d_Sha256_spreadWords_92 : decode prog_8_method_4_code 92 = .ok (.bipush 16, 2) := by decide +kernel
theorem d_Sha256_spreadWords_94 : decode prog_8_method_4_code 94 = .ok (.isub, 1) := by decide +kernel
theorem d_Sha256_spreadWords_95 : decode prog_8_method_4_code 95 = .ok (.iaload, 1) := by decide +kernel
theorem d_Sha256_spreadWords_96 : decode prog_8_method_4_code 96 = .ok (.iadd, 1) := by decide +kernel
theorem d_Sha256_spreadWords_97 : decode prog_8_method_4_code 97 = .ok (.iastore, 1) := by decide +kernel
theorem d_Sha256_spreadWords_98 : decode prog_8_method_4_code 98 = .ok (.iinc 1 1, 3) := by decide +kernel
theorem d_Sha256_spreadWords_101 : decode prog_8_method_4_code 101 = .ok (.goto (-98), 3) := by decide +kernel
theorem d_Sha256_spreadWords_104 : decode prog_8_method_4_code 104 = .ok (.return_, 1) := by decide +kernel
theorem d_Sha256_mix_0 : decode prog_8_method_3_code 0 = .ok (.aload_n 0, 1) := by decide +kernel
theorem d_Sha256_mix_1 : decode prog_8_method_3_code 1 = .ok (.invokevirtual 22, 3) := by decide +kernel
theorem d_Sha256_mix_4 : decode prog_8_method_3_code 4 = .ok (.aload_n 0, 1) := by decide +kernel
theorem d_Sha256_mix_5 : decode prog_8_method_3_code 5 = .ok (.getfield 13, 3) := by decide +kernel
theorem d_Sha256_mix_8 : decode prog_8_method_3_code 8 = .ok (.iconst 0, 1) := by decide +kernel
theorem d_Sha256_mix_9 : decode prog_8_method_3_code 9 = .ok (.iaload, 1) := by decide +kernel
theorem d_Sha256_mix_10 : decode prog_8_method_3_code 10 = .ok (.istore_n 1, 1) := by decide +kernel
theorem d_Sha256_mix_11 : decode prog_8_method_3_code 11 = .ok (.aload_n 0, 1) := by decide +kernel
theorem d_Sha256_mix_12 : decode prog_8_method_3_code 12 = .ok (.getfield 13, 3) := by decide +kernel
theorem d_Sha256_mix_15 : decode prog_8_method_3_code 15 = .ok (.iconst 1, 1) := by decide +kernel
theorem d_Sha256_mix_16 : decode prog_8_method_3_code 16 = .ok (.iaload, 1) := by decide +kernel
theorem d_Sha256_mix_17 : decode prog_8_method_3_code 17 = .ok (.istore_n 2, 1) := by decide +kernel
theorem d_Sha256_mix_18 : decode prog_8_method_3_code 18 = .ok (.aload_n 0, 1) := by decide +kernel
theorem d_Sha256_mix_19 : decode prog_8_method_3_code 19 = .ok (.getfield 13, 3) := by decide +kernel
theorem d_Sha256_mix_22 : decode prog_8_method_3_code 22 = .ok (.iconst 2, 1) := by decide +kernel
theorem d_Sha256_mix_23 : decode prog_8_method_3_code 23 = .ok (.iaload, 1) := by decide +kernel
theorem d_Sha256_mix_24 : decode prog_8_method_3_code 24 = .ok (.istore_n 3, 1) := by decide +kernel
theorem d_Sha256_mix_25 : decode prog_8_method_3_code 25 = .ok (.aload_n 0, 1) := by decide +kernel
theorem d_Sha256_mix_26 : decode prog_8_method_3_code 26 = .ok (.getfield 13, 3) := by decide +kernel
theorem d_Sha256_mix_29 : decode prog_8_method_3_code 29 = .ok (.iconst 3, 1) := by decide +kernel
theorem d_Sha256_mix_30 : decode prog_8_method_3_code 30 = .ok (.iaload, 1) := by decide +kernel
theorem d_Sha256_mix_31 : decode prog_8_method_3_code 31 = .ok (.istore 4, 2) := by decide +kernel
theorem d_Sha256_mix_33 : decode prog_8_method_3_code 33 = .ok (.aload_n 0, 1) := by decide +kernel
theorem d_Sha256_mix_34 : decode prog_8_method_3_code 34 = .ok (.getfield 13, 3) := by decide +kernel
theorem d_Sha256_mix_37 : decode prog_8_method_3_code 37 = .ok (.iconst 4, 1) := by decide +kernel
theorem d_Sha256_mix_38 : decode prog_8_method_3_code 38 = .ok (.iaload, 1) := by decide +kernel
theorem d_Sha256_mix_39 : decode prog_8_method_3_code 39 = .ok (.istore 5, 2) := by decide +kernel
theorem d_Sha256_mix_41 : decode prog_8_method_3_code 41 = .ok (.aload_n 0, 1) := by decide +kernel
theorem d_Sha256_mix_42 : decode prog_8_method_3_code 42 = .ok (.getfield 13, 3) := by decide +kernel
theorem d_Sha256_mix_45 : decode prog_8_method_3_code 45 = .ok (.iconst 5, 1) := by decide +kernel
theorem d_Sha256_mix_46 : decode prog_8_method_3_code 46 = .ok (.iaload, 1) := by decide +kernel
theorem d_Sha256_mix_47 : decode prog_8_method_3_code 47 = .ok (.istore 6, 2) := by decide +kernel
theorem d_Sha256_mix_49 : decode prog_8_method_3_code 49 = .ok (.aload_n 0, 1) := by decide +kernel
theorem d_Sha256_mix_50 : decode prog_8_method_3_code 50 = .ok (.getfield 13, 3) := by decide +kernel
theorem d_Sha256_mix_53 : decode prog_8_method_3_code 53 = .ok (.bipush 6, 2) := by decide +kernel
theorem d_Sha256_mix_55 : decode prog_8_method_3_code 55 = .ok (.iaload, 1) := by decide +kernel
theorem d_Sha256_mix_56 : decode prog_8_method_3_code 56 = .ok (.istore 7, 2) := by decide +kernel
theorem d_Sha256_mix_58 : decode prog_8_method_3_code 58 = .ok (.aload_n 0, 1) := by decide +kernel
theorem d_Sha256_mix_59 : decode prog_8_method_3_code 59 = .ok (.getfield 13, 3) := by decide +kernel
theorem d_Sha256_mix_62 : decode prog_8_method_3_code 62 = .ok (.bipush 7, 2) := by decide +kernel
theorem d_Sha256_mix_64 : decode prog_8_method_3_code 64 = .ok (.iaload, 1) := by decide +kernel
theorem d_Sha256_mix_65 : decode prog_8_method_3_code 65 = .ok (.istore 8, 2) := by decide +kernel
theorem d_Sha256_mix_67 : decode prog_8_method_3_code 67 = .ok (.iconst 0, 1) := by decide +kernel
theorem d_Sha256_mix_68 : decode prog_8_method_3_code 68 = .ok (.istore 9, 2) := by decide +kernel
theorem d_Sha256_mix_70 : decode prog_8_method_3_code 70 = .ok (.iload 9, 2) := by decide +kernel
theorem d_Sha256_mix_72 : decode prog_8_method_3_code 72 = .ok (.bipush 64, 2) := by decide +kernel
theorem d_Sha256_mix_74 : decode prog_8_method_3_code 74 = .ok (.if_icmp .ge 139, 3) := by decide +kernel
theorem d_Sha256_mix_77 : decode prog_8_method_3_code 77 = .ok (.iload 5, 2) := by decide +kernel
theorem d_Sha256_mix_79 : decode prog_8_method_3_code 79 = .ok (.bipush 6, 2) := by decide +kernel
theorem d_Sha256_mix_81 : decode prog_8_method_3_code 81 = .ok (.invokestatic 26, 3) := by decide +kernel
theorem d_Sha256_mix_84 : decode prog_8_method_3_code 84 = .ok (.iload 5, 2) := by decide +kernel
theorem d_Sha256_mix_86 : decode prog_8_method_3_code 86 = .ok (.bipush 11, 2) := by decide +kernel
theorem d_Sha256_mix_88 : decode prog_8_method_3_code 88 = .ok (.invokestatic 26, 3) := by decide +kernel
theorem d_Sha256_mix_91 : decode prog_8_method_3_code 91 = .ok (.ixor, 1) := by decide +kernel
theorem d_Sha256_mix_92 : decode prog_8_method_3_code 92 = .ok (.iload 5, 2) := by decide +kernel
theorem d_Sha256_mix_94 : decode prog_8_method_3_code 94 = .ok (.bipush 25, 2) := by decide +kernel
theorem d_Sha256_mix_96 : decode prog_8_method_3_code 96 = .ok (.invokestatic 26, 3) := by decide +kernel
theorem d_Sha256_mix_99 : decode prog_8_method_3_code 99 = .ok (.ixor, 1) := by decide +kernel
theorem d_Sha256_mix_100 : decode prog_8_method_3_code 100 = .ok (.istore 10, 2) := by decide +kernel
theorem d_Sha256_mix_102 : decode prog_8_method_3_code 102 = .ok (.iload 8, 2) := by decide +kernel
theorem d_Sha256_mix_104 : decode prog_8_method_3_code 104 = .ok (.iload 10, 2) := by decide +kernel
theorem d_Sha256_mix_106 : decode prog_8_method_3_code 106 = .ok (.iadd, 1) := by decide +kernel
theorem d_Sha256_mix_107 : decode prog_8_method_3_code 107 = .ok (.iload 5, 2) := by decide +kernel
theorem d_Sha256_mix_109 : decode prog_8_method_3_code 109 = .ok (.iload 6, 2) := by decide +kernel
theorem d_Sha256_mix_111 : decode prog_8_method_3_code 111 = .ok (.iand, 1) := by decide +kernel
theorem d_Sha256_mix_112 : decode prog_8_method_3_code 112 = .ok (.iload 5, 2) := by decide +kernel
theorem d_Sha256_mix_114 : decode prog_8_method_3_code 114 = .ok (.iconst (-1), 1) := by decide +kernel
theorem d_Sha256_mix_115 : decode prog_8_method_3_code 115 = .ok (.ixor, 1) := by decide +kernel
theorem d_Sha256_mix_116 : decode prog_8_method_3_code 116 = .ok (.iload 7, 2) := by decide +kernel
theorem d_Sha256_mix_118 : decode prog_8_method_3_code 118 = .ok (.iand, 1) := by decide +kernel
theorem d_Sha256_mix_119 : decode prog_8_method_3_code 119 = .ok (.ixor, 1) := by decide +kernel
theorem d_Sha256_mix_120 : decode prog_8_method_3_code 120 = .ok (.iadd, 1) := by decide +kernel
theorem d_Sha256_mix_121 : decode prog_8_method_3_code 121 = .ok (.getstatic 30, 3) := by decide +kernel
theorem d_Sha256_mix_124 : decode prog_8_method_3_code 124 = .ok (.iload 9, 2) := by decide +kernel
theorem d_Sha256_mix_126 : decode prog_8_method_3_code 126 = .ok (.iaload, 1) := by decide +kernel
theorem d_Sha256_mix_127 : decode prog_8_method_3_code 127 = .ok (.iadd, 1) := by decide +kernel
theorem d_Sha256_mix_128 : decode prog_8_method_3_code 128 = .ok (.aload_n 0, 1) := by decide +kernel
theorem d_Sha256_mix_129 : decode prog_8_method_3_code 129 = .ok (.getfield 33, 3) := by decide +kernel
theorem d_Sha256_mix_132 : decode prog_8_method_3_code 132 = .ok (.iload 9, 2) := by decide +kernel
theorem d_Sha256_mix_134 : decode prog_8_method_3_code 134 = .ok (.iaload, 1) := by decide +kernel
theorem d_Sha256_mix_135 : decode prog_8_method_3_code 135 = .ok (.iadd, 1) := by decide +kernel
theorem d_Sha256_mix_136 : decode prog_8_method_3_code 136 = .ok (.istore 11, 2) := by decide +kernel
theorem d_Sha256_mix_138 : decode prog_8_method_3_code 138 = .ok (.iload_n 1, 1) := by decide +kernel
theorem d_Sha256_mix_139 : decode prog_8_method_3_code 139 = .ok (.iconst 2, 1) := by decide +kernel
theorem d_Sha256_mix_140 : decode prog_8_method_3_code 140 = .ok (.invokestatic 26, 3) := by decide +kernel
theorem d_Sha256_mix_143 : decode prog_8_method_3_code 143 = .ok (.iload_n 1, 1) := by decide +kernel
theorem d_Sha256_mix_144 : decode prog_8_method_3_code 144 = .ok (.bipush 13, 2) := by decide +kernel
theorem d_Sha256_mix_146 : decode prog_8_method_3_code 146 = .ok (.invokestatic 26, 3) := by decide +kernel
theorem d_Sha256_mix_149 : decode prog_8_method_3_code 149 = .ok (.ixor, 1) := by decide +kernel
theorem d_Sha256_mix_150 : decode prog_8_method_3_code 150 = .ok (.iload_n 1, 1) := by decide +kernel
theorem d_Sha256_mix_151 : decode prog_8_method_3_code 151 = .ok (.bipush 22, 2) := by decide +kernel
theorem d_Sha256_mix_153 : decode prog_8_method_3_code 153 = .ok (.invokestatic 26, 3) := by decide +kernel
theorem d_Sha256_mix_156 : decode prog_8_method_3_code 156 = .ok (.ixor, 1) := by decide +kernel
theorem d_Sha256_mix_157 : decode prog_8_method_3_code 157 = .ok (.istore 12, 2) := by decide +kernel
theorem d_Sha256_mix_159 : decode prog_8_method_3_code 159 = .ok (.iload 12, 2) := by decide +kernel
theorem d_Sha256_mix_161 : decode prog_8_method_3_code 161 = .ok (.iload_n 1, 1) := by decide +kernel
theorem d_Sha256_mix_162 : decode prog_8_method_3_code 162 = .ok (.iload_n 2, 1) := by decide +kernel
theorem d_Sha256_mix_163 : decode prog_8_method_3_code 163 = .ok (.iand, 1) := by decide +kernel
theorem d_Sha256_mix_164 : decode prog_8_method_3_code 164 = .ok (.iload_n 1, 1) := by decide +kernel
theorem d_Sha256_mix_165 : decode prog_8_method_3_code 165 = .ok (.iload_n 3, 1) := by decide +kernel
theorem d_Sha256_mix_166 : decode prog_8_method_3_code 166 = .ok (.iand, 1) := by decide +kernel
theorem d_Sha256_mix_167 : decode prog_8_method_3_code 167 = .ok (.ixor, 1) := by decide +kernel
theorem d_Sha256_mix_168 : decode prog_8_method_3_code 168 = .ok (.iload_n 2, 1) := by decide +kernel
theorem d_Sha256_mix_169 : decode prog_8_method_3_code 169 = .ok (.iload_n 3, 1) := by decide +kernel
theorem d_Sha256_mix_170 : decode prog_8_method_3_code 170 = .ok (.iand, 1) := by decide +kernel
theorem d_Sha256_mix_171 : decode prog_8_method_3_code 171 = .ok (.ixor, 1) := by decide +kernel
theorem d_Sha256_mix_172 : decode prog_8_method_3_code 172 = .ok (.iadd, 1) := by decide +kernel
theorem d_Sha256_mix_173 : decode prog_8_method_3_code 173 = .ok (.istore 13, 2) := by decide +kernel
theorem d_Sha256_mix_175 : decode prog_8_method_3_code 175 = .ok (.iload 7, 2) := by decide +kernel
theorem d_Sha256_mix_177 : decode prog_8_method_3_code 177 = .ok (.istore 8, 2) := by decide +kernel
theorem d_Sha256_mix_179 : decode prog_8_method_3_code 179 = .ok (.iload 6, 2) := by decide +kernel
theorem d_Sha256_mix_181 : decode prog_8_method_3_code 181 = .ok (.istore 7, 2) := by decide +kernel
theorem d_Sha256_mix_183 : decode prog_8_method_3_code 183 = .ok (.iload 5, 2) := by decide +kernel
theorem d_Sha256_mix_185 : decode prog_8_method_3_code 185 = .ok (.istore 6, 2) := by decide +kernel
theorem d_Sha256_mix_187 : decode prog_8_method_3_code 187 = .ok (.iload 4, 2) := by decide +kernel
theorem d_Sha256_mix_189 : decode prog_8_method_3_code 189 = .ok (.iload 11, 2) := by decide +kernel
theorem d_Sha256_mix_191 : decode prog_8_method_3_code 191 = .ok (.iadd, 1) := by decide +kernel
theorem d_Sha256_mix_192 : decode prog_8_method_3_code 192 = .ok (.istore 5, 2) := by decide +kernel
theorem d_Sha256_mix_194 : decode prog_8_method_3_code 194 = .ok (.iload_n 3, 1) := by decide +kernel
theorem d_Sha256_mix_195 : decode prog_8_method_3_code 195 = .ok (.istore 4, 2) := by decide +kernel
theorem d_Sha256_mix_197 : decode prog_8_method_3_code 197 = .ok (.iload_n 2, 1) := by decide +kernel
theorem d_Sha256_mix_198 : decode prog_8_method_3_code 198 = .ok (.istore_n 3, 1) := by decide +kernel
theorem d_Sha256_mix_199 : decode prog_8_method_3_code 199 = .ok (.iload_n 1, 1) := by decide +kernel
theorem d_Sha256_mix_200 : decode prog_8_method_3_code 200 = .ok (.istore_n 2, 1) := by decide +kernel
theorem d_Sha256_mix_201 : decode prog_8_method_3_code 201 = .ok (.iload 11, 2) := by decide +kernel
theorem d_Sha256_mix_203 : decode prog_8_method_3_code 203 = .ok (.iload 13, 2) := by decide +kernel
theorem d_Sha256_mix_205 : decode prog_8_method_3_code 205 = .ok (.iadd, 1) := by decide +kernel
theorem d_Sha256_mix_206 : decode prog_8_method_3_code 206 = .ok (.istore_n 1, 1) := by decide +kernel
theorem d_Sha256_mix_207 : decode prog_8_method_3_code 207 = .ok (.iinc 9 1, 3) := by decide +kernel
theorem d_Sha256_mix_210 : decode prog_8_method_3_code 210 = .ok (.goto (-140), 3) := by decide +kernel
theorem d_Sha256_mix_213 : decode prog_8_method_3_code 213 = .ok (.aload_n 0, 1) := by decide +kernel
theorem d_Sha256_mix_214 : decode prog_8_method_3_code 214 = .ok (.getfield 13, 3) := by decide +kernel
theorem d_Sha256_mix_217 : decode prog_8_method_3_code 217 = .ok (.iconst 0, 1) := by decide +kernel
theorem d_Sha256_mix_218 : decode prog_8_method_3_code 218 = .ok (.dup2, 1) := by decide +kernel
theorem d_Sha256_mix_219 : decode prog_8_method_3_code 219 = .ok (.iaload, 1) := by decide +kernel
theorem d_Sha256_mix_220 : decode prog_8_method_3_code 220 = .ok (.iload_n 1, 1) := by decide +kernel
theorem d_Sha256_mix_221 : decode prog_8_method_3_code 221 = .ok (.iadd, 1) := by decide +kernel
theorem d_Sha256_mix_222 : decode prog_8_method_3_code 222 = .ok (.iastore, 1) := by decide +kernel
theorem d_Sha256_mix_223 : decode prog_8_method_3_code 223 = .ok (.aload_n 0, 1) := by decide +kernel
theorem d_Sha256_mix_224 : decode prog_8_method_3_code 224 = .ok (.getfield 13, 3) := by decide +kernel
theorem d_Sha256_mix_227 : decode prog_8_method_3_code 227 = .ok (.iconst 1, 1) := by decide +kernel
theorem d_Sha256_mix_228 : decode prog_8_method_3_code 228 = .ok (.dup2, 1) := by decide +kernel
theorem d_Sha256_mix_229 : decode prog_8_method_3_code 229 = .ok (.iaload, 1) := by decide +kernel
theorem d_Sha256_mix_230 : decode prog_8_method_3_code 230 = .ok (.iload_n 2, 1) := by decide +kernel
theorem d_Sha256_mix_231 : decode prog_8_method_3_code 231 = .ok (.iadd, 1) := by decide +kernel
theorem d_Sha256_mix_232 : decode prog_8_method_3_code 232 = .ok (.iastore, 1) := by decide +kernel
theorem d_Sha256_mix_233 : decode prog_8_method_3_code 233 = .ok (.aload_n 0, 1) := by decide +kernel
theorem d_Sha256_mix_234 : decode prog_8_method_3_code 234 = .ok (.getfield 13, 3) := by decide +kernel
theorem d_Sha256_mix_237 : decode prog_8_method_3_code 237 = .ok (.iconst 2, 1) := by decide +kernel
theorem d_Sha256_mix_238 : decode prog_8_method_3_code 238 = .ok (.dup2, 1) := by decide +kernel
theorem d_Sha256_mix_239 : decode prog_8_method_3_code 239 = .ok (.iaload, 1) := by decide +kernel
theorem d_Sha256_mix_240 : decode prog_8_method_3_code 240 = .ok (.iload_n 3, 1) := by decide +kernel
theorem d_Sha256_mix_241 : decode prog_8_method_3_code 241 = .ok (.iadd, 1) := by decide +kernel
theorem d_Sha256_mix_242 : decode prog_8_method_3_code 242 = .ok (.iastore, 1) := by decide +kernel
theorem d_Sha256_mix_243 : decode prog_8_method_3_code 243 = .ok (.aload_n 0, 1) := by decide +kernel
theorem d_Sha256_mix_244 : decode prog_8_method_3_code 244 = .ok (.getfield 13, 3) := by decide +kernel
theorem d_Sha256_mix_247 : decode prog_8_method_3_code 247 = .ok (.iconst 3, 1) := by decide +kernel
theorem d_Sha256_mix_248 : decode prog_8_method_3_code 248 = .ok (.dup2, 1) := by decide +kernel
theorem d_Sha256_mix_249 : decode prog_8_method_3_code 249 = .ok (.iaload, 1) := by decide +kernel
theorem d_Sha256_mix_250 : decode prog_8_method_3_code 250 = .ok (.iload 4, 2) := by decide +kernel
theorem d_Sha256_mix_252 : decode prog_8_method_3_code 252 = .ok (.iadd, 1) := by decide +kernel
theorem d_Sha256_mix_253 : decode prog_8_method_3_code 253 = .ok (.iastore, 1) := by decide +kernel
theorem d_Sha256_mix_254 : decode prog_8_method_3_code 254 = .ok (.aload_n 0, 1) := by decide +kernel
theorem d_Sha256_mix_255 : decode prog_8_method_3_code 255 = .ok (.getfield 13, 3) := by decide +kernel
theorem d_Sha256_mix_258 : decode prog_8_method_3_code 258 = .ok (.iconst 4, 1) := by decide +kernel
theorem d_Sha256_mix_259 : decode prog_8_method_3_code 259 = .ok (.dup2, 1) := by decide +kernel
theorem d_Sha256_mix_260 : decode prog_8_method_3_code 260 = .ok (.iaload, 1) := by decide +kernel
theorem d_Sha256_mix_261 : decode prog_8_method_3_code 261 = .ok (.iload 5, 2) := by decide +kernel
theorem d_Sha256_mix_263 : decode prog_8_method_3_code 263 = .ok (.iadd, 1) := by decide +kernel
theorem d_Sha256_mix_264 : decode prog_8_method_3_code 264 = .ok (.iastore, 1) := by decide +kernel
theorem d_Sha256_mix_265 : decode prog_8_method_3_code 265 = .ok (.aload_n 0, 1) := by decide +kernel
theorem d_Sha256_mix_266 : decode prog_8_method_3_code 266 = .ok (.getfield 13, 3) := by decide +kernel
theorem d_Sha256_mix_269 : decode prog_8_method_3_code 269 = .ok (.iconst 5, 1) := by decide +kernel
theorem d_Sha256_mix_270 : decode prog_8_method_3_code 270 = .ok (.dup2, 1) := by decide +kernel
theorem d_Sha256_mix_271 : decode prog_8_method_3_code 271 = .ok (.iaload, 1) := by decide +kernel
theorem d_Sha256_mix_272 : decode prog_8_method_3_code 272 = .ok (.iload 6, 2) := by decide +kernel
theorem d_Sha256_mix_274 : decode prog_8_method_3_code 274 = .ok (.iadd, 1) := by decide +kernel
theorem d_Sha256_mix_275 : decode prog_8_method_3_code 275 = .ok (.iastore, 1) := by decide +kernel
theorem d_Sha256_mix_276 : decode prog_8_method_3_code 276 = .ok (.aload_n 0, 1) := by decide +kernel
theorem d_Sha256_mix_277 : decode prog_8_method_3_code 277 = .ok (.getfield 13, 3) := by decide +kernel
theorem d_Sha256_mix_280 : decode prog_8_method_3_code 280 = .ok (.bipush 6, 2) := by decide +kernel
theorem d_Sha256_mix_282 : decode prog_8_method_3_code 282 = .ok (.dup2, 1) := by decide +kernel
theorem d_Sha256_mix_283 : decode prog_8_method_3_code 283 = .ok (.iaload, 1) := by decide +kernel
theorem d_Sha256_mix_284 : decode prog_8_method_3_code 284 = .ok (.iload 7, 2) := by decide +kernel
theorem d_Sha256_mix_286 : decode prog_8_method_3_code 286 = .ok (.iadd, 1) := by decide +kernel
theorem d_Sha256_mix_287 : decode prog_8_method_3_code 287 = .ok (.iastore, 1) := by decide +kernel
theorem d_Sha256_mix_288 : decode prog_8_method_3_code 288 = .ok (.aload_n 0, 1) := by decide +kernel
theorem d_Sha256_mix_289 : decode prog_8_method_3_code 289 = .ok (.getfield 13, 3) := by decide +kernel
theorem d_Sha256_mix_292 : decode prog_8_method_3_code 292 = .ok (.bipush 7, 2) := by decide +kernel
theorem d_Sha256_mix_294 : decode prog_8_method_3_code 294 = .ok (.dup2, 1) := by decide +kernel
theorem d_Sha256_mix_295 : decode prog_8_method_3_code 295 = .ok (.iaload, 1) := by decide +kernel
theorem d_Sha256_mix_296 : decode prog_8_method_3_code 296 = .ok (.iload 8, 2) := by decide +kernel
theorem d_Sha256_mix_298 : decode prog_8_method_3_code 298 = .ok (.iadd, 1) := by decide +kernel
theorem d_Sha256_mix_299 : decode prog_8_method_3_code 299 = .ok (.iastore, 1) := by decide +kernel
theorem d_Sha256_mix_300 : decode prog_8_method_3_code 300 = .ok (.return_, 1) := by decide +kernel
theorem d_Desk_performDigest_0 : decode prog_1_method_19_code 0 = .ok (.iload_n 1, 1) := by decide +kernel
theorem d_Desk_performDigest_1 : decode prog_1_method_19_code 1 = .ok (.sipush 167, 3) := by decide +kernel
theorem d_Desk_performDigest_4 : decode prog_1_method_19_code 4 = .ok (.if_icmp .ne 5, 3) := by decide +kernel
theorem d_Desk_performDigest_7 : decode prog_1_method_19_code 7 = .ok (.iconst 4, 1) := by decide +kernel
theorem d_Desk_performDigest_8 : decode prog_1_method_19_code 8 = .ok (.ireturn, 1) := by decide +kernel
theorem d_Desk_performDigest_9 : decode prog_1_method_19_code 9 = .ok (.aload_n 0, 1) := by decide +kernel
theorem d_Desk_performDigest_10 : decode prog_1_method_19_code 10 = .ok (.getfield 26, 3) := by decide +kernel
theorem d_Desk_performDigest_13 : decode prog_1_method_19_code 13 = .ok (.getfield 90, 3) := by decide +kernel
theorem d_Desk_performDigest_16 : decode prog_1_method_19_code 16 = .ok (.iconst 1, 1) := by decide +kernel
theorem d_Desk_performDigest_17 : decode prog_1_method_19_code 17 = .ok (.if_icmp .ge 5, 3) := by decide +kernel
theorem d_Desk_performDigest_20 : decode prog_1_method_19_code 20 = .ok (.iconst 5, 1) := by decide +kernel
theorem d_Desk_performDigest_21 : decode prog_1_method_19_code 21 = .ok (.ireturn, 1) := by decide +kernel
theorem d_Desk_performDigest_22 : decode prog_1_method_19_code 22 = .ok (.iload_n 1, 1) := by decide +kernel
theorem d_Desk_performDigest_23 : decode prog_1_method_19_code 23 = .ok (.sipush 166, 3) := by decide +kernel
theorem d_Desk_performDigest_26 : decode prog_1_method_19_code 26 = .ok (.if_icmp .eq 14, 3) := by decide +kernel
theorem d_Desk_performDigest_29 : decode prog_1_method_19_code 29 = .ok (.aload_n 0, 1) := by decide +kernel
theorem d_Desk_performDigest_30 : decode prog_1_method_19_code 30 = .ok (.getfield 54, 3) := by decide +kernel
theorem d_Desk_performDigest_33 : decode prog_1_method_19_code 33 = .ok (.aload_n 0, 1) := by decide +kernel
theorem d_Desk_performDigest_34 : decode prog_1_method_19_code 34 = .ok (.getfield 26, 3) := by decide +kernel
theorem d_Desk_performDigest_37 : decode prog_1_method_19_code 37 = .ok (.invokevirtual 176, 3) := by decide +kernel
theorem d_Desk_performDigest_40 : decode prog_1_method_19_code 40 = .ok (.iload_n 1, 1) := by decide +kernel
theorem d_Desk_performDigest_41 : decode prog_1_method_19_code 41 = .ok (.sipush 170, 3) := by decide +kernel
theorem d_Desk_performDigest_44 : decode prog_1_method_19_code 44 = .ok (.if_icmp .ne 14, 3) := by decide +kernel
theorem d_Desk_performDigest_47 : decode prog_1_method_19_code 47 = .ok (.aload_n 0, 1) := by decide +kernel
theorem d_Desk_performDigest_48 : decode prog_1_method_19_code 48 = .ok (.getfield 54, 3) := by decide +kernel
theorem d_Desk_performDigest_51 : decode prog_1_method_19_code 51 = .ok (.aload_n 0, 1) := by decide +kernel
theorem d_Desk_performDigest_52 : decode prog_1_method_19_code 52 = .ok (.getfield 26, 3) := by decide +kernel
theorem d_Desk_performDigest_55 : decode prog_1_method_19_code 55 = .ok (.invokevirtual 176, 3) := by decide +kernel
theorem d_Desk_performDigest_58 : decode prog_1_method_19_code 58 = .ok (.iload_n 1, 1) := by decide +kernel
