theorem d_BlockDigest_write_43 : decode prog_2_method_7_code 43 = .ok (.goto (-27), 3) := by decide +kernel
theorem d_BlockDigest_write_46 : decode prog_2_method_7_code 46 = .ok (.return_, 1) := by decide +kernel
theorem d_BlockDigest_pad_0 : decode prog_2_method_5_code 0 = .ok (.iload_n 2, 1) := by decide +kernel
theorem d_BlockDigest_pad_1 : decode prog_2_method_5_code 1 = .ok (.bipush 9, 2) := by decide +kernel
theorem d_BlockDigest_pad_3 : decode prog_2_method_5_code 3 = .ok (.iadd, 1) := by decide +kernel
theorem d_BlockDigest_pad_4 : decode prog_2_method_5_code 4 = .ok (.bipush 64, 2) := by decide +kernel
theorem d_BlockDigest_pad_6 : decode prog_2_method_5_code 6 = .ok (.iadd, 1) := by decide +kernel
theorem d_BlockDigest_pad_7 : decode prog_2_method_5_code 7 = .ok (.iconst 1, 1) := by decide +kernel
theorem d_BlockDigest_pad_8 : decode prog_2_method_5_code 8 = .ok (.isub, 1) := by decide +kernel
theorem d_BlockDigest_pad_9 : decode prog_2_method_5_code 9 = .ok (.bipush 64, 2) := by decide +kernel
theorem d_BlockDigest_pad_11 : decode prog_2_method_5_code 11 = .ok (.idiv, 1) := by decide +kernel
theorem d_BlockDigest_pad_12 : decode prog_2_method_5_code 12 = .ok (.bipush 64, 2) := by decide +kernel
theorem d_BlockDigest_pad_14 : decode prog_2_method_5_code 14 = .ok (.imul, 1) := by decide +kernel
theorem d_BlockDigest_pad_15 : decode prog_2_method_5_code 15 = .ok (.istore_n 3, 1) := by decide +kernel
theorem d_BlockDigest_pad_16 : decode prog_2_method_5_code 16 = .ok (.aload_n 0, 1) := by decide +kernel
theorem d_BlockDigest_pad_17 : decode prog_2_method_5_code 17 = .ok (.getfield 11, 3) := by decide +kernel
theorem d_BlockDigest_pad_20 : decode prog_2_method_5_code 20 = .ok (.iconst 0, 1) := by decide +kernel
theorem d_BlockDigest_pad_21 : decode prog_2_method_5_code 21 = .ok (.invokestatic 59, 3) := by decide +kernel
theorem d_BlockDigest_pad_24 : decode prog_2_method_5_code 24 = .ok (.iconst 0, 1) := by decide +kernel
theorem d_BlockDigest_pad_25 : decode prog_2_method_5_code 25 = .ok (.istore 4, 2) := by decide +kernel
theorem d_BlockDigest_pad_27 : decode prog_2_method_5_code 27 = .ok (.iload 4, 2) := by decide +kernel
theorem d_BlockDigest_pad_29 : decode prog_2_method_5_code 29 = .ok (.iload_n 2, 1) := by decide +kernel
theorem d_BlockDigest_pad_30 : decode prog_2_method_5_code 30 = .ok (.if_icmp .ge 23, 3) := by decide +kernel
theorem d_BlockDigest_pad_33 : decode prog_2_method_5_code 33 = .ok (.aload_n 0, 1) := by decide +kernel
theorem d_BlockDigest_pad_34 : decode prog_2_method_5_code 34 = .ok (.getfield 11, 3) := by decide +kernel
theorem d_BlockDigest_pad_37 : decode prog_2_method_5_code 37 = .ok (.iload 4, 2) := by decide +kernel
theorem d_BlockDigest_pad_39 : decode prog_2_method_5_code 39 = .ok (.aload_n 1, 1) := by decide +kernel
theorem d_BlockDigest_pad_40 : decode prog_2_method_5_code 40 = .ok (.iconst 0, 1) := by decide +kernel
theorem d_BlockDigest_pad_41 : decode prog_2_method_5_code 41 = .ok (.iload 4, 2) := by decide +kernel
theorem d_BlockDigest_pad_43 : decode prog_2_method_5_code 43 = .ok (.invokevirtual 65, 3) := by decide +kernel
theorem d_BlockDigest_pad_46 : decode prog_2_method_5_code 46 = .ok (.iastore, 1) := by decide +kernel
theorem d_BlockDigest_pad_47 : decode prog_2_method_5_code 47 = .ok (.iinc 4 1, 3) := by decide +kernel
theorem d_BlockDigest_pad_50 : decode prog_2_method_5_code 50 = .ok (.goto (-23), 3) := by decide +kernel
theorem d_BlockDigest_pad_53 : decode prog_2_method_5_code 53 = .ok (.aload_n 0, 1) := by decide +kernel
theorem d_BlockDigest_pad_54 : decode prog_2_method_5_code 54 = .ok (.getfield 11, 3) := by decide +kernel
theorem d_BlockDigest_pad_57 : decode prog_2_method_5_code 57 = .ok (.iload_n 2, 1) := by decide +kernel
theorem d_BlockDigest_pad_58 : decode prog_2_method_5_code 58 = .ok (.sipush 128, 3) := by decide +kernel
theorem d_BlockDigest_pad_61 : decode prog_2_method_5_code 61 = .ok (.iastore, 1) := by decide +kernel
theorem d_BlockDigest_pad_62 : decode prog_2_method_5_code 62 = .ok (.aload_n 0, 1) := by decide +kernel
theorem d_BlockDigest_pad_63 : decode prog_2_method_5_code 63 = .ok (.bipush 8, 2) := by decide +kernel
theorem d_BlockDigest_pad_65 : decode prog_2_method_5_code 65 = .ok (.iload_n 2, 1) := by decide +kernel
theorem d_BlockDigest_pad_66 : decode prog_2_method_5_code 66 = .ok (.imul, 1) := by decide +kernel
theorem d_BlockDigest_pad_67 : decode prog_2_method_5_code 67 = .ok (.aload_n 0, 1) := by decide +kernel
theorem d_BlockDigest_pad_68 : decode prog_2_method_5_code 68 = .ok (.getfield 11, 3) := by decide +kernel
theorem d_BlockDigest_pad_71 : decode prog_2_method_5_code 71 = .ok (.aload_n 0, 1) := by decide +kernel
theorem d_BlockDigest_pad_72 : decode prog_2_method_5_code 72 = .ok (.getfield 15, 3) := by decide +kernel
theorem d_BlockDigest_pad_75 : decode prog_2_method_5_code 75 = .ok (.ifCond .eq 9, 3) := by decide +kernel
theorem d_BlockDigest_pad_78 : decode prog_2_method_5_code 78 = .ok (.iload_n 3, 1) := by decide +kernel
theorem d_BlockDigest_pad_79 : decode prog_2_method_5_code 79 = .ok (.iconst 4, 1) := by decide +kernel
theorem d_BlockDigest_pad_80 : decode prog_2_method_5_code 80 = .ok (.isub, 1) := by decide +kernel
theorem d_BlockDigest_pad_81 : decode prog_2_method_5_code 81 = .ok (.goto 7, 3) := by decide +kernel
theorem d_BlockDigest_pad_84 : decode prog_2_method_5_code 84 = .ok (.iload_n 3, 1) := by decide +kernel
theorem d_BlockDigest_pad_85 : decode prog_2_method_5_code 85 = .ok (.bipush 8, 2) := by decide +kernel
theorem d_BlockDigest_pad_87 : decode prog_2_method_5_code 87 = .ok (.isub, 1) := by decide +kernel
theorem d_BlockDigest_pad_88 : decode prog_2_method_5_code 88 = .ok (.invokevirtual 48, 3) := by decide +kernel
theorem d_BlockDigest_pad_91 : decode prog_2_method_5_code 91 = .ok (.iload_n 3, 1) := by decide +kernel
theorem d_BlockDigest_pad_92 : decode prog_2_method_5_code 92 = .ok (.ireturn, 1) := by decide +kernel
theorem d_Ripemd160_begin_0 : decode prog_7_method_2_code 0 = .ok (.getstatic 16, 3) := by decide +kernel
theorem d_Ripemd160_begin_3 : decode prog_7_method_2_code 3 = .ok (.iconst 0, 1) := by decide +kernel
theorem d_Ripemd160_begin_4 : decode prog_7_method_2_code 4 = .ok (.aload_n 0, 1) := by decide +kernel
theorem d_Ripemd160_begin_5 : decode prog_7_method_2_code 5 = .ok (.getfield 19, 3) := by decide +kernel
theorem d_Ripemd160_begin_8 : decode prog_7_method_2_code 8 = .ok (.iconst 0, 1) := by decide +kernel
theorem d_Ripemd160_begin_9 : decode prog_7_method_2_code 9 = .ok (.iconst 5, 1) := by decide +kernel
theorem d_Ripemd160_begin_10 : decode prog_7_method_2_code 10 = .ok (.invokestatic 22, 3) := by decide +kernel
theorem d_Ripemd160_begin_13 : decode prog_7_method_2_code 13 = .ok (.return_, 1) := by decide +kernel
theorem d_BlockDigest_readBlock_0 : decode prog_2_method_6_code 0 = .ok (.iload_n 1, 1) := by decide +kernel
theorem d_BlockDigest_readBlock_1 : decode prog_2_method_6_code 1 = .ok (.ifCond .lt 20, 3) := by decide +kernel
theorem d_BlockDigest_readBlock_4 : decode prog_2_method_6_code 4 = .ok (.iload_n 1, 1) := by decide +kernel
theorem d_BlockDigest_readBlock_5 : decode prog_2_method_6_code 5 = .ok (.sipush 128, 3) := by decide +kernel
theorem d_BlockDigest_readBlock_8 : decode prog_2_method_6_code 8 = .ok (.if_icmp .gt 13, 3) := by decide +kernel
theorem d_BlockDigest_readBlock_11 : decode prog_2_method_6_code 11 = .ok (.aload_n 0, 1) := by decide +kernel
theorem d_BlockDigest_readBlock_12 : decode prog_2_method_6_code 12 = .ok (.getfield 19, 3) := by decide +kernel
theorem d_BlockDigest_readBlock_15 : decode prog_2_method_6_code 15 = .ok (.arraylength, 1) := by decide +kernel
theorem d_BlockDigest_readBlock_16 : decode prog_2_method_6_code 16 = .ok (.bipush 16, 2) := by decide +kernel
theorem d_BlockDigest_readBlock_18 : decode prog_2_method_6_code 18 = .ok (.if_icmp .ge 4, 3) := by decide +kernel
theorem d_BlockDigest_readBlock_21 : decode prog_2_method_6_code 21 = .ok (.return_, 1) := by decide +kernel
theorem d_BlockDigest_readBlock_22 : decode prog_2_method_6_code 22 = .ok (.iconst 0, 1) := by decide +kernel
theorem d_BlockDigest_readBlock_23 : decode prog_2_method_6_code 23 = .ok (.istore_n 2, 1) := by decide +kernel
theorem d_BlockDigest_readBlock_24 : decode prog_2_method_6_code 24 = .ok (.iload_n 2, 1) := by decide +kernel
theorem d_BlockDigest_readBlock_25 : decode prog_2_method_6_code 25 = .ok (.bipush 16, 2) := by decide +kernel
theorem d_BlockDigest_readBlock_27 : decode prog_2_method_6_code 27 = .ok (.if_icmp .ge 56, 3) := by decide +kernel
theorem d_BlockDigest_readBlock_30 : decode prog_2_method_6_code 30 = .ok (.iconst 0, 1) := by decide +kernel
theorem d_BlockDigest_readBlock_31 : decode prog_2_method_6_code 31 = .ok (.istore_n 3, 1) := by decide +kernel
theorem d_BlockDigest_readBlock_32 : decode prog_2_method_6_code 32 = .ok (.iconst 0, 1) := by decide +kernel
theorem d_BlockDigest_readBlock_33 : decode prog_2_method_6_code 33 = .ok (.istore 4, 2) := by decide +kernel
theorem d_BlockDigest_readBlock_35 : decode prog_2_method_6_code 35 = .ok (.iload 4, 2) := by decide +kernel
theorem d_BlockDigest_readBlock_37 : decode prog_2_method_6_code 37 = .ok (.iconst 4, 1) := by decide +kernel
theorem d_BlockDigest_readBlock_38 : decode prog_2_method_6_code 38 = .ok (.if_icmp .ge 32, 3) := by decide +kernel
theorem d_BlockDigest_readBlock_41 : decode prog_2_method_6_code 41 = .ok (.iload_n 3, 1) := by decide +kernel
theorem d_BlockDigest_readBlock_42 : decode prog_2_method_6_code 42 = .ok (.aload_n 0, 1) := by decide +kernel
theorem d_BlockDigest_readBlock_43 : decode prog_2_method_6_code 43 = .ok (.getfield 11, 3) := by decide +kernel
theorem d_BlockDigest_readBlock_46 : decode prog_2_method_6_code 46 = .ok (.iload_n 1, 1) := by decide +kernel
theorem d_BlockDigest_readBlock_47 : decode prog_2_method_6_code 47 = .ok (.iconst 4, 1) := by decide +kernel
theorem d_BlockDigest_readBlock_48 : decode prog_2_method_6_code 48 = .ok (.iload_n 2, 1) := by decide +kernel
theorem d_BlockDigest_readBlock_49 : decode prog_2_method_6_code 49 = .ok (.imul, 1) := by decide +kernel
theorem d_BlockDigest_readBlock_50 : decode prog_2_method_6_code 50 = .ok (.iadd, 1) := by decide +kernel
theorem d_BlockDigest_readBlock_51 : decode prog_2_method_6_code 51 = .ok (.iload 4, 2) := by decide +kernel
theorem d_BlockDigest_readBlock_53 : decode prog_2_method_6_code 53 = .ok (.iadd, 1) := by decide +kernel
theorem d_BlockDigest_readBlock_54 : decode prog_2_method_6_code 54 = .ok (.iaload, 1) := by decide +kernel
theorem d_BlockDigest_readBlock_55 : decode prog_2_method_6_code 55 = .ok (.aload_n 0, 1) := by decide +kernel
theorem d_BlockDigest_readBlock_56 : decode prog_2_method_6_code 56 = .ok (.iload 4, 2) := by decide +kernel
theorem d_BlockDigest_readBlock_58 : decode prog_2_method_6_code 58 = .ok (.invokevirtual 69, 3) := by decide +kernel
theorem d_BlockDigest_readBlock_61 : decode prog_2_method_6_code 61 = .ok (.ishl, 1) := by decide +kernel
theorem d_BlockDigest_readBlock_62 : decode prog_2_method_6_code 62 = .ok (.ior, 1) := by decide +kernel
theorem d_BlockDigest_readBlock_63 : decode prog_2_method_6_code 63 = .ok (.istore_n 3, 1) := by decide +kernel
theorem d_BlockDigest_readBlock_64 : decode prog_2_method_6_code 64 = .ok (.iinc 4 1, 3) := by decide +kernel
theorem d_BlockDigest_readBlock_67 : decode prog_2_method_6_code 67 = .ok (.goto (-32), 3) := by decide +kernel
theorem d_BlockDigest_readBlock_70 : decode prog_2_method_6_code 70 = .ok (.aload_n 0, 1) := by decide +kernel
theorem d_BlockDigest_readBlock_71 : decode prog_2_method_6_code 71 = .ok (.getfield 19, 3) := by decide +kernel
theorem d_BlockDigest_readBlock_74 : decode prog_2_method_6_code 74 = .ok (.iload_n 2, 1) := by decide +kernel
theorem d_BlockDigest_readBlock_75 : decode prog_2_method_6_code 75 = .ok (.iload_n 3, 1) := by decide +kernel
theorem d_BlockDigest_readBlock_76 : decode prog_2_method_6_code 76 = .ok (.iastore, 1) := by decide +kernel
theorem d_BlockDigest_readBlock_77 : decode prog_2_method_6_code 77 = .ok (.iinc 2 1, 3) := by decide +kernel
theorem d_BlockDigest_readBlock_80 : decode prog_2_method_6_code 80 = .ok (.goto (-56), 3) := by decide +kernel
theorem d_BlockDigest_readBlock_83 : decode prog_2_method_6_code 83 = .ok (.return_, 1) := by decide +kernel
theorem d_Ripemd160_blend_0 : decode prog_7_method_5_code 0 = .ok (.iload_n 0, 1) := by decide +kernel
theorem d_Ripemd160_blend_1 : decode prog_7_method_5_code 1 = .ok (.tableswitch 65 0 3 #[31, 37, 47, 55], 31) := by decide +kernel
theorem d_Ripemd160_blend_32 : decode prog_7_method_5_code 32 = .ok (.iload_n 1, 1) := by decide +kernel
theorem d_Ripemd160_blend_33 : decode prog_7_method_5_code 33 = .ok (.iload_n 2, 1) := by decide +kernel
theorem d_Ripemd160_blend_34 : decode prog_7_method_5_code 34 = .ok (.ixor, 1) := by decide +kernel
theorem d_Ripemd160_blend_35 : decode prog_7_method_5_code 35 = .ok (.iload_n 3, 1) := by decide +kernel
theorem d_Ripemd160_blend_36 : decode prog_7_method_5_code 36 = .ok (.ixor, 1) := by decide +kernel
theorem d_Ripemd160_blend_37 : decode prog_7_method_5_code 37 = .ok (.ireturn, 1) := by decide +kernel
theorem d_Ripemd160_blend_38 : decode prog_7_method_5_code 38 = .ok (.iload_n 1, 1) := by decide +kernel
theorem d_Ripemd160_blend_39 : decode prog_7_method_5_code 39 = .ok (.iload_n 2, 1) := by decide +kernel
theorem d_Ripemd160_blend_40 : decode prog_7_method_5_code 40 = .ok (.iand, 1) := by decide +kernel
theorem d_Ripemd160_blend_41 : decode prog_7_method_5_code 41 = .ok (.iload_n 1, 1) := by decide +kernel
theorem d_Ripemd160_blend_42 : decode prog_7_method_5_code 42 = .ok (.iconst (-1), 1) := by decide +kernel
theorem d_Ripemd160_blend_43 : decode prog_7_method_5_code 43 = .ok (.ixor, 1) := by decide +kernel
theorem d_Ripemd160_blend_44 : decode prog_7_method_5_code 44 = .ok (.iload_n 3, 1) := by decide +kernel
theorem d_Ripemd160_blend_45 : decode prog_7_method_5_code 45 = .ok (.iand, 1) := by decide +kernel
theorem d_Ripemd160_blend_46 : decode prog_7_method_5_code 46 = .ok (.ior, 1) := by decide +kernel
theorem d_Ripemd160_blend_47 : decode prog_7_method_5_code 47 = .ok (.ireturn, 1) := by decide +kernel
theorem d_Ripemd160_blend_48 : decode prog_7_method_5_code 48 = .ok (.iload_n 1, 1) := by decide +kernel
theorem d_Ripemd160_blend_49 : decode prog_7_method_5_code 49 = .ok (.iload_n 2, 1) := by decide +kernel
theorem d_Ripemd160_blend_50 : decode prog_7_method_5_code 50 = .ok (.iconst (-1), 1) := by decide +kernel
theorem d_Ripemd160_blend_51 : decode prog_7_method_5_code 51 = .ok (.ixor, 1) := by decide +kernel
theorem d_Ripemd160_blend_52 : decode prog_7_method_5_code 52 = .ok (.ior, 1) := by decide +kernel
theorem d_Ripemd160_blend_53 : decode prog_7_method_5_code 53 = .ok (.iload_n 3, 1) := by decide +kernel
theorem d_Ripemd160_blend_54 : decode prog_7_method_5_code 54 = .ok (.ixor, 1) := by decide +kernel
theorem d_Ripemd160_blend_55 : decode prog_7_method_5_code 55 = .ok (.ireturn, 1) := by decide +kernel
theorem d_Ripemd160_blend_56 : decode prog_7_method_5_code 56 = .ok (.iload_n 1, 1) := by decide +kernel
theorem d_Ripemd160_blend_57 : decode prog_7_method_5_code 57 = .ok (.iload_n 3, 1) := by decide +kernel
theorem d_Ripemd160_blend_58 : decode prog_7_method_5_code 58 = .ok (.iand, 1) := by decide +kernel
theorem d_Ripemd160_blend_59 : decode prog_7_method_5_code 59 = .ok (.iload_n 2, 1) := by decide +kernel
theorem d_Ripemd160_blend_60 : decode prog_7_method_5_code 60 = .ok (.iload_n 3, 1) := by decide +kernel
theorem d_Ripemd160_blend_61 : decode prog_7_method_5_code 61 = .ok (.iconst (-1), 1) := by decide +kernel
theorem d_Ripemd160_blend_62 : decode prog_7_method_5_code 62 = .ok (.ixor, 1) := by decide +kernel
theorem d_Ripemd160_blend_63 : decode prog_7_method_5_code 63 = .ok (.iand, 1) := by decide +kernel
theorem d_Ripemd160_blend_64 : decode prog_7_method_5_code 64 = .ok (.ior, 1) := by decide +kernel
theorem d_Ripemd160_blend_65 : decode prog_7_method_5_code 65 = .ok (.ireturn, 1) := by decide +kernel
theorem d_Ripemd160_blend_66 : decode prog_7_method_5_code 66 = .ok (.iload_n 1, 1) := by decide +kernel
theorem d_Ripemd160_blend_67 : decode prog_7_method_5_code 67 = .ok (.iload_n 2, 1) := by decide +kernel
theorem d_Ripemd160_blend_68 : decode prog_7_method_5_code 68 = .ok (.iload_n 3, 1) := by decide +kernel
theorem d_Ripemd160_blend_69 : decode prog_7_method_5_code 69 = .ok (.iconst (-1), 1) := by decide +kernel
theorem d_Ripemd160_blend_70 : decode prog_7_method_5_code 70 = .ok (.ixor, 1) := by decide +kernel
theorem d_Ripemd160_blend_71 : decode prog_7_method_5_code 71 = .ok (.ior, 1) := by decide +kernel
theorem d_Ripemd160_blend_72 : decode prog_7_method_5_code 72 = .ok (.ixor, 1) := by decide +kernel
theorem d_Ripemd160_blend_73 : decode prog_7_method_5_code 73 = .ok (.ireturn, 1) := by decide +kernel
theorem d_Ripemd160_turned_0 : decode prog_7_method_6_code 0 = .ok (.iload_n 0, 1) := by decide +kernel
theorem d_Ripemd160_turned_1 : decode prog_7_method_6_code 1 = .ok (.iload_n 1, 1) := by decide +kernel
theorem d_Ripemd160_turned_2 : decode prog_7_method_6_code 2 = .ok (.ishl, 1) := by decide +kernel
theorem d_Ripemd160_turned_3 : decode prog_7_method_6_code 3 = .ok (.iload_n 0, 1) := by decide +kernel
theorem d_Ripemd160_turned_4 : decode prog_7_method_6_code 4 = .ok (.bipush 32, 2) := by decide +kernel
theorem d_Ripemd160_turned_6 : decode prog_7_method_6_code 6 = .ok (.iload_n 1, 1) := by decide +kernel
theorem d_Ripemd160_turned_7 : decode prog_7_method_6_code 7 = .ok (.isub, 1) := by decide +kernel
theorem d_Ripemd160_turned_8 : decode prog_7_method_6_code 8 = .ok (.iushr, 1) := by decide +kernel
theorem d_Ripemd160_turned_9 : decode prog_7_method_6_code 9 = .ok (.ior, 1) := by decide +kernel
theorem d_Ripemd160_turned_10 : decode prog_7_method_6_code 10 = .ok (.ireturn, 1) := by decide +kernel
theorem d_Ripemd160_step_0 : decode prog_7_method_4_code 0 = .ok (.aload_n 0, 1) := by decide +kernel
theorem d_Ripemd160_step_1 : decode prog_7_method_4_code 1 = .ok (.iconst 0, 1) := by decide +kernel
theorem d_Ripemd160_step_2 : decode prog_7_method_4_code 2 = .ok (.iaload, 1) := by decide +kernel
theorem d_Ripemd160_step_3 : decode prog_7_method_4_code 3 = .ok (.iload_n 1, 1) := by decide +kernel
theorem d_Ripemd160_step_4 : decode prog_7_method_4_code 4 = .ok (.aload_n 0, 1) := by decide +kernel
theorem d_Ripemd160_step_5 : decode prog_7_method_4_code 5 = .ok (.iconst 1, 1) := by decide +kernel
theorem d_Ripemd160_step_6 : decode prog_7_method_4_code 6 = .ok (.iaload, 1) := by decide +kernel
theorem d_Ripemd160_step_7 : decode prog_7_method_4_code 7 = .ok (.aload_n 0, 1) := by decide +kernel
theorem d_Ripemd160_step_8 : decode prog_7_method_4_code 8 = .ok (.iconst 2, 1) := by decide +kernel
theorem d_Ripemd160_step_9 : decode prog_7_method_4_code 9 = .ok (.iaload, 1) := by decide +kernel
theorem d_Ripemd160_step_10 : decode prog_7_method_4_code 10 = .ok (.aload_n 0, 1) := by decide +kernel
theorem d_Ripemd160_step_11 : decode prog_7_method_4_code 11 = .ok (.iconst 3, 1) := by decide +kernel
theorem d_Ripemd160_step_12 : decode prog_7_method_4_code 12 = .ok (.iaload, 1) := by decide +kernel
theorem d_Ripemd160_step_13 : decode prog_7_method_4_code 13 = .ok (.invokestatic 53, 3) := by decide +kernel
theorem d_Ripemd160_step_16 : decode prog_7_method_4_code 16 = .ok (.iadd, 1) := by decide +kernel
theorem d_Ripemd160_step_17 : decode prog_7_method_4_code 17 = .ok (.iload_n 2, 1) := by decide +kernel
theorem d_Ripemd160_step_18 : decode prog_7_method_4_code 18 = .ok (.iadd, 1) := by decide +kernel
theorem d_Ripemd160_step_19 : decode prog_7_method_4_code 19 = .ok (.istore 4, 2) := by decide +kernel
theorem d_Ripemd160_step_21 : decode prog_7_method_4_code 21 = .ok (.iload 4, 2) := by decide +kernel
theorem d_Ripemd160_step_23 : decode prog_7_method_4_code 23 = .ok (.iload_n 3, 1) := by decide +kernel
theorem d_Ripemd160_step_24 : decode prog_7_method_4_code 24 = .ok (.invokestatic 57, 3) := by decide +kernel
theorem d_Ripemd160_step_27 : decode prog_7_method_4_code 27 = .ok (.aload_n 0, 1) := by decide +kernel
theorem d_Ripemd160_step_28 : decode prog_7_method_4_code 28 = .ok (.iconst 4, 1) := by decide +kernel
theorem d_Ripemd160_step_29 : decode prog_7_method_4_code 29 = .ok (.iaload, 1) := by decide +kernel
theorem d_Ripemd160_step_30 : decode prog_7_method_4_code 30 = .ok (.iadd, 1) := by decide +kernel
theorem d_Ripemd160_step_31 : decode prog_7_method_4_code 31 = .ok (.istore 5, 2) := by decide +kernel
theorem d_Ripemd160_step_33 : decode prog_7_method_4_code 33 = .ok (.aload_n 0, 1) := by decide +kernel
theorem d_Ripemd160_step_34 : decode prog_7_method_4_code 34 = .ok (.iconst 0, 1) := by decide +kernel
theorem d_Ripemd160_step_35 : decode prog_7_method_4_code 35 = .ok (.aload_n 0, 1) := by decide +kernel
theorem d_Ripemd160_step_36 : decode prog_7_method_4_code 36 = .ok (.iconst 4, 1) := by decide +kernel
theorem d_Ripemd160_step_37 : decode prog_7_method_4_code 37 = .ok (.iaload, 1) := by decide +kernel
theorem d_Ripemd160_step_38 : decode prog_7_method_4_code 38 = .ok (.iastore, 1) := by decide +kernel
theorem d_Ripemd160_step_39 : decode prog_7_method_4_code 39 = .ok (.aload_n 0, 1) := by decide +kernel
theorem d_Ripemd160_step_40 : decode prog_7_method_4_code 40 = .ok (.iconst 4, 1) := by decide +kernel
theorem d_Ripemd160_step_41 : decode prog_7_method_4_code 41 = .ok (.aload_n 0, 1) := by decide +kernel
theorem d_Ripemd160_step_42 : decode prog_7_method_4_code 42 = .ok (.iconst 3, 1) := by decide +kernel
theorem d_Ripemd160_step_43 : decode prog_7_method_4_code 43 = .ok (.iaload, 1) := by decide +kernel
theorem d_Ripemd160_step_44 : decode prog_7_method_4_code 44 = .ok (.iastore, 1) := by decide +kernel
theorem d_Ripemd160_step_45 : decode prog_7_method_4_code 45 = .ok (.aload_n 0, 1) := by decide +kernel
theorem d_Ripemd160_step_46 : decode prog_7_method_4_code 46 = .ok (.iconst 3, 1) := by decide +kernel
theorem d_Ripemd160_step_47 : decode prog_7_method_4_code 47 = .ok (.aload_n 0, 1) := by decide +kernel
theorem d_Ripemd160_step_48 : decode prog_7_method_4_code 48 = .ok (.iconst 2, 1) := by decide +kernel
theorem d_Ripemd160_step_49 : decode prog_7_method_4_code 49 = .ok (.iaload, 1) := by decide +kernel
theorem d_Ripemd160_step_50 : decode prog_7_method_4_code 50 = .ok (.bipush 10, 2) := by decide +kernel
theorem d_Ripemd160_step_52 : decode prog_7_method_4_code 52 = .ok (.invokestatic 57, 3) := by decide +kernel
theorem d_Ripemd160_step_55 : decode prog_7_method_4_code 55 = .ok (.iastore, 1) := by decide +kernel
theorem d_Ripemd160_step_56 : decode prog_7_method_4_code 56 = .ok (.aload_n 0, 1) := by decide +kernel
theorem d_Ripemd160_step_57 : decode prog_7_method_4_code 57 = .ok (.iconst 2, 1) := by decide +kernel
theorem d_Ripemd160_step_58 : decode prog_7_method_4_code 58 = .ok (.aload_n 0, 1) := by decide +kernel
theorem d_Ripemd160_step_59 : decode prog_7_method_4_code 59 = .ok (.iconst 1, 1) := by decide +kernel
theorem d_Ripemd160_step_60 : decode prog_7_method_4_code 60 = .ok (.iaload, 1) := by decide +kernel
theorem d_Ripemd160_step_61 : decode prog_7_method_4_code 61 = .ok (.iastore, 1) := by decide +kernel
theorem d_Ripemd160_step_62 : decode prog_7_method_4_code 62 = .ok (.aload_n 0, 1) := by decide +kernel
theorem d_Ripemd160_step_63 : decode prog_7_method_4_code 63 = .ok (.iconst 1, 1) := by decide +kernel
theorem d_Ripemd160_step_64 : decode prog_7_method_4_code 64 = .ok (.iload 5, 2) := by decide +kernel
theorem d_Ripemd160_step_66 : decode prog_7_method_4_code 66 = .ok (.iastore, 1) := by decide +kernel
theorem d_Ripemd160_step_67 : decode prog_7_method_4_code 67 = .ok (.return_, 1) := by decide +kernel
theorem d_Ripemd160_mix_0 : decode prog_7_method_3_code 0 = .ok (.aload_n 0, 1) := by decide +kernel
theorem d_Ripemd160_mix_1 : decode prog_7_method_3_code 1 = .ok (.getfield 19, 3) := by decide +kernel
theorem d_Ripemd160_mix_4 : decode prog_7_method_3_code 4 = .ok (.iconst 0, 1) := by decide +kernel
theorem d_Ripemd160_mix_5 : decode prog_7_method_3_code 5 = .ok (.aload_n 0, 1) := by decide +kernel
theorem d_Ripemd160_mix_6 : decode prog_7_method_3_code 6 = .ok (.getfield 7, 3) := by decide +kernel
theorem d_Ripemd160_mix_9 : decode prog_7_method_3_code 9 = .ok (.iconst 0, 1) := by decide +kernel
theorem d_Ripemd160_mix_10 : decode prog_7_method_3_code 10 = .ok (.iconst 5, 1) := by decide +kernel
theorem d_Ripemd160_mix_11 : decode prog_7_method_3_code 11 = .ok (.invokestatic 22, 3) := by decide +kernel
theorem d_Ripemd160_mix_14 : decode prog_7_method_3_code 14 = .ok (.aload_n 0, 1) := by decide +kernel
theorem d_Ripemd160_mix_15 : decode prog_7_method_3_code 15 = .ok (.getfield 19, 3) := by decide +kernel
theorem d_Ripemd160_mix_18 : decode prog_7_method_3_code 18 = .ok (.iconst 0, 1) := by decide +kernel
theorem d_Ripemd160_mix_19 : decode prog_7_method_3_code 19 = .ok (.aload_n 0, 1) := by decide +kernel
theorem d_Ripemd160_mix_20 : decode prog_7_method_3_code 20 = .ok (.getfield 13, 3) := by decide +kernel
theorem d_Ripemd160_mix_23 : decode prog_7_method_3_code 23 = .ok (.iconst 0, 1) := by decide +kernel
theorem d_Ripemd160_mix_24 : decode prog_7_method_3_code 24 = .ok (.iconst 5, 1) := by decide +kernel
theorem d_Ripemd160_mix_25 : decode prog_7_method_3_code 25 = .ok (.invokestatic 22, 3) := by decide +kernel
theorem d_Ripemd160_mix_28 : decode prog_7_method_3_code 28 = .ok (.iconst 0, 1) := by decide +kernel
theorem d_Ripemd160_mix_29 : decode prog_7_method_3_code 29 = .ok (.istore_n 1, 1) := by decide +kernel
theorem d_Ripemd160_mix_30 : decode prog_7_method_3_code 30 = .ok (.iload_n 1, 1) := by decide +kernel
theorem d_Ripemd160_mix_31 : decode prog_7_method_3_code 31 = .ok (.bipush 80, 2) := by decide +kernel
theorem d_Ripemd160_mix_33 : decode prog_7_method_3_code 33 = .ok (.if_icmp .ge 74, 3) := by decide +kernel
theorem d_Ripemd160_mix_36 : decode prog_7_method_3_code 36 = .ok (.iload_n 1, 1) := by decide +kernel
theorem d_Ripemd160_mix_37 : decode prog_7_method_3_code 37 = .ok (.bipush 16, 2) := by decide +kernel
theorem d_Ripemd160_mix_39 : decode prog_7_method_3_code 39 = .ok (.idiv, 1) := by decide +kernel
theorem d_Ripemd160_mix_40 : decode prog_7_method_3_code 40 = .ok (.istore_n 2, 1) := by decide +kernel
theorem d_Ripemd160_mix_41 : decode prog_7_method_3_code 41 = .ok (.aload_n 0, 1) := by decide +kernel
theorem d_Ripemd160_mix_42 : decode prog_7_method_3_code 42 = .ok (.getfield 7, 3) := by decide +kernel
theorem d_Ripemd160_mix_45 : decode prog_7_method_3_code 45 = .ok (.iload_n 2, 1) := by decide +kernel
theorem d_Ripemd160_mix_46 : decode prog_7_method_3_code 46 = .ok (.aload_n 0, 1) := by decide +kernel
theorem d_Ripemd160_mix_47 : decode prog_7_method_3_code 47 = .ok (.getfield 28, 3) := by decide +kernel
theorem d_Ripemd160_mix_50 : decode prog_7_method_3_code 50 = .ok (.getstatic 31, 3) := by decide +kernel
theorem d_Ripemd160_mix_53 : decode prog_7_method_3_code 53 = .ok (.iload_n 1, 1) := by decide +kernel
theorem d_Ripemd160_mix_54 : decode prog_7_method_3_code 54 = .ok (.iaload, 1) := by decide +kernel
theorem d_Ripemd160_mix_55 : decode prog_7_method_3_code 55 = .ok (.iaload, 1) := by decide +kernel
theorem d_Ripemd160_mix_56 : decode prog_7_method_3_code 56 = .ok (.getstatic 34, 3) := by decide +kernel
theorem d_Ripemd160_mix_59 : decode prog_7_method_3_code 59 = .ok (.iload_n 2, 1) := by decide +kernel
theorem d_Ripemd160_mix_60 : decode prog_7_method_3_code 60 = .ok (.iaload, 1) := by decide +kernel
theorem d_Ripemd160_mix_61 : decode prog_7_method_3_code 61 = .ok (.iadd, 1) := by decide +kernel
theorem d_Ripemd160_mix_62 : decode prog_7_method_3_code 62 = .ok (.getstatic 37, 3) := by decide +kernel
theorem d_Ripemd160_mix_65 : decode prog_7_method_3_code 65 = .ok (.iload_n 1, 1) := by decide +kernel
theorem d_Ripemd160_mix_66 : decode prog_7_method_3_code 66 = .ok (.iaload, 1) := by decide +kernel
theorem d_Ripemd160_mix_67 : decode prog_7_method_3_code 67 = .ok (.invokestatic 40, 3) := by decide +kernel
theorem d_Ripemd160_mix_70 : decode prog_7_method_3_code 70 = .ok (.aload_n 0, 1) := by decide +kernel
theorem d_Ripemd160_mix_71 : decode prog_7_method_3_code 71 = .ok (.getfield 13, 3) := by decide +kernel
theorem d_Ripemd160_mix_74 : decode prog_7_method_3_code 74 = .ok (.iconst 4, 1) := by decide +kernel
theorem d_Ripemd160_mix_75 : decode prog_7_method_3_code 75 = .ok (.iload_n 2, 1) := by decide +kernel
theorem d_Ripemd160_mix_76 : decode prog_7_method_3_code 76 = .ok (.isub, 1) := by decide +kernel
theorem d_Ripemd160_mix_77 : decode prog_7_method_3_code 77 = .ok (.aload_n 0, 1) := by decide +kernel
theorem d_Ripemd160_mix_78 : decode prog_7_method_3_code 78 = .ok (.getfield 28, 3) := by decide +kernel
theorem d_Ripemd160_mix_81 : decode prog_7_method_3_code 81 = .ok (.getstatic 44, 3) := by decide +kernel
theorem d_Ripemd160_mix_84 : decode prog_7_method_3_code 84 = .ok (.iload_n 1, 1) := by decide +kernel
theorem d_Ripemd160_mix_85 : decode prog_7_method_3_code 85 = .ok (.iaload, 1) := by decide +kernel
theorem d_Ripemd160_mix_86 : decode prog_7_method_3_code 86 = .ok (.iaload, 1) := by decide +kernel
theorem d_Ripemd160_mix_87 : decode prog_7_method_3_code 87 = .ok (.getstatic 47, 3) := by decide +kernel
theorem d_Ripemd160_mix_90 : decode prog_7_method_3_code 90 = .ok (.iload_n 2, 1) := by decide +kernel
theorem d_Ripemd160_mix_91 : decode prog_7_method_3_code 91 = .ok (.iaload, 1) := by decide +kernel
theorem d_Ripemd160_mix_92 : decode prog_7_method_3_code 92 = .ok (.iadd, 1) := by decide +kernel
theorem d_Ripemd160_mix_93 : decode prog_7_method_3_code 93 = .ok (.getstatic 50, 3) := by decide +kernel
theorem d_Ripemd160_mix_96 : decode prog_7_method_3_code 96 = .ok (.iload_n 1, 1) := by decide +kernel
theorem d_Ripemd160_mix_97 : decode prog_7_method_3_code 97 = .ok (.iaload, 1) := by decide +kernel
theorem d_Ripemd160_mix_98 : decode prog_7_method_3_code 98 = .ok (.invokestatic 40, 3) := by decide +kernel
theorem d_Ripemd160_mix_101 : decode prog_7_method_3_code 101 = .ok (.iinc 1 1, 3) := by decide +kernel
theorem d_Ripemd160_mix_104 : decode prog_7_method_3_code 104 = .ok (.goto (-74), 3) := by decide +kernel
theorem d_Ripemd160_mix_107 : decode prog_7_method_3_code 107 = .ok (.aload_n 0, 1) := by decide +kernel
theorem d_Ripemd160_mix_108 : decode prog_7_method_3_code 108 = .ok (.getfield 19, 3) := by decide +kernel
theorem d_Ripemd160_mix_111 : decode prog_7_method_3_code 111 = .ok (.iconst 1, 1) := by decide +kernel
theorem d_Ripemd160_mix_112 : decode prog_7_method_3_code 112 = .ok (.iaload, 1) := by decide +kernel
theorem d_Ripemd160_mix_113 : decode prog_7_method_3_code 113 = .ok (.aload_n 0, 1) := by decide +kernel
theorem d_Ripemd160_mix_114 : decode prog_7_method_3_code 114 = .ok (.getfield 7, 3) := by decide +kernel
theorem d_Ripemd160_mix_117 : decode prog_7_method_3_code 117 = .ok (.iconst 2, 1) := by decide +kernel
theorem d_Ripemd160_mix_118 : decode prog_7_method_3_code 118 = .ok (.iaload, 1) := by decide +kernel
theorem d_Ripemd160_mix_119 : decode prog_7_method_3_code 119 = .ok (.iadd, 1) := by decide +kernel
theorem d_Ripemd160_mix_120 : decode prog_7_method_3_code 120 = .ok (.aload_n 0, 1) := by decide +kernel
theorem d_Ripemd160_mix_121 : decode prog_7_method_3_code 121 = .ok (.getfield 13, 3) := by decide +kernel
theorem d_Ripemd160_mix_124 : decode prog_7_method_3_code 124 = .ok (.iconst 3, 1) := by decide +kernel
theorem d_Ripemd160_mix_125 : decode prog_7_method_3_code 125 = .ok (.iaload, 1) := by decide +kernel
theorem d_Ripemd160_mix_126 : decode prog_7_method_3_code 126 = .ok (.iadd, 1) := by decide +kernel
theorem d_Ripemd160_mix_127 : decode prog_7_method_3_code 127 = .ok (.istore_n 1, 1) := by decide +kernel
theorem d_Ripemd160_mix_128 : decode prog_7_method_3_code 128 = .ok (.aload_n 0, 1) := by decide +kernel
theorem d_Ripemd160_mix_129 : decode prog_7_method_3_code 129 = .ok (.getfield 19, 3) := by decide +kernel
theorem d_Ripemd160_mix_132 : decode prog_7_method_3_code 132 = .ok (.iconst 1, 1) := by decide +kernel
theorem d_Ripemd160_mix_133 : decode prog_7_method_3_code 133 = .ok (.aload_n 0, 1) := by decide +kernel
theorem d_Ripemd160_mix_134 : decode prog_7_method_3_code 134 = .ok (.getfield 19, 3) := by decide +kernel
theorem d_Ripemd160_mix_137 : decode prog_7_method_3_code 137 = .ok (.iconst 2, 1) := by decide +kernel
theorem d_Ripemd160_mix_138 : decode prog_7_method_3_code 138 = .ok (.iaload, 1) := by decide +kernel
theorem d_Ripemd160_mix_139 : decode prog_7_method_3_code 139 = .ok (.aload_n 0, 1) := by decide +kernel
theorem d_Ripemd160_mix_140 : decode prog_7_method_3_code 140 = .ok (.getfield 7, 3) := by decide +kernel
theorem d_Ripemd160_mix_143 : decode prog_7_method_3_code 143 = .ok (.iconst 3, 1) := by decide +kernel
theorem d_Ripemd160_mix_144 : decode prog_7_method_3_code 144 = .ok (.iaload, 1) := by decide +kernel
theorem d_Ripemd160_mix_145 : decode prog_7_method_3_code 145 = .ok (.iadd, 1) := by decide +kernel
theorem d_Ripemd160_mix_146 : decode prog_7_method_3_code 146 = .ok (.aload_n 0, 1) := by decide +kernel
theorem d_Ripemd160_mix_147 : decode prog_7_method_3_code 147 = .ok (.getfield 13, 3) := by decide +kernel
theorem d_Ripemd160_mix_150 : decode prog_7_method_3_code 150 = .ok (.iconst 4, 1) := by decide +kernel
theorem d_Ripemd160_mix_151 : decode prog_7_method_3_code 151 = .ok (.iaload, 1) := by decide +kernel
theorem d_Ripemd160_mix_152 : decode prog_7_method_3_code 152 = .ok (.iadd, 1) := by decide +kernel
theorem d_Ripemd160_mix_153 : decode prog_7_method_3_code 153 = .ok (.iastore, 1) := by decide +kernel
theorem d_Ripemd160_mix_154 : decode prog_7_method_3_code 154 = .ok (.aload_n 0, 1) := by decide +kernel
theorem d_Ripemd160_mix_155 : decode prog_7_method_3_code 155 = .ok (.getfield 19, 3) := by decide +kernel
theorem d_Ripemd160_mix_158 : decode prog_7_method_3_code 158 = .ok (.iconst 2, 1) := by decide +kernel
theorem d_Ripemd160_mix_159 : decode prog_7_method_3_code 159 = .ok (.aload_n 0, 1) := by decide +kernel
theorem d_Ripemd160_mix_160 : decode prog_7_method_3_code 160 = .ok (.getfield 19, 3) := by decide +kernel
theorem d_Ripemd160_mix_163 : decode prog_7_method_3_code 163 = .ok (.iconst 3, 1) := by decide +kernel
theorem d_Ripemd160_mix_164 : decode prog_7_method_3_code 164 = .ok (.iaload, 1) := by decide +kernel
theorem d_Ripemd160_mix_165 : decode prog_7_method_3_code 165 = .ok (.aload_n 0, 1) := by decide +kernel
theorem d_Ripemd160_mix_166 : decode prog_7_method_3_code 166 = .ok (.getfield 7, 3) := by decide +kernel
theorem d_Ripemd160_mix_169 : decode prog_7_method_3_code 169 = .ok (.iconst 4, 1) := by decide +kernel
theorem d_Ripemd160_mix_170 : decode prog_7_method_3_code 170 = .ok (.iaload, 1) := by decide +kernel
theorem d_Ripemd160_mix_171 : decode prog_7_method_3_code 171 = .ok (.iadd, 1) := by decide +kernel
theorem d_Ripemd160_mix_172 : decode prog_7_method_3_code 172 = .ok (.aload_n 0, 1) := by decide +kernel
theorem d_Ripemd160_mix_173 : decode prog_7_method_3_code 173 = .ok (.getfield 13, 3) := by decide +kernel
theorem d_Ripemd160_mix_176 : decode prog_7_method_3_code 176 = .ok (.iconst 0, 1) := by decide +kernel
theorem d_Ripemd160_mix_177 : decode prog_7_method_3_code 177 = .ok (.iaload, 1) := by decide +kernel
theorem d_Ripemd160_mix_178 : decode prog_7_method_3_code 178 = .ok (.iadd, 1) := by decide +kernel
theorem d_Ripemd160_mix_179 : decode prog_7_method_3_code 179 = .ok (.iastore, 1) := by decide +kernel
theorem d_Ripemd160_mix_180 : decode prog_7_method_3_code 180 = .ok (.aload_n 0, 1) := by decide +kernel
theorem d_Ripemd160_mix_181 : decode prog_7_method_3_code 181 = .ok (.getfield 19, 3) := by decide +kernel
theorem d_Ripemd160_mix_184 : decode prog_7_method_3_code 184 = .ok (.iconst 3, 1) := by decide +kernel
theorem d_Ripemd160_mix_185 : decode prog_7_method_3_code 185 = .ok (.aload_n 0, 1) := by decide +kernel
theorem d_Ripemd160_mix_186 : decode prog_7_method_3_code 186 = .ok (.getfield 19, 3) := by decide +kernel
theorem d_Ripemd160_mix_189 : decode prog_7_method_3_code 189 = .ok (.iconst 4, 1) := by decide +kernel
theorem d_Ripemd160_mix_190 : decode prog_7_method_3_code 190 = .ok (.iaload, 1) := by decide +kernel
theorem d_Ripemd160_mix_191 : decode prog_7_method_3_code 191 = .ok (.aload_n 0, 1) := by decide +kernel
theorem d_Ripemd160_mix_192 : decode prog_7_method_3_code 192 = .ok (.getfield 7, 3) := by decide +kernel
theorem d_Ripemd160_mix_195 : decode prog_7_method_3_code 195 = .ok (.iconst 0, 1) := by decide +kernel
theorem d_Ripemd160_mix_196 : decode prog_7_method_3_code 196 = .ok (.iaload, 1) := by decide +kernel
theorem d_Ripemd160_mix_197 : decode prog_7_method_3_code 197 = .ok (.iadd, 1) := by decide +kernel
theorem d_Ripemd160_mix_198 : decode prog_7_method_3_code 198 = .ok (.aload_n 0, 1) := by decide +kernel
theorem d_Ripemd160_mix_199 : decode prog_7_method_3_code 199 = .ok (.getfield 13, 3) := by decide +kernel
theorem d_Ripemd160_mix_202 : decode prog_7_method_3_code 202 = .ok (.iconst 1, 1) := by decide +kernel
theorem d_Ripemd160_mix_203 : decode prog_7_method_3_code 203 = .ok (.iaload, 1) := by decide +kernel
theorem d_Ripemd160_mix_204 : decode prog_7_method_3_code 204 = .ok (.iadd, 1) := by decide +kernel
theorem d_Ripemd160_mix_205 : decode prog_7_method_3_code 205 = .ok (.iastore, 1) := by decide +kernel
theorem d_Ripemd160_mix_206 : decode prog_7_method_3_code 206 = .ok (.aload_n 0, 1) := by decide +kernel
theorem d_Ripemd160_mix_207 : decode prog_7_method_3_code 207 = .ok (.getfield 19, 3) := by decide +kernel
theorem d_Ripemd160_mix_210 : decode prog_7_method_3_code 210 = .ok (.iconst 4, 1) := by decide +kernel
theorem d_Ripemd160_mix_211 : decode prog_7_method_3_code 211 = .ok (.aload_n 0, 1) := by decide +kernel
theorem d_Ripemd160_mix_212 : decode prog_7_method_3_code 212 = .ok (.getfield 19, 3) := by decide +kernel
theorem d_Ripemd160_mix_215 : decode prog_7_method_3_code 215 = .ok (.iconst 0, 1) := by decide +kernel
theorem d_Ripemd160_mix_216 : decode prog_7_method_3_code 216 = .ok (.iaload, 1) := by decide +kernel
theorem d_Ripemd160_mix_217 : decode prog_7_method_3_code 217 = .ok (.aload_n 0, 1) := by decide +kernel
theorem d_Ripemd160_mix_218 : decode prog_7_method_3_code 218 = .ok (.getfield 7, 3) := by decide +kernel
theorem d_Ripemd160_mix_221 : decode prog_7_method_3_code 221 = .ok (.iconst 1, 1) := by decide +kernel
theorem d_Ripemd160_mix_222 : decode prog_7_method_3_code 222 = .ok (.iaload, 1) := by decide +kernel
theorem d_Ripemd160_mix_223 : decode prog_7_method_3_code 223 = .ok (.iadd, 1) := by decide +kernel
theorem d_Ripemd160_mix_224 : decode prog_7_method_3_code 224 = .ok (.aload_n 0, 1) := by decide +kernel
theorem d_Ripemd160_mix_225 : decode prog_7_method_3_code 225 = .ok (.getfield 13, 3) := by decide +kernel
theorem d_Ripemd160_mix_228 : decode prog_7_method_3_code 228 = .ok (.iconst 2, 1) := by decide +kernel
theorem d_Ripemd160_mix_229 : decode prog_7_method_3_code 229 = .ok (.iaload, 1) := by decide +kernel
theorem d_Ripemd160_mix_230 : decode prog_7_method_3_code 230 = .ok (.iadd, 1) := by decide +kernel
theorem d_Ripemd160_mix_231 : decode prog_7_method_3_code 231 = .ok (.iastore, 1) := by decide +kernel
theorem d_Ripemd160_mix_232 : decode prog_7_method_3_code 232 = .ok (.aload_n 0, 1) := by decide +kernel
theorem d_Ripemd160_mix_233 : decode prog_7_method_3_code 233 = .ok (.getfield 19, 3) := by decide +kernel
theorem d_Ripemd160_mix_236 : decode prog_7_method_3_code 236 = .ok (.iconst 0, 1) := by decide +kernel
theorem d_Ripemd160_mix_237 : decode prog_7_method_3_code 237 = .ok (.iload_n 1, 1) := by decide +kernel
theorem d_Ripemd160_mix_238 : decode prog_7_method_3_code 238 = .ok (.iastore, 1) := by decide +kernel
theorem d_Ripemd160_mix_239 : decode prog_7_method_3_code 239 = .ok (.return_, 1) := by decide +kernel
theorem d_Elements_push_0 : decode prog_3_method_11_code 0 = .ok (.iload_n 2, 1) := by decide +kernel
theorem d_Elements_push_1 : decode prog_3_method_11_code 1 = .ok (.ifCond .lt 35, 3) := by decide +kernel
theorem d_Elements_push_4 : decode prog_3_method_11_code 4 = .ok (.iload_n 3, 1) := by decide +kernel
theorem d_Elements_push_5 : decode prog_3_method_11_code 5 = .ok (.ifCond .lt 31, 3) := by decide +kernel
theorem d_Elements_push_8 : decode prog_3_method_11_code 8 = .ok (.iload_n 3, 1) := by decide +kernel
theorem d_Elements_push_9 : decode prog_3_method_11_code 9 = .ok (.bipush 120, 2) := by decide +kernel
theorem d_Elements_push_11 : decode prog_3_method_11_code 11 = .ok (.if_icmp .gt 25, 3) := by decide +kernel
theorem d_Elements_push_14 : decode prog_3_method_11_code 14 = .ok (.iload_n 3, 1) := by decide +kernel
theorem d_Elements_push_15 : decode prog_3_method_11_code 15 = .ok (.aload_n 1, 1) := by decide +kernel
theorem d_Elements_push_16 : decode prog_3_method_11_code 16 = .ok (.arraylength, 1) := by decide +kernel
theorem d_Elements_push_17 : decode prog_3_method_11_code 17 = .ok (.iload_n 2, 1) := by decide +kernel
theorem d_Elements_push_18 : decode prog_3_method_11_code 18 = .ok (.isub, 1) := by decide +kernel
theorem d_Elements_push_19 : decode prog_3_method_11_code 19 = .ok (.if_icmp .gt 17, 3) := by decide +kernel
theorem d_Elements_push_22 : decode prog_3_method_11_code 22 = .ok (.aload_n 0, 1) := by decide +kernel
theorem d_Elements_push_23 : decode prog_3_method_11_code 23 = .ok (.getfield 21, 3) := by decide +kernel
theorem d_Elements_push_26 : decode prog_3_method_11_code 26 = .ok (.aload_n 0, 1) := by decide +kernel
theorem d_Elements_push_27 : decode prog_3_method_11_code 27 = .ok (.getfield 25, 3) := by decide +kernel
theorem d_Elements_push_30 : decode prog_3_method_11_code 30 = .ok (.iadd, 1) := by decide +kernel
