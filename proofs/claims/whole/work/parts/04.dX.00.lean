theorem d_Desk_put_0 : decode prog_1_method_2_code 0 = .ok (.iload_n 3, 1) := by decide +kernel
theorem d_Desk_put_1 : decode prog_1_method_2_code 1 = .ok (.iconst 1, 1) := by decide +kernel
theorem d_Desk_put_2 : decode prog_1_method_2_code 2 = .ok (.if_icmp .lt 21, 3) := by decide +kernel
theorem d_Desk_put_5 : decode prog_1_method_2_code 5 = .ok (.iload_n 3, 1) := by decide +kernel
theorem d_Desk_put_6 : decode prog_1_method_2_code 6 = .ok (.bipush 8, 2) := by decide +kernel
theorem d_Desk_put_8 : decode prog_1_method_2_code 8 = .ok (.if_icmp .gt 15, 3) := by decide +kernel
theorem d_Desk_put_11 : decode prog_1_method_2_code 11 = .ok (.aload_n 0, 1) := by decide +kernel
theorem d_Desk_put_12 : decode prog_1_method_2_code 12 = .ok (.getfield 13, 3) := by decide +kernel
theorem d_Desk_put_15 : decode prog_1_method_2_code 15 = .ok (.iload_n 3, 1) := by decide +kernel
theorem d_Desk_put_16 : decode prog_1_method_2_code 16 = .ok (.iadd, 1) := by decide +kernel
theorem d_Desk_put_17 : decode prog_1_method_2_code 17 = .ok (.sipush 200, 3) := by decide +kernel
theorem d_Desk_put_20 : decode prog_1_method_2_code 20 = .ok (.if_icmp .le 5, 3) := by decide +kernel
theorem d_Desk_put_23 : decode prog_1_method_2_code 23 = .ok (.iconst 0, 1) := by decide +kernel
theorem d_Desk_put_24 : decode prog_1_method_2_code 24 = .ok (.ireturn, 1) := by decide +kernel
theorem d_Desk_put_25 : decode prog_1_method_2_code 25 = .ok (.bipush 8, 2) := by decide +kernel
theorem d_Desk_put_27 : decode prog_1_method_2_code 27 = .ok (.iload_n 3, 1) := by decide +kernel
theorem d_Desk_put_28 : decode prog_1_method_2_code 28 = .ok (.iconst 1, 1) := by decide +kernel
theorem d_Desk_put_29 : decode prog_1_method_2_code 29 = .ok (.isub, 1) := by decide +kernel
theorem d_Desk_put_30 : decode prog_1_method_2_code 30 = .ok (.imul, 1) := by decide +kernel
theorem d_Desk_put_31 : decode prog_1_method_2_code 31 = .ok (.istore 4, 2) := by decide +kernel
theorem d_Desk_put_33 : decode prog_1_method_2_code 33 = .ok (.iload 4, 2) := by decide +kernel
theorem d_Desk_put_35 : decode prog_1_method_2_code 35 = .ok (.ifCond .lt 37, 3) := by decide +kernel
theorem d_Desk_put_38 : decode prog_1_method_2_code 38 = .ok (.aload_n 0, 1) := by decide +kernel
theorem d_Desk_put_39 : decode prog_1_method_2_code 39 = .ok (.getfield 9, 3) := by decide +kernel
theorem d_Desk_put_42 : decode prog_1_method_2_code 42 = .ok (.aload_n 0, 1) := by decide +kernel
theorem d_Desk_put_43 : decode prog_1_method_2_code 43 = .ok (.getfield 13, 3) := by decide +kernel
theorem d_Desk_put_46 : decode prog_1_method_2_code 46 = .ok (.lload_n 1, 1) := by decide +kernel
theorem d_Desk_put_47 : decode prog_1_method_2_code 47 = .ok (.iload 4, 2) := by decide +kernel
theorem d_Desk_put_49 : decode prog_1_method_2_code 49 = .ok (.lushr, 1) := by decide +kernel
theorem d_Desk_put_50 : decode prog_1_method_2_code 50 = .ok (.ldc2_w 64, 3) := by decide +kernel
theorem d_Desk_put_53 : decode prog_1_method_2_code 53 = .ok (.land, 1) := by decide +kernel
theorem d_Desk_put_54 : decode prog_1_method_2_code 54 = .ok (.l2i, 1) := by decide +kernel
theorem d_Desk_put_55 : decode prog_1_method_2_code 55 = .ok (.iastore, 1) := by decide +kernel
theorem d_Desk_put_56 : decode prog_1_method_2_code 56 = .ok (.aload_n 0, 1) := by decide +kernel
theorem d_Desk_put_57 : decode prog_1_method_2_code 57 = .ok (.dup, 1) := by decide +kernel
theorem d_Desk_put_58 : decode prog_1_method_2_code 58 = .ok (.getfield 13, 3) := by decide +kernel
theorem d_Desk_put_61 : decode prog_1_method_2_code 61 = .ok (.iconst 1, 1) := by decide +kernel
theorem d_Desk_put_62 : decode prog_1_method_2_code 62 = .ok (.iadd, 1) := by decide +kernel
theorem d_Desk_put_63 : decode prog_1_method_2_code 63 = .ok (.putfield 13, 3) := by decide +kernel
theorem d_Desk_put_66 : decode prog_1_method_2_code 66 = .ok (.iinc 4 (-8), 3) := by decide +kernel
theorem d_Desk_put_69 : decode prog_1_method_2_code 69 = .ok (.goto (-36), 3) := by decide +kernel
theorem d_Desk_put_72 : decode prog_1_method_2_code 72 = .ok (.iconst 1, 1) := by decide +kernel
theorem d_Desk_put_73 : decode prog_1_method_2_code 73 = .ok (.ireturn, 1) := by decide +kernel
theorem d_Desk_secret_0 : decode prog_1_method_3_code 0 = .ok (.aload_n 0, 1) := by decide +kernel
theorem d_Desk_secret_1 : decode prog_1_method_3_code 1 = .ok (.getfield 47, 3) := by decide +kernel
theorem d_Desk_secret_4 : decode prog_1_method_3_code 4 = .ok (.iload_n 1, 1) := by decide +kernel
theorem d_Desk_secret_5 : decode prog_1_method_3_code 5 = .ok (.putfield 66, 3) := by decide +kernel
theorem d_Desk_secret_8 : decode prog_1_method_3_code 8 = .ok (.return_, 1) := by decide +kernel
theorem d_Flow_restart_0 : decode prog_4_method_2_code 0 = .ok (.aload_n 0, 1) := by decide +kernel
theorem d_Flow_restart_1 : decode prog_4_method_2_code 1 = .ok (.iconst 0, 1) := by decide +kernel
theorem d_Flow_restart_2 : decode prog_4_method_2_code 2 = .ok (.putfield 7, 3) := by decide +kernel
theorem d_Flow_restart_5 : decode prog_4_method_2_code 5 = .ok (.aload_n 0, 1) := by decide +kernel
theorem d_Flow_restart_6 : decode prog_4_method_2_code 6 = .ok (.iconst 0, 1) := by decide +kernel
theorem d_Flow_restart_7 : decode prog_4_method_2_code 7 = .ok (.putfield 13, 3) := by decide +kernel
theorem d_Flow_restart_10 : decode prog_4_method_2_code 10 = .ok (.return_, 1) := by decide +kernel
theorem d_Desk_restart_0 : decode prog_1_method_12_code 0 = .ok (.aload_n 0, 1) := by decide +kernel
theorem d_Desk_restart_1 : decode prog_1_method_12_code 1 = .ok (.iconst 0, 1) := by decide +kernel
theorem d_Desk_restart_2 : decode prog_1_method_12_code 2 = .ok (.putfield 13, 3) := by decide +kernel
theorem d_Desk_restart_5 : decode prog_1_method_12_code 5 = .ok (.aload_n 0, 1) := by decide +kernel
theorem d_Desk_restart_6 : decode prog_1_method_12_code 6 = .ok (.iconst 0, 1) := by decide +kernel
theorem d_Desk_restart_7 : decode prog_1_method_12_code 7 = .ok (.putfield 17, 3) := by decide +kernel
theorem d_Desk_restart_10 : decode prog_1_method_12_code 10 = .ok (.aload_n 0, 1) := by decide +kernel
theorem d_Desk_restart_11 : decode prog_1_method_12_code 11 = .ok (.iconst (-1), 1) := by decide +kernel
theorem d_Desk_restart_12 : decode prog_1_method_12_code 12 = .ok (.putfield 20, 3) := by decide +kernel
theorem d_Desk_restart_15 : decode prog_1_method_12_code 15 = .ok (.aload_n 0, 1) := by decide +kernel
theorem d_Desk_restart_16 : decode prog_1_method_12_code 16 = .ok (.getfield 33, 3) := by decide +kernel
theorem d_Desk_restart_19 : decode prog_1_method_12_code 19 = .ok (.iconst 0, 1) := by decide +kernel
theorem d_Desk_restart_20 : decode prog_1_method_12_code 20 = .ok (.putfield 107, 3) := by decide +kernel
theorem d_Desk_restart_23 : decode prog_1_method_12_code 23 = .ok (.aload_n 0, 1) := by decide +kernel
theorem d_Desk_restart_24 : decode prog_1_method_12_code 24 = .ok (.getfield 47, 3) := by decide +kernel
theorem d_Desk_restart_27 : decode prog_1_method_12_code 27 = .ok (.iconst 0, 1) := by decide +kernel
theorem d_Desk_restart_28 : decode prog_1_method_12_code 28 = .ok (.putfield 110, 3) := by decide +kernel
theorem d_Desk_restart_31 : decode prog_1_method_12_code 31 = .ok (.aload_n 0, 1) := by decide +kernel
theorem d_Desk_restart_32 : decode prog_1_method_12_code 32 = .ok (.getfield 40, 3) := by decide +kernel
theorem d_Desk_restart_35 : decode prog_1_method_12_code 35 = .ok (.invokevirtual 113, 3) := by decide +kernel
theorem d_Desk_restart_38 : decode prog_1_method_12_code 38 = .ok (.return_, 1) := by decide +kernel
theorem d_Flow_isDone_0 : decode prog_4_method_4_code 0 = .ok (.aload_n 0, 1) := by decide +kernel
theorem d_Flow_isDone_1 : decode prog_4_method_4_code 1 = .ok (.getfield 13, 3) := by decide +kernel
theorem d_Flow_isDone_4 : decode prog_4_method_4_code 4 = .ok (.ifCond .ne 7, 3) := by decide +kernel
theorem d_Flow_isDone_7 : decode prog_4_method_4_code 7 = .ok (.iconst 1, 1) := by decide +kernel
theorem d_Flow_isDone_8 : decode prog_4_method_4_code 8 = .ok (.goto 4, 3) := by decide +kernel
theorem d_Flow_isDone_11 : decode prog_4_method_4_code 11 = .ok (.iconst 0, 1) := by decide +kernel
theorem d_Flow_isDone_12 : decode prog_4_method_4_code 12 = .ok (.ireturn, 1) := by decide +kernel
theorem d_Elements_lengthAt_0 : decode prog_3_method_3_code 0 = .ok (.iload_n 1, 1) := by decide +kernel
theorem d_Elements_lengthAt_1 : decode prog_3_method_3_code 1 = .ok (.ifCond .lt 11, 3) := by decide +kernel
theorem d_Elements_lengthAt_4 : decode prog_3_method_3_code 4 = .ok (.iload_n 1, 1) := by decide +kernel
theorem d_Elements_lengthAt_5 : decode prog_3_method_3_code 5 = .ok (.aload_n 0, 1) := by decide +kernel
theorem d_Elements_lengthAt_6 : decode prog_3_method_3_code 6 = .ok (.getfield 21, 3) := by decide +kernel
theorem d_Elements_lengthAt_9 : decode prog_3_method_3_code 9 = .ok (.if_icmp .lt 5, 3) := by decide +kernel
theorem d_Elements_lengthAt_12 : decode prog_3_method_3_code 12 = .ok (.iconst (-1), 1) := by decide +kernel
theorem d_Elements_lengthAt_13 : decode prog_3_method_3_code 13 = .ok (.ireturn, 1) := by decide +kernel
theorem d_Elements_lengthAt_14 : decode prog_3_method_3_code 14 = .ok (.aload_n 0, 1) := by decide +kernel
theorem d_Elements_lengthAt_15 : decode prog_3_method_3_code 15 = .ok (.getfield 15, 3) := by decide +kernel
theorem d_Elements_lengthAt_18 : decode prog_3_method_3_code 18 = .ok (.aload_n 0, 1) := by decide +kernel
theorem d_Elements_lengthAt_19 : decode prog_3_method_3_code 19 = .ok (.getfield 18, 3) := by decide +kernel
theorem d_Elements_lengthAt_22 : decode prog_3_method_3_code 22 = .ok (.aload_n 0, 1) := by decide +kernel
theorem d_Elements_lengthAt_23 : decode prog_3_method_3_code 23 = .ok (.getfield 21, 3) := by decide +kernel
theorem d_Elements_lengthAt_26 : decode prog_3_method_3_code 26 = .ok (.iconst 1, 1) := by decide +kernel
theorem d_Elements_lengthAt_27 : decode prog_3_method_3_code 27 = .ok (.isub, 1) := by decide +kernel
theorem d_Elements_lengthAt_28 : decode prog_3_method_3_code 28 = .ok (.iload_n 1, 1) := by decide +kernel
theorem d_Elements_lengthAt_29 : decode prog_3_method_3_code 29 = .ok (.isub, 1) := by decide +kernel
theorem d_Elements_lengthAt_30 : decode prog_3_method_3_code 30 = .ok (.iaload, 1) := by decide +kernel
theorem d_Elements_lengthAt_31 : decode prog_3_method_3_code 31 = .ok (.iaload, 1) := by decide +kernel
theorem d_Elements_lengthAt_32 : decode prog_3_method_3_code 32 = .ok (.ireturn, 1) := by decide +kernel
theorem d_Elements_octetAt_0 : decode prog_3_method_4_code 0 = .ok (.iload_n 1, 1) := by decide +kernel
theorem d_Elements_octetAt_1 : decode prog_3_method_4_code 1 = .ok (.ifCond .lt 11, 3) := by decide +kernel
theorem d_Elements_octetAt_4 : decode prog_3_method_4_code 4 = .ok (.iload_n 1, 1) := by decide +kernel
theorem d_Elements_octetAt_5 : decode prog_3_method_4_code 5 = .ok (.aload_n 0, 1) := by decide +kernel
theorem d_Elements_octetAt_6 : decode prog_3_method_4_code 6 = .ok (.getfield 21, 3) := by decide +kernel
theorem d_Elements_octetAt_9 : decode prog_3_method_4_code 9 = .ok (.if_icmp .lt 5, 3) := by decide +kernel
theorem d_Elements_octetAt_12 : decode prog_3_method_4_code 12 = .ok (.iconst (-1), 1) := by decide +kernel
theorem d_Elements_octetAt_13 : decode prog_3_method_4_code 13 = .ok (.ireturn, 1) := by decide +kernel
theorem d_Elements_octetAt_14 : decode prog_3_method_4_code 14 = .ok (.aload_n 0, 1) := by decide +kernel
theorem d_Elements_octetAt_15 : decode prog_3_method_4_code 15 = .ok (.getfield 18, 3) := by decide +kernel
theorem d_Elements_octetAt_18 : decode prog_3_method_4_code 18 = .ok (.aload_n 0, 1) := by decide +kernel
theorem d_Elements_octetAt_19 : decode prog_3_method_4_code 19 = .ok (.getfield 21, 3) := by decide +kernel
theorem d_Elements_octetAt_22 : decode prog_3_method_4_code 22 = .ok (.iconst 1, 1) := by decide +kernel
theorem d_Elements_octetAt_23 : decode prog_3_method_4_code 23 = .ok (.isub, 1) := by decide +kernel
theorem d_Elements_octetAt_24 : decode prog_3_method_4_code 24 = .ok (.iload_n 1, 1) := by decide +kernel
theorem d_Elements_octetAt_25 : decode prog_3_method_4_code 25 = .ok (.isub, 1) := by decide +kernel
theorem d_Elements_octetAt_26 : decode prog_3_method_4_code 26 = .ok (.iaload, 1) := by decide +kernel
theorem d_Elements_octetAt_27 : decode prog_3_method_4_code 27 = .ok (.istore_n 3, 1) := by decide +kernel
theorem d_Elements_octetAt_28 : decode prog_3_method_4_code 28 = .ok (.iload_n 2, 1) := by decide +kernel
theorem d_Elements_octetAt_29 : decode prog_3_method_4_code 29 = .ok (.ifCond .lt 13, 3) := by decide +kernel
theorem d_Elements_octetAt_32 : decode prog_3_method_4_code 32 = .ok (.iload_n 2, 1) := by decide +kernel
theorem d_Elements_octetAt_33 : decode prog_3_method_4_code 33 = .ok (.aload_n 0, 1) := by decide +kernel
theorem d_Elements_octetAt_34 : decode prog_3_method_4_code 34 = .ok (.getfield 15, 3) := by decide +kernel
theorem d_Elements_octetAt_37 : decode prog_3_method_4_code 37 = .ok (.iload_n 3, 1) := by decide +kernel
theorem d_Elements_octetAt_38 : decode prog_3_method_4_code 38 = .ok (.iaload, 1) := by decide +kernel
theorem d_Elements_octetAt_39 : decode prog_3_method_4_code 39 = .ok (.if_icmp .lt 5, 3) := by decide +kernel
theorem d_Elements_octetAt_42 : decode prog_3_method_4_code 42 = .ok (.iconst (-1), 1) := by decide +kernel
theorem d_Elements_octetAt_43 : decode prog_3_method_4_code 43 = .ok (.ireturn, 1) := by decide +kernel
theorem d_Elements_octetAt_44 : decode prog_3_method_4_code 44 = .ok (.aload_n 0, 1) := by decide +kernel
theorem d_Elements_octetAt_45 : decode prog_3_method_4_code 45 = .ok (.getfield 11, 3) := by decide +kernel
theorem d_Elements_octetAt_48 : decode prog_3_method_4_code 48 = .ok (.iload_n 3, 1) := by decide +kernel
theorem d_Elements_octetAt_49 : decode prog_3_method_4_code 49 = .ok (.bipush 120, 2) := by decide +kernel
theorem d_Elements_octetAt_51 : decode prog_3_method_4_code 51 = .ok (.imul, 1) := by decide +kernel
theorem d_Elements_octetAt_52 : decode prog_3_method_4_code 52 = .ok (.iload_n 2, 1) := by decide +kernel
theorem d_Elements_octetAt_53 : decode prog_3_method_4_code 53 = .ok (.iadd, 1) := by decide +kernel
theorem d_Elements_octetAt_54 : decode prog_3_method_4_code 54 = .ok (.iaload, 1) := by decide +kernel
theorem d_Elements_octetAt_55 : decode prog_3_method_4_code 55 = .ok (.ireturn, 1) := by decide +kernel
theorem d_Elements_topHolds_0 : decode prog_3_method_5_code 0 = .ok (.aload_n 0, 1) := by decide +kernel
theorem d_Elements_topHolds_1 : decode prog_3_method_5_code 1 = .ok (.iconst 0, 1) := by decide +kernel
theorem d_Elements_topHolds_2 : decode prog_3_method_5_code 2 = .ok (.invokevirtual 28, 3) := by decide +kernel
theorem d_Elements_topHolds_5 : decode prog_3_method_5_code 5 = .ok (.iconst 1, 1) := by decide +kernel
theorem d_Elements_topHolds_6 : decode prog_3_method_5_code 6 = .ok (.isub, 1) := by decide +kernel
theorem d_Elements_topHolds_7 : decode prog_3_method_5_code 7 = .ok (.istore_n 1, 1) := by decide +kernel
theorem d_Elements_topHolds_8 : decode prog_3_method_5_code 8 = .ok (.iconst 0, 1) := by decide +kernel
theorem d_Elements_topHolds_9 : decode prog_3_method_5_code 9 = .ok (.istore_n 2, 1) := by decide +kernel
theorem d_Elements_topHolds_10 : decode prog_3_method_5_code 10 = .ok (.iload_n 2, 1) := by decide +kernel
theorem d_Elements_topHolds_11 : decode prog_3_method_5_code 11 = .ok (.iload_n 1, 1) := by decide +kernel
theorem d_Elements_topHolds_12 : decode prog_3_method_5_code 12 = .ok (.if_icmp .ge 20, 3) := by decide +kernel
theorem d_Elements_topHolds_15 : decode prog_3_method_5_code 15 = .ok (.aload_n 0, 1) := by decide +kernel
theorem d_Elements_topHolds_16 : decode prog_3_method_5_code 16 = .ok (.iconst 0, 1) := by decide +kernel
theorem d_Elements_topHolds_17 : decode prog_3_method_5_code 17 = .ok (.iload_n 2, 1) := by decide +kernel
theorem d_Elements_topHolds_18 : decode prog_3_method_5_code 18 = .ok (.invokevirtual 32, 3) := by decide +kernel
theorem d_Elements_topHolds_21 : decode prog_3_method_5_code 21 = .ok (.ifCond .eq 5, 3) := by decide +kernel
theorem d_Elements_topHolds_24 : decode prog_3_method_5_code 24 = .ok (.iconst 1, 1) := by decide +kernel
theorem d_Elements_topHolds_25 : decode prog_3_method_5_code 25 = .ok (.ireturn, 1) := by decide +kernel
theorem d_Elements_topHolds_26 : decode prog_3_method_5_code 26 = .ok (.iinc 2 1, 3) := by decide +kernel
theorem d_Elements_topHolds_29 : decode prog_3_method_5_code 29 = .ok (.goto (-19), 3) := by decide +kernel
theorem d_Elements_topHolds_32 : decode prog_3_method_5_code 32 = .ok (.aload_n 0, 1) := by decide +kernel
theorem d_Elements_topHolds_33 : decode prog_3_method_5_code 33 = .ok (.iconst 0, 1) := by decide +kernel
theorem d_Elements_topHolds_34 : decode prog_3_method_5_code 34 = .ok (.iload_n 1, 1) := by decide +kernel
theorem d_Elements_topHolds_35 : decode prog_3_method_5_code 35 = .ok (.invokevirtual 32, 3) := by decide +kernel
theorem d_Elements_topHolds_38 : decode prog_3_method_5_code 38 = .ok (.istore_n 2, 1) := by decide +kernel
theorem d_Elements_topHolds_39 : decode prog_3_method_5_code 39 = .ok (.iload_n 2, 1) := by decide +kernel
theorem d_Elements_topHolds_40 : decode prog_3_method_5_code 40 = .ok (.ifCond .le 14, 3) := by decide +kernel
theorem d_Elements_topHolds_43 : decode prog_3_method_5_code 43 = .ok (.iload_n 2, 1) := by decide +kernel
theorem d_Elements_topHolds_44 : decode prog_3_method_5_code 44 = .ok (.sipush 128, 3) := by decide +kernel
theorem d_Elements_topHolds_47 : decode prog_3_method_5_code 47 = .ok (.if_icmp .eq 7, 3) := by decide +kernel
theorem d_Elements_topHolds_50 : decode prog_3_method_5_code 50 = .ok (.iconst 1, 1) := by decide +kernel
theorem d_Elements_topHolds_51 : decode prog_3_method_5_code 51 = .ok (.goto 4, 3) := by decide +kernel
theorem d_Elements_topHolds_54 : decode prog_3_method_5_code 54 = .ok (.iconst 0, 1) := by decide +kernel
theorem d_Elements_topHolds_55 : decode prog_3_method_5_code 55 = .ok (.ireturn, 1) := by decide +kernel
theorem d_Elements_drop_0 : decode prog_3_method_9_code 0 = .ok (.aload_n 0, 1) := by decide +kernel
theorem d_Elements_drop_1 : decode prog_3_method_9_code 1 = .ok (.iconst 0, 1) := by decide +kernel
theorem d_Elements_drop_2 : decode prog_3_method_9_code 2 = .ok (.aload_n 0, 1) := by decide +kernel
theorem d_Elements_drop_3 : decode prog_3_method_9_code 3 = .ok (.getfield 21, 3) := by decide +kernel
theorem d_Elements_drop_6 : decode prog_3_method_9_code 6 = .ok (.iload_n 1, 1) := by decide +kernel
theorem d_Elements_drop_7 : decode prog_3_method_9_code 7 = .ok (.isub, 1) := by decide +kernel
theorem d_Elements_drop_8 : decode prog_3_method_9_code 8 = .ok (.invokestatic 38, 3) := by decide +kernel
theorem d_Elements_drop_11 : decode prog_3_method_9_code 11 = .ok (.putfield 21, 3) := by decide +kernel
theorem d_Elements_drop_14 : decode prog_3_method_9_code 14 = .ok (.return_, 1) := by decide +kernel
theorem d_Flow_enter_0 : decode prog_4_method_5_code 0 = .ok (.aload_n 0, 1) := by decide +kernel
theorem d_Flow_enter_1 : decode prog_4_method_5_code 1 = .ok (.dup, 1) := by decide +kernel
theorem d_Flow_enter_2 : decode prog_4_method_5_code 2 = .ok (.getfield 7, 3) := by decide +kernel
theorem d_Flow_enter_5 : decode prog_4_method_5_code 5 = .ok (.iconst 1, 1) := by decide +kernel
theorem d_Flow_enter_6 : decode prog_4_method_5_code 6 = .ok (.iadd, 1) := by decide +kernel
theorem d_Flow_enter_7 : decode prog_4_method_5_code 7 = .ok (.putfield 7, 3) := by decide +kernel
theorem d_Flow_enter_10 : decode prog_4_method_5_code 10 = .ok (.iload_n 1, 1) := by decide +kernel
theorem d_Flow_enter_11 : decode prog_4_method_5_code 11 = .ok (.ifCond .ne 18, 3) := by decide +kernel
theorem d_Flow_enter_14 : decode prog_4_method_5_code 14 = .ok (.aload_n 0, 1) := by decide +kernel
theorem d_Flow_enter_15 : decode prog_4_method_5_code 15 = .ok (.getfield 13, 3) := by decide +kernel
theorem d_Flow_enter_18 : decode prog_4_method_5_code 18 = .ok (.ifCond .ne 11, 3) := by decide +kernel
theorem d_Flow_enter_21 : decode prog_4_method_5_code 21 = .ok (.aload_n 0, 1) := by decide +kernel
theorem d_Flow_enter_22 : decode prog_4_method_5_code 22 = .ok (.aload_n 0, 1) := by decide +kernel
theorem d_Flow_enter_23 : decode prog_4_method_5_code 23 = .ok (.getfield 7, 3) := by decide +kernel
theorem d_Flow_enter_26 : decode prog_4_method_5_code 26 = .ok (.putfield 13, 3) := by decide +kernel
theorem d_Flow_enter_29 : decode prog_4_method_5_code 29 = .ok (.return_, 1) := by decide +kernel
theorem d_Desk_enterPart_0 : decode prog_1_method_15_code 0 = .ok (.aload_n 0, 1) := by decide +kernel
theorem d_Desk_enterPart_1 : decode prog_1_method_15_code 1 = .ok (.getfield 40, 3) := by decide +kernel
theorem d_Desk_enterPart_4 : decode prog_1_method_15_code 4 = .ok (.invokevirtual 114, 3) := by decide +kernel
theorem d_Desk_enterPart_7 : decode prog_1_method_15_code 7 = .ok (.ifCond .ne 13, 3) := by decide +kernel
theorem d_Desk_enterPart_10 : decode prog_1_method_15_code 10 = .ok (.aload_n 0, 1) := by decide +kernel
theorem d_Desk_enterPart_11 : decode prog_1_method_15_code 11 = .ok (.getfield 40, 3) := by decide +kernel
theorem d_Desk_enterPart_14 : decode prog_1_method_15_code 14 = .ok (.iconst 0, 1) := by decide +kernel
theorem d_Desk_enterPart_15 : decode prog_1_method_15_code 15 = .ok (.invokevirtual 152, 3) := by decide +kernel
theorem d_Desk_enterPart_18 : decode prog_1_method_15_code 18 = .ok (.iconst 0, 1) := by decide +kernel
theorem d_Desk_enterPart_19 : decode prog_1_method_15_code 19 = .ok (.ireturn, 1) := by decide +kernel
theorem d_Desk_enterPart_20 : decode prog_1_method_15_code 20 = .ok (.aload_n 0, 1) := by decide +kernel
theorem d_Desk_enterPart_21 : decode prog_1_method_15_code 21 = .ok (.getfield 26, 3) := by decide +kernel
theorem d_Desk_enterPart_24 : decode prog_1_method_15_code 24 = .ok (.getfield 90, 3) := by decide +kernel
theorem d_Desk_enterPart_27 : decode prog_1_method_15_code 27 = .ok (.iconst 1, 1) := by decide +kernel
theorem d_Desk_enterPart_28 : decode prog_1_method_15_code 28 = .ok (.if_icmp .ge 5, 3) := by decide +kernel
theorem d_Desk_enterPart_31 : decode prog_1_method_15_code 31 = .ok (.iconst 5, 1) := by decide +kernel
theorem d_Desk_enterPart_32 : decode prog_1_method_15_code 32 = .ok (.ireturn, 1) := by decide +kernel
theorem d_Desk_enterPart_33 : decode prog_1_method_15_code 33 = .ok (.aload_n 0, 1) := by decide +kernel
theorem d_Desk_enterPart_34 : decode prog_1_method_15_code 34 = .ok (.getfield 26, 3) := by decide +kernel
theorem d_Desk_enterPart_37 : decode prog_1_method_15_code 37 = .ok (.invokevirtual 97, 3) := by decide +kernel
theorem d_Desk_enterPart_40 : decode prog_1_method_15_code 40 = .ok (.istore_n 2, 1) := by decide +kernel
theorem d_Desk_enterPart_41 : decode prog_1_method_15_code 41 = .ok (.aload_n 0, 1) := by decide +kernel
theorem d_Desk_enterPart_42 : decode prog_1_method_15_code 42 = .ok (.getfield 26, 3) := by decide +kernel
theorem d_Desk_enterPart_45 : decode prog_1_method_15_code 45 = .ok (.iconst 1, 1) := by decide +kernel
theorem d_Desk_enterPart_46 : decode prog_1_method_15_code 46 = .ok (.invokevirtual 93, 3) := by decide +kernel
theorem d_Desk_enterPart_49 : decode prog_1_method_15_code 49 = .ok (.aload_n 0, 1) := by decide +kernel
theorem d_Desk_enterPart_50 : decode prog_1_method_15_code 50 = .ok (.getfield 40, 3) := by decide +kernel
theorem d_Desk_enterPart_53 : decode prog_1_method_15_code 53 = .ok (.iload_n 2, 1) := by decide +kernel
theorem d_Desk_enterPart_54 : decode prog_1_method_15_code 54 = .ok (.iload_n 1, 1) := by decide +kernel
theorem d_Desk_enterPart_55 : decode prog_1_method_15_code 55 = .ok (.if_icmp .ne 7, 3) := by decide +kernel
theorem d_Desk_enterPart_58 : decode prog_1_method_15_code 58 = .ok (.iconst 1, 1) := by decide +kernel
theorem d_Desk_enterPart_59 : decode prog_1_method_15_code 59 = .ok (.goto 4, 3) := by decide +kernel
theorem d_Desk_enterPart_62 : decode prog_1_method_15_code 62 = .ok (.iconst 0, 1) := by decide +kernel
theorem d_Desk_enterPart_63 : decode prog_1_method_15_code 63 = .ok (.invokevirtual 152, 3) := by decide +kernel
theorem d_Desk_enterPart_66 : decode prog_1_method_15_code 66 = .ok (.iconst 0, 1) := by decide +kernel
theorem d_Desk_enterPart_67 : decode prog_1_method_15_code 67 = .ok (.ireturn, 1) := by decide +kernel
theorem d_Flow_isInside_0 : decode prog_4_method_3_code 0 = .ok (.aload_n 0, 1) := by decide +kernel
theorem d_Flow_isInside_1 : decode prog_4_method_3_code 1 = .ok (.getfield 7, 3) := by decide +kernel
theorem d_Flow_isInside_4 : decode prog_4_method_3_code 4 = .ok (.ifCond .le 7, 3) := by decide +kernel
theorem d_Flow_isInside_7 : decode prog_4_method_3_code 7 = .ok (.iconst 1, 1) := by decide +kernel
theorem d_Flow_isInside_8 : decode prog_4_method_3_code 8 = .ok (.goto 4, 3) := by decide +kernel
theorem d_Flow_isInside_11 : decode prog_4_method_3_code 11 = .ok (.iconst 0, 1) := by decide +kernel
theorem d_Flow_isInside_12 : decode prog_4_method_3_code 12 = .ok (.ireturn, 1) := by decide +kernel
theorem d_Flow_turn_0 : decode prog_4_method_6_code 0 = .ok (.aload_n 0, 1) := by decide +kernel
theorem d_Flow_turn_1 : decode prog_4_method_6_code 1 = .ok (.getfield 13, 3) := by decide +kernel
theorem d_Flow_turn_4 : decode prog_4_method_6_code 4 = .ok (.ifCond .ne 14, 3) := by decide +kernel
theorem d_Flow_turn_7 : decode prog_4_method_6_code 7 = .ok (.aload_n 0, 1) := by decide +kernel
theorem d_Flow_turn_8 : decode prog_4_method_6_code 8 = .ok (.aload_n 0, 1) := by decide +kernel
theorem d_Flow_turn_9 : decode prog_4_method_6_code 9 = .ok (.getfield 7, 3) := by decide +kernel
theorem d_Flow_turn_12 : decode prog_4_method_6_code 12 = .ok (.putfield 13, 3) := by decide +kernel
theorem d_Flow_turn_15 : decode prog_4_method_6_code 15 = .ok (.goto 19, 3) := by decide +kernel
theorem d_Flow_turn_18 : decode prog_4_method_6_code 18 = .ok (.aload_n 0, 1) := by decide +kernel
theorem d_Flow_turn_19 : decode prog_4_method_6_code 19 = .ok (.getfield 13, 3) := by decide +kernel
theorem d_Flow_turn_22 : decode prog_4_method_6_code 22 = .ok (.aload_n 0, 1) := by decide +kernel
theorem d_Flow_turn_23 : decode prog_4_method_6_code 23 = .ok (.getfield 7, 3) := by decide +kernel
theorem d_Flow_turn_26 : decode prog_4_method_6_code 26 = .ok (.if_icmp .ne 8, 3) := by decide +kernel
theorem d_Flow_turn_29 : decode prog_4_method_6_code 29 = .ok (.aload_n 0, 1) := by decide +kernel
theorem d_Flow_turn_30 : decode prog_4_method_6_code 30 = .ok (.iconst 0, 1) := by decide +kernel
theorem d_Flow_turn_31 : decode prog_4_method_6_code 31 = .ok (.putfield 13, 3) := by decide +kernel
theorem d_Flow_turn_34 : decode prog_4_method_6_code 34 = .ok (.return_, 1) := by decide +kernel
theorem d_Flow_end_0 : decode prog_4_method_7_code 0 = .ok (.aload_n 0, 1) := by decide +kernel
theorem d_Flow_end_1 : decode prog_4_method_7_code 1 = .ok (.getfield 13, 3) := by decide +kernel
theorem d_Flow_end_4 : decode prog_4_method_7_code 4 = .ok (.aload_n 0, 1) := by decide +kernel
theorem d_Flow_end_5 : decode prog_4_method_7_code 5 = .ok (.getfield 7, 3) := by decide +kernel
theorem d_Flow_end_8 : decode prog_4_method_7_code 8 = .ok (.if_icmp .ne 8, 3) := by decide +kernel
theorem d_Flow_end_11 : decode prog_4_method_7_code 11 = .ok (.aload_n 0, 1) := by decide +kernel
theorem d_Flow_end_12 : decode prog_4_method_7_code 12 = .ok (.iconst 0, 1) := by decide +kernel
theorem d_Flow_end_13 : decode prog_4_method_7_code 13 = .ok (.putfield 13, 3) := by decide +kernel
theorem d_Flow_end_16 : decode prog_4_method_7_code 16 = .ok (.aload_n 0, 1) := by decide +kernel
theorem d_Flow_end_17 : decode prog_4_method_7_code 17 = .ok (.dup, 1) := by decide +kernel
theorem d_Flow_end_18 : decode prog_4_method_7_code 18 = .ok (.getfield 7, 3) := by decide +kernel
theorem d_Flow_end_21 : decode prog_4_method_7_code 21 = .ok (.iconst 1, 1) := by decide +kernel
theorem d_Flow_end_22 : decode prog_4_method_7_code 22 = .ok (.isub, 1) := by decide +kernel
theorem d_Flow_end_23 : decode prog_4_method_7_code 23 = .ok (.putfield 7, 3) := by decide +kernel
theorem d_Flow_end_26 : decode prog_4_method_7_code 26 = .ok (.return_, 1) := by decide +kernel
theorem d_Desk_leavePart_0 : decode prog_1_method_16_code 0 = .ok (.aload_n 0, 1) := by decide +kernel
theorem d_Desk_leavePart_1 : decode prog_1_method_16_code 1 = .ok (.getfield 40, 3) := by decide +kernel
theorem d_Desk_leavePart_4 : decode prog_1_method_16_code 4 = .ok (.invokevirtual 84, 3) := by decide +kernel
theorem d_Desk_leavePart_7 : decode prog_1_method_16_code 7 = .ok (.ifCond .ne 6, 3) := by decide +kernel
theorem d_Desk_leavePart_10 : decode prog_1_method_16_code 10 = .ok (.bipush 10, 2) := by decide +kernel
theorem d_Desk_leavePart_12 : decode prog_1_method_16_code 12 = .ok (.ireturn, 1) := by decide +kernel
theorem d_Desk_leavePart_13 : decode prog_1_method_16_code 13 = .ok (.iload_n 1, 1) := by decide +kernel
theorem d_Desk_leavePart_14 : decode prog_1_method_16_code 14 = .ok (.ifCond .eq 13, 3) := by decide +kernel
theorem d_Desk_leavePart_17 : decode prog_1_method_16_code 17 = .ok (.aload_n 0, 1) := by decide +kernel
theorem d_Desk_leavePart_18 : decode prog_1_method_16_code 18 = .ok (.getfield 40, 3) := by decide +kernel
theorem d_Desk_leavePart_21 : decode prog_1_method_16_code 21 = .ok (.invokevirtual 156, 3) := by decide +kernel
theorem d_Desk_leavePart_24 : decode prog_1_method_16_code 24 = .ok (.goto 10, 3) := by decide +kernel
theorem d_Desk_leavePart_27 : decode prog_1_method_16_code 27 = .ok (.aload_n 0, 1) := by decide +kernel
theorem d_Desk_leavePart_28 : decode prog_1_method_16_code 28 = .ok (.getfield 40, 3) := by decide +kernel
theorem d_Desk_leavePart_31 : decode prog_1_method_16_code 31 = .ok (.invokevirtual 159, 3) := by decide +kernel
theorem d_Desk_leavePart_34 : decode prog_1_method_16_code 34 = .ok (.iconst 0, 1) := by decide +kernel
theorem d_Desk_leavePart_35 : decode prog_1_method_16_code 35 = .ok (.ireturn, 1) := by decide +kernel
theorem d_Elements_faultOfNumber_0 : decode prog_3_method_7_code 0 = .ok (.iload_n 1, 1) := by decide +kernel
theorem d_Elements_faultOfNumber_1 : decode prog_3_method_7_code 1 = .ok (.aload_n 0, 1) := by decide +kernel
theorem d_Elements_faultOfNumber_2 : decode prog_3_method_7_code 2 = .ok (.getfield 21, 3) := by decide +kernel
theorem d_Elements_faultOfNumber_5 : decode prog_3_method_7_code 5 = .ok (.if_icmp .lt 5, 3) := by decide +kernel
theorem d_Elements_faultOfNumber_8 : decode prog_3_method_7_code 8 = .ok (.iconst 5, 1) := by decide +kernel
theorem d_Elements_faultOfNumber_9 : decode prog_3_method_7_code 9 = .ok (.ireturn, 1) := by decide +kernel
theorem d_Elements_faultOfNumber_10 : decode prog_3_method_7_code 10 = .ok (.aload_n 0, 1) := by decide +kernel
theorem d_Elements_faultOfNumber_11 : decode prog_3_method_7_code 11 = .ok (.iload_n 1, 1) := by decide +kernel
theorem d_Elements_faultOfNumber_12 : decode prog_3_method_7_code 12 = .ok (.invokevirtual 28, 3) := by decide +kernel
theorem d_Elements_faultOfNumber_15 : decode prog_3_method_7_code 15 = .ok (.iconst 4, 1) := by decide +kernel
theorem d_Elements_faultOfNumber_16 : decode prog_3_method_7_code 16 = .ok (.if_icmp .le 8, 3) := by decide +kernel
theorem d_Elements_faultOfNumber_19 : decode prog_3_method_7_code 19 = .ok (.bipush 6, 2) := by decide +kernel
theorem d_Elements_faultOfNumber_21 : decode prog_3_method_7_code 21 = .ok (.goto 4, 3) := by decide +kernel
theorem d_Elements_faultOfNumber_24 : decode prog_3_method_7_code 24 = .ok (.iconst 0, 1) := by decide +kernel
theorem d_Elements_faultOfNumber_25 : decode prog_3_method_7_code 25 = .ok (.ireturn, 1) := by decide +kernel
theorem d_Elements_numberAt_0 : decode prog_3_method_8_code 0 = .ok (.aload_n 0, 1) := by decide +kernel
theorem d_Elements_numberAt_1 : decode prog_3_method_8_code 1 = .ok (.iload_n 1, 1) := by decide +kernel
theorem d_Elements_numberAt_2 : decode prog_3_method_8_code 2 = .ok (.invokevirtual 28, 3) := by decide +kernel
theorem d_Elements_numberAt_5 : decode prog_3_method_8_code 5 = .ok (.iconst 1, 1) := by decide +kernel
theorem d_Elements_numberAt_6 : decode prog_3_method_8_code 6 = .ok (.isub, 1) := by decide +kernel
theorem d_Elements_numberAt_7 : decode prog_3_method_8_code 7 = .ok (.istore_n 2, 1) := by decide +kernel
theorem d_Elements_numberAt_8 : decode prog_3_method_8_code 8 = .ok (.iload_n 2, 1) := by decide +kernel
theorem d_Elements_numberAt_9 : decode prog_3_method_8_code 9 = .ok (.ifCond .lt 8, 3) := by decide +kernel
theorem d_Elements_numberAt_12 : decode prog_3_method_8_code 12 = .ok (.iload_n 2, 1) := by decide +kernel
theorem d_Elements_numberAt_13 : decode prog_3_method_8_code 13 = .ok (.iconst 4, 1) := by decide +kernel
theorem d_Elements_numberAt_14 : decode prog_3_method_8_code 14 = .ok (.if_icmp .lt 5, 3) := by decide +kernel
theorem d_Elements_numberAt_17 : decode prog_3_method_8_code 17 = .ok (.lconst 0, 1) := by decide +kernel
theorem d_Elements_numberAt_18 : decode prog_3_method_8_code 18 = .ok (.lreturn, 1) := by decide +kernel
theorem d_Elements_numberAt_19 : decode prog_3_method_8_code 19 = .ok (.aload_n 0, 1) := by decide +kernel
theorem d_Elements_numberAt_20 : decode prog_3_method_8_code 20 = .ok (.iload_n 1, 1) := by decide +kernel
theorem d_Elements_numberAt_21 : decode prog_3_method_8_code 21 = .ok (.iload_n 2, 1) := by decide +kernel
theorem d_Elements_numberAt_22 : decode prog_3_method_8_code 22 = .ok (.invokevirtual 32, 3) := by decide +kernel
theorem d_Elements_numberAt_25 : decode prog_3_method_8_code 25 = .ok (.bipush 127, 2) := by decide +kernel
theorem d_Elements_numberAt_27 : decode prog_3_method_8_code 27 = .ok (.iand, 1) := by decide +kernel
theorem d_Elements_numberAt_28 : decode prog_3_method_8_code 28 = .ok (.i2l, 1) := by decide +kernel
theorem d_Elements_numberAt_29 : decode prog_3_method_8_code 29 = .ok (.lstore_n 3, 1) := by decide +kernel
theorem d_Elements_numberAt_30 : decode prog_3_method_8_code 30 = .ok (.iload_n 2, 1) := by decide +kernel
theorem d_Elements_numberAt_31 : decode prog_3_method_8_code 31 = .ok (.iconst 1, 1) := by decide +kernel
theorem d_Elements_numberAt_32 : decode prog_3_method_8_code 32 = .ok (.isub, 1) := by decide +kernel
theorem d_Elements_numberAt_33 : decode prog_3_method_8_code 33 = .ok (.istore 5, 2) := by decide +kernel
theorem d_Elements_numberAt_35 : decode prog_3_method_8_code 35 = .ok (.iload 5, 2) := by decide +kernel
theorem d_Elements_numberAt_37 : decode prog_3_method_8_code 37 = .ok (.ifCond .lt 24, 3) := by decide +kernel
theorem d_Elements_numberAt_40 : decode prog_3_method_8_code 40 = .ok (.lload_n 3, 1) := by decide +kernel
theorem d_Elements_numberAt_41 : decode prog_3_method_8_code 41 = .ok (.ldc2_w 36, 3) := by decide +kernel
theorem d_Elements_numberAt_44 : decode prog_3_method_8_code 44 = .ok (.lmul, 1) := by decide +kernel
theorem d_Elements_numberAt_45 : decode prog_3_method_8_code 45 = .ok (.aload_n 0, 1) := by decide +kernel
theorem d_Elements_numberAt_46 : decode prog_3_method_8_code 46 = .ok (.iload_n 1, 1) := by decide +kernel
theorem d_Elements_numberAt_47 : decode prog_3_method_8_code 47 = .ok (.iload 5, 2) := by decide +kernel
theorem d_Elements_numberAt_49 : decode prog_3_method_8_code 49 = .ok (.invokevirtual 32, 3) := by decide +kernel
theorem d_Elements_numberAt_52 : decode prog_3_method_8_code 52 = .ok (.i2l, 1) := by decide +kernel
theorem d_Elements_numberAt_53 : decode prog_3_method_8_code 53 = .ok (.ladd, 1) := by decide +kernel
theorem d_Elements_numberAt_54 : decode prog_3_method_8_code 54 = .ok (.lstore_n 3, 1) := by decide +kernel
theorem d_Elements_numberAt_55 : decode prog_3_method_8_code 55 = .ok (.iinc 5 (-1), 3) := by decide +kernel
theorem d_Elements_numberAt_58 : decode prog_3_method_8_code 58 = .ok (.goto (-23), 3) := by decide +kernel
theorem d_Elements_numberAt_61 : decode prog_3_method_8_code 61 = .ok (.aload_n 0, 1) := by decide +kernel
theorem d_Elements_numberAt_62 : decode prog_3_method_8_code 62 = .ok (.iload_n 1, 1) := by decide +kernel
theorem d_Elements_numberAt_63 : decode prog_3_method_8_code 63 = .ok (.iload_n 2, 1) := by decide +kernel
theorem d_Elements_numberAt_64 : decode prog_3_method_8_code 64 = .ok (.invokevirtual 32, 3) := by decide +kernel
theorem d_Elements_numberAt_67 : decode prog_3_method_8_code 67 = .ok (.sipush 128, 3) := by decide +kernel
theorem d_Elements_numberAt_70 : decode prog_3_method_8_code 70 = .ok (.if_icmp .lt 8, 3) := by decide +kernel
theorem d_Elements_numberAt_73 : decode prog_3_method_8_code 73 = .ok (.lload_n 3, 1) := by decide +kernel
theorem d_Elements_numberAt_74 : decode prog_3_method_8_code 74 = .ok (.lneg, 1) := by decide +kernel
theorem d_Elements_numberAt_75 : decode prog_3_method_8_code 75 = .ok (.goto 4, 3) := by decide +kernel
theorem d_Elements_numberAt_78 : decode prog_3_method_8_code 78 = .ok (.lload_n 3, 1) := by decide +kernel
theorem d_Elements_numberAt_79 : decode prog_3_method_8_code 79 = .ok (.lreturn, 1) := by decide +kernel
theorem d_Signatures_faultOfAmount_0 : decode prog_9_method_5_code 0 = .ok (.aload_n 0, 1) := by decide +kernel
theorem d_Signatures_faultOfAmount_1 : decode prog_9_method_5_code 1 = .ok (.iload_n 1, 1) := by decide +kernel
theorem d_Signatures_faultOfAmount_2 : decode prog_9_method_5_code 2 = .ok (.invokevirtual 54, 3) := by decide +kernel
theorem d_Signatures_faultOfAmount_5 : decode prog_9_method_5_code 5 = .ok (.istore_n 3, 1) := by decide +kernel
theorem d_Signatures_faultOfAmount_6 : decode prog_9_method_5_code 6 = .ok (.iload_n 3, 1) := by decide +kernel
theorem d_Signatures_faultOfAmount_7 : decode prog_9_method_5_code 7 = .ok (.ifCond .eq 5, 3) := by decide +kernel
theorem d_Signatures_faultOfAmount_10 : decode prog_9_method_5_code 10 = .ok (.iload_n 3, 1) := by decide +kernel
theorem d_Signatures_faultOfAmount_11 : decode prog_9_method_5_code 11 = .ok (.ireturn, 1) := by decide +kernel
theorem d_Signatures_faultOfAmount_12 : decode prog_9_method_5_code 12 = .ok (.aload_n 0, 1) := by decide +kernel
theorem d_Signatures_faultOfAmount_13 : decode prog_9_method_5_code 13 = .ok (.iload_n 1, 1) := by decide +kernel
theorem d_Signatures_faultOfAmount_14 : decode prog_9_method_5_code 14 = .ok (.invokevirtual 41, 3) := by decide +kernel
theorem d_Signatures_faultOfAmount_17 : decode prog_9_method_5_code 17 = .ok (.lstore 4, 2) := by decide +kernel
theorem d_Signatures_faultOfAmount_19 : decode prog_9_method_5_code 19 = .ok (.lload 4, 2) := by decide +kernel
theorem d_Signatures_faultOfAmount_21 : decode prog_9_method_5_code 21 = .ok (.lconst 0, 1) := by decide +kernel
theorem d_Signatures_faultOfAmount_22 : decode prog_9_method_5_code 22 = .ok (.lcmp, 1) := by decide +kernel
theorem d_Signatures_faultOfAmount_23 : decode prog_9_method_5_code 23 = .ok (.ifCond .lt 11, 3) := by decide +kernel
theorem d_Signatures_faultOfAmount_26 : decode prog_9_method_5_code 26 = .ok (.lload 4, 2) := by decide +kernel
theorem d_Signatures_faultOfAmount_28 : decode prog_9_method_5_code 28 = .ok (.iload_n 2, 1) := by decide +kernel
theorem d_Signatures_faultOfAmount_29 : decode prog_9_method_5_code 29 = .ok (.i2l, 1) := by decide +kernel
theorem d_Signatures_faultOfAmount_30 : decode prog_9_method_5_code 30 = .ok (.lcmp, 1) := by decide +kernel
theorem d_Signatures_faultOfAmount_31 : decode prog_9_method_5_code 31 = .ok (.ifCond .le 8, 3) := by decide +kernel
theorem d_Signatures_faultOfAmount_34 : decode prog_9_method_5_code 34 = .ok (.bipush 7, 2) := by decide +kernel
theorem d_Signatures_faultOfAmount_36 : decode prog_9_method_5_code 36 = .ok (.goto 4, 3) := by decide +kernel
theorem d_Signatures_faultOfAmount_39 : decode prog_9_method_5_code 39 = .ok (.iconst 0, 1) := by decide +kernel
theorem d_Signatures_faultOfAmount_40 : decode prog_9_method_5_code 40 = .ok (.ireturn, 1) := by decide +kernel
theorem d_Tally_passesLimit_0 : decode prog_10_method_2_code 0 = .ok (.aload_n 0, 1) := by decide +kernel
theorem d_Tally_passesLimit_1 : decode prog_10_method_2_code 1 = .ok (.dup, 1) := by decide +kernel
theorem d_Tally_passesLimit_2 : decode prog_10_method_2_code 2 = .ok (.getfield 9, 3) := by decide +kernel
theorem d_Tally_passesLimit_5 : decode prog_10_method_2_code 5 = .ok (.iload_n 1, 1) := by decide +kernel
theorem d_Tally_passesLimit_6 : decode prog_10_method_2_code 6 = .ok (.iadd, 1) := by decide +kernel
theorem d_Tally_passesLimit_7 : decode prog_10_method_2_code 7 = .ok (.putfield 9, 3) := by decide +kernel
theorem d_Tally_passesLimit_10 : decode prog_10_method_2_code 10 = .ok (.aload_n 0, 1) := by decide +kernel
theorem d_Tally_passesLimit_11 : decode prog_10_method_2_code 11 = .ok (.getfield 9, 3) := by decide +kernel
theorem d_Tally_passesLimit_14 : decode prog_10_method_2_code 14 = .ok (.bipush 100, 2) := by decide +kernel
theorem d_Tally_passesLimit_16 : decode prog_10_method_2_code 16 = .ok (.if_icmp .le 7, 3) := by decide +kernel
theorem d_Tally_passesLimit_19 : decode prog_10_method_2_code 19 = .ok (.iconst 1, 1) := by decide +kernel
theorem d_Tally_passesLimit_20 : decode prog_10_method_2_code 20 = .ok (.goto 4, 3) := by decide +kernel
theorem d_Tally_passesLimit_23 : decode prog_10_method_2_code 23 = .ok (.iconst 0, 1) := by decide +kernel
theorem d_Tally_passesLimit_24 : decode prog_10_method_2_code 24 = .ok (.ireturn, 1) := by decide +kernel
theorem d_Signatures_fits_0 : decode prog_9_method_7_code 0 = .ok (.aload_n 0, 1) := by decide +kernel
theorem d_Signatures_fits_1 : decode prog_9_method_7_code 1 = .ok (.dup, 1) := by decide +kernel
theorem d_Signatures_fits_2 : decode prog_9_method_7_code 2 = .ok (.getfield 58, 3) := by decide +kernel
theorem d_Signatures_fits_5 : decode prog_9_method_7_code 5 = .ok (.iconst 1, 1) := by decide +kernel
