theorem d_Model_clear_6 : decode prog_12_method_40_code 6 = .ok (.iconst 0, 1) := by decide +kernel
theorem d_Model_clear_7 : decode prog_12_method_40_code 7 = .ok (.putfield 47, 3) := by decide +kernel
theorem d_Model_clear_10 : decode prog_12_method_40_code 10 = .ok (.iload_n 1, 1) := by decide +kernel
theorem d_Model_clear_11 : decode prog_12_method_40_code 11 = .ok (.ireturn, 1) := by decide +kernel
theorem d_Model_size_0 : decode prog_12_method_41_code 0 = .ok (.aload_n 0, 1) := by decide +kernel
theorem d_Model_size_1 : decode prog_12_method_41_code 1 = .ok (.getfield 47, 3) := by decide +kernel
theorem d_Model_size_4 : decode prog_12_method_41_code 4 = .ok (.ireturn, 1) := by decide +kernel
theorem d_Model_isTrue_0 : decode prog_12_method_42_code 0 = .ok (.aload_n 0, 1) := by decide +kernel
theorem d_Model_isTrue_1 : decode prog_12_method_42_code 1 = .ok (.getfield 47, 3) := by decide +kernel
theorem d_Model_isTrue_4 : decode prog_12_method_42_code 4 = .ok (.ifCond .le 20, 3) := by decide +kernel
theorem d_Model_isTrue_7 : decode prog_12_method_42_code 7 = .ok (.aload_n 0, 1) := by decide +kernel
theorem d_Model_isTrue_8 : decode prog_12_method_42_code 8 = .ok (.aload_n 0, 1) := by decide +kernel
theorem d_Model_isTrue_9 : decode prog_12_method_42_code 9 = .ok (.getfield 47, 3) := by decide +kernel
theorem d_Model_isTrue_12 : decode prog_12_method_42_code 12 = .ok (.iconst 1, 1) := by decide +kernel
theorem d_Model_isTrue_13 : decode prog_12_method_42_code 13 = .ok (.isub, 1) := by decide +kernel
theorem d_Model_isTrue_14 : decode prog_12_method_42_code 14 = .ok (.invokevirtual 78, 3) := by decide +kernel
theorem d_Model_isTrue_17 : decode prog_12_method_42_code 17 = .ok (.ifCond .eq 7, 3) := by decide +kernel
theorem d_Model_isTrue_20 : decode prog_12_method_42_code 20 = .ok (.iconst 1, 1) := by decide +kernel
theorem d_Model_isTrue_21 : decode prog_12_method_42_code 21 = .ok (.goto 4, 3) := by decide +kernel
theorem d_Model_isTrue_24 : decode prog_12_method_42_code 24 = .ok (.iconst 0, 1) := by decide +kernel
theorem d_Model_isTrue_25 : decode prog_12_method_42_code 25 = .ok (.ireturn, 1) := by decide +kernel
theorem d_Model_bytes_0 : decode prog_12_method_43_code 0 = .ok (.iload_n 1, 1) := by decide +kernel
theorem d_Model_bytes_1 : decode prog_12_method_43_code 1 = .ok (.ifCond .lt 24, 3) := by decide +kernel
theorem d_Model_bytes_4 : decode prog_12_method_43_code 4 = .ok (.iload_n 1, 1) := by decide +kernel
theorem d_Model_bytes_5 : decode prog_12_method_43_code 5 = .ok (.aload_n 0, 1) := by decide +kernel
theorem d_Model_bytes_6 : decode prog_12_method_43_code 6 = .ok (.getfield 47, 3) := by decide +kernel
theorem d_Model_bytes_9 : decode prog_12_method_43_code 9 = .ok (.if_icmp .ge 16, 3) := by decide +kernel
theorem d_Model_bytes_12 : decode prog_12_method_43_code 12 = .ok (.aload_n 0, 1) := by decide +kernel
theorem d_Model_bytes_13 : decode prog_12_method_43_code 13 = .ok (.getfield 13, 3) := by decide +kernel
theorem d_Model_bytes_16 : decode prog_12_method_43_code 16 = .ok (.aload_n 0, 1) := by decide +kernel
theorem d_Model_bytes_17 : decode prog_12_method_43_code 17 = .ok (.iload_n 1, 1) := by decide +kernel
theorem d_Model_bytes_18 : decode prog_12_method_43_code 18 = .ok (.invokevirtual 71, 3) := by decide +kernel
theorem d_Model_bytes_21 : decode prog_12_method_43_code 21 = .ok (.iaload, 1) := by decide +kernel
theorem d_Model_bytes_22 : decode prog_12_method_43_code 22 = .ok (.goto 4, 3) := by decide +kernel
theorem d_Model_bytes_25 : decode prog_12_method_43_code 25 = .ok (.iconst (-1), 1) := by decide +kernel
theorem d_Model_bytes_26 : decode prog_12_method_43_code 26 = .ok (.ireturn, 1) := by decide +kernel
theorem d_Model_byteOf_0 : decode prog_12_method_44_code 0 = .ok (.iload_n 1, 1) := by decide +kernel
theorem d_Model_byteOf_1 : decode prog_12_method_44_code 1 = .ok (.ifCond .lt 47, 3) := by decide +kernel
theorem d_Model_byteOf_4 : decode prog_12_method_44_code 4 = .ok (.iload_n 1, 1) := by decide +kernel
theorem d_Model_byteOf_5 : decode prog_12_method_44_code 5 = .ok (.aload_n 0, 1) := by decide +kernel
theorem d_Model_byteOf_6 : decode prog_12_method_44_code 6 = .ok (.getfield 47, 3) := by decide +kernel
theorem d_Model_byteOf_9 : decode prog_12_method_44_code 9 = .ok (.if_icmp .ge 39, 3) := by decide +kernel
theorem d_Model_byteOf_12 : decode prog_12_method_44_code 12 = .ok (.iload_n 2, 1) := by decide +kernel
theorem d_Model_byteOf_13 : decode prog_12_method_44_code 13 = .ok (.ifCond .lt 35, 3) := by decide +kernel
theorem d_Model_byteOf_16 : decode prog_12_method_44_code 16 = .ok (.iload_n 2, 1) := by decide +kernel
theorem d_Model_byteOf_17 : decode prog_12_method_44_code 17 = .ok (.aload_n 0, 1) := by decide +kernel
theorem d_Model_byteOf_18 : decode prog_12_method_44_code 18 = .ok (.getfield 13, 3) := by decide +kernel
theorem d_Model_byteOf_21 : decode prog_12_method_44_code 21 = .ok (.aload_n 0, 1) := by decide +kernel
theorem d_Model_byteOf_22 : decode prog_12_method_44_code 22 = .ok (.iload_n 1, 1) := by decide +kernel
theorem d_Model_byteOf_23 : decode prog_12_method_44_code 23 = .ok (.invokevirtual 71, 3) := by decide +kernel
theorem d_Model_byteOf_26 : decode prog_12_method_44_code 26 = .ok (.iaload, 1) := by decide +kernel
theorem d_Model_byteOf_27 : decode prog_12_method_44_code 27 = .ok (.if_icmp .ge 21, 3) := by decide +kernel
theorem d_Model_byteOf_30 : decode prog_12_method_44_code 30 = .ok (.aload_n 0, 1) := by decide +kernel
theorem d_Model_byteOf_31 : decode prog_12_method_44_code 31 = .ok (.getfield 7, 3) := by decide +kernel
theorem d_Model_byteOf_34 : decode prog_12_method_44_code 34 = .ok (.bipush 120, 2) := by decide +kernel
theorem d_Model_byteOf_36 : decode prog_12_method_44_code 36 = .ok (.aload_n 0, 1) := by decide +kernel
theorem d_Model_byteOf_37 : decode prog_12_method_44_code 37 = .ok (.iload_n 1, 1) := by decide +kernel
theorem d_Model_byteOf_38 : decode prog_12_method_44_code 38 = .ok (.invokevirtual 71, 3) := by decide +kernel
theorem d_Model_byteOf_41 : decode prog_12_method_44_code 41 = .ok (.imul, 1) := by decide +kernel
theorem d_Model_byteOf_42 : decode prog_12_method_44_code 42 = .ok (.iload_n 2, 1) := by decide +kernel
theorem d_Model_byteOf_43 : decode prog_12_method_44_code 43 = .ok (.iadd, 1) := by decide +kernel
theorem d_Model_byteOf_44 : decode prog_12_method_44_code 44 = .ok (.iaload, 1) := by decide +kernel
theorem d_Model_byteOf_45 : decode prog_12_method_44_code 45 = .ok (.goto 4, 3) := by decide +kernel
theorem d_Model_byteOf_48 : decode prog_12_method_44_code 48 = .ok (.iconst (-1), 1) := by decide +kernel
theorem d_Model_byteOf_49 : decode prog_12_method_44_code 49 = .ok (.ireturn, 1) := by decide +kernel
theorem d_Model_count_0 : decode prog_12_method_45_code 0 = .ok (.iload_n 1, 1) := by decide +kernel
theorem d_Model_count_1 : decode prog_12_method_45_code 1 = .ok (.ifCond .ne 10, 3) := by decide +kernel
theorem d_Model_count_4 : decode prog_12_method_45_code 4 = .ok (.aload_n 0, 1) := by decide +kernel
theorem d_Model_count_5 : decode prog_12_method_45_code 5 = .ok (.getfield 154, 3) := by decide +kernel
theorem d_Model_count_8 : decode prog_12_method_45_code 8 = .ok (.goto 16, 3) := by decide +kernel
theorem d_Model_count_11 : decode prog_12_method_45_code 11 = .ok (.iload_n 1, 1) := by decide +kernel
theorem d_Model_count_12 : decode prog_12_method_45_code 12 = .ok (.iconst 1, 1) := by decide +kernel
theorem d_Model_count_13 : decode prog_12_method_45_code 13 = .ok (.if_icmp .ne 10, 3) := by decide +kernel
theorem d_Model_count_16 : decode prog_12_method_45_code 16 = .ok (.aload_n 0, 1) := by decide +kernel
theorem d_Model_count_17 : decode prog_12_method_45_code 17 = .ok (.getfield 133, 3) := by decide +kernel
theorem d_Model_count_20 : decode prog_12_method_45_code 20 = .ok (.goto 4, 3) := by decide +kernel
theorem d_Model_count_23 : decode prog_12_method_45_code 23 = .ok (.iconst (-1), 1) := by decide +kernel
theorem d_Model_count_24 : decode prog_12_method_45_code 24 = .ok (.ireturn, 1) := by decide +kernel
