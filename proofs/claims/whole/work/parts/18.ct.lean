theorem ct_0_0 : am_CT 0 0 = some (.aload 0, 1, 0, 0, 0) := rfl
theorem ct_0_1 : am_CT 0 1 = some (.invokespecial 3, 4, 0, 0, 1) := rfl
theorem ct_0_4 : am_CT 0 4 = some (.aload 0, 5, 0, 0, 0) := rfl
theorem ct_0_5 : am_CT 0 5 = some (.bipush 0, 6, 0, 0, 0) := rfl
theorem ct_0_6 : am_CT 0 6 = some (.putfield 9, 9, 5, 0, 0) := rfl
theorem ct_0_9 : am_CT 0 9 = some (.aload 0, 10, 0, 0, 0) := rfl
theorem ct_0_10 : am_CT 0 10 = some (.iload 1, 11, 0, 0, 0) := rfl
theorem ct_0_11 : am_CT 0 11 = some (.putfield 15, 14, 0, 0, 0) := rfl
theorem ct_0_14 : am_CT 0 14 = some (.aload 0, 15, 0, 0, 0) := rfl
theorem ct_0_15 : am_CT 0 15 = some (.iload 2, 16, 0, 0, 0) := rfl
theorem ct_0_16 : am_CT 0 16 = some (.putfield 18, 19, 1, 0, 0) := rfl
theorem ct_0_19 : am_CT 0 19 = some (.aload 0, 20, 0, 0, 0) := rfl
theorem ct_0_20 : am_CT 0 20 = some (.iload 3, 21, 0, 0, 0) := rfl
theorem ct_0_21 : am_CT 0 21 = some (.putfield 21, 24, 2, 0, 0) := rfl
theorem ct_0_24 : am_CT 0 24 = some (.aload 0, 25, 0, 0, 0) := rfl
theorem ct_0_25 : am_CT 0 25 = some (.iload 4, 27, 0, 0, 0) := rfl
theorem ct_0_27 : am_CT 0 27 = some (.putfield 24, 30, 3, 0, 0) := rfl
theorem ct_0_30 : am_CT 0 30 = some (.aload 0, 31, 0, 0, 0) := rfl
theorem ct_0_31 : am_CT 0 31 = some (.iload 5, 33, 0, 0, 0) := rfl
theorem ct_0_33 : am_CT 0 33 = some (.putfield 27, 36, 4, 0, 0) := rfl
theorem ct_0_36 : am_CT 0 36 = some (.return_, 37, 0, 0, 0) := rfl
theorem ct_1_0 : am_CT 1 0 = some (.aload 1, 1, 0, 0, 0) := rfl
theorem ct_1_1 : am_CT 1 1 = some (.bipush 0, 2, 0, 0, 0) := rfl
theorem ct_1_2 : am_CT 1 2 = some (.aload 0, 3, 0, 0, 0) := rfl
theorem ct_1_3 : am_CT 1 3 = some (.getfield 18, 6, 1, 0, 0) := rfl
theorem ct_1_6 : am_CT 1 6 = some (.iastore, 7, 0, 0, 0) := rfl
theorem ct_1_7 : am_CT 1 7 = some (.aload 1, 8, 0, 0, 0) := rfl
theorem ct_1_8 : am_CT 1 8 = some (.bipush 1, 9, 0, 0, 0) := rfl
theorem ct_1_9 : am_CT 1 9 = some (.aload 0, 10, 0, 0, 0) := rfl
theorem ct_1_10 : am_CT 1 10 = some (.getfield 15, 13, 0, 0, 0) := rfl
theorem ct_1_13 : am_CT 1 13 = some (.iastore, 14, 0, 0, 0) := rfl
theorem ct_1_14 : am_CT 1 14 = some (.aload 1, 15, 0, 0, 0) := rfl
theorem ct_1_15 : am_CT 1 15 = some (.bipush 2, 16, 0, 0, 0) := rfl
theorem ct_1_16 : am_CT 1 16 = some (.aload 0, 17, 0, 0, 0) := rfl
theorem ct_1_17 : am_CT 1 17 = some (.getfield 21, 20, 2, 0, 0) := rfl
theorem ct_1_20 : am_CT 1 20 = some (.iastore, 21, 0, 0, 0) := rfl
theorem ct_1_21 : am_CT 1 21 = some (.return_, 22, 0, 0, 0) := rfl
theorem ct_2_0 : am_CT 2 0 = some (.aload 1, 1, 0, 0, 0) := rfl
theorem ct_2_1 : am_CT 2 1 = some (.bipush 0, 2, 0, 0, 0) := rfl
theorem ct_2_2 : am_CT 2 2 = some (.aload 0, 3, 0, 0, 0) := rfl
theorem ct_2_3 : am_CT 2 3 = some (.getfield 24, 6, 3, 0, 0) := rfl
theorem ct_2_6 : am_CT 2 6 = some (.iastore, 7, 0, 0, 0) := rfl
theorem ct_2_7 : am_CT 2 7 = some (.aload 1, 8, 0, 0, 0) := rfl
theorem ct_2_8 : am_CT 2 8 = some (.bipush 1, 9, 0, 0, 0) := rfl
theorem ct_2_9 : am_CT 2 9 = some (.aload 0, 10, 0, 0, 0) := rfl
theorem ct_2_10 : am_CT 2 10 = some (.getfield 27, 13, 4, 0, 0) := rfl
theorem ct_2_13 : am_CT 2 13 = some (.iastore, 14, 0, 0, 0) := rfl
theorem ct_2_14 : am_CT 2 14 = some (.aload 1, 15, 0, 0, 0) := rfl
theorem ct_2_15 : am_CT 2 15 = some (.bipush 2, 16, 0, 0, 0) := rfl
theorem ct_2_16 : am_CT 2 16 = some (.aload 0, 17, 0, 0, 0) := rfl
theorem ct_2_17 : am_CT 2 17 = some (.getfield 9, 20, 5, 0, 0) := rfl
theorem ct_2_20 : am_CT 2 20 = some (.iastore, 21, 0, 0, 0) := rfl
theorem ct_2_21 : am_CT 2 21 = some (.return_, 22, 0, 0, 0) := rfl
theorem ct_3_0 : am_CT 3 0 = some (.aload 0, 1, 0, 0, 0) := rfl
theorem ct_3_1 : am_CT 3 1 = some (.aload 1, 2, 0, 0, 0) := rfl
theorem ct_3_2 : am_CT 3 2 = some (.bipush 0, 3, 0, 0, 0) := rfl
theorem ct_3_3 : am_CT 3 3 = some (.iaload, 4, 0, 0, 0) := rfl
theorem ct_3_4 : am_CT 3 4 = some (.putfield 24, 7, 3, 0, 0) := rfl
theorem ct_3_7 : am_CT 3 7 = some (.aload 0, 8, 0, 0, 0) := rfl
theorem ct_3_8 : am_CT 3 8 = some (.aload 1, 9, 0, 0, 0) := rfl
theorem ct_3_9 : am_CT 3 9 = some (.bipush 1, 10, 0, 0, 0) := rfl
theorem ct_3_10 : am_CT 3 10 = some (.iaload, 11, 0, 0, 0) := rfl
theorem ct_3_11 : am_CT 3 11 = some (.putfield 27, 14, 4, 0, 0) := rfl
theorem ct_3_14 : am_CT 3 14 = some (.aload 0, 15, 0, 0, 0) := rfl
theorem ct_3_15 : am_CT 3 15 = some (.aload 1, 16, 0, 0, 0) := rfl
theorem ct_3_16 : am_CT 3 16 = some (.bipush 2, 17, 0, 0, 0) := rfl
theorem ct_3_17 : am_CT 3 17 = some (.iaload, 18, 0, 0, 0) := rfl
theorem ct_3_18 : am_CT 3 18 = some (.putfield 9, 21, 5, 0, 0) := rfl
theorem ct_3_21 : am_CT 3 21 = some (.return_, 22, 0, 0, 0) := rfl
theorem ct_4_0 : am_CT 4 0 = some (.bipush 2, 1, 0, 0, 0) := rfl
theorem ct_4_1 : am_CT 4 1 = some (.ireturn, 2, 0, 0, 0) := rfl
theorem ct_5_0 : am_CT 5 0 = some (.aload 1, 1, 0, 0, 0) := rfl
theorem ct_5_1 : am_CT 5 1 = some (.getfield 32, 4, 7, 3, 0) := rfl
theorem ct_5_4 : am_CT 5 4 = some (.aload 1, 5, 0, 0, 0) := rfl
theorem ct_5_5 : am_CT 5 5 = some (.getfield 37, 8, 2, 3, 0) := rfl
theorem ct_5_8 : am_CT 5 8 = some (.if_icmp .lt 7, 11, 15, 0, 0) := rfl
theorem ct_5_11 : am_CT 5 11 = some (.bipush 1, 12, 0, 0, 0) := rfl
theorem ct_5_12 : am_CT 5 12 = some (.goto 4, 15, 16, 0, 0) := rfl
theorem ct_5_15 : am_CT 5 15 = some (.bipush 0, 16, 0, 0, 0) := rfl
theorem ct_5_16 : am_CT 5 16 = some (.ireturn, 17, 1, 0, 0) := rfl
theorem ct_6_0 : am_CT 6 0 = some (.bipush 10, 2, 0, 0, 0) := rfl
theorem ct_6_2 : am_CT 6 2 = some (.aload 2, 3, 0, 0, 0) := rfl
theorem ct_6_3 : am_CT 6 3 = some (.invokestatic 38, 6, 9, 2, 0) := rfl
theorem ct_6_6 : am_CT 6 6 = some (.iload 1, 7, 0, 0, 0) := rfl
theorem ct_6_7 : am_CT 6 7 = some (.aload 0, 8, 0, 0, 0) := rfl
theorem ct_6_8 : am_CT 6 8 = some (.getfield 18, 11, 1, 0, 0) := rfl
theorem ct_6_11 : am_CT 6 11 = some (.iadd, 12, 0, 0, 0) := rfl
theorem ct_6_12 : am_CT 6 12 = some (.ireturn, 13, 0, 0, 0) := rfl
theorem ct_7_0 : am_CT 7 0 = some (.bipush 11, 2, 0, 0, 0) := rfl
theorem ct_7_2 : am_CT 7 2 = some (.aload 2, 3, 0, 0, 0) := rfl
theorem ct_7_3 : am_CT 7 3 = some (.invokestatic 38, 6, 9, 2, 0) := rfl
theorem ct_7_6 : am_CT 7 6 = some (.aload 0, 7, 0, 0, 0) := rfl
theorem ct_7_7 : am_CT 7 7 = some (.iload 1, 8, 0, 0, 0) := rfl
theorem ct_7_8 : am_CT 7 8 = some (.aload 2, 9, 0, 0, 0) := rfl
theorem ct_7_9 : am_CT 7 9 = some (.invokevirtual 42, 12, 5, 2, 0) := rfl
theorem ct_7_12 : am_CT 7 12 = some (.aload 0, 13, 0, 0, 0) := rfl
theorem ct_7_13 : am_CT 7 13 = some (.getfield 21, 16, 2, 0, 0) := rfl
theorem ct_7_16 : am_CT 7 16 = some (.isub, 17, 0, 0, 0) := rfl
theorem ct_7_17 : am_CT 7 17 = some (.ireturn, 18, 0, 0, 0) := rfl
theorem ct_8_0 : am_CT 8 0 = some (.bipush 12, 2, 0, 0, 0) := rfl
theorem ct_8_2 : am_CT 8 2 = some (.aload 2, 3, 0, 0, 0) := rfl
theorem ct_8_3 : am_CT 8 3 = some (.invokestatic 38, 6, 9, 2, 0) := rfl
theorem ct_8_6 : am_CT 8 6 = some (.aload 0, 7, 0, 0, 0) := rfl
theorem ct_8_7 : am_CT 8 7 = some (.iload 1, 8, 0, 0, 0) := rfl
theorem ct_8_8 : am_CT 8 8 = some (.aload 2, 9, 0, 0, 0) := rfl
theorem ct_8_9 : am_CT 8 9 = some (.invokevirtual 46, 12, 6, 2, 0) := rfl
theorem ct_8_12 : am_CT 8 12 = some (.bipush 2, 13, 0, 0, 0) := rfl
theorem ct_8_13 : am_CT 8 13 = some (.imul, 14, 0, 0, 0) := rfl
theorem ct_8_14 : am_CT 8 14 = some (.ireturn, 15, 0, 0, 0) := rfl
theorem ct_9_0 : am_CT 9 0 = some (.aload 1, 1, 0, 0, 0) := rfl
theorem ct_9_1 : am_CT 9 1 = some (.bipush 0, 2, 0, 0, 0) := rfl
theorem ct_9_2 : am_CT 9 2 = some (.dup2, 3, 0, 0, 0) := rfl
theorem ct_9_3 : am_CT 9 3 = some (.iaload, 4, 0, 0, 0) := rfl
theorem ct_9_4 : am_CT 9 4 = some (.bipush 1, 5, 0, 0, 0) := rfl
theorem ct_9_5 : am_CT 9 5 = some (.iadd, 6, 0, 0, 0) := rfl
theorem ct_9_6 : am_CT 9 6 = some (.iastore, 7, 0, 0, 0) := rfl
theorem ct_9_7 : am_CT 9 7 = some (.aload 1, 8, 0, 0, 0) := rfl
theorem ct_9_8 : am_CT 9 8 = some (.bipush 0, 9, 0, 0, 0) := rfl
theorem ct_9_9 : am_CT 9 9 = some (.iaload, 10, 0, 0, 0) := rfl
theorem ct_9_10 : am_CT 9 10 = some (.istore 2, 11, 0, 0, 0) := rfl
theorem ct_9_11 : am_CT 9 11 = some (.iload 2, 12, 0, 0, 0) := rfl
theorem ct_9_12 : am_CT 9 12 = some (.ifCond .le 13, 15, 25, 0, 0) := rfl
theorem ct_9_15 : am_CT 9 15 = some (.iload 2, 16, 0, 0, 0) := rfl
theorem ct_9_16 : am_CT 9 16 = some (.aload 1, 17, 0, 0, 0) := rfl
theorem ct_9_17 : am_CT 9 17 = some (.arraylength, 18, 0, 0, 0) := rfl
theorem ct_9_18 : am_CT 9 18 = some (.if_icmp .ge 7, 21, 25, 0, 0) := rfl
theorem ct_9_21 : am_CT 9 21 = some (.aload 1, 22, 0, 0, 0) := rfl
theorem ct_9_22 : am_CT 9 22 = some (.iload 2, 23, 0, 0, 0) := rfl
theorem ct_9_23 : am_CT 9 23 = some (.iload 0, 24, 0, 0, 0) := rfl
theorem ct_9_24 : am_CT 9 24 = some (.iastore, 25, 0, 0, 0) := rfl
theorem ct_9_25 : am_CT 9 25 = some (.return_, 26, 0, 0, 0) := rfl
theorem ct_10_0 : am_CT 10 0 = some (.aload 0, 1, 0, 0, 0) := rfl
theorem ct_10_1 : am_CT 10 1 = some (.iload 1, 2, 0, 0, 0) := rfl
theorem ct_10_2 : am_CT 10 2 = some (.iload 2, 3, 0, 0, 0) := rfl
theorem ct_10_3 : am_CT 10 3 = some (.iload 3, 4, 0, 0, 0) := rfl
theorem ct_10_4 : am_CT 10 4 = some (.iload 4, 6, 0, 0, 0) := rfl
theorem ct_10_6 : am_CT 10 6 = some (.iload 5, 8, 0, 0, 0) := rfl
theorem ct_10_8 : am_CT 10 8 = some (.invokespecial 1, 11, 0, 5, 0) := rfl
theorem ct_10_11 : am_CT 10 11 = some (.return_, 12, 0, 0, 0) := rfl
theorem ct_11_0 : am_CT 11 0 = some (.aload 1, 1, 0, 0, 0) := rfl
theorem ct_11_1 : am_CT 11 1 = some (.getfield 7, 4, 7, 3, 0) := rfl
theorem ct_11_4 : am_CT 11 4 = some (.aload 1, 5, 0, 0, 0) := rfl
theorem ct_11_5 : am_CT 11 5 = some (.getfield 13, 8, 2, 3, 0) := rfl
theorem ct_11_8 : am_CT 11 8 = some (.aload 0, 9, 0, 0, 0) := rfl
theorem ct_11_9 : am_CT 11 9 = some (.getfield 16, 12, 2, 0, 0) := rfl
theorem ct_11_12 : am_CT 11 12 = some (.iadd, 13, 0, 0, 0) := rfl
theorem ct_11_13 : am_CT 11 13 = some (.if_icmp .lt 7, 16, 20, 0, 0) := rfl
theorem ct_11_16 : am_CT 11 16 = some (.bipush 1, 17, 0, 0, 0) := rfl
theorem ct_11_17 : am_CT 11 17 = some (.goto 4, 20, 21, 0, 0) := rfl
theorem ct_11_20 : am_CT 11 20 = some (.bipush 0, 21, 0, 0, 0) := rfl
theorem ct_11_21 : am_CT 11 21 = some (.ireturn, 22, 1, 0, 0) := rfl
theorem ct_12_0 : am_CT 12 0 = some (.bipush 20, 2, 0, 0, 0) := rfl
theorem ct_12_2 : am_CT 12 2 = some (.aload 2, 3, 0, 0, 0) := rfl
theorem ct_12_3 : am_CT 12 3 = some (.invokestatic 21, 6, 9, 2, 0) := rfl
theorem ct_12_6 : am_CT 12 6 = some (.aload 0, 7, 0, 0, 0) := rfl
theorem ct_12_7 : am_CT 12 7 = some (.iload 1, 8, 0, 0, 0) := rfl
theorem ct_12_8 : am_CT 12 8 = some (.aload 2, 9, 0, 0, 0) := rfl
theorem ct_12_9 : am_CT 12 9 = some (.invokespecial 25, 12, 7, 2, 0) := rfl
theorem ct_12_12 : am_CT 12 12 = some (.bipush 6, 14, 0, 0, 0) := rfl
theorem ct_12_14 : am_CT 12 14 = some (.ixor, 15, 0, 0, 0) := rfl
theorem ct_12_15 : am_CT 12 15 = some (.ireturn, 16, 0, 0, 0) := rfl
theorem ct_13_0 : am_CT 13 0 = some (.aload 0, 1, 0, 0, 0) := rfl
theorem ct_13_1 : am_CT 13 1 = some (.iload 1, 2, 0, 0, 0) := rfl
theorem ct_13_2 : am_CT 13 2 = some (.iload 2, 3, 0, 0, 0) := rfl
theorem ct_13_3 : am_CT 13 3 = some (.iload 3, 4, 0, 0, 0) := rfl
theorem ct_13_4 : am_CT 13 4 = some (.iload 4, 6, 0, 0, 0) := rfl
theorem ct_13_6 : am_CT 13 6 = some (.iload 5, 8, 0, 0, 0) := rfl
theorem ct_13_8 : am_CT 13 8 = some (.invokespecial 1, 11, 0, 5, 0) := rfl
theorem ct_13_11 : am_CT 13 11 = some (.return_, 12, 0, 0, 0) := rfl
theorem ct_14_0 : am_CT 14 0 = some (.aload 0, 1, 0, 0, 0) := rfl
theorem ct_14_1 : am_CT 14 1 = some (.aload 1, 2, 0, 0, 0) := rfl
theorem ct_14_2 : am_CT 14 2 = some (.invokespecial 7, 5, 5, 1, 0) := rfl
theorem ct_14_5 : am_CT 14 5 = some (.ifCond .ne 19, 8, 24, 0, 0) := rfl
theorem ct_14_8 : am_CT 14 8 = some (.aload 1, 9, 0, 0, 0) := rfl
theorem ct_14_9 : am_CT 14 9 = some (.getfield 11, 12, 8, 3, 0) := rfl
theorem ct_14_12 : am_CT 14 12 = some (.aload 1, 13, 0, 0, 0) := rfl
theorem ct_14_13 : am_CT 14 13 = some (.getfield 17, 16, 7, 3, 0) := rfl
theorem ct_14_16 : am_CT 14 16 = some (.aload 0, 17, 0, 0, 0) := rfl
theorem ct_14_17 : am_CT 14 17 = some (.getfield 20, 20, 2, 0, 0) := rfl
theorem ct_14_20 : am_CT 14 20 = some (.iadd, 21, 0, 0, 0) := rfl
theorem ct_14_21 : am_CT 14 21 = some (.if_icmp .gt 7, 24, 28, 0, 0) := rfl
theorem ct_14_24 : am_CT 14 24 = some (.bipush 1, 25, 0, 0, 0) := rfl
theorem ct_14_25 : am_CT 14 25 = some (.goto 4, 28, 29, 0, 0) := rfl
theorem ct_14_28 : am_CT 14 28 = some (.bipush 0, 29, 0, 0, 0) := rfl
theorem ct_14_29 : am_CT 14 29 = some (.ireturn, 30, 1, 0, 0) := rfl
theorem ct_15_0 : am_CT 15 0 = some (.bipush 30, 2, 0, 0, 0) := rfl
theorem ct_15_2 : am_CT 15 2 = some (.aload 2, 3, 0, 0, 0) := rfl
theorem ct_15_3 : am_CT 15 3 = some (.invokestatic 25, 6, 9, 2, 0) := rfl
theorem ct_15_6 : am_CT 15 6 = some (.aload 0, 7, 0, 0, 0) := rfl
theorem ct_15_7 : am_CT 15 7 = some (.iload 1, 8, 0, 0, 0) := rfl
theorem ct_15_8 : am_CT 15 8 = some (.bipush 3, 9, 0, 0, 0) := rfl
theorem ct_15_9 : am_CT 15 9 = some (.imul, 10, 0, 0, 0) := rfl
theorem ct_15_10 : am_CT 15 10 = some (.aload 2, 11, 0, 0, 0) := rfl
theorem ct_15_11 : am_CT 15 11 = some (.invokespecial 29, 14, 6, 2, 0) := rfl
theorem ct_15_14 : am_CT 15 14 = some (.ireturn, 15, 0, 0, 0) := rfl
theorem ct_16_0 : am_CT 16 0 = some (.aload 0, 1, 0, 0, 0) := rfl
theorem ct_16_1 : am_CT 16 1 = some (.invokespecial 3, 4, 0, 0, 1) := rfl
theorem ct_16_4 : am_CT 16 4 = some (.aload 0, 5, 0, 0, 0) := rfl
theorem ct_16_5 : am_CT 16 5 = some (.aconst_null, 6, 0, 0, 0) := rfl
theorem ct_16_6 : am_CT 16 6 = some (.putfield 9, 9, 0, 3, 2) := rfl
theorem ct_16_9 : am_CT 16 9 = some (.aload 0, 10, 0, 0, 0) := rfl
theorem ct_16_10 : am_CT 16 10 = some (.bipush 0, 11, 0, 0, 0) := rfl
theorem ct_16_11 : am_CT 16 11 = some (.putfield 15, 14, 1, 3, 0) := rfl
theorem ct_16_14 : am_CT 16 14 = some (.aload 0, 15, 0, 0, 0) := rfl
theorem ct_16_15 : am_CT 16 15 = some (.bipush 0, 16, 0, 0, 0) := rfl
theorem ct_16_16 : am_CT 16 16 = some (.putfield 19, 19, 2, 3, 0) := rfl
theorem ct_16_19 : am_CT 16 19 = some (.aload 0, 20, 0, 0, 0) := rfl
theorem ct_16_20 : am_CT 16 20 = some (.bipush 0, 21, 0, 0, 0) := rfl
theorem ct_16_21 : am_CT 16 21 = some (.putfield 22, 24, 3, 3, 0) := rfl
theorem ct_16_24 : am_CT 16 24 = some (.aload 0, 25, 0, 0, 0) := rfl
theorem ct_16_25 : am_CT 16 25 = some (.bipush 0, 26, 0, 0, 0) := rfl
theorem ct_16_26 : am_CT 16 26 = some (.putfield 25, 29, 4, 3, 0) := rfl
theorem ct_16_29 : am_CT 16 29 = some (.aload 0, 30, 0, 0, 0) := rfl
theorem ct_16_30 : am_CT 16 30 = some (.bipush 0, 31, 0, 0, 0) := rfl
theorem ct_16_31 : am_CT 16 31 = some (.putfield 28, 34, 5, 3, 0) := rfl
theorem ct_16_34 : am_CT 16 34 = some (.aload 0, 35, 0, 0, 0) := rfl
theorem ct_16_35 : am_CT 16 35 = some (.bipush 0, 36, 0, 0, 0) := rfl
theorem ct_16_36 : am_CT 16 36 = some (.putfield 31, 39, 6, 3, 1) := rfl
theorem ct_16_39 : am_CT 16 39 = some (.aload 0, 40, 0, 0, 0) := rfl
theorem ct_16_40 : am_CT 16 40 = some (.bipush 0, 41, 0, 0, 0) := rfl
theorem ct_16_41 : am_CT 16 41 = some (.putfield 35, 44, 7, 3, 0) := rfl
theorem ct_16_44 : am_CT 16 44 = some (.aload 0, 45, 0, 0, 0) := rfl
theorem ct_16_45 : am_CT 16 45 = some (.bipush 0, 46, 0, 0, 0) := rfl
theorem ct_16_46 : am_CT 16 46 = some (.putfield 38, 49, 8, 3, 0) := rfl
theorem ct_16_49 : am_CT 16 49 = some (.aload 0, 50, 0, 0, 0) := rfl
theorem ct_16_50 : am_CT 16 50 = some (.bipush 0, 51, 0, 0, 0) := rfl
theorem ct_16_51 : am_CT 16 51 = some (.putfield 41, 54, 9, 3, 0) := rfl
theorem ct_16_54 : am_CT 16 54 = some (.aload 0, 55, 0, 0, 0) := rfl
theorem ct_16_55 : am_CT 16 55 = some (.bipush 0, 56, 0, 0, 0) := rfl
theorem ct_16_56 : am_CT 16 56 = some (.putfield 44, 59, 10, 3, 0) := rfl
theorem ct_16_59 : am_CT 16 59 = some (.aload 0, 60, 0, 0, 0) := rfl
theorem ct_16_60 : am_CT 16 60 = some (.bipush 0, 61, 0, 0, 0) := rfl
theorem ct_16_61 : am_CT 16 61 = some (.putfield 47, 64, 11, 3, 0) := rfl
theorem ct_16_64 : am_CT 16 64 = some (.aload 0, 65, 0, 0, 0) := rfl
theorem ct_16_65 : am_CT 16 65 = some (.bipush 0, 66, 0, 0, 0) := rfl
theorem ct_16_66 : am_CT 16 66 = some (.putfield 50, 69, 12, 3, 0) := rfl
theorem ct_16_69 : am_CT 16 69 = some (.aload 0, 70, 0, 0, 0) := rfl
theorem ct_16_70 : am_CT 16 70 = some (.bipush 0, 71, 0, 0, 0) := rfl
theorem ct_16_71 : am_CT 16 71 = some (.putfield 53, 74, 13, 3, 1) := rfl
theorem ct_16_74 : am_CT 16 74 = some (.aload 0, 75, 0, 0, 0) := rfl
theorem ct_16_75 : am_CT 16 75 = some (.bipush 6, 77, 0, 0, 0) := rfl
theorem ct_16_77 : am_CT 16 77 = some (.newarray .int, 79, 20, 0, 0) := rfl
theorem ct_16_79 : am_CT 16 79 = some (.putfield 58, 82, 14, 3, 2) := rfl
theorem ct_16_82 : am_CT 16 82 = some (.return_, 83, 0, 0, 0) := rfl
theorem ct_17_0 : am_CT 17 0 = some (.aload 1, 1, 0, 0, 0) := rfl
theorem ct_17_1 : am_CT 17 1 = some (.aload 0, 2, 0, 0, 0) := rfl
theorem ct_17_2 : am_CT 17 2 = some (.getfield 58, 5, 14, 3, 2) := rfl
theorem ct_17_5 : am_CT 17 5 = some (.invokevirtual 62, 8, 0, 1, 0) := rfl
theorem ct_17_8 : am_CT 17 8 = some (.aload 0, 9, 0, 0, 0) := rfl
theorem ct_17_9 : am_CT 17 9 = some (.bipush 0, 10, 0, 0, 0) := rfl
theorem ct_17_10 : am_CT 17 10 = some (.putfield 35, 13, 7, 3, 0) := rfl
theorem ct_17_13 : am_CT 17 13 = some (.aload 0, 14, 0, 0, 0) := rfl
theorem ct_17_14 : am_CT 17 14 = some (.aload 0, 15, 0, 0, 0) := rfl
theorem ct_17_15 : am_CT 17 15 = some (.getfield 15, 18, 1, 3, 0) := rfl
theorem ct_17_18 : am_CT 17 18 = some (.aload 0, 19, 0, 0, 0) := rfl
theorem ct_17_19 : am_CT 17 19 = some (.getfield 22, 22, 3, 3, 0) := rfl
theorem ct_17_22 : am_CT 17 22 = some (.imul, 23, 0, 0, 0) := rfl
theorem ct_17_23 : am_CT 17 23 = some (.putfield 38, 26, 8, 3, 0) := rfl
theorem ct_17_26 : am_CT 17 26 = some (.aload 0, 27, 0, 0, 0) := rfl
theorem ct_17_27 : am_CT 17 27 = some (.bipush 0, 28, 0, 0, 0) := rfl
theorem ct_17_28 : am_CT 17 28 = some (.putfield 53, 31, 13, 3, 1) := rfl
theorem ct_17_31 : am_CT 17 31 = some (.bipush 1, 32, 0, 0, 0) := rfl
theorem ct_17_32 : am_CT 17 32 = some (.istore 2, 33, 0, 0, 0) := rfl
theorem ct_17_33 : am_CT 17 33 = some (.iload 2, 34, 0, 0, 0) := rfl
theorem ct_17_34 : am_CT 17 34 = some (.bipush 30, 36, 0, 0, 0) := rfl
theorem ct_17_36 : am_CT 17 36 = some (.if_icmp .gt 50, 39, 86, 0, 0) := rfl
theorem ct_17_39 : am_CT 17 39 = some (.aload 0, 40, 0, 0, 0) := rfl
theorem ct_17_40 : am_CT 17 40 = some (.iload 2, 41, 0, 0, 0) := rfl
theorem ct_17_41 : am_CT 17 41 = some (.putfield 44, 44, 10, 3, 0) := rfl
theorem ct_17_44 : am_CT 17 44 = some (.aload 0, 45, 0, 0, 0) := rfl
theorem ct_17_45 : am_CT 17 45 = some (.aload 1, 46, 0, 0, 0) := rfl
theorem ct_17_46 : am_CT 17 46 = some (.invokevirtual 68, 49, 118, 1, 3) := rfl
theorem ct_17_49 : am_CT 17 49 = some (.aload 0, 50, 0, 0, 0) := rfl
theorem ct_17_50 : am_CT 17 50 = some (.getfield 38, 53, 8, 3, 0) := rfl
theorem ct_17_53 : am_CT 17 53 = some (.aload 0, 54, 0, 0, 0) := rfl
theorem ct_17_54 : am_CT 17 54 = some (.getfield 35, 57, 7, 3, 0) := rfl
theorem ct_17_57 : am_CT 17 57 = some (.bipush 2, 58, 0, 0, 0) := rfl
theorem ct_17_58 : am_CT 17 58 = some (.idiv, 59, 0, 0, 0) := rfl
theorem ct_17_59 : am_CT 17 59 = some (.if_icmp .ge 8, 62, 67, 0, 0) := rfl
theorem ct_17_62 : am_CT 17 62 = some (.aload 0, 63, 0, 0, 0) := rfl
theorem ct_17_63 : am_CT 17 63 = some (.invokevirtual 72, 66, 120, 0, 3) := rfl
theorem ct_17_66 : am_CT 17 66 = some (.return_, 67, 0, 0, 0) := rfl
theorem ct_17_67 : am_CT 17 67 = some (.aload 1, 68, 0, 0, 0) := rfl
theorem ct_17_68 : am_CT 17 68 = some (.aload 0, 69, 0, 0, 0) := rfl
theorem ct_17_69 : am_CT 17 69 = some (.invokevirtual 75, 72, 4, 1, 0) := rfl
theorem ct_17_72 : am_CT 17 72 = some (.ifCond .eq 8, 75, 80, 0, 0) := rfl
theorem ct_17_75 : am_CT 17 75 = some (.aload 0, 76, 0, 0, 0) := rfl
theorem ct_17_76 : am_CT 17 76 = some (.invokevirtual 79, 79, 119, 0, 3) := rfl
theorem ct_17_79 : am_CT 17 79 = some (.return_, 80, 0, 0, 0) := rfl
theorem ct_17_80 : am_CT 17 80 = some (.iinc 2 1, 83, 0, 0, 0) := rfl
theorem ct_17_83 : am_CT 17 83 = some (.goto (-50), 86, 33, 0, 0) := rfl
theorem ct_17_86 : am_CT 17 86 = some (.aload 0, 87, 0, 0, 0) := rfl
theorem ct_17_87 : am_CT 17 87 = some (.invokevirtual 72, 90, 120, 0, 3) := rfl
theorem ct_17_90 : am_CT 17 90 = some (.return_, 91, 0, 0, 0) := rfl
theorem ct_18_0 : am_CT 18 0 = some (.aload 0, 1, 0, 0, 0) := rfl
theorem ct_18_1 : am_CT 18 1 = some (.getfield 44, 4, 10, 3, 0) := rfl
theorem ct_18_4 : am_CT 18 4 = some (.bipush 1, 5, 0, 0, 0) := rfl
theorem ct_18_5 : am_CT 18 5 = some (.if_icmp .ne 10, 8, 15, 0, 0) := rfl
theorem ct_18_8 : am_CT 18 8 = some (.aload 0, 9, 0, 0, 0) := rfl
theorem ct_18_9 : am_CT 18 9 = some (.getfield 28, 12, 5, 3, 0) := rfl
theorem ct_18_12 : am_CT 18 12 = some (.goto 4, 15, 16, 0, 0) := rfl
theorem ct_18_15 : am_CT 18 15 = some (.bipush 0, 16, 0, 0, 0) := rfl
theorem ct_18_16 : am_CT 18 16 = some (.istore 2, 17, 0, 0, 0) := rfl
theorem ct_18_17 : am_CT 18 17 = some (.aload 0, 18, 0, 0, 0) := rfl
theorem ct_18_18 : am_CT 18 18 = some (.aload 0, 19, 0, 0, 0) := rfl
theorem ct_18_19 : am_CT 18 19 = some (.getfield 31, 22, 6, 3, 1) := rfl
theorem ct_18_22 : am_CT 18 22 = some (.ifCond .eq 7, 25, 29, 0, 0) := rfl
theorem ct_18_25 : am_CT 18 25 = some (.bipush 0, 26, 0, 0, 0) := rfl
theorem ct_18_26 : am_CT 18 26 = some (.goto 11, 29, 37, 0, 0) := rfl
theorem ct_18_29 : am_CT 18 29 = some (.aload 0, 30, 0, 0, 0) := rfl
theorem ct_18_30 : am_CT 18 30 = some (.bipush 0, 31, 0, 0, 0) := rfl
theorem ct_18_31 : am_CT 18 31 = some (.bipush 0, 32, 0, 0, 0) := rfl
theorem ct_18_32 : am_CT 18 32 = some (.invokevirtual 82, 35, 121, 2, 3) := rfl
theorem ct_18_35 : am_CT 18 35 = some (.iload 2, 36, 0, 0, 0) := rfl
theorem ct_18_36 : am_CT 18 36 = some (.iadd, 37, 0, 0, 0) := rfl
theorem ct_18_37 : am_CT 18 37 = some (.putfield 41, 40, 9, 3, 0) := rfl
theorem ct_18_40 : am_CT 18 40 = some (.aload 1, 41, 0, 0, 0) := rfl
theorem ct_18_41 : am_CT 18 41 = some (.aload 0, 42, 0, 0, 0) := rfl
theorem ct_18_42 : am_CT 18 42 = some (.getfield 35, 45, 7, 3, 0) := rfl
theorem ct_18_45 : am_CT 18 45 = some (.invokevirtual 86, 48, 3, 1, 0) := rfl
theorem ct_18_48 : am_CT 18 48 = some (.istore 3, 49, 0, 0, 0) := rfl
theorem ct_18_49 : am_CT 18 49 = some (.aload 0, 50, 0, 0, 0) := rfl
theorem ct_18_50 : am_CT 18 50 = some (.dup, 51, 0, 0, 0) := rfl
theorem ct_18_51 : am_CT 18 51 = some (.getfield 35, 54, 7, 3, 0) := rfl
theorem ct_18_54 : am_CT 18 54 = some (.iload 3, 55, 0, 0, 0) := rfl
theorem ct_18_55 : am_CT 18 55 = some (.iadd, 56, 0, 0, 0) := rfl
theorem ct_18_56 : am_CT 18 56 = some (.putfield 35, 59, 7, 3, 0) := rfl
theorem ct_18_59 : am_CT 18 59 = some (.aload 0, 60, 0, 0, 0) := rfl
theorem ct_18_60 : am_CT 18 60 = some (.dup, 61, 0, 0, 0) := rfl
theorem ct_18_61 : am_CT 18 61 = some (.getfield 38, 64, 8, 3, 0) := rfl
theorem ct_18_64 : am_CT 18 64 = some (.iload 3, 65, 0, 0, 0) := rfl
theorem ct_18_65 : am_CT 18 65 = some (.aload 0, 66, 0, 0, 0) := rfl
theorem ct_18_66 : am_CT 18 66 = some (.getfield 41, 69, 9, 3, 0) := rfl
theorem ct_18_69 : am_CT 18 69 = some (.iadd, 70, 0, 0, 0) := rfl
theorem ct_18_70 : am_CT 18 70 = some (.isub, 71, 0, 0, 0) := rfl
theorem ct_18_71 : am_CT 18 71 = some (.putfield 38, 74, 8, 3, 0) := rfl
theorem ct_18_74 : am_CT 18 74 = some (.aload 0, 75, 0, 0, 0) := rfl
theorem ct_18_75 : am_CT 18 75 = some (.dup, 76, 0, 0, 0) := rfl
theorem ct_18_76 : am_CT 18 76 = some (.getfield 25, 79, 4, 3, 0) := rfl
theorem ct_18_79 : am_CT 18 79 = some (.bipush 1, 80, 0, 0, 0) := rfl
theorem ct_18_80 : am_CT 18 80 = some (.iadd, 81, 0, 0, 0) := rfl
theorem ct_18_81 : am_CT 18 81 = some (.putfield 25, 84, 4, 3, 0) := rfl
theorem ct_18_84 : am_CT 18 84 = some (.return_, 85, 0, 0, 0) := rfl
theorem ct_19_0 : am_CT 19 0 = some (.aload 0, 1, 0, 0, 0) := rfl
theorem ct_19_1 : am_CT 19 1 = some (.bipush 10, 3, 0, 0, 0) := rfl
theorem ct_19_3 : am_CT 19 3 = some (.aload 0, 4, 0, 0, 0) := rfl
theorem ct_19_4 : am_CT 19 4 = some (.getfield 38, 7, 8, 3, 0) := rfl
theorem ct_19_7 : am_CT 19 7 = some (.imul, 8, 0, 0, 0) := rfl
theorem ct_19_8 : am_CT 19 8 = some (.aload 0, 9, 0, 0, 0) := rfl
theorem ct_19_9 : am_CT 19 9 = some (.getfield 35, 12, 7, 3, 0) := rfl
theorem ct_19_12 : am_CT 19 12 = some (.bipush 1, 13, 0, 0, 0) := rfl
theorem ct_19_13 : am_CT 19 13 = some (.iadd, 14, 0, 0, 0) := rfl
theorem ct_19_14 : am_CT 19 14 = some (.idiv, 15, 0, 0, 0) := rfl
theorem ct_19_15 : am_CT 19 15 = some (.aload 0, 16, 0, 0, 0) := rfl
theorem ct_19_16 : am_CT 19 16 = some (.bipush 1, 17, 0, 0, 0) := rfl
theorem ct_19_17 : am_CT 19 17 = some (.bipush 1, 18, 0, 0, 0) := rfl
theorem ct_19_18 : am_CT 19 18 = some (.invokevirtual 82, 21, 121, 2, 3) := rfl
theorem ct_19_21 : am_CT 19 21 = some (.bipush 1, 22, 0, 0, 0) := rfl
theorem ct_19_22 : am_CT 19 22 = some (.iadd, 23, 0, 0, 0) := rfl
theorem ct_19_23 : am_CT 19 23 = some (.idiv, 24, 0, 0, 0) := rfl
theorem ct_19_24 : am_CT 19 24 = some (.putfield 47, 27, 11, 3, 0) := rfl
theorem ct_19_27 : am_CT 19 27 = some (.aload 0, 28, 0, 0, 0) := rfl
theorem ct_19_28 : am_CT 19 28 = some (.aload 0, 29, 0, 0, 0) := rfl
theorem ct_19_29 : am_CT 19 29 = some (.getfield 35, 32, 7, 3, 0) := rfl
theorem ct_19_32 : am_CT 19 32 = some (.aload 0, 33, 0, 0, 0) := rfl
theorem ct_19_33 : am_CT 19 33 = some (.getfield 47, 36, 11, 3, 0) := rfl
theorem ct_19_36 : am_CT 19 36 = some (.imul, 37, 0, 0, 0) := rfl
theorem ct_19_37 : am_CT 19 37 = some (.aload 0, 38, 0, 0, 0) := rfl
theorem ct_19_38 : am_CT 19 38 = some (.bipush 2, 39, 0, 0, 0) := rfl
theorem ct_19_39 : am_CT 19 39 = some (.bipush 1, 40, 0, 0, 0) := rfl
theorem ct_19_40 : am_CT 19 40 = some (.invokevirtual 82, 43, 121, 2, 3) := rfl
theorem ct_19_43 : am_CT 19 43 = some (.imul, 44, 0, 0, 0) := rfl
theorem ct_19_44 : am_CT 19 44 = some (.bipush 99999, 46, 90, 1, 0) := rfl
theorem ct_19_46 : am_CT 19 46 = some (.invokestatic 91, 49, 202, 2, 0) := rfl
theorem ct_19_49 : am_CT 19 49 = some (.putfield 50, 52, 12, 3, 0) := rfl
theorem ct_19_52 : am_CT 19 52 = some (.return_, 53, 0, 0, 0) := rfl
theorem ct_20_0 : am_CT 20 0 = some (.aload 0, 1, 0, 0, 0) := rfl
theorem ct_20_1 : am_CT 20 1 = some (.bipush 1, 2, 0, 0, 0) := rfl
theorem ct_20_2 : am_CT 20 2 = some (.putfield 53, 5, 13, 3, 1) := rfl
theorem ct_20_5 : am_CT 20 5 = some (.aload 0, 6, 0, 0, 0) := rfl
theorem ct_20_6 : am_CT 20 6 = some (.bipush 0, 7, 0, 0, 0) := rfl
theorem ct_20_7 : am_CT 20 7 = some (.putfield 35, 10, 7, 3, 0) := rfl
theorem ct_20_10 : am_CT 20 10 = some (.aload 0, 11, 0, 0, 0) := rfl
theorem ct_20_11 : am_CT 20 11 = some (.bipush 0, 12, 0, 0, 0) := rfl
theorem ct_20_12 : am_CT 20 12 = some (.putfield 47, 15, 11, 3, 0) := rfl
theorem ct_20_15 : am_CT 20 15 = some (.aload 0, 16, 0, 0, 0) := rfl
theorem ct_20_16 : am_CT 20 16 = some (.bipush 0, 17, 0, 0, 0) := rfl
theorem ct_20_17 : am_CT 20 17 = some (.putfield 50, 20, 12, 3, 0) := rfl
theorem ct_20_20 : am_CT 20 20 = some (.return_, 21, 0, 0, 0) := rfl
theorem ct_21_0 : am_CT 21 0 = some (.aload 0, 1, 0, 0, 0) := rfl
theorem ct_21_1 : am_CT 21 1 = some (.getfield 9, 4, 0, 3, 2) := rfl
theorem ct_21_4 : am_CT 21 4 = some (.ifnonnull 5, 7, 9, 0, 0) := rfl
theorem ct_21_7 : am_CT 21 7 = some (.iload 2, 8, 0, 0, 0) := rfl
theorem ct_21_8 : am_CT 21 8 = some (.ireturn, 9, 0, 0, 0) := rfl
theorem ct_21_9 : am_CT 21 9 = some (.aload 0, 10, 0, 0, 0) := rfl
theorem ct_21_10 : am_CT 21 10 = some (.getfield 58, 13, 14, 3, 2) := rfl
theorem ct_21_13 : am_CT 21 13 = some (.bipush 3, 14, 0, 0, 0) := rfl
theorem ct_21_14 : am_CT 21 14 = some (.aload 0, 15, 0, 0, 0) := rfl
theorem ct_21_15 : am_CT 21 15 = some (.getfield 25, 18, 4, 3, 0) := rfl
theorem ct_21_18 : am_CT 21 18 = some (.bipush 12, 20, 0, 0, 0) := rfl
theorem ct_21_20 : am_CT 21 20 = some (.irem, 21, 0, 0, 0) := rfl
theorem ct_21_21 : am_CT 21 21 = some (.iastore, 22, 0, 0, 0) := rfl
theorem ct_21_22 : am_CT 21 22 = some (.aload 0, 23, 0, 0, 0) := rfl
theorem ct_21_23 : am_CT 21 23 = some (.getfield 58, 26, 14, 3, 2) := rfl
theorem ct_21_26 : am_CT 21 26 = some (.bipush 4, 27, 0, 0, 0) := rfl
theorem ct_21_27 : am_CT 21 27 = some (.aload 0, 28, 0, 0, 0) := rfl
theorem ct_21_28 : am_CT 21 28 = some (.getfield 35, 31, 7, 3, 0) := rfl
theorem ct_21_31 : am_CT 21 31 = some (.bipush 10, 33, 0, 0, 0) := rfl
theorem ct_21_33 : am_CT 21 33 = some (.idiv, 34, 0, 0, 0) := rfl
theorem ct_21_34 : am_CT 21 34 = some (.iastore, 35, 0, 0, 0) := rfl
theorem ct_21_35 : am_CT 21 35 = some (.aload 0, 36, 0, 0, 0) := rfl
theorem ct_21_36 : am_CT 21 36 = some (.getfield 58, 39, 14, 3, 2) := rfl
theorem ct_21_39 : am_CT 21 39 = some (.bipush 5, 40, 0, 0, 0) := rfl
theorem ct_21_40 : am_CT 21 40 = some (.aload 0, 41, 0, 0, 0) := rfl
theorem ct_21_41 : am_CT 21 41 = some (.getfield 38, 44, 8, 3, 0) := rfl
theorem ct_21_44 : am_CT 21 44 = some (.bipush 10, 46, 0, 0, 0) := rfl
theorem ct_21_46 : am_CT 21 46 = some (.idiv, 47, 0, 0, 0) := rfl
theorem ct_21_47 : am_CT 21 47 = some (.iastore, 48, 0, 0, 0) := rfl
theorem ct_21_48 : am_CT 21 48 = some (.aload 0, 49, 0, 0, 0) := rfl
theorem ct_21_49 : am_CT 21 49 = some (.getfield 9, 52, 0, 3, 2) := rfl
theorem ct_21_52 : am_CT 21 52 = some (.iload 1, 53, 0, 0, 0) := rfl
theorem ct_21_53 : am_CT 21 53 = some (.aload 0, 54, 0, 0, 0) := rfl
theorem ct_21_54 : am_CT 21 54 = some (.getfield 58, 57, 14, 3, 2) := rfl
theorem ct_21_57 : am_CT 21 57 = some (.iload 2, 58, 0, 0, 0) := rfl
theorem ct_21_58 : am_CT 21 58 = some (.invokevirtual 96, 61, 134, 3, 6) := rfl
theorem ct_21_61 : am_CT 21 61 = some (.ireturn, 62, 0, 0, 0) := rfl
theorem ct_22_0 : am_CT 22 0 = some (.aload 0, 1, 0, 0, 0) := rfl
theorem ct_22_1 : am_CT 22 1 = some (.iload 1, 2, 0, 0, 0) := rfl
theorem ct_22_2 : am_CT 22 2 = some (.iload 2, 3, 0, 0, 0) := rfl
theorem ct_22_3 : am_CT 22 3 = some (.iload 3, 4, 0, 0, 0) := rfl
theorem ct_22_4 : am_CT 22 4 = some (.iload 4, 6, 0, 0, 0) := rfl
theorem ct_22_6 : am_CT 22 6 = some (.iload 5, 8, 0, 0, 0) := rfl
theorem ct_22_8 : am_CT 22 8 = some (.invokespecial 1, 11, 10, 5, 0) := rfl
theorem ct_22_11 : am_CT 22 11 = some (.return_, 12, 0, 0, 0) := rfl
theorem ct_23_0 : am_CT 23 0 = some (.iload 1, 1, 0, 0, 0) := rfl
theorem ct_23_1 : am_CT 23 1 = some (.bipush 20, 3, 0, 0, 0) := rfl
theorem ct_23_3 : am_CT 23 3 = some (.if_icmp .ge 7, 6, 10, 0, 0) := rfl
theorem ct_23_6 : am_CT 23 6 = some (.bipush 3, 7, 0, 0, 0) := rfl
theorem ct_23_7 : am_CT 23 7 = some (.goto 4, 10, 11, 0, 0) := rfl
theorem ct_23_10 : am_CT 23 10 = some (.bipush 2, 11, 0, 0, 0) := rfl
theorem ct_23_11 : am_CT 23 11 = some (.ireturn, 12, 0, 0, 0) := rfl
theorem ct_24_0 : am_CT 24 0 = some (.aload 1, 1, 0, 0, 0) := rfl
theorem ct_24_1 : am_CT 24 1 = some (.getfield 7, 4, 9, 3, 0) := rfl
theorem ct_24_4 : am_CT 24 4 = some (.bipush 5, 5, 0, 0, 0) := rfl
theorem ct_24_5 : am_CT 24 5 = some (.if_icmp .gt 15, 8, 20, 0, 0) := rfl
theorem ct_24_8 : am_CT 24 8 = some (.aload 0, 9, 0, 0, 0) := rfl
theorem ct_24_9 : am_CT 24 9 = some (.aload 1, 10, 0, 0, 0) := rfl
theorem ct_24_10 : am_CT 24 10 = some (.invokespecial 13, 13, 11, 1, 0) := rfl
theorem ct_24_13 : am_CT 24 13 = some (.ifCond .eq 7, 16, 20, 0, 0) := rfl
theorem ct_24_16 : am_CT 24 16 = some (.bipush 1, 17, 0, 0, 0) := rfl
theorem ct_24_17 : am_CT 24 17 = some (.goto 4, 20, 21, 0, 0) := rfl
theorem ct_24_20 : am_CT 24 20 = some (.bipush 0, 21, 0, 0, 0) := rfl
theorem ct_24_21 : am_CT 24 21 = some (.ireturn, 22, 1, 0, 0) := rfl
theorem ct_25_0 : am_CT 25 0 = some (.bipush 50, 2, 0, 0, 0) := rfl
theorem ct_25_2 : am_CT 25 2 = some (.aload 2, 3, 0, 0, 0) := rfl
theorem ct_25_3 : am_CT 25 3 = some (.invokestatic 17, 6, 9, 2, 0) := rfl
theorem ct_25_6 : am_CT 25 6 = some (.aload 0, 7, 0, 0, 0) := rfl
theorem ct_25_7 : am_CT 25 7 = some (.iload 1, 8, 0, 0, 0) := rfl
theorem ct_25_8 : am_CT 25 8 = some (.aload 2, 9, 0, 0, 0) := rfl
theorem ct_25_9 : am_CT 25 9 = some (.invokespecial 23, 12, 6, 2, 0) := rfl
theorem ct_25_12 : am_CT 25 12 = some (.ineg, 13, 0, 0, 0) := rfl
theorem ct_25_13 : am_CT 25 13 = some (.ireturn, 14, 0, 0, 0) := rfl
theorem ct_26_0 : am_CT 26 0 = some (.bipush 51, 2, 0, 0, 0) := rfl
theorem ct_26_2 : am_CT 26 2 = some (.aload 2, 3, 0, 0, 0) := rfl
theorem ct_26_3 : am_CT 26 3 = some (.invokestatic 17, 6, 9, 2, 0) := rfl
theorem ct_26_6 : am_CT 26 6 = some (.aload 0, 7, 0, 0, 0) := rfl
theorem ct_26_7 : am_CT 26 7 = some (.iload 1, 8, 0, 0, 0) := rfl
theorem ct_26_8 : am_CT 26 8 = some (.bipush 1, 9, 0, 0, 0) := rfl
theorem ct_26_9 : am_CT 26 9 = some (.iadd, 10, 0, 0, 0) := rfl
theorem ct_26_10 : am_CT 26 10 = some (.aload 2, 11, 0, 0, 0) := rfl
theorem ct_26_11 : am_CT 26 11 = some (.invokespecial 27, 14, 12, 2, 0) := rfl
theorem ct_26_14 : am_CT 26 14 = some (.ireturn, 15, 0, 0, 0) := rfl
theorem ct_27_0 : am_CT 27 0 = some (.aload 0, 1, 0, 0, 0) := rfl
theorem ct_27_1 : am_CT 27 1 = some (.iload 1, 2, 0, 0, 0) := rfl
theorem ct_27_2 : am_CT 27 2 = some (.iload 2, 3, 0, 0, 0) := rfl
theorem ct_27_3 : am_CT 27 3 = some (.iload 3, 4, 0, 0, 0) := rfl
theorem ct_27_4 : am_CT 27 4 = some (.iload 4, 6, 0, 0, 0) := rfl
theorem ct_27_6 : am_CT 27 6 = some (.iload 5, 8, 0, 0, 0) := rfl
theorem ct_27_8 : am_CT 27 8 = some (.invokespecial 1, 11, 0, 5, 0) := rfl
theorem ct_27_11 : am_CT 27 11 = some (.return_, 12, 0, 0, 0) := rfl
theorem ct_28_0 : am_CT 28 0 = some (.bipush 1, 1, 0, 0, 0) := rfl
theorem ct_28_1 : am_CT 28 1 = some (.ireturn, 2, 0, 0, 0) := rfl
theorem ct_29_0 : am_CT 29 0 = some (.bipush 40, 2, 0, 0, 0) := rfl
theorem ct_29_2 : am_CT 29 2 = some (.aload 2, 3, 0, 0, 0) := rfl
theorem ct_29_3 : am_CT 29 3 = some (.invokestatic 7, 6, 9, 2, 0) := rfl
theorem ct_29_6 : am_CT 29 6 = some (.aload 0, 7, 0, 0, 0) := rfl
theorem ct_29_7 : am_CT 29 7 = some (.iload 1, 8, 0, 0, 0) := rfl
theorem ct_29_8 : am_CT 29 8 = some (.aload 2, 9, 0, 0, 0) := rfl
theorem ct_29_9 : am_CT 29 9 = some (.invokespecial 13, 12, 8, 2, 0) := rfl
theorem ct_29_12 : am_CT 29 12 = some (.aload 0, 13, 0, 0, 0) := rfl
theorem ct_29_13 : am_CT 29 13 = some (.bipush 1, 14, 0, 0, 0) := rfl
theorem ct_29_14 : am_CT 29 14 = some (.aload 2, 15, 0, 0, 0) := rfl
theorem ct_29_15 : am_CT 29 15 = some (.invokevirtual 17, 18, 6, 2, 5) := rfl
theorem ct_29_18 : am_CT 29 18 = some (.iadd, 19, 0, 0, 0) := rfl
theorem ct_29_19 : am_CT 29 19 = some (.ireturn, 20, 0, 0, 0) := rfl
theorem ct_30_0 : am_CT 30 0 = some (.aload 0, 1, 0, 0, 0) := rfl
theorem ct_30_1 : am_CT 30 1 = some (.invokespecial 1, 4, 0, 0, 1) := rfl
theorem ct_30_4 : am_CT 30 4 = some (.aload 0, 5, 0, 0, 0) := rfl
theorem ct_30_5 : am_CT 30 5 = some (.bipush 10, 7, 0, 0, 0) := rfl
theorem ct_30_7 : am_CT 30 7 = some (.newarray .int, 9, 20, 0, 0) := rfl
theorem ct_30_9 : am_CT 30 9 = some (.putfield 9, 12, 0, 6, 2) := rfl
theorem ct_30_12 : am_CT 30 12 = some (.aload 0, 13, 0, 0, 0) := rfl
theorem ct_30_13 : am_CT 30 13 = some (.bipush 10, 15, 0, 0, 0) := rfl
theorem ct_30_15 : am_CT 30 15 = some (.newarray .int, 17, 20, 0, 0) := rfl
theorem ct_30_17 : am_CT 30 17 = some (.putfield 13, 20, 1, 6, 2) := rfl
theorem ct_30_20 : am_CT 30 20 = some (.aload 0, 21, 0, 0, 0) := rfl
theorem ct_30_21 : am_CT 30 21 = some (.bipush 10, 23, 0, 0, 0) := rfl
theorem ct_30_23 : am_CT 30 23 = some (.newarray .int, 25, 20, 0, 0) := rfl
theorem ct_30_25 : am_CT 30 25 = some (.putfield 16, 28, 2, 6, 2) := rfl
theorem ct_30_28 : am_CT 30 28 = some (.aload 0, 29, 0, 0, 0) := rfl
theorem ct_30_29 : am_CT 30 29 = some (.bipush 0, 30, 0, 0, 0) := rfl
theorem ct_30_30 : am_CT 30 30 = some (.putfield 19, 33, 3, 6, 0) := rfl
theorem ct_30_33 : am_CT 30 33 = some (.aload 0, 34, 0, 0, 0) := rfl
theorem ct_30_34 : am_CT 30 34 = some (.bipush 100, 36, 0, 0, 0) := rfl
theorem ct_30_36 : am_CT 30 36 = some (.newarray .int, 38, 20, 0, 0) := rfl
theorem ct_30_38 : am_CT 30 38 = some (.putfield 25, 41, 4, 6, 2) := rfl
theorem ct_30_41 : am_CT 30 41 = some (.aload 0, 42, 0, 0, 0) := rfl
theorem ct_30_42 : am_CT 30 42 = some (.bipush 100, 44, 0, 0, 0) := rfl
theorem ct_30_44 : am_CT 30 44 = some (.newarray .int, 46, 20, 0, 0) := rfl
theorem ct_30_46 : am_CT 30 46 = some (.putfield 28, 49, 5, 6, 2) := rfl
theorem ct_30_49 : am_CT 30 49 = some (.aload 0, 50, 0, 0, 0) := rfl
theorem ct_30_50 : am_CT 30 50 = some (.bipush 100, 52, 0, 0, 0) := rfl
theorem ct_30_52 : am_CT 30 52 = some (.newarray .int, 54, 20, 0, 0) := rfl
theorem ct_30_54 : am_CT 30 54 = some (.putfield 31, 57, 6, 6, 2) := rfl
theorem ct_30_57 : am_CT 30 57 = some (.aload 0, 58, 0, 0, 0) := rfl
theorem ct_30_58 : am_CT 30 58 = some (.bipush 0, 59, 0, 0, 0) := rfl
theorem ct_30_59 : am_CT 30 59 = some (.putfield 34, 62, 7, 6, 0) := rfl
theorem ct_30_62 : am_CT 30 62 = some (.return_, 63, 0, 0, 0) := rfl
theorem ct_31_0 : am_CT 31 0 = some (.aload 0, 1, 0, 0, 0) := rfl
theorem ct_31_1 : am_CT 31 1 = some (.bipush 0, 2, 0, 0, 0) := rfl
theorem ct_31_2 : am_CT 31 2 = some (.putfield 19, 5, 3, 6, 0) := rfl
theorem ct_31_5 : am_CT 31 5 = some (.aload 0, 6, 0, 0, 0) := rfl
theorem ct_31_6 : am_CT 31 6 = some (.bipush 0, 7, 0, 0, 0) := rfl
theorem ct_31_7 : am_CT 31 7 = some (.putfield 34, 10, 7, 6, 0) := rfl
theorem ct_31_10 : am_CT 31 10 = some (.return_, 11, 0, 0, 0) := rfl
theorem ct_32_0 : am_CT 32 0 = some (.aload 0, 1, 0, 0, 0) := rfl
theorem ct_32_1 : am_CT 32 1 = some (.getfield 34, 4, 7, 6, 0) := rfl
theorem ct_32_4 : am_CT 32 4 = some (.aload 0, 5, 0, 0, 0) := rfl
theorem ct_32_5 : am_CT 32 5 = some (.getfield 25, 8, 4, 6, 2) := rfl
theorem ct_32_8 : am_CT 32 8 = some (.arraylength, 9, 0, 0, 0) := rfl
theorem ct_32_9 : am_CT 32 9 = some (.if_icmp .lt 4, 12, 13, 0, 0) := rfl
theorem ct_32_12 : am_CT 32 12 = some (.return_, 13, 0, 0, 0) := rfl
theorem ct_32_13 : am_CT 32 13 = some (.aload 0, 14, 0, 0, 0) := rfl
theorem ct_32_14 : am_CT 32 14 = some (.getfield 25, 17, 4, 6, 2) := rfl
theorem ct_32_17 : am_CT 32 17 = some (.aload 0, 18, 0, 0, 0) := rfl
theorem ct_32_18 : am_CT 32 18 = some (.getfield 34, 21, 7, 6, 0) := rfl
theorem ct_32_21 : am_CT 32 21 = some (.iload 1, 22, 0, 0, 0) := rfl
theorem ct_32_22 : am_CT 32 22 = some (.iastore, 23, 0, 0, 0) := rfl
theorem ct_32_23 : am_CT 32 23 = some (.aload 0, 24, 0, 0, 0) := rfl
theorem ct_32_24 : am_CT 32 24 = some (.getfield 28, 27, 5, 6, 2) := rfl
theorem ct_32_27 : am_CT 32 27 = some (.aload 0, 28, 0, 0, 0) := rfl
theorem ct_32_28 : am_CT 32 28 = some (.getfield 34, 31, 7, 6, 0) := rfl
theorem ct_32_31 : am_CT 32 31 = some (.iload 2, 32, 0, 0, 0) := rfl
theorem ct_32_32 : am_CT 32 32 = some (.iastore, 33, 0, 0, 0) := rfl
theorem ct_32_33 : am_CT 32 33 = some (.aload 0, 34, 0, 0, 0) := rfl
theorem ct_32_34 : am_CT 32 34 = some (.getfield 31, 37, 6, 6, 2) := rfl
theorem ct_32_37 : am_CT 32 37 = some (.aload 0, 38, 0, 0, 0) := rfl
theorem ct_32_38 : am_CT 32 38 = some (.getfield 34, 41, 7, 6, 0) := rfl
theorem ct_32_41 : am_CT 32 41 = some (.iload 3, 42, 0, 0, 0) := rfl
theorem ct_32_42 : am_CT 32 42 = some (.iastore, 43, 0, 0, 0) := rfl
theorem ct_32_43 : am_CT 32 43 = some (.aload 0, 44, 0, 0, 0) := rfl
theorem ct_32_44 : am_CT 32 44 = some (.dup, 45, 0, 0, 0) := rfl
theorem ct_32_45 : am_CT 32 45 = some (.getfield 34, 48, 7, 6, 0) := rfl
theorem ct_32_48 : am_CT 32 48 = some (.bipush 1, 49, 0, 0, 0) := rfl
theorem ct_32_49 : am_CT 32 49 = some (.iadd, 50, 0, 0, 0) := rfl
theorem ct_32_50 : am_CT 32 50 = some (.putfield 34, 53, 7, 6, 0) := rfl
theorem ct_32_53 : am_CT 32 53 = some (.return_, 54, 0, 0, 0) := rfl
theorem ct_33_0 : am_CT 33 0 = some (.aload 0, 1, 0, 0, 0) := rfl
theorem ct_33_1 : am_CT 33 1 = some (.getfield 19, 4, 3, 6, 0) := rfl
theorem ct_33_4 : am_CT 33 4 = some (.bipush 10, 6, 0, 0, 0) := rfl
theorem ct_33_6 : am_CT 33 6 = some (.if_icmp .lt 4, 9, 10, 0, 0) := rfl
theorem ct_33_9 : am_CT 33 9 = some (.return_, 10, 0, 0, 0) := rfl
theorem ct_33_10 : am_CT 33 10 = some (.aload 0, 11, 0, 0, 0) := rfl
theorem ct_33_11 : am_CT 33 11 = some (.getfield 9, 14, 0, 6, 2) := rfl
theorem ct_33_14 : am_CT 33 14 = some (.aload 0, 15, 0, 0, 0) := rfl
theorem ct_33_15 : am_CT 33 15 = some (.getfield 19, 18, 3, 6, 0) := rfl
theorem ct_33_18 : am_CT 33 18 = some (.iload 1, 19, 0, 0, 0) := rfl
theorem ct_33_19 : am_CT 33 19 = some (.iastore, 20, 0, 0, 0) := rfl
theorem ct_33_20 : am_CT 33 20 = some (.aload 0, 21, 0, 0, 0) := rfl
theorem ct_33_21 : am_CT 33 21 = some (.getfield 13, 24, 1, 6, 2) := rfl
theorem ct_33_24 : am_CT 33 24 = some (.aload 0, 25, 0, 0, 0) := rfl
theorem ct_33_25 : am_CT 33 25 = some (.getfield 19, 28, 3, 6, 0) := rfl
theorem ct_33_28 : am_CT 33 28 = some (.iload 2, 29, 0, 0, 0) := rfl
theorem ct_33_29 : am_CT 33 29 = some (.iastore, 30, 0, 0, 0) := rfl
theorem ct_33_30 : am_CT 33 30 = some (.aload 0, 31, 0, 0, 0) := rfl
theorem ct_33_31 : am_CT 33 31 = some (.getfield 16, 34, 2, 6, 2) := rfl
theorem ct_33_34 : am_CT 33 34 = some (.aload 0, 35, 0, 0, 0) := rfl
theorem ct_33_35 : am_CT 33 35 = some (.getfield 19, 38, 3, 6, 0) := rfl
theorem ct_33_38 : am_CT 33 38 = some (.aload 0, 39, 0, 0, 0) := rfl
theorem ct_33_39 : am_CT 33 39 = some (.getfield 34, 42, 7, 6, 0) := rfl
theorem ct_33_42 : am_CT 33 42 = some (.iastore, 43, 0, 0, 0) := rfl
theorem ct_33_43 : am_CT 33 43 = some (.aload 0, 44, 0, 0, 0) := rfl
theorem ct_33_44 : am_CT 33 44 = some (.dup, 45, 0, 0, 0) := rfl
theorem ct_33_45 : am_CT 33 45 = some (.getfield 19, 48, 3, 6, 0) := rfl
theorem ct_33_48 : am_CT 33 48 = some (.bipush 1, 49, 0, 0, 0) := rfl
theorem ct_33_49 : am_CT 33 49 = some (.iadd, 50, 0, 0, 0) := rfl
theorem ct_33_50 : am_CT 33 50 = some (.putfield 19, 53, 3, 6, 0) := rfl
theorem ct_33_53 : am_CT 33 53 = some (.return_, 54, 0, 0, 0) := rfl
theorem ct_34_0 : am_CT 34 0 = some (.bipush 0, 1, 0, 0, 0) := rfl
theorem ct_34_1 : am_CT 34 1 = some (.istore 4, 3, 0, 0, 0) := rfl
theorem ct_34_3 : am_CT 34 3 = some (.bipush 0, 4, 0, 0, 0) := rfl
theorem ct_34_4 : am_CT 34 4 = some (.istore 5, 6, 0, 0, 0) := rfl
theorem ct_34_6 : am_CT 34 6 = some (.bipush 0, 7, 0, 0, 0) := rfl
theorem ct_34_7 : am_CT 34 7 = some (.istore 6, 9, 0, 0, 0) := rfl
theorem ct_34_9 : am_CT 34 9 = some (.bipush 0, 10, 0, 0, 0) := rfl
theorem ct_34_10 : am_CT 34 10 = some (.istore 7, 12, 0, 0, 0) := rfl
theorem ct_34_12 : am_CT 34 12 = some (.iload 7, 14, 0, 0, 0) := rfl
theorem ct_34_14 : am_CT 34 14 = some (.aload 0, 15, 0, 0, 0) := rfl
theorem ct_34_15 : am_CT 34 15 = some (.getfield 19, 18, 3, 6, 0) := rfl
theorem ct_34_18 : am_CT 34 18 = some (.if_icmp .ge 61, 21, 79, 0, 0) := rfl
theorem ct_34_21 : am_CT 34 21 = some (.aload 0, 22, 0, 0, 0) := rfl
theorem ct_34_22 : am_CT 34 22 = some (.getfield 9, 25, 0, 6, 2) := rfl
theorem ct_34_25 : am_CT 34 25 = some (.iload 7, 27, 0, 0, 0) := rfl
theorem ct_34_27 : am_CT 34 27 = some (.iaload, 28, 0, 0, 0) := rfl
theorem ct_34_28 : am_CT 34 28 = some (.iload 1, 29, 0, 0, 0) := rfl
theorem ct_34_29 : am_CT 34 29 = some (.if_icmp .ne 35, 32, 64, 0, 0) := rfl
theorem ct_34_32 : am_CT 34 32 = some (.bipush 1, 33, 0, 0, 0) := rfl
theorem ct_34_33 : am_CT 34 33 = some (.istore 5, 35, 0, 0, 0) := rfl
theorem ct_34_35 : am_CT 34 35 = some (.aload 0, 36, 0, 0, 0) := rfl
theorem ct_34_36 : am_CT 34 36 = some (.iload 6, 38, 0, 0, 0) := rfl
theorem ct_34_38 : am_CT 34 38 = some (.aload 0, 39, 0, 0, 0) := rfl
theorem ct_34_39 : am_CT 34 39 = some (.getfield 16, 42, 2, 6, 2) := rfl
theorem ct_34_42 : am_CT 34 42 = some (.iload 7, 44, 0, 0, 0) := rfl
theorem ct_34_44 : am_CT 34 44 = some (.iaload, 45, 0, 0, 0) := rfl
theorem ct_34_45 : am_CT 34 45 = some (.aload 2, 46, 0, 0, 0) := rfl
theorem ct_34_46 : am_CT 34 46 = some (.invokevirtual 37, 49, 135, 3, 6) := rfl
theorem ct_34_49 : am_CT 34 49 = some (.ifCond .eq 15, 52, 64, 0, 0) := rfl
theorem ct_34_52 : am_CT 34 52 = some (.iload 4, 54, 0, 0, 0) := rfl
theorem ct_34_54 : am_CT 34 54 = some (.aload 0, 55, 0, 0, 0) := rfl
theorem ct_34_55 : am_CT 34 55 = some (.getfield 13, 58, 1, 6, 2) := rfl
theorem ct_34_58 : am_CT 34 58 = some (.iload 7, 60, 0, 0, 0) := rfl
theorem ct_34_60 : am_CT 34 60 = some (.iaload, 61, 0, 0, 0) := rfl
theorem ct_34_61 : am_CT 34 61 = some (.iadd, 62, 0, 0, 0) := rfl
theorem ct_34_62 : am_CT 34 62 = some (.istore 4, 64, 0, 0, 0) := rfl
theorem ct_34_64 : am_CT 34 64 = some (.aload 0, 65, 0, 0, 0) := rfl
theorem ct_34_65 : am_CT 34 65 = some (.getfield 16, 68, 2, 6, 2) := rfl
theorem ct_34_68 : am_CT 34 68 = some (.iload 7, 70, 0, 0, 0) := rfl
theorem ct_34_70 : am_CT 34 70 = some (.iaload, 71, 0, 0, 0) := rfl
theorem ct_34_71 : am_CT 34 71 = some (.istore 6, 73, 0, 0, 0) := rfl
theorem ct_34_73 : am_CT 34 73 = some (.iinc 7 1, 76, 0, 0, 0) := rfl
theorem ct_34_76 : am_CT 34 76 = some (.goto (-64), 79, 12, 0, 0) := rfl
theorem ct_34_79 : am_CT 34 79 = some (.iload 5, 81, 0, 0, 0) := rfl
theorem ct_34_81 : am_CT 34 81 = some (.ifCond .eq 8, 84, 89, 0, 0) := rfl
theorem ct_34_84 : am_CT 34 84 = some (.iload 4, 86, 0, 0, 0) := rfl
theorem ct_34_86 : am_CT 34 86 = some (.goto 4, 89, 90, 0, 0) := rfl
theorem ct_34_89 : am_CT 34 89 = some (.iload 3, 90, 0, 0, 0) := rfl
theorem ct_34_90 : am_CT 34 90 = some (.ireturn, 91, 0, 0, 0) := rfl
theorem ct_35_0 : am_CT 35 0 = some (.bipush 0, 1, 0, 0, 0) := rfl
theorem ct_35_1 : am_CT 35 1 = some (.istore 4, 3, 0, 0, 0) := rfl
theorem ct_35_3 : am_CT 35 3 = some (.iload 1, 4, 0, 0, 0) := rfl
theorem ct_35_4 : am_CT 35 4 = some (.istore 5, 6, 0, 0, 0) := rfl
theorem ct_35_6 : am_CT 35 6 = some (.iload 5, 8, 0, 0, 0) := rfl
theorem ct_35_8 : am_CT 35 8 = some (.iload 2, 9, 0, 0, 0) := rfl
theorem ct_35_9 : am_CT 35 9 = some (.if_icmp .ge 185, 12, 194, 0, 0) := rfl
theorem ct_35_12 : am_CT 35 12 = some (.aload 0, 13, 0, 0, 0) := rfl
theorem ct_35_13 : am_CT 35 13 = some (.getfield 25, 16, 4, 6, 2) := rfl
theorem ct_35_16 : am_CT 35 16 = some (.iload 5, 18, 0, 0, 0) := rfl
theorem ct_35_18 : am_CT 35 18 = some (.iaload, 19, 0, 0, 0) := rfl
theorem ct_35_19 : am_CT 35 19 = some (.istore 6, 21, 0, 0, 0) := rfl
theorem ct_35_21 : am_CT 35 21 = some (.iload 6, 23, 0, 0, 0) := rfl
theorem ct_35_23 : am_CT 35 23 = some (.ifCond .lt 116, 26, 139, 0, 0) := rfl
theorem ct_35_26 : am_CT 35 26 = some (.iload 6, 28, 0, 0, 0) := rfl
theorem ct_35_28 : am_CT 35 28 = some (.aload 3, 29, 0, 0, 0) := rfl
theorem ct_35_29 : am_CT 35 29 = some (.arraylength, 30, 0, 0, 0) := rfl
theorem ct_35_30 : am_CT 35 30 = some (.if_icmp .ge 109, 33, 139, 0, 0) := rfl
theorem ct_35_33 : am_CT 35 33 = some (.aload 3, 34, 0, 0, 0) := rfl
theorem ct_35_34 : am_CT 35 34 = some (.iload 6, 36, 0, 0, 0) := rfl
theorem ct_35_36 : am_CT 35 36 = some (.iaload, 37, 0, 0, 0) := rfl
theorem ct_35_37 : am_CT 35 37 = some (.istore 7, 39, 0, 0, 0) := rfl
theorem ct_35_39 : am_CT 35 39 = some (.aload 0, 40, 0, 0, 0) := rfl
theorem ct_35_40 : am_CT 35 40 = some (.getfield 28, 43, 5, 6, 2) := rfl
theorem ct_35_43 : am_CT 35 43 = some (.iload 5, 45, 0, 0, 0) := rfl
theorem ct_35_45 : am_CT 35 45 = some (.iaload, 46, 0, 0, 0) := rfl
theorem ct_35_46 : am_CT 35 46 = some (.ifCond .ne 23, 49, 69, 0, 0) := rfl
theorem ct_35_49 : am_CT 35 49 = some (.iload 7, 51, 0, 0, 0) := rfl
theorem ct_35_51 : am_CT 35 51 = some (.aload 0, 52, 0, 0, 0) := rfl
theorem ct_35_52 : am_CT 35 52 = some (.getfield 31, 55, 6, 6, 2) := rfl
theorem ct_35_55 : am_CT 35 55 = some (.iload 5, 57, 0, 0, 0) := rfl
theorem ct_35_57 : am_CT 35 57 = some (.iaload, 58, 0, 0, 0) := rfl
theorem ct_35_58 : am_CT 35 58 = some (.if_icmp .ge 7, 61, 65, 0, 0) := rfl
theorem ct_35_61 : am_CT 35 61 = some (.bipush 1, 62, 0, 0, 0) := rfl
theorem ct_35_62 : am_CT 35 62 = some (.goto 55, 65, 117, 0, 0) := rfl
theorem ct_35_65 : am_CT 35 65 = some (.bipush 0, 66, 0, 0, 0) := rfl
theorem ct_35_66 : am_CT 35 66 = some (.goto 51, 69, 117, 0, 0) := rfl
theorem ct_35_69 : am_CT 35 69 = some (.aload 0, 70, 0, 0, 0) := rfl
theorem ct_35_70 : am_CT 35 70 = some (.getfield 28, 73, 5, 6, 2) := rfl
theorem ct_35_73 : am_CT 35 73 = some (.iload 5, 75, 0, 0, 0) := rfl
theorem ct_35_75 : am_CT 35 75 = some (.iaload, 76, 0, 0, 0) := rfl
theorem ct_35_76 : am_CT 35 76 = some (.bipush 1, 77, 0, 0, 0) := rfl
theorem ct_35_77 : am_CT 35 77 = some (.if_icmp .ne 23, 80, 100, 0, 0) := rfl
theorem ct_35_80 : am_CT 35 80 = some (.iload 7, 82, 0, 0, 0) := rfl
theorem ct_35_82 : am_CT 35 82 = some (.aload 0, 83, 0, 0, 0) := rfl
theorem ct_35_83 : am_CT 35 83 = some (.getfield 31, 86, 6, 6, 2) := rfl
theorem ct_35_86 : am_CT 35 86 = some (.iload 5, 88, 0, 0, 0) := rfl
theorem ct_35_88 : am_CT 35 88 = some (.iaload, 89, 0, 0, 0) := rfl
theorem ct_35_89 : am_CT 35 89 = some (.if_icmp .ne 7, 92, 96, 0, 0) := rfl
theorem ct_35_92 : am_CT 35 92 = some (.bipush 1, 93, 0, 0, 0) := rfl
theorem ct_35_93 : am_CT 35 93 = some (.goto 24, 96, 117, 0, 0) := rfl
theorem ct_35_96 : am_CT 35 96 = some (.bipush 0, 97, 0, 0, 0) := rfl
theorem ct_35_97 : am_CT 35 97 = some (.goto 20, 100, 117, 0, 0) := rfl
theorem ct_35_100 : am_CT 35 100 = some (.iload 7, 102, 0, 0, 0) := rfl
theorem ct_35_102 : am_CT 35 102 = some (.aload 0, 103, 0, 0, 0) := rfl
theorem ct_35_103 : am_CT 35 103 = some (.getfield 31, 106, 6, 6, 2) := rfl
theorem ct_35_106 : am_CT 35 106 = some (.iload 5, 108, 0, 0, 0) := rfl
theorem ct_35_108 : am_CT 35 108 = some (.iaload, 109, 0, 0, 0) := rfl
theorem ct_35_109 : am_CT 35 109 = some (.if_icmp .le 7, 112, 116, 0, 0) := rfl
theorem ct_35_112 : am_CT 35 112 = some (.bipush 1, 113, 0, 0, 0) := rfl
theorem ct_35_113 : am_CT 35 113 = some (.goto 4, 116, 117, 0, 0) := rfl
theorem ct_35_116 : am_CT 35 116 = some (.bipush 0, 117, 0, 0, 0) := rfl
theorem ct_35_117 : am_CT 35 117 = some (.istore 8, 119, 0, 0, 0) := rfl
theorem ct_35_119 : am_CT 35 119 = some (.iload 4, 121, 0, 0, 0) := rfl
theorem ct_35_121 : am_CT 35 121 = some (.bipush 1, 122, 0, 0, 0) := rfl
theorem ct_35_122 : am_CT 35 122 = some (.ishl, 123, 0, 0, 0) := rfl
theorem ct_35_123 : am_CT 35 123 = some (.iload 8, 125, 0, 0, 0) := rfl
theorem ct_35_125 : am_CT 35 125 = some (.ifCond .eq 7, 128, 132, 0, 0) := rfl
theorem ct_35_128 : am_CT 35 128 = some (.bipush 1, 129, 0, 0, 0) := rfl
theorem ct_35_129 : am_CT 35 129 = some (.goto 4, 132, 133, 0, 0) := rfl
theorem ct_35_132 : am_CT 35 132 = some (.bipush 0, 133, 0, 0, 0) := rfl
theorem ct_35_133 : am_CT 35 133 = some (.ior, 134, 0, 0, 0) := rfl
theorem ct_35_134 : am_CT 35 134 = some (.istore 4, 136, 0, 0, 0) := rfl
theorem ct_35_136 : am_CT 35 136 = some (.goto 52, 139, 188, 0, 0) := rfl
theorem ct_35_139 : am_CT 35 139 = some (.iload 6, 141, 0, 0, 0) := rfl
theorem ct_35_141 : am_CT 35 141 = some (.bipush 6, 143, 0, 0, 0) := rfl
theorem ct_35_143 : am_CT 35 143 = some (.if_icmp .ne 12, 146, 155, 0, 0) := rfl
theorem ct_35_146 : am_CT 35 146 = some (.iload 4, 148, 0, 0, 0) := rfl
theorem ct_35_148 : am_CT 35 148 = some (.bipush 1, 149, 0, 0, 0) := rfl
theorem ct_35_149 : am_CT 35 149 = some (.ixor, 150, 0, 0, 0) := rfl
theorem ct_35_150 : am_CT 35 150 = some (.istore 4, 152, 0, 0, 0) := rfl
theorem ct_35_152 : am_CT 35 152 = some (.goto 36, 155, 188, 0, 0) := rfl
theorem ct_35_155 : am_CT 35 155 = some (.iload 6, 157, 0, 0, 0) := rfl
theorem ct_35_157 : am_CT 35 157 = some (.bipush 7, 159, 0, 0, 0) := rfl
theorem ct_35_159 : am_CT 35 159 = some (.if_icmp .ne 18, 162, 177, 0, 0) := rfl
theorem ct_35_162 : am_CT 35 162 = some (.iload 4, 164, 0, 0, 0) := rfl
theorem ct_35_164 : am_CT 35 164 = some (.bipush 1, 165, 0, 0, 0) := rfl
theorem ct_35_165 : am_CT 35 165 = some (.ishr, 166, 0, 0, 0) := rfl
theorem ct_35_166 : am_CT 35 166 = some (.iload 4, 168, 0, 0, 0) := rfl
theorem ct_35_168 : am_CT 35 168 = some (.bipush (-2), 170, 0, 0, 0) := rfl
theorem ct_35_170 : am_CT 35 170 = some (.ior, 171, 0, 0, 0) := rfl
theorem ct_35_171 : am_CT 35 171 = some (.iand, 172, 0, 0, 0) := rfl
theorem ct_35_172 : am_CT 35 172 = some (.istore 4, 174, 0, 0, 0) := rfl
theorem ct_35_174 : am_CT 35 174 = some (.goto 14, 177, 188, 0, 0) := rfl
theorem ct_35_177 : am_CT 35 177 = some (.iload 4, 179, 0, 0, 0) := rfl
theorem ct_35_179 : am_CT 35 179 = some (.bipush 1, 180, 0, 0, 0) := rfl
theorem ct_35_180 : am_CT 35 180 = some (.ishr, 181, 0, 0, 0) := rfl
theorem ct_35_181 : am_CT 35 181 = some (.iload 4, 183, 0, 0, 0) := rfl
theorem ct_35_183 : am_CT 35 183 = some (.bipush 1, 184, 0, 0, 0) := rfl
theorem ct_35_184 : am_CT 35 184 = some (.iand, 185, 0, 0, 0) := rfl
theorem ct_35_185 : am_CT 35 185 = some (.ior, 186, 0, 0, 0) := rfl
theorem ct_35_186 : am_CT 35 186 = some (.istore 4, 188, 0, 0, 0) := rfl
theorem ct_35_188 : am_CT 35 188 = some (.iinc 5 1, 191, 0, 0, 0) := rfl
theorem ct_35_191 : am_CT 35 191 = some (.goto (-185), 194, 6, 0, 0) := rfl
theorem ct_35_194 : am_CT 35 194 = some (.iload 4, 196, 0, 0, 0) := rfl
theorem ct_35_196 : am_CT 35 196 = some (.bipush 1, 197, 0, 0, 0) := rfl
theorem ct_35_197 : am_CT 35 197 = some (.iand, 198, 0, 0, 0) := rfl
theorem ct_35_198 : am_CT 35 198 = some (.bipush 1, 199, 0, 0, 0) := rfl
theorem ct_35_199 : am_CT 35 199 = some (.if_icmp .ne 7, 202, 206, 0, 0) := rfl
theorem ct_35_202 : am_CT 35 202 = some (.bipush 1, 203, 0, 0, 0) := rfl
theorem ct_35_203 : am_CT 35 203 = some (.goto 4, 206, 207, 0, 0) := rfl
theorem ct_35_206 : am_CT 35 206 = some (.bipush 0, 207, 0, 0, 0) := rfl
theorem ct_35_207 : am_CT 35 207 = some (.ireturn, 208, 1, 0, 0) := rfl
theorem ct_36_0 : am_CT 36 0 = some (.aload 0, 1, 0, 0, 0) := rfl
theorem ct_36_1 : am_CT 36 1 = some (.invokespecial 3, 4, 0, 0, 1) := rfl
theorem ct_36_4 : am_CT 36 4 = some (.aload 0, 5, 0, 0, 0) := rfl
theorem ct_36_5 : am_CT 36 5 = some (.bipush 5, 6, 0, 0, 0) := rfl
theorem ct_36_6 : am_CT 36 6 = some (.anewarray 9, 9, 24, 0, 0) := rfl
theorem ct_36_9 : am_CT 36 9 = some (.putfield 11, 12, 0, 7, 2) := rfl
theorem ct_36_12 : am_CT 36 12 = some (.aload 0, 13, 0, 0, 0) := rfl
theorem ct_36_13 : am_CT 36 13 = some (.bipush 0, 14, 0, 0, 0) := rfl
theorem ct_36_14 : am_CT 36 14 = some (.putfield 17, 17, 1, 7, 0) := rfl
theorem ct_36_17 : am_CT 36 17 = some (.aload 0, 18, 0, 0, 0) := rfl
theorem ct_36_18 : am_CT 36 18 = some (.bipush 4, 19, 0, 0, 0) := rfl
theorem ct_36_19 : am_CT 36 19 = some (.newarray .int, 21, 20, 0, 0) := rfl
theorem ct_36_21 : am_CT 36 21 = some (.dup, 22, 0, 0, 0) := rfl
theorem ct_36_22 : am_CT 36 22 = some (.bipush 0, 23, 0, 0, 0) := rfl
theorem ct_36_23 : am_CT 36 23 = some (.bipush 5, 24, 0, 0, 0) := rfl
theorem ct_36_24 : am_CT 36 24 = some (.iastore, 25, 0, 0, 0) := rfl
theorem ct_36_25 : am_CT 36 25 = some (.dup, 26, 0, 0, 0) := rfl
theorem ct_36_26 : am_CT 36 26 = some (.bipush 1, 27, 0, 0, 0) := rfl
theorem ct_36_27 : am_CT 36 27 = some (.bipush 3, 28, 0, 0, 0) := rfl
theorem ct_36_28 : am_CT 36 28 = some (.iastore, 29, 0, 0, 0) := rfl
theorem ct_36_29 : am_CT 36 29 = some (.dup, 30, 0, 0, 0) := rfl
theorem ct_36_30 : am_CT 36 30 = some (.bipush 2, 31, 0, 0, 0) := rfl
theorem ct_36_31 : am_CT 36 31 = some (.bipush 0, 32, 0, 0, 0) := rfl
theorem ct_36_32 : am_CT 36 32 = some (.iastore, 33, 0, 0, 0) := rfl
theorem ct_36_33 : am_CT 36 33 = some (.dup, 34, 0, 0, 0) := rfl
theorem ct_36_34 : am_CT 36 34 = some (.bipush 3, 35, 0, 0, 0) := rfl
theorem ct_36_35 : am_CT 36 35 = some (.bipush 20, 37, 0, 0, 0) := rfl
theorem ct_36_37 : am_CT 36 37 = some (.iastore, 38, 0, 0, 0) := rfl
theorem ct_36_38 : am_CT 36 38 = some (.putfield 21, 41, 2, 7, 2) := rfl
theorem ct_36_41 : am_CT 36 41 = some (.aload 0, 42, 0, 0, 0) := rfl
theorem ct_36_42 : am_CT 36 42 = some (.bipush 0, 43, 0, 0, 0) := rfl
theorem ct_36_43 : am_CT 36 43 = some (.putfield 25, 46, 3, 7, 0) := rfl
theorem ct_36_46 : am_CT 36 46 = some (.aload 0, 47, 0, 0, 0) := rfl
theorem ct_36_47 : am_CT 36 47 = some (.bipush (-1), 48, 0, 0, 0) := rfl
theorem ct_36_48 : am_CT 36 48 = some (.putfield 28, 51, 4, 7, 0) := rfl
theorem ct_36_51 : am_CT 36 51 = some (.aload 0, 52, 0, 0, 0) := rfl
theorem ct_36_52 : am_CT 36 52 = some (.bipush 6, 54, 0, 0, 0) := rfl
theorem ct_36_54 : am_CT 36 54 = some (.newarray .int, 56, 20, 0, 0) := rfl
theorem ct_36_56 : am_CT 36 56 = some (.putfield 31, 59, 5, 7, 2) := rfl
theorem ct_36_59 : am_CT 36 59 = some (.aload 0, 60, 0, 0, 0) := rfl
theorem ct_36_60 : am_CT 36 60 = some (.bipush 6, 62, 0, 0, 0) := rfl
theorem ct_36_62 : am_CT 36 62 = some (.newarray .int, 64, 20, 0, 0) := rfl
theorem ct_36_64 : am_CT 36 64 = some (.putfield 34, 67, 6, 7, 2) := rfl
theorem ct_36_67 : am_CT 36 67 = some (.aload 0, 68, 0, 0, 0) := rfl
theorem ct_36_68 : am_CT 36 68 = some (.bipush 6, 70, 0, 0, 0) := rfl
theorem ct_36_70 : am_CT 36 70 = some (.newarray .int, 72, 20, 0, 0) := rfl
theorem ct_36_72 : am_CT 36 72 = some (.putfield 37, 75, 7, 7, 2) := rfl
theorem ct_36_75 : am_CT 36 75 = some (.aload 0, 76, 0, 0, 0) := rfl
theorem ct_36_76 : am_CT 36 76 = some (.bipush 0, 77, 0, 0, 0) := rfl
theorem ct_36_77 : am_CT 36 77 = some (.putfield 40, 80, 8, 7, 0) := rfl
theorem ct_36_80 : am_CT 36 80 = some (.aload 0, 81, 0, 0, 0) := rfl
theorem ct_36_81 : am_CT 36 81 = some (.bipush 12, 83, 0, 0, 0) := rfl
theorem ct_36_83 : am_CT 36 83 = some (.newarray .int, 85, 20, 0, 0) := rfl
theorem ct_36_85 : am_CT 36 85 = some (.putfield 43, 88, 9, 7, 2) := rfl
theorem ct_36_88 : am_CT 36 88 = some (.aload 0, 89, 0, 0, 0) := rfl
theorem ct_36_89 : am_CT 36 89 = some (.bipush 12, 91, 0, 0, 0) := rfl
theorem ct_36_91 : am_CT 36 91 = some (.newarray .boolean, 93, 23, 0, 0) := rfl
theorem ct_36_93 : am_CT 36 93 = some (.putfield 46, 96, 10, 7, 2) := rfl
theorem ct_36_96 : am_CT 36 96 = some (.aload 0, 97, 0, 0, 0) := rfl
theorem ct_36_97 : am_CT 36 97 = some (.bipush 0, 98, 0, 0, 0) := rfl
theorem ct_36_98 : am_CT 36 98 = some (.putfield 50, 101, 11, 7, 0) := rfl
theorem ct_36_101 : am_CT 36 101 = some (.aload 0, 102, 0, 0, 0) := rfl
theorem ct_36_102 : am_CT 36 102 = some (.bipush 5, 103, 0, 0, 0) := rfl
theorem ct_36_103 : am_CT 36 103 = some (.bipush 7, 105, 0, 0, 0) := rfl
theorem ct_36_105 : am_CT 36 105 = some (.multianewarray 53 2, 109, 26, 20, 0) := rfl
theorem ct_36_109 : am_CT 36 109 = some (.putfield 55, 112, 12, 7, 2) := rfl
theorem ct_36_112 : am_CT 36 112 = some (.return_, 113, 0, 0, 0) := rfl
theorem ct_37_0 : am_CT 37 0 = some (.aload 0, 1, 0, 0, 0) := rfl
theorem ct_37_1 : am_CT 37 1 = some (.getfield 21, 4, 2, 7, 2) := rfl
theorem ct_37_4 : am_CT 37 4 = some (.bipush 0, 5, 0, 0, 0) := rfl
theorem ct_37_5 : am_CT 37 5 = some (.iaload, 6, 0, 0, 0) := rfl
theorem ct_37_6 : am_CT 37 6 = some (.aload 0, 7, 0, 0, 0) := rfl
theorem ct_37_7 : am_CT 37 7 = some (.getfield 21, 10, 2, 7, 2) := rfl
theorem ct_37_10 : am_CT 37 10 = some (.bipush 1, 11, 0, 0, 0) := rfl
theorem ct_37_11 : am_CT 37 11 = some (.iaload, 12, 0, 0, 0) := rfl
theorem ct_37_12 : am_CT 37 12 = some (.aload 0, 13, 0, 0, 0) := rfl
theorem ct_37_13 : am_CT 37 13 = some (.getfield 21, 16, 2, 7, 2) := rfl
theorem ct_37_16 : am_CT 37 16 = some (.bipush 2, 17, 0, 0, 0) := rfl
theorem ct_37_17 : am_CT 37 17 = some (.iaload, 18, 0, 0, 0) := rfl
theorem ct_37_18 : am_CT 37 18 = some (.invokestatic 58, 21, 38, 3, 0) := rfl
theorem ct_37_21 : am_CT 37 21 = some (.ireturn, 22, 0, 0, 0) := rfl
theorem ct_38_0 : am_CT 38 0 = some (.bipush 30, 2, 0, 0, 0) := rfl
theorem ct_38_2 : am_CT 38 2 = some (.bipush 4, 3, 0, 0, 0) := rfl
theorem ct_38_3 : am_CT 38 3 = some (.iload 0, 4, 0, 0, 0) := rfl
theorem ct_38_4 : am_CT 38 4 = some (.bipush 5, 5, 0, 0, 0) := rfl
theorem ct_38_5 : am_CT 38 5 = some (.isub, 6, 0, 0, 0) := rfl
theorem ct_38_6 : am_CT 38 6 = some (.invokestatic 62, 9, 200, 1, 0) := rfl
theorem ct_38_9 : am_CT 38 9 = some (.imul, 10, 0, 0, 0) := rfl
theorem ct_38_10 : am_CT 38 10 = some (.isub, 11, 0, 0, 0) := rfl
theorem ct_38_11 : am_CT 38 11 = some (.bipush 2, 12, 0, 0, 0) := rfl
theorem ct_38_12 : am_CT 38 12 = some (.iload 1, 13, 0, 0, 0) := rfl
theorem ct_38_13 : am_CT 38 13 = some (.bipush 3, 14, 0, 0, 0) := rfl
theorem ct_38_14 : am_CT 38 14 = some (.isub, 15, 0, 0, 0) := rfl
theorem ct_38_15 : am_CT 38 15 = some (.invokestatic 62, 18, 200, 1, 0) := rfl
theorem ct_38_18 : am_CT 38 18 = some (.imul, 19, 0, 0, 0) := rfl
theorem ct_38_19 : am_CT 38 19 = some (.isub, 20, 0, 0, 0) := rfl
theorem ct_38_20 : am_CT 38 20 = some (.iload 2, 21, 0, 0, 0) := rfl
theorem ct_38_21 : am_CT 38 21 = some (.iadd, 22, 0, 0, 0) := rfl
theorem ct_38_22 : am_CT 38 22 = some (.bipush 0, 23, 0, 0, 0) := rfl
theorem ct_38_23 : am_CT 38 23 = some (.invokestatic 68, 26, 201, 2, 0) := rfl
theorem ct_38_26 : am_CT 38 26 = some (.ireturn, 27, 0, 0, 0) := rfl
theorem ct_39_0 : am_CT 39 0 = some (.bipush 0, 1, 0, 0, 0) := rfl
theorem ct_39_1 : am_CT 39 1 = some (.istore 2, 2, 0, 0, 0) := rfl
theorem ct_39_2 : am_CT 39 2 = some (.iload 2, 3, 0, 0, 0) := rfl
theorem ct_39_3 : am_CT 39 3 = some (.bipush 5, 4, 0, 0, 0) := rfl
theorem ct_39_4 : am_CT 39 4 = some (.if_icmp .ge 21, 7, 25, 0, 0) := rfl
theorem ct_39_7 : am_CT 39 7 = some (.aload 0, 8, 0, 0, 0) := rfl
theorem ct_39_8 : am_CT 39 8 = some (.getfield 11, 11, 0, 7, 2) := rfl
theorem ct_39_11 : am_CT 39 11 = some (.iload 2, 12, 0, 0, 0) := rfl
theorem ct_39_12 : am_CT 39 12 = some (.aload 1, 13, 0, 0, 0) := rfl
theorem ct_39_13 : am_CT 39 13 = some (.getfield 11, 16, 0, 7, 2) := rfl
theorem ct_39_16 : am_CT 39 16 = some (.iload 2, 17, 0, 0, 0) := rfl
theorem ct_39_17 : am_CT 39 17 = some (.aaload, 18, 0, 0, 0) := rfl
theorem ct_39_18 : am_CT 39 18 = some (.aastore, 19, 0, 0, 0) := rfl
theorem ct_39_19 : am_CT 39 19 = some (.iinc 2 1, 22, 0, 0, 0) := rfl
theorem ct_39_22 : am_CT 39 22 = some (.goto (-20), 25, 2, 0, 0) := rfl
theorem ct_39_25 : am_CT 39 25 = some (.aload 0, 26, 0, 0, 0) := rfl
theorem ct_39_26 : am_CT 39 26 = some (.aload 1, 27, 0, 0, 0) := rfl
theorem ct_39_27 : am_CT 39 27 = some (.getfield 17, 30, 1, 7, 0) := rfl
theorem ct_39_30 : am_CT 39 30 = some (.putfield 17, 33, 1, 7, 0) := rfl
theorem ct_39_33 : am_CT 39 33 = some (.aload 1, 34, 0, 0, 0) := rfl
theorem ct_39_34 : am_CT 39 34 = some (.getfield 21, 37, 2, 7, 2) := rfl
theorem ct_39_37 : am_CT 39 37 = some (.bipush 0, 38, 0, 0, 0) := rfl
theorem ct_39_38 : am_CT 39 38 = some (.aload 0, 39, 0, 0, 0) := rfl
theorem ct_39_39 : am_CT 39 39 = some (.getfield 21, 42, 2, 7, 2) := rfl
theorem ct_39_42 : am_CT 39 42 = some (.bipush 0, 43, 0, 0, 0) := rfl
theorem ct_39_43 : am_CT 39 43 = some (.aload 0, 44, 0, 0, 0) := rfl
theorem ct_39_44 : am_CT 39 44 = some (.getfield 21, 47, 2, 7, 2) := rfl
theorem ct_39_47 : am_CT 39 47 = some (.arraylength, 48, 0, 0, 0) := rfl
theorem ct_39_48 : am_CT 39 48 = some (.invokestatic 72, 51, 0, 5, 1) := rfl
theorem ct_39_51 : am_CT 39 51 = some (.aload 0, 52, 0, 0, 0) := rfl
theorem ct_39_52 : am_CT 39 52 = some (.aload 1, 53, 0, 0, 0) := rfl
theorem ct_39_53 : am_CT 39 53 = some (.getfield 25, 56, 3, 7, 0) := rfl
theorem ct_39_56 : am_CT 39 56 = some (.putfield 25, 59, 3, 7, 0) := rfl
theorem ct_39_59 : am_CT 39 59 = some (.aload 0, 60, 0, 0, 0) := rfl
theorem ct_39_60 : am_CT 39 60 = some (.aload 1, 61, 0, 0, 0) := rfl
theorem ct_39_61 : am_CT 39 61 = some (.getfield 28, 64, 4, 7, 0) := rfl
theorem ct_39_64 : am_CT 39 64 = some (.putfield 28, 67, 4, 7, 0) := rfl
theorem ct_39_67 : am_CT 39 67 = some (.aload 1, 68, 0, 0, 0) := rfl
theorem ct_39_68 : am_CT 39 68 = some (.getfield 31, 71, 5, 7, 2) := rfl
theorem ct_39_71 : am_CT 39 71 = some (.bipush 0, 72, 0, 0, 0) := rfl
theorem ct_39_72 : am_CT 39 72 = some (.aload 0, 73, 0, 0, 0) := rfl
theorem ct_39_73 : am_CT 39 73 = some (.getfield 31, 76, 5, 7, 2) := rfl
theorem ct_39_76 : am_CT 39 76 = some (.bipush 0, 77, 0, 0, 0) := rfl
theorem ct_39_77 : am_CT 39 77 = some (.bipush 6, 79, 0, 0, 0) := rfl
theorem ct_39_79 : am_CT 39 79 = some (.invokestatic 72, 82, 0, 5, 1) := rfl
theorem ct_39_82 : am_CT 39 82 = some (.aload 1, 83, 0, 0, 0) := rfl
theorem ct_39_83 : am_CT 39 83 = some (.getfield 34, 86, 6, 7, 2) := rfl
theorem ct_39_86 : am_CT 39 86 = some (.bipush 0, 87, 0, 0, 0) := rfl
theorem ct_39_87 : am_CT 39 87 = some (.aload 0, 88, 0, 0, 0) := rfl
theorem ct_39_88 : am_CT 39 88 = some (.getfield 34, 91, 6, 7, 2) := rfl
theorem ct_39_91 : am_CT 39 91 = some (.bipush 0, 92, 0, 0, 0) := rfl
theorem ct_39_92 : am_CT 39 92 = some (.bipush 6, 94, 0, 0, 0) := rfl
theorem ct_39_94 : am_CT 39 94 = some (.invokestatic 72, 97, 0, 5, 1) := rfl
theorem ct_39_97 : am_CT 39 97 = some (.aload 1, 98, 0, 0, 0) := rfl
theorem ct_39_98 : am_CT 39 98 = some (.getfield 37, 101, 7, 7, 2) := rfl
theorem ct_39_101 : am_CT 39 101 = some (.bipush 0, 102, 0, 0, 0) := rfl
theorem ct_39_102 : am_CT 39 102 = some (.aload 0, 103, 0, 0, 0) := rfl
theorem ct_39_103 : am_CT 39 103 = some (.getfield 37, 106, 7, 7, 2) := rfl
theorem ct_39_106 : am_CT 39 106 = some (.bipush 0, 107, 0, 0, 0) := rfl
theorem ct_39_107 : am_CT 39 107 = some (.bipush 6, 109, 0, 0, 0) := rfl
theorem ct_39_109 : am_CT 39 109 = some (.invokestatic 72, 112, 0, 5, 1) := rfl
theorem ct_39_112 : am_CT 39 112 = some (.aload 0, 113, 0, 0, 0) := rfl
theorem ct_39_113 : am_CT 39 113 = some (.aload 1, 114, 0, 0, 0) := rfl
theorem ct_39_114 : am_CT 39 114 = some (.getfield 40, 117, 8, 7, 0) := rfl
theorem ct_39_117 : am_CT 39 117 = some (.putfield 40, 120, 8, 7, 0) := rfl
theorem ct_39_120 : am_CT 39 120 = some (.aload 1, 121, 0, 0, 0) := rfl
theorem ct_39_121 : am_CT 39 121 = some (.getfield 43, 124, 9, 7, 2) := rfl
theorem ct_39_124 : am_CT 39 124 = some (.bipush 0, 125, 0, 0, 0) := rfl
theorem ct_39_125 : am_CT 39 125 = some (.aload 0, 126, 0, 0, 0) := rfl
theorem ct_39_126 : am_CT 39 126 = some (.getfield 43, 129, 9, 7, 2) := rfl
theorem ct_39_129 : am_CT 39 129 = some (.bipush 0, 130, 0, 0, 0) := rfl
theorem ct_39_130 : am_CT 39 130 = some (.bipush 12, 132, 0, 0, 0) := rfl
theorem ct_39_132 : am_CT 39 132 = some (.invokestatic 72, 135, 0, 5, 1) := rfl
theorem ct_39_135 : am_CT 39 135 = some (.aload 1, 136, 0, 0, 0) := rfl
theorem ct_39_136 : am_CT 39 136 = some (.getfield 46, 139, 10, 7, 2) := rfl
theorem ct_39_139 : am_CT 39 139 = some (.bipush 0, 140, 0, 0, 0) := rfl
theorem ct_39_140 : am_CT 39 140 = some (.aload 0, 141, 0, 0, 0) := rfl
theorem ct_39_141 : am_CT 39 141 = some (.getfield 46, 144, 10, 7, 2) := rfl
theorem ct_39_144 : am_CT 39 144 = some (.bipush 0, 145, 0, 0, 0) := rfl
theorem ct_39_145 : am_CT 39 145 = some (.bipush 12, 147, 0, 0, 0) := rfl
theorem ct_39_147 : am_CT 39 147 = some (.invokestatic 72, 150, 0, 5, 1) := rfl
theorem ct_39_150 : am_CT 39 150 = some (.aload 0, 151, 0, 0, 0) := rfl
theorem ct_39_151 : am_CT 39 151 = some (.aload 1, 152, 0, 0, 0) := rfl
theorem ct_39_152 : am_CT 39 152 = some (.getfield 50, 155, 11, 7, 0) := rfl
theorem ct_39_155 : am_CT 39 155 = some (.putfield 50, 158, 11, 7, 0) := rfl
theorem ct_39_158 : am_CT 39 158 = some (.return_, 159, 0, 0, 0) := rfl
theorem ct_40_0 : am_CT 40 0 = some (.bipush 0, 1, 0, 0, 0) := rfl
theorem ct_40_1 : am_CT 40 1 = some (.istore 1, 2, 0, 0, 0) := rfl
theorem ct_40_2 : am_CT 40 2 = some (.iload 1, 3, 0, 0, 0) := rfl
theorem ct_40_3 : am_CT 40 3 = some (.aload 0, 4, 0, 0, 0) := rfl
theorem ct_40_4 : am_CT 40 4 = some (.getfield 17, 7, 1, 7, 0) := rfl
theorem ct_40_7 : am_CT 40 7 = some (.if_icmp .ge 30, 10, 37, 0, 0) := rfl
theorem ct_40_10 : am_CT 40 10 = some (.aload 0, 11, 0, 0, 0) := rfl
theorem ct_40_11 : am_CT 40 11 = some (.getfield 11, 14, 0, 7, 2) := rfl
theorem ct_40_14 : am_CT 40 14 = some (.iload 1, 15, 0, 0, 0) := rfl
theorem ct_40_15 : am_CT 40 15 = some (.aaload, 16, 0, 0, 0) := rfl
theorem ct_40_16 : am_CT 40 16 = some (.astore 2, 17, 0, 0, 0) := rfl
theorem ct_40_17 : am_CT 40 17 = some (.aload 2, 18, 0, 0, 0) := rfl
theorem ct_40_18 : am_CT 40 18 = some (.ifnull 13, 21, 31, 0, 0) := rfl
theorem ct_40_21 : am_CT 40 21 = some (.aload 2, 22, 0, 0, 0) := rfl
theorem ct_40_22 : am_CT 40 22 = some (.aload 0, 23, 0, 0, 0) := rfl
theorem ct_40_23 : am_CT 40 23 = some (.getfield 55, 26, 12, 7, 2) := rfl
theorem ct_40_26 : am_CT 40 26 = some (.iload 1, 27, 0, 0, 0) := rfl
theorem ct_40_27 : am_CT 40 27 = some (.aaload, 28, 0, 0, 0) := rfl
theorem ct_40_28 : am_CT 40 28 = some (.invokevirtual 78, 31, 1, 1, 0) := rfl
theorem ct_40_31 : am_CT 40 31 = some (.iinc 1 1, 34, 0, 0, 0) := rfl
theorem ct_40_34 : am_CT 40 34 = some (.goto (-32), 37, 2, 0, 0) := rfl
theorem ct_40_37 : am_CT 40 37 = some (.return_, 38, 0, 0, 0) := rfl
theorem ct_41_0 : am_CT 41 0 = some (.bipush 0, 1, 0, 0, 0) := rfl
theorem ct_41_1 : am_CT 41 1 = some (.istore 1, 2, 0, 0, 0) := rfl
theorem ct_41_2 : am_CT 41 2 = some (.iload 1, 3, 0, 0, 0) := rfl
theorem ct_41_3 : am_CT 41 3 = some (.aload 0, 4, 0, 0, 0) := rfl
theorem ct_41_4 : am_CT 41 4 = some (.getfield 17, 7, 1, 7, 0) := rfl
theorem ct_41_7 : am_CT 41 7 = some (.if_icmp .ge 30, 10, 37, 0, 0) := rfl
theorem ct_41_10 : am_CT 41 10 = some (.aload 0, 11, 0, 0, 0) := rfl
theorem ct_41_11 : am_CT 41 11 = some (.getfield 11, 14, 0, 7, 2) := rfl
theorem ct_41_14 : am_CT 41 14 = some (.iload 1, 15, 0, 0, 0) := rfl
theorem ct_41_15 : am_CT 41 15 = some (.aaload, 16, 0, 0, 0) := rfl
theorem ct_41_16 : am_CT 41 16 = some (.astore 2, 17, 0, 0, 0) := rfl
theorem ct_41_17 : am_CT 41 17 = some (.aload 2, 18, 0, 0, 0) := rfl
theorem ct_41_18 : am_CT 41 18 = some (.ifnull 13, 21, 31, 0, 0) := rfl
theorem ct_41_21 : am_CT 41 21 = some (.aload 2, 22, 0, 0, 0) := rfl
theorem ct_41_22 : am_CT 41 22 = some (.aload 0, 23, 0, 0, 0) := rfl
theorem ct_41_23 : am_CT 41 23 = some (.getfield 55, 26, 12, 7, 2) := rfl
theorem ct_41_26 : am_CT 41 26 = some (.iload 1, 27, 0, 0, 0) := rfl
theorem ct_41_27 : am_CT 41 27 = some (.aaload, 28, 0, 0, 0) := rfl
theorem ct_41_28 : am_CT 41 28 = some (.invokevirtual 82, 31, 2, 1, 0) := rfl
theorem ct_41_31 : am_CT 41 31 = some (.iinc 1 1, 34, 0, 0, 0) := rfl
theorem ct_41_34 : am_CT 41 34 = some (.goto (-32), 37, 2, 0, 0) := rfl
theorem ct_41_37 : am_CT 41 37 = some (.return_, 38, 0, 0, 0) := rfl
theorem ct_42_0 : am_CT 42 0 = some (.aload 0, 1, 0, 0, 0) := rfl
theorem ct_42_1 : am_CT 42 1 = some (.invokespecial 1, 4, 0, 0, 1) := rfl
theorem ct_42_4 : am_CT 42 4 = some (.aload 0, 5, 0, 0, 0) := rfl
theorem ct_42_5 : am_CT 42 5 = some (.bipush 100, 7, 0, 0, 0) := rfl
theorem ct_42_7 : am_CT 42 7 = some (.newarray .byte, 9, 22, 0, 0) := rfl
theorem ct_42_9 : am_CT 42 9 = some (.putfield 9, 12, 0, 8, 2) := rfl
theorem ct_42_12 : am_CT 42 12 = some (.aload 0, 13, 0, 0, 0) := rfl
theorem ct_42_13 : am_CT 42 13 = some (.bipush 0, 14, 0, 0, 0) := rfl
theorem ct_42_14 : am_CT 42 14 = some (.putfield 13, 17, 1, 8, 0) := rfl
theorem ct_42_17 : am_CT 42 17 = some (.aload 0, 18, 0, 0, 0) := rfl
theorem ct_42_18 : am_CT 42 18 = some (.bipush 0, 19, 0, 0, 0) := rfl
theorem ct_42_19 : am_CT 42 19 = some (.putfield 17, 22, 2, 8, 0) := rfl
theorem ct_42_22 : am_CT 42 22 = some (.return_, 23, 0, 0, 0) := rfl
theorem ct_43_0 : am_CT 43 0 = some (.aload 0, 1, 0, 0, 0) := rfl
theorem ct_43_1 : am_CT 43 1 = some (.getfield 13, 4, 1, 8, 0) := rfl
theorem ct_43_4 : am_CT 43 4 = some (.bipush 100, 6, 0, 0, 0) := rfl
theorem ct_43_6 : am_CT 43 6 = some (.if_icmp .lt 7, 9, 13, 0, 0) := rfl
theorem ct_43_9 : am_CT 43 9 = some (.bipush 1, 10, 0, 0, 0) := rfl
theorem ct_43_10 : am_CT 43 10 = some (.goto 4, 13, 14, 0, 0) := rfl
theorem ct_43_13 : am_CT 43 13 = some (.bipush 0, 14, 0, 0, 0) := rfl
theorem ct_43_14 : am_CT 43 14 = some (.ireturn, 15, 1, 0, 0) := rfl
theorem ct_44_0 : am_CT 44 0 = some (.aload 0, 1, 0, 0, 0) := rfl
theorem ct_44_1 : am_CT 44 1 = some (.invokevirtual 20, 4, 143, 0, 8) := rfl
theorem ct_44_4 : am_CT 44 4 = some (.ifCond .eq 4, 7, 8, 0, 0) := rfl
theorem ct_44_7 : am_CT 44 7 = some (.return_, 8, 0, 0, 0) := rfl
theorem ct_44_8 : am_CT 44 8 = some (.aload 0, 9, 0, 0, 0) := rfl
theorem ct_44_9 : am_CT 44 9 = some (.getfield 9, 12, 0, 8, 2) := rfl
theorem ct_44_12 : am_CT 44 12 = some (.aload 0, 13, 0, 0, 0) := rfl
theorem ct_44_13 : am_CT 44 13 = some (.getfield 13, 16, 1, 8, 0) := rfl
theorem ct_44_16 : am_CT 44 16 = some (.iload 1, 17, 0, 0, 0) := rfl
theorem ct_44_17 : am_CT 44 17 = some (.i2b, 18, 0, 0, 0) := rfl
theorem ct_44_18 : am_CT 44 18 = some (.bastore, 19, 0, 0, 0) := rfl
theorem ct_44_19 : am_CT 44 19 = some (.aload 0, 20, 0, 0, 0) := rfl
theorem ct_44_20 : am_CT 44 20 = some (.dup, 21, 0, 0, 0) := rfl
theorem ct_44_21 : am_CT 44 21 = some (.getfield 13, 24, 1, 8, 0) := rfl
theorem ct_44_24 : am_CT 44 24 = some (.bipush 1, 25, 0, 0, 0) := rfl
theorem ct_44_25 : am_CT 44 25 = some (.iadd, 26, 0, 0, 0) := rfl
theorem ct_44_26 : am_CT 44 26 = some (.putfield 13, 29, 1, 8, 0) := rfl
theorem ct_44_29 : am_CT 44 29 = some (.return_, 30, 0, 0, 0) := rfl
theorem ct_45_0 : am_CT 45 0 = some (.aload 0, 1, 0, 0, 0) := rfl
theorem ct_45_1 : am_CT 45 1 = some (.bipush 0, 2, 0, 0, 0) := rfl
theorem ct_45_2 : am_CT 45 2 = some (.putfield 17, 5, 2, 8, 0) := rfl
theorem ct_45_5 : am_CT 45 5 = some (.aload 1, 6, 0, 0, 0) := rfl
theorem ct_45_6 : am_CT 45 6 = some (.invokevirtual 24, 9, 131, 0, 6) := rfl
theorem ct_45_9 : am_CT 45 9 = some (.bipush 1, 10, 0, 0, 0) := rfl
theorem ct_45_10 : am_CT 45 10 = some (.istore 2, 11, 0, 0, 0) := rfl
theorem ct_45_11 : am_CT 45 11 = some (.iload 2, 12, 0, 0, 0) := rfl
theorem ct_45_12 : am_CT 45 12 = some (.bipush 10, 14, 0, 0, 0) := rfl
theorem ct_45_14 : am_CT 45 14 = some (.if_icmp .gt 49, 17, 63, 0, 0) := rfl
theorem ct_45_17 : am_CT 45 17 = some (.aload 0, 18, 0, 0, 0) := rfl
theorem ct_45_18 : am_CT 45 18 = some (.aload 1, 19, 0, 0, 0) := rfl
theorem ct_45_19 : am_CT 45 19 = some (.invokevirtual 29, 22, 146, 1, 8) := rfl
theorem ct_45_22 : am_CT 45 22 = some (.ifCond .ne 5, 25, 27, 0, 0) := rfl
theorem ct_45_25 : am_CT 45 25 = some (.bipush 0, 26, 0, 0, 0) := rfl
theorem ct_45_26 : am_CT 45 26 = some (.ireturn, 27, 1, 0, 0) := rfl
theorem ct_45_27 : am_CT 45 27 = some (.aload 0, 28, 0, 0, 0) := rfl
theorem ct_45_28 : am_CT 45 28 = some (.getfield 17, 31, 2, 8, 0) := rfl
theorem ct_45_31 : am_CT 45 31 = some (.aload 0, 32, 0, 0, 0) := rfl
theorem ct_45_32 : am_CT 45 32 = some (.getfield 13, 35, 1, 8, 0) := rfl
theorem ct_45_35 : am_CT 45 35 = some (.if_icmp .lt 5, 38, 40, 0, 0) := rfl
theorem ct_45_38 : am_CT 45 38 = some (.bipush 1, 39, 0, 0, 0) := rfl
theorem ct_45_39 : am_CT 45 39 = some (.ireturn, 40, 1, 0, 0) := rfl
theorem ct_45_40 : am_CT 45 40 = some (.iload 2, 41, 0, 0, 0) := rfl
theorem ct_45_41 : am_CT 45 41 = some (.bipush 10, 43, 0, 0, 0) := rfl
theorem ct_45_43 : am_CT 45 43 = some (.if_icmp .eq 12, 46, 55, 0, 0) := rfl
theorem ct_45_46 : am_CT 45 46 = some (.aload 0, 47, 0, 0, 0) := rfl
theorem ct_45_47 : am_CT 45 47 = some (.bipush 59, 49, 0, 0, 0) := rfl
theorem ct_45_49 : am_CT 45 49 = some (.invokevirtual 33, 52, 155, 1, 8) := rfl
theorem ct_45_52 : am_CT 45 52 = some (.ifCond .ne 5, 55, 57, 0, 0) := rfl
theorem ct_45_55 : am_CT 45 55 = some (.bipush 0, 56, 0, 0, 0) := rfl
theorem ct_45_56 : am_CT 45 56 = some (.ireturn, 57, 1, 0, 0) := rfl
theorem ct_45_57 : am_CT 45 57 = some (.iinc 2 1, 60, 0, 0, 0) := rfl
theorem ct_45_60 : am_CT 45 60 = some (.goto (-49), 63, 11, 0, 0) := rfl
theorem ct_45_63 : am_CT 45 63 = some (.bipush 0, 64, 0, 0, 0) := rfl
theorem ct_45_64 : am_CT 45 64 = some (.ireturn, 65, 1, 0, 0) := rfl
theorem ct_46_0 : am_CT 46 0 = some (.aload 0, 1, 0, 0, 0) := rfl
theorem ct_46_1 : am_CT 46 1 = some (.invokevirtual 37, 4, 147, 0, 8) := rfl
theorem ct_46_4 : am_CT 46 4 = some (.istore 2, 5, 0, 0, 0) := rfl
theorem ct_46_5 : am_CT 46 5 = some (.iload 2, 6, 0, 0, 0) := rfl
theorem ct_46_6 : am_CT 46 6 = some (.ifCond .lt 12, 9, 18, 0, 0) := rfl
theorem ct_46_9 : am_CT 46 9 = some (.aload 0, 10, 0, 0, 0) := rfl
theorem ct_46_10 : am_CT 46 10 = some (.bipush 32, 12, 0, 0, 0) := rfl
theorem ct_46_12 : am_CT 46 12 = some (.invokevirtual 33, 15, 155, 1, 8) := rfl
theorem ct_46_15 : am_CT 46 15 = some (.ifCond .ne 5, 18, 20, 0, 0) := rfl
theorem ct_46_18 : am_CT 46 18 = some (.bipush 0, 19, 0, 0, 0) := rfl
theorem ct_46_19 : am_CT 46 19 = some (.ireturn, 20, 1, 0, 0) := rfl
theorem ct_46_20 : am_CT 46 20 = some (.aload 0, 21, 0, 0, 0) := rfl
theorem ct_46_21 : am_CT 46 21 = some (.invokevirtual 41, 24, 149, 0, 8) := rfl
theorem ct_46_24 : am_CT 46 24 = some (.istore 3, 25, 0, 0, 0) := rfl
theorem ct_46_25 : am_CT 46 25 = some (.iload 3, 26, 0, 0, 0) := rfl
theorem ct_46_26 : am_CT 46 26 = some (.ifCond .lt 12, 29, 38, 0, 0) := rfl
theorem ct_46_29 : am_CT 46 29 = some (.aload 0, 30, 0, 0, 0) := rfl
theorem ct_46_30 : am_CT 46 30 = some (.bipush 32, 32, 0, 0, 0) := rfl
theorem ct_46_32 : am_CT 46 32 = some (.invokevirtual 33, 35, 155, 1, 8) := rfl
theorem ct_46_35 : am_CT 46 35 = some (.ifCond .ne 5, 38, 40, 0, 0) := rfl
theorem ct_46_38 : am_CT 46 38 = some (.bipush 0, 39, 0, 0, 0) := rfl
theorem ct_46_39 : am_CT 46 39 = some (.ireturn, 40, 1, 0, 0) := rfl
theorem ct_46_40 : am_CT 46 40 = some (.aload 0, 41, 0, 0, 0) := rfl
theorem ct_46_41 : am_CT 46 41 = some (.aload 1, 42, 0, 0, 0) := rfl
theorem ct_46_42 : am_CT 46 42 = some (.bipush 0, 43, 0, 0, 0) := rfl
theorem ct_46_43 : am_CT 46 43 = some (.invokevirtual 44, 46, 150, 2, 8) := rfl
theorem ct_46_46 : am_CT 46 46 = some (.ifCond .ne 5, 49, 51, 0, 0) := rfl
theorem ct_46_49 : am_CT 46 49 = some (.bipush 0, 50, 0, 0, 0) := rfl
theorem ct_46_50 : am_CT 46 50 = some (.ireturn, 51, 1, 0, 0) := rfl
theorem ct_46_51 : am_CT 46 51 = some (.aload 1, 52, 0, 0, 0) := rfl
theorem ct_46_52 : am_CT 46 52 = some (.iload 2, 53, 0, 0, 0) := rfl
theorem ct_46_53 : am_CT 46 53 = some (.iload 3, 54, 0, 0, 0) := rfl
theorem ct_46_54 : am_CT 46 54 = some (.invokevirtual 48, 57, 133, 2, 6) := rfl
theorem ct_46_57 : am_CT 46 57 = some (.bipush 1, 58, 0, 0, 0) := rfl
theorem ct_46_58 : am_CT 46 58 = some (.ireturn, 59, 1, 0, 0) := rfl
theorem ct_47_0 : am_CT 47 0 = some (.aload 0, 1, 0, 0, 0) := rfl
theorem ct_47_1 : am_CT 47 1 = some (.invokevirtual 52, 4, 156, 0, 8) := rfl
theorem ct_47_4 : am_CT 47 4 = some (.lookupswitch 81 #[(99, 66), (100, 51), (119, 36)], 40, 0, 0, 0) := rfl
theorem ct_47_40 : am_CT 47 40 = some (.aload 0, 41, 0, 0, 0) := rfl
theorem ct_47_41 : am_CT 47 41 = some (.ldc 55, 43, 0, 0, 0) := rfl
theorem ct_47_43 : am_CT 47 43 = some (.invokevirtual 57, 46, 148, 1, 8) := rfl
theorem ct_47_46 : am_CT 47 46 = some (.ifCond .eq 7, 49, 53, 0, 0) := rfl
theorem ct_47_49 : am_CT 47 49 = some (.bipush 0, 50, 0, 0, 0) := rfl
theorem ct_47_50 : am_CT 47 50 = some (.goto 4, 53, 54, 0, 0) := rfl
theorem ct_47_53 : am_CT 47 53 = some (.bipush (-1), 54, 0, 0, 0) := rfl
theorem ct_47_54 : am_CT 47 54 = some (.ireturn, 55, 0, 0, 0) := rfl
theorem ct_47_55 : am_CT 47 55 = some (.aload 0, 56, 0, 0, 0) := rfl
theorem ct_47_56 : am_CT 47 56 = some (.ldc 61, 58, 1, 0, 0) := rfl
theorem ct_47_58 : am_CT 47 58 = some (.invokevirtual 57, 61, 148, 1, 8) := rfl
theorem ct_47_61 : am_CT 47 61 = some (.ifCond .eq 7, 64, 68, 0, 0) := rfl
theorem ct_47_64 : am_CT 47 64 = some (.bipush 1, 65, 0, 0, 0) := rfl
theorem ct_47_65 : am_CT 47 65 = some (.goto 4, 68, 69, 0, 0) := rfl
theorem ct_47_68 : am_CT 47 68 = some (.bipush (-1), 69, 0, 0, 0) := rfl
theorem ct_47_69 : am_CT 47 69 = some (.ireturn, 70, 0, 0, 0) := rfl
theorem ct_47_70 : am_CT 47 70 = some (.aload 0, 71, 0, 0, 0) := rfl
theorem ct_47_71 : am_CT 47 71 = some (.ldc 63, 73, 2, 0, 0) := rfl
theorem ct_47_73 : am_CT 47 73 = some (.invokevirtual 57, 76, 148, 1, 8) := rfl
theorem ct_47_76 : am_CT 47 76 = some (.ifCond .eq 7, 79, 83, 0, 0) := rfl
theorem ct_47_79 : am_CT 47 79 = some (.bipush 2, 80, 0, 0, 0) := rfl
theorem ct_47_80 : am_CT 47 80 = some (.goto 4, 83, 84, 0, 0) := rfl
theorem ct_47_83 : am_CT 47 83 = some (.bipush (-1), 84, 0, 0, 0) := rfl
theorem ct_47_84 : am_CT 47 84 = some (.ireturn, 85, 0, 0, 0) := rfl
theorem ct_47_85 : am_CT 47 85 = some (.bipush (-1), 86, 0, 0, 0) := rfl
theorem ct_47_86 : am_CT 47 86 = some (.ireturn, 87, 0, 0, 0) := rfl
theorem ct_48_0 : am_CT 48 0 = some (.bipush 0, 1, 0, 0, 0) := rfl
theorem ct_48_1 : am_CT 48 1 = some (.istore 2, 2, 0, 0, 0) := rfl
theorem ct_48_2 : am_CT 48 2 = some (.iload 2, 3, 0, 0, 0) := rfl
theorem ct_48_3 : am_CT 48 3 = some (.aload 1, 4, 0, 0, 0) := rfl
theorem ct_48_4 : am_CT 48 4 = some (.invokevirtual 65, 7, 304, 0, 13) := rfl
theorem ct_48_7 : am_CT 48 7 = some (.if_icmp .ge 23, 10, 30, 0, 0) := rfl
theorem ct_48_10 : am_CT 48 10 = some (.aload 0, 11, 0, 0, 0) := rfl
theorem ct_48_11 : am_CT 48 11 = some (.aload 1, 12, 0, 0, 0) := rfl
theorem ct_48_12 : am_CT 48 12 = some (.iload 2, 13, 0, 0, 0) := rfl
theorem ct_48_13 : am_CT 48 13 = some (.invokevirtual 69, 16, 306, 1, 13) := rfl
theorem ct_48_16 : am_CT 48 16 = some (.invokevirtual 33, 19, 155, 1, 8) := rfl
theorem ct_48_19 : am_CT 48 19 = some (.ifCond .ne 5, 22, 24, 0, 0) := rfl
theorem ct_48_22 : am_CT 48 22 = some (.bipush 0, 23, 0, 0, 0) := rfl
theorem ct_48_23 : am_CT 48 23 = some (.ireturn, 24, 1, 0, 0) := rfl
theorem ct_48_24 : am_CT 48 24 = some (.iinc 2 1, 27, 0, 0, 0) := rfl
theorem ct_48_27 : am_CT 48 27 = some (.goto (-25), 30, 2, 0, 0) := rfl
theorem ct_48_30 : am_CT 48 30 = some (.bipush 1, 31, 0, 0, 0) := rfl
theorem ct_48_31 : am_CT 48 31 = some (.ireturn, 32, 1, 0, 0) := rfl
theorem ct_49_0 : am_CT 49 0 = some (.bipush (-1), 1, 0, 0, 0) := rfl
theorem ct_49_1 : am_CT 49 1 = some (.istore 1, 2, 0, 0, 0) := rfl
theorem ct_49_2 : am_CT 49 2 = some (.bipush 0, 3, 0, 0, 0) := rfl
theorem ct_49_3 : am_CT 49 3 = some (.istore 2, 4, 0, 0, 0) := rfl
theorem ct_49_4 : am_CT 49 4 = some (.iload 2, 5, 0, 0, 0) := rfl
theorem ct_49_5 : am_CT 49 5 = some (.bipush 2, 6, 0, 0, 0) := rfl
theorem ct_49_6 : am_CT 49 6 = some (.if_icmp .ge 54, 9, 60, 0, 0) := rfl
theorem ct_49_9 : am_CT 49 9 = some (.aload 0, 10, 0, 0, 0) := rfl
theorem ct_49_10 : am_CT 49 10 = some (.invokevirtual 52, 13, 156, 0, 8) := rfl
theorem ct_49_13 : am_CT 49 13 = some (.bipush 48, 15, 0, 0, 0) := rfl
theorem ct_49_15 : am_CT 49 15 = some (.isub, 16, 0, 0, 0) := rfl
theorem ct_49_16 : am_CT 49 16 = some (.istore 3, 17, 0, 0, 0) := rfl
theorem ct_49_17 : am_CT 49 17 = some (.iload 3, 18, 0, 0, 0) := rfl
theorem ct_49_18 : am_CT 49 18 = some (.ifCond .lt 9, 21, 27, 0, 0) := rfl
theorem ct_49_21 : am_CT 49 21 = some (.iload 3, 22, 0, 0, 0) := rfl
theorem ct_49_22 : am_CT 49 22 = some (.bipush 9, 24, 0, 0, 0) := rfl
theorem ct_49_24 : am_CT 49 24 = some (.if_icmp .le 5, 27, 29, 0, 0) := rfl
theorem ct_49_27 : am_CT 49 27 = some (.iload 1, 28, 0, 0, 0) := rfl
theorem ct_49_28 : am_CT 49 28 = some (.ireturn, 29, 0, 0, 0) := rfl
theorem ct_49_29 : am_CT 49 29 = some (.iload 1, 30, 0, 0, 0) := rfl
theorem ct_49_30 : am_CT 49 30 = some (.ifCond .ge 7, 33, 37, 0, 0) := rfl
theorem ct_49_33 : am_CT 49 33 = some (.iload 3, 34, 0, 0, 0) := rfl
theorem ct_49_34 : am_CT 49 34 = some (.goto 9, 37, 43, 0, 0) := rfl
theorem ct_49_37 : am_CT 49 37 = some (.bipush 10, 39, 0, 0, 0) := rfl
theorem ct_49_39 : am_CT 49 39 = some (.iload 1, 40, 0, 0, 0) := rfl
theorem ct_49_40 : am_CT 49 40 = some (.imul, 41, 0, 0, 0) := rfl
theorem ct_49_41 : am_CT 49 41 = some (.iload 3, 42, 0, 0, 0) := rfl
theorem ct_49_42 : am_CT 49 42 = some (.iadd, 43, 0, 0, 0) := rfl
theorem ct_49_43 : am_CT 49 43 = some (.istore 1, 44, 0, 0, 0) := rfl
theorem ct_49_44 : am_CT 49 44 = some (.aload 0, 45, 0, 0, 0) := rfl
theorem ct_49_45 : am_CT 49 45 = some (.dup, 46, 0, 0, 0) := rfl
theorem ct_49_46 : am_CT 49 46 = some (.getfield 17, 49, 2, 8, 0) := rfl
theorem ct_49_49 : am_CT 49 49 = some (.bipush 1, 50, 0, 0, 0) := rfl
theorem ct_49_50 : am_CT 49 50 = some (.iadd, 51, 0, 0, 0) := rfl
theorem ct_49_51 : am_CT 49 51 = some (.putfield 17, 54, 2, 8, 0) := rfl
theorem ct_49_54 : am_CT 49 54 = some (.iinc 2 1, 57, 0, 0, 0) := rfl
theorem ct_49_57 : am_CT 49 57 = some (.goto (-53), 60, 4, 0, 0) := rfl
theorem ct_49_60 : am_CT 49 60 = some (.iload 1, 61, 0, 0, 0) := rfl
theorem ct_49_61 : am_CT 49 61 = some (.ireturn, 62, 0, 0, 0) := rfl
theorem ct_50_0 : am_CT 50 0 = some (.aload 0, 1, 0, 0, 0) := rfl
theorem ct_50_1 : am_CT 50 1 = some (.aload 1, 2, 0, 0, 0) := rfl
theorem ct_50_2 : am_CT 50 2 = some (.iload 2, 3, 0, 0, 0) := rfl
theorem ct_50_3 : am_CT 50 3 = some (.invokevirtual 73, 6, 151, 2, 8) := rfl
theorem ct_50_6 : am_CT 50 6 = some (.ifCond .ne 5, 9, 11, 0, 0) := rfl
theorem ct_50_9 : am_CT 50 9 = some (.bipush 0, 10, 0, 0, 0) := rfl
theorem ct_50_10 : am_CT 50 10 = some (.ireturn, 11, 1, 0, 0) := rfl
theorem ct_50_11 : am_CT 50 11 = some (.bipush 0, 12, 0, 0, 0) := rfl
theorem ct_50_12 : am_CT 50 12 = some (.istore 3, 13, 0, 0, 0) := rfl
theorem ct_50_13 : am_CT 50 13 = some (.iload 3, 14, 0, 0, 0) := rfl
theorem ct_50_14 : am_CT 50 14 = some (.bipush 100, 16, 0, 0, 0) := rfl
theorem ct_50_16 : am_CT 50 16 = some (.if_icmp .ge 37, 19, 53, 0, 0) := rfl
theorem ct_50_19 : am_CT 50 19 = some (.aload 0, 20, 0, 0, 0) := rfl
theorem ct_50_20 : am_CT 50 20 = some (.bipush 124, 22, 0, 0, 0) := rfl
theorem ct_50_22 : am_CT 50 22 = some (.invokevirtual 33, 25, 155, 1, 8) := rfl
theorem ct_50_25 : am_CT 50 25 = some (.ifCond .eq 28, 28, 53, 0, 0) := rfl
theorem ct_50_28 : am_CT 50 28 = some (.aload 0, 29, 0, 0, 0) := rfl
theorem ct_50_29 : am_CT 50 29 = some (.aload 1, 30, 0, 0, 0) := rfl
theorem ct_50_30 : am_CT 50 30 = some (.iload 2, 31, 0, 0, 0) := rfl
theorem ct_50_31 : am_CT 50 31 = some (.invokevirtual 73, 34, 151, 2, 8) := rfl
theorem ct_50_34 : am_CT 50 34 = some (.ifCond .ne 5, 37, 39, 0, 0) := rfl
theorem ct_50_37 : am_CT 50 37 = some (.bipush 0, 38, 0, 0, 0) := rfl
theorem ct_50_38 : am_CT 50 38 = some (.ireturn, 39, 1, 0, 0) := rfl
theorem ct_50_39 : am_CT 50 39 = some (.aload 1, 40, 0, 0, 0) := rfl
theorem ct_50_40 : am_CT 50 40 = some (.bipush 8, 42, 0, 0, 0) := rfl
theorem ct_50_42 : am_CT 50 42 = some (.bipush 0, 43, 0, 0, 0) := rfl
theorem ct_50_43 : am_CT 50 43 = some (.bipush 0, 44, 0, 0, 0) := rfl
theorem ct_50_44 : am_CT 50 44 = some (.invokevirtual 76, 47, 132, 3, 6) := rfl
theorem ct_50_47 : am_CT 50 47 = some (.iinc 3 1, 50, 0, 0, 0) := rfl
theorem ct_50_50 : am_CT 50 50 = some (.goto (-37), 53, 13, 0, 0) := rfl
theorem ct_50_53 : am_CT 50 53 = some (.bipush 1, 54, 0, 0, 0) := rfl
theorem ct_50_54 : am_CT 50 54 = some (.ireturn, 55, 1, 0, 0) := rfl
theorem ct_51_0 : am_CT 51 0 = some (.aload 0, 1, 0, 0, 0) := rfl
theorem ct_51_1 : am_CT 51 1 = some (.aload 1, 2, 0, 0, 0) := rfl
theorem ct_51_2 : am_CT 51 2 = some (.iload 2, 3, 0, 0, 0) := rfl
theorem ct_51_3 : am_CT 51 3 = some (.invokevirtual 80, 6, 152, 2, 8) := rfl
theorem ct_51_6 : am_CT 51 6 = some (.ifCond .ne 5, 9, 11, 0, 0) := rfl
theorem ct_51_9 : am_CT 51 9 = some (.bipush 0, 10, 0, 0, 0) := rfl
theorem ct_51_10 : am_CT 51 10 = some (.ireturn, 11, 1, 0, 0) := rfl
theorem ct_51_11 : am_CT 51 11 = some (.bipush 0, 12, 0, 0, 0) := rfl
theorem ct_51_12 : am_CT 51 12 = some (.istore 3, 13, 0, 0, 0) := rfl
theorem ct_51_13 : am_CT 51 13 = some (.iload 3, 14, 0, 0, 0) := rfl
theorem ct_51_14 : am_CT 51 14 = some (.bipush 100, 16, 0, 0, 0) := rfl
theorem ct_51_16 : am_CT 51 16 = some (.if_icmp .ge 37, 19, 53, 0, 0) := rfl
theorem ct_51_19 : am_CT 51 19 = some (.aload 0, 20, 0, 0, 0) := rfl
theorem ct_51_20 : am_CT 51 20 = some (.bipush 38, 22, 0, 0, 0) := rfl
theorem ct_51_22 : am_CT 51 22 = some (.invokevirtual 33, 25, 155, 1, 8) := rfl
theorem ct_51_25 : am_CT 51 25 = some (.ifCond .eq 28, 28, 53, 0, 0) := rfl
theorem ct_51_28 : am_CT 51 28 = some (.aload 0, 29, 0, 0, 0) := rfl
theorem ct_51_29 : am_CT 51 29 = some (.aload 1, 30, 0, 0, 0) := rfl
theorem ct_51_30 : am_CT 51 30 = some (.iload 2, 31, 0, 0, 0) := rfl
theorem ct_51_31 : am_CT 51 31 = some (.invokevirtual 80, 34, 152, 2, 8) := rfl
theorem ct_51_34 : am_CT 51 34 = some (.ifCond .ne 5, 37, 39, 0, 0) := rfl
theorem ct_51_37 : am_CT 51 37 = some (.bipush 0, 38, 0, 0, 0) := rfl
theorem ct_51_38 : am_CT 51 38 = some (.ireturn, 39, 1, 0, 0) := rfl
theorem ct_51_39 : am_CT 51 39 = some (.aload 1, 40, 0, 0, 0) := rfl
theorem ct_51_40 : am_CT 51 40 = some (.bipush 7, 42, 0, 0, 0) := rfl
theorem ct_51_42 : am_CT 51 42 = some (.bipush 0, 43, 0, 0, 0) := rfl
theorem ct_51_43 : am_CT 51 43 = some (.bipush 0, 44, 0, 0, 0) := rfl
theorem ct_51_44 : am_CT 51 44 = some (.invokevirtual 76, 47, 132, 3, 6) := rfl
theorem ct_51_47 : am_CT 51 47 = some (.iinc 3 1, 50, 0, 0, 0) := rfl
theorem ct_51_50 : am_CT 51 50 = some (.goto (-37), 53, 13, 0, 0) := rfl
theorem ct_51_53 : am_CT 51 53 = some (.bipush 1, 54, 0, 0, 0) := rfl
theorem ct_51_54 : am_CT 51 54 = some (.ireturn, 55, 1, 0, 0) := rfl
theorem ct_52_0 : am_CT 52 0 = some (.aload 0, 1, 0, 0, 0) := rfl
theorem ct_52_1 : am_CT 52 1 = some (.invokevirtual 52, 4, 156, 0, 8) := rfl
theorem ct_52_4 : am_CT 52 4 = some (.istore 3, 5, 0, 0, 0) := rfl
theorem ct_52_5 : am_CT 52 5 = some (.iload 3, 6, 0, 0, 0) := rfl
theorem ct_52_6 : am_CT 52 6 = some (.bipush 33, 8, 0, 0, 0) := rfl
theorem ct_52_8 : am_CT 52 8 = some (.if_icmp .eq 15, 11, 23, 0, 0) := rfl
theorem ct_52_11 : am_CT 52 11 = some (.iload 3, 12, 0, 0, 0) := rfl
theorem ct_52_12 : am_CT 52 12 = some (.bipush 40, 14, 0, 0, 0) := rfl
theorem ct_52_14 : am_CT 52 14 = some (.if_icmp .eq 9, 17, 23, 0, 0) := rfl
theorem ct_52_17 : am_CT 52 17 = some (.aload 0, 18, 0, 0, 0) := rfl
theorem ct_52_18 : am_CT 52 18 = some (.aload 1, 19, 0, 0, 0) := rfl
theorem ct_52_19 : am_CT 52 19 = some (.invokevirtual 83, 22, 153, 1, 8) := rfl
theorem ct_52_22 : am_CT 52 22 = some (.ireturn, 23, 1, 0, 0) := rfl
theorem ct_52_23 : am_CT 52 23 = some (.iload 2, 24, 0, 0, 0) := rfl
theorem ct_52_24 : am_CT 52 24 = some (.bipush 4, 25, 0, 0, 0) := rfl
theorem ct_52_25 : am_CT 52 25 = some (.if_icmp .lt 5, 28, 30, 0, 0) := rfl
theorem ct_52_28 : am_CT 52 28 = some (.bipush 0, 29, 0, 0, 0) := rfl
theorem ct_52_29 : am_CT 52 29 = some (.ireturn, 30, 1, 0, 0) := rfl
theorem ct_52_30 : am_CT 52 30 = some (.aload 0, 31, 0, 0, 0) := rfl
theorem ct_52_31 : am_CT 52 31 = some (.dup, 32, 0, 0, 0) := rfl
theorem ct_52_32 : am_CT 52 32 = some (.getfield 17, 35, 2, 8, 0) := rfl
theorem ct_52_35 : am_CT 52 35 = some (.bipush 1, 36, 0, 0, 0) := rfl
theorem ct_52_36 : am_CT 52 36 = some (.iadd, 37, 0, 0, 0) := rfl
theorem ct_52_37 : am_CT 52 37 = some (.putfield 17, 40, 2, 8, 0) := rfl
theorem ct_52_40 : am_CT 52 40 = some (.iload 3, 41, 0, 0, 0) := rfl
theorem ct_52_41 : am_CT 52 41 = some (.bipush 40, 43, 0, 0, 0) := rfl
theorem ct_52_43 : am_CT 52 43 = some (.if_icmp .ne 29, 46, 72, 0, 0) := rfl
theorem ct_52_46 : am_CT 52 46 = some (.aload 0, 47, 0, 0, 0) := rfl
theorem ct_52_47 : am_CT 52 47 = some (.aload 1, 48, 0, 0, 0) := rfl
theorem ct_52_48 : am_CT 52 48 = some (.iload 2, 49, 0, 0, 0) := rfl
theorem ct_52_49 : am_CT 52 49 = some (.bipush 1, 50, 0, 0, 0) := rfl
theorem ct_52_50 : am_CT 52 50 = some (.iadd, 51, 0, 0, 0) := rfl
theorem ct_52_51 : am_CT 52 51 = some (.invokevirtual 44, 54, 150, 2, 8) := rfl
theorem ct_52_54 : am_CT 52 54 = some (.ifCond .eq 16, 57, 70, 0, 0) := rfl
theorem ct_52_57 : am_CT 52 57 = some (.aload 0, 58, 0, 0, 0) := rfl
theorem ct_52_58 : am_CT 52 58 = some (.bipush 41, 60, 0, 0, 0) := rfl
theorem ct_52_60 : am_CT 52 60 = some (.invokevirtual 33, 63, 155, 1, 8) := rfl
theorem ct_52_63 : am_CT 52 63 = some (.ifCond .eq 7, 66, 70, 0, 0) := rfl
theorem ct_52_66 : am_CT 52 66 = some (.bipush 1, 67, 0, 0, 0) := rfl
theorem ct_52_67 : am_CT 52 67 = some (.goto 4, 70, 71, 0, 0) := rfl
theorem ct_52_70 : am_CT 52 70 = some (.bipush 0, 71, 0, 0, 0) := rfl
theorem ct_52_71 : am_CT 52 71 = some (.ireturn, 72, 1, 0, 0) := rfl
theorem ct_52_72 : am_CT 52 72 = some (.aload 0, 73, 0, 0, 0) := rfl
theorem ct_52_73 : am_CT 52 73 = some (.aload 1, 74, 0, 0, 0) := rfl
theorem ct_52_74 : am_CT 52 74 = some (.iload 2, 75, 0, 0, 0) := rfl
theorem ct_52_75 : am_CT 52 75 = some (.bipush 1, 76, 0, 0, 0) := rfl
theorem ct_52_76 : am_CT 52 76 = some (.iadd, 77, 0, 0, 0) := rfl
theorem ct_52_77 : am_CT 52 77 = some (.invokevirtual 80, 80, 152, 2, 8) := rfl
theorem ct_52_80 : am_CT 52 80 = some (.ifCond .ne 5, 83, 85, 0, 0) := rfl
theorem ct_52_83 : am_CT 52 83 = some (.bipush 0, 84, 0, 0, 0) := rfl
theorem ct_52_84 : am_CT 52 84 = some (.ireturn, 85, 1, 0, 0) := rfl
theorem ct_52_85 : am_CT 52 85 = some (.aload 1, 86, 0, 0, 0) := rfl
theorem ct_52_86 : am_CT 52 86 = some (.bipush 6, 88, 0, 0, 0) := rfl
theorem ct_52_88 : am_CT 52 88 = some (.bipush 0, 89, 0, 0, 0) := rfl
theorem ct_52_89 : am_CT 52 89 = some (.bipush 0, 90, 0, 0, 0) := rfl
theorem ct_52_90 : am_CT 52 90 = some (.invokevirtual 76, 93, 132, 3, 6) := rfl
theorem ct_52_93 : am_CT 52 93 = some (.bipush 1, 94, 0, 0, 0) := rfl
theorem ct_52_94 : am_CT 52 94 = some (.ireturn, 95, 1, 0, 0) := rfl
theorem ct_53_0 : am_CT 53 0 = some (.aload 0, 1, 0, 0, 0) := rfl
theorem ct_53_1 : am_CT 53 1 = some (.ldc 86, 3, 3, 0, 0) := rfl
theorem ct_53_3 : am_CT 53 3 = some (.invokevirtual 88, 6, 154, 1, 8) := rfl
theorem ct_53_6 : am_CT 53 6 = some (.istore 2, 7, 0, 0, 0) := rfl
theorem ct_53_7 : am_CT 53 7 = some (.iload 2, 8, 0, 0, 0) := rfl
theorem ct_53_8 : am_CT 53 8 = some (.ifCond .ge 5, 11, 13, 0, 0) := rfl
theorem ct_53_11 : am_CT 53 11 = some (.bipush 0, 12, 0, 0, 0) := rfl
theorem ct_53_12 : am_CT 53 12 = some (.ireturn, 13, 1, 0, 0) := rfl
theorem ct_53_13 : am_CT 53 13 = some (.aload 0, 14, 0, 0, 0) := rfl
theorem ct_53_14 : am_CT 53 14 = some (.ldc 92, 16, 4, 0, 0) := rfl
theorem ct_53_16 : am_CT 53 16 = some (.invokevirtual 88, 19, 154, 1, 8) := rfl
theorem ct_53_19 : am_CT 53 19 = some (.istore 3, 20, 0, 0, 0) := rfl
theorem ct_53_20 : am_CT 53 20 = some (.iload 3, 21, 0, 0, 0) := rfl
theorem ct_53_21 : am_CT 53 21 = some (.ifCond .ge 5, 24, 26, 0, 0) := rfl
theorem ct_53_24 : am_CT 53 24 = some (.bipush 0, 25, 0, 0, 0) := rfl
theorem ct_53_25 : am_CT 53 25 = some (.ireturn, 26, 1, 0, 0) := rfl
theorem ct_53_26 : am_CT 53 26 = some (.aload 0, 27, 0, 0, 0) := rfl
theorem ct_53_27 : am_CT 53 27 = some (.invokevirtual 41, 30, 149, 0, 8) := rfl
theorem ct_53_30 : am_CT 53 30 = some (.istore 4, 32, 0, 0, 0) := rfl
theorem ct_53_32 : am_CT 53 32 = some (.iload 4, 34, 0, 0, 0) := rfl
theorem ct_53_34 : am_CT 53 34 = some (.ifCond .ge 5, 37, 39, 0, 0) := rfl
theorem ct_53_37 : am_CT 53 37 = some (.bipush 0, 38, 0, 0, 0) := rfl
theorem ct_53_38 : am_CT 53 38 = some (.ireturn, 39, 1, 0, 0) := rfl
theorem ct_53_39 : am_CT 53 39 = some (.aload 1, 40, 0, 0, 0) := rfl
theorem ct_53_40 : am_CT 53 40 = some (.iload 2, 41, 0, 0, 0) := rfl
theorem ct_53_41 : am_CT 53 41 = some (.iload 3, 42, 0, 0, 0) := rfl
theorem ct_53_42 : am_CT 53 42 = some (.iload 4, 44, 0, 0, 0) := rfl
theorem ct_53_44 : am_CT 53 44 = some (.invokevirtual 76, 47, 132, 3, 6) := rfl
theorem ct_53_47 : am_CT 53 47 = some (.bipush 1, 48, 0, 0, 0) := rfl
theorem ct_53_48 : am_CT 53 48 = some (.ireturn, 49, 1, 0, 0) := rfl
theorem ct_54_0 : am_CT 54 0 = some (.aload 0, 1, 0, 0, 0) := rfl
theorem ct_54_1 : am_CT 54 1 = some (.invokevirtual 52, 4, 156, 0, 8) := rfl
theorem ct_54_4 : am_CT 54 4 = some (.istore 2, 5, 0, 0, 0) := rfl
theorem ct_54_5 : am_CT 54 5 = some (.bipush 0, 6, 0, 0, 0) := rfl
theorem ct_54_6 : am_CT 54 6 = some (.istore 3, 7, 0, 0, 0) := rfl
theorem ct_54_7 : am_CT 54 7 = some (.iload 3, 8, 0, 0, 0) := rfl
theorem ct_54_8 : am_CT 54 8 = some (.aload 1, 9, 0, 0, 0) := rfl
theorem ct_54_9 : am_CT 54 9 = some (.invokevirtual 65, 12, 304, 0, 13) := rfl
theorem ct_54_12 : am_CT 54 12 = some (.if_icmp .ge 30, 15, 42, 0, 0) := rfl
theorem ct_54_15 : am_CT 54 15 = some (.aload 1, 16, 0, 0, 0) := rfl
theorem ct_54_16 : am_CT 54 16 = some (.iload 3, 17, 0, 0, 0) := rfl
theorem ct_54_17 : am_CT 54 17 = some (.invokevirtual 69, 20, 306, 1, 13) := rfl
theorem ct_54_20 : am_CT 54 20 = some (.iload 2, 21, 0, 0, 0) := rfl
theorem ct_54_21 : am_CT 54 21 = some (.if_icmp .ne 15, 24, 36, 0, 0) := rfl
theorem ct_54_24 : am_CT 54 24 = some (.aload 0, 25, 0, 0, 0) := rfl
theorem ct_54_25 : am_CT 54 25 = some (.dup, 26, 0, 0, 0) := rfl
theorem ct_54_26 : am_CT 54 26 = some (.getfield 17, 29, 2, 8, 0) := rfl
theorem ct_54_29 : am_CT 54 29 = some (.bipush 1, 30, 0, 0, 0) := rfl
theorem ct_54_30 : am_CT 54 30 = some (.iadd, 31, 0, 0, 0) := rfl
theorem ct_54_31 : am_CT 54 31 = some (.putfield 17, 34, 2, 8, 0) := rfl
theorem ct_54_34 : am_CT 54 34 = some (.iload 3, 35, 0, 0, 0) := rfl
theorem ct_54_35 : am_CT 54 35 = some (.ireturn, 36, 0, 0, 0) := rfl
theorem ct_54_36 : am_CT 54 36 = some (.iinc 3 1, 39, 0, 0, 0) := rfl
theorem ct_54_39 : am_CT 54 39 = some (.goto (-32), 42, 7, 0, 0) := rfl
theorem ct_54_42 : am_CT 54 42 = some (.bipush (-1), 43, 0, 0, 0) := rfl
theorem ct_54_43 : am_CT 54 43 = some (.ireturn, 44, 0, 0, 0) := rfl
theorem ct_55_0 : am_CT 55 0 = some (.aload 0, 1, 0, 0, 0) := rfl
theorem ct_55_1 : am_CT 55 1 = some (.invokevirtual 52, 4, 156, 0, 8) := rfl
theorem ct_55_4 : am_CT 55 4 = some (.iload 1, 5, 0, 0, 0) := rfl
theorem ct_55_5 : am_CT 55 5 = some (.if_icmp .eq 5, 8, 10, 0, 0) := rfl
theorem ct_55_8 : am_CT 55 8 = some (.bipush 0, 9, 0, 0, 0) := rfl
theorem ct_55_9 : am_CT 55 9 = some (.ireturn, 10, 1, 0, 0) := rfl
theorem ct_55_10 : am_CT 55 10 = some (.aload 0, 11, 0, 0, 0) := rfl
theorem ct_55_11 : am_CT 55 11 = some (.dup, 12, 0, 0, 0) := rfl
theorem ct_55_12 : am_CT 55 12 = some (.getfield 17, 15, 2, 8, 0) := rfl
theorem ct_55_15 : am_CT 55 15 = some (.bipush 1, 16, 0, 0, 0) := rfl
theorem ct_55_16 : am_CT 55 16 = some (.iadd, 17, 0, 0, 0) := rfl
theorem ct_55_17 : am_CT 55 17 = some (.putfield 17, 20, 2, 8, 0) := rfl
theorem ct_55_20 : am_CT 55 20 = some (.bipush 1, 21, 0, 0, 0) := rfl
theorem ct_55_21 : am_CT 55 21 = some (.ireturn, 22, 1, 0, 0) := rfl
theorem ct_56_0 : am_CT 56 0 = some (.aload 0, 1, 0, 0, 0) := rfl
theorem ct_56_1 : am_CT 56 1 = some (.getfield 17, 4, 2, 8, 0) := rfl
theorem ct_56_4 : am_CT 56 4 = some (.aload 0, 5, 0, 0, 0) := rfl
theorem ct_56_5 : am_CT 56 5 = some (.getfield 13, 8, 1, 8, 0) := rfl
theorem ct_56_8 : am_CT 56 8 = some (.if_icmp .ge 15, 11, 23, 0, 0) := rfl
theorem ct_56_11 : am_CT 56 11 = some (.aload 0, 12, 0, 0, 0) := rfl
theorem ct_56_12 : am_CT 56 12 = some (.getfield 9, 15, 0, 8, 2) := rfl
theorem ct_56_15 : am_CT 56 15 = some (.aload 0, 16, 0, 0, 0) := rfl
theorem ct_56_16 : am_CT 56 16 = some (.getfield 17, 19, 2, 8, 0) := rfl
theorem ct_56_19 : am_CT 56 19 = some (.baload, 20, 0, 0, 0) := rfl
theorem ct_56_20 : am_CT 56 20 = some (.goto 4, 23, 24, 0, 0) := rfl
theorem ct_56_23 : am_CT 56 23 = some (.bipush (-1), 24, 0, 0, 0) := rfl
theorem ct_56_24 : am_CT 56 24 = some (.ireturn, 25, 0, 0, 0) := rfl
theorem ct_57_0 : am_CT 57 0 = some (.aload 0, 1, 0, 0, 0) := rfl
theorem ct_57_1 : am_CT 57 1 = some (.iload 1, 2, 0, 0, 0) := rfl
theorem ct_57_2 : am_CT 57 2 = some (.iload 2, 3, 0, 0, 0) := rfl
theorem ct_57_3 : am_CT 57 3 = some (.iload 3, 4, 0, 0, 0) := rfl
theorem ct_57_4 : am_CT 57 4 = some (.iload 4, 6, 0, 0, 0) := rfl
theorem ct_57_6 : am_CT 57 6 = some (.iload 5, 8, 0, 0, 0) := rfl
theorem ct_57_8 : am_CT 57 8 = some (.invokespecial 3, 11, 27, 5, 0) := rfl
theorem ct_57_11 : am_CT 57 11 = some (.aload 0, 12, 0, 0, 0) := rfl
theorem ct_57_12 : am_CT 57 12 = some (.bipush 4, 13, 0, 0, 0) := rfl
theorem ct_57_13 : am_CT 57 13 = some (.newarray .int, 15, 20, 0, 0) := rfl
theorem ct_57_15 : am_CT 57 15 = some (.putfield 9, 18, 6, 9, 2) := rfl
theorem ct_57_18 : am_CT 57 18 = some (.return_, 19, 0, 0, 0) := rfl
theorem ct_58_0 : am_CT 58 0 = some (.aload 0, 1, 0, 0, 0) := rfl
theorem ct_58_1 : am_CT 58 1 = some (.aload 1, 2, 0, 0, 0) := rfl
theorem ct_58_2 : am_CT 58 2 = some (.invokespecial 15, 5, 2, 1, 0) := rfl
theorem ct_58_5 : am_CT 58 5 = some (.aload 0, 6, 0, 0, 0) := rfl
theorem ct_58_6 : am_CT 58 6 = some (.getfield 9, 9, 6, 9, 2) := rfl
theorem ct_58_9 : am_CT 58 9 = some (.bipush 0, 10, 0, 0, 0) := rfl
theorem ct_58_10 : am_CT 58 10 = some (.aload 1, 11, 0, 0, 0) := rfl
theorem ct_58_11 : am_CT 58 11 = some (.bipush 3, 12, 0, 0, 0) := rfl
theorem ct_58_12 : am_CT 58 12 = some (.bipush 4, 13, 0, 0, 0) := rfl
theorem ct_58_13 : am_CT 58 13 = some (.invokestatic 19, 16, 0, 5, 1) := rfl
theorem ct_58_16 : am_CT 58 16 = some (.return_, 17, 0, 0, 0) := rfl
theorem ct_59_0 : am_CT 59 0 = some (.aload 0, 1, 0, 0, 0) := rfl
theorem ct_59_1 : am_CT 59 1 = some (.aload 1, 2, 0, 0, 0) := rfl
theorem ct_59_2 : am_CT 59 2 = some (.invokespecial 25, 5, 3, 1, 0) := rfl
theorem ct_59_5 : am_CT 59 5 = some (.aload 1, 6, 0, 0, 0) := rfl
theorem ct_59_6 : am_CT 59 6 = some (.bipush 3, 7, 0, 0, 0) := rfl
theorem ct_59_7 : am_CT 59 7 = some (.aload 0, 8, 0, 0, 0) := rfl
theorem ct_59_8 : am_CT 59 8 = some (.getfield 9, 11, 6, 9, 2) := rfl
theorem ct_59_11 : am_CT 59 11 = some (.bipush 0, 12, 0, 0, 0) := rfl
theorem ct_59_12 : am_CT 59 12 = some (.bipush 4, 13, 0, 0, 0) := rfl
theorem ct_59_13 : am_CT 59 13 = some (.invokestatic 19, 16, 0, 5, 1) := rfl
theorem ct_59_16 : am_CT 59 16 = some (.return_, 17, 0, 0, 0) := rfl
theorem ct_60_0 : am_CT 60 0 = some (.aload 1, 1, 0, 0, 0) := rfl
theorem ct_60_1 : am_CT 60 1 = some (.getfield 28, 4, 7, 3, 0) := rfl
theorem ct_60_4 : am_CT 60 4 = some (.aload 1, 5, 0, 0, 0) := rfl
theorem ct_60_5 : am_CT 60 5 = some (.getfield 34, 8, 2, 3, 0) := rfl
theorem ct_60_8 : am_CT 60 8 = some (.aload 0, 9, 0, 0, 0) := rfl
theorem ct_60_9 : am_CT 60 9 = some (.getfield 9, 12, 6, 9, 2) := rfl
theorem ct_60_12 : am_CT 60 12 = some (.aload 1, 13, 0, 0, 0) := rfl
theorem ct_60_13 : am_CT 60 13 = some (.getfield 37, 16, 4, 3, 0) := rfl
theorem ct_60_16 : am_CT 60 16 = some (.bipush 4, 17, 0, 0, 0) := rfl
theorem ct_60_17 : am_CT 60 17 = some (.invokestatic 40, 20, 203, 2, 0) := rfl
theorem ct_60_20 : am_CT 60 20 = some (.iaload, 21, 0, 0, 0) := rfl
theorem ct_60_21 : am_CT 60 21 = some (.iadd, 22, 0, 0, 0) := rfl
theorem ct_60_22 : am_CT 60 22 = some (.if_icmp .lt 7, 25, 29, 0, 0) := rfl
theorem ct_60_25 : am_CT 60 25 = some (.bipush 1, 26, 0, 0, 0) := rfl
theorem ct_60_26 : am_CT 60 26 = some (.goto 4, 29, 30, 0, 0) := rfl
theorem ct_60_29 : am_CT 60 29 = some (.bipush 0, 30, 0, 0, 0) := rfl
theorem ct_60_30 : am_CT 60 30 = some (.ireturn, 31, 1, 0, 0) := rfl
theorem ct_61_0 : am_CT 61 0 = some (.bipush 70, 2, 0, 0, 0) := rfl
theorem ct_61_2 : am_CT 61 2 = some (.aload 2, 3, 0, 0, 0) := rfl
theorem ct_61_3 : am_CT 61 3 = some (.invokestatic 46, 6, 9, 2, 0) := rfl
theorem ct_61_6 : am_CT 61 6 = some (.aload 0, 7, 0, 0, 0) := rfl
theorem ct_61_7 : am_CT 61 7 = some (.iload 1, 8, 0, 0, 0) := rfl
theorem ct_61_8 : am_CT 61 8 = some (.aload 2, 9, 0, 0, 0) := rfl
theorem ct_61_9 : am_CT 61 9 = some (.invokespecial 50, 12, 7, 2, 0) := rfl
theorem ct_61_12 : am_CT 61 12 = some (.aload 0, 13, 0, 0, 0) := rfl
theorem ct_61_13 : am_CT 61 13 = some (.bipush 2, 14, 0, 0, 0) := rfl
theorem ct_61_14 : am_CT 61 14 = some (.aload 2, 15, 0, 0, 0) := rfl
theorem ct_61_15 : am_CT 61 15 = some (.invokespecial 54, 18, 6, 2, 0) := rfl
theorem ct_61_18 : am_CT 61 18 = some (.iadd, 19, 0, 0, 0) := rfl
theorem ct_61_19 : am_CT 61 19 = some (.ireturn, 20, 0, 0, 0) := rfl
theorem ct_62_0 : am_CT 62 0 = some (.bipush 71, 2, 0, 0, 0) := rfl
theorem ct_62_2 : am_CT 62 2 = some (.aload 2, 3, 0, 0, 0) := rfl
theorem ct_62_3 : am_CT 62 3 = some (.invokestatic 46, 6, 9, 2, 0) := rfl
theorem ct_62_6 : am_CT 62 6 = some (.aload 0, 7, 0, 0, 0) := rfl
theorem ct_62_7 : am_CT 62 7 = some (.iload 1, 8, 0, 0, 0) := rfl
theorem ct_62_8 : am_CT 62 8 = some (.aload 2, 9, 0, 0, 0) := rfl
theorem ct_62_9 : am_CT 62 9 = some (.invokespecial 54, 12, 6, 2, 0) := rfl
theorem ct_62_12 : am_CT 62 12 = some (.aload 0, 13, 0, 0, 0) := rfl
theorem ct_62_13 : am_CT 62 13 = some (.getfield 57, 16, 2, 0, 0) := rfl
theorem ct_62_16 : am_CT 62 16 = some (.ixor, 17, 0, 0, 0) := rfl
theorem ct_62_17 : am_CT 62 17 = some (.ireturn, 18, 0, 0, 0) := rfl
theorem ct_63_0 : am_CT 63 0 = some (.aload 0, 1, 0, 0, 0) := rfl
theorem ct_63_1 : am_CT 63 1 = some (.iload 1, 2, 0, 0, 0) := rfl
theorem ct_63_2 : am_CT 63 2 = some (.iload 2, 3, 0, 0, 0) := rfl
theorem ct_63_3 : am_CT 63 3 = some (.iload 3, 4, 0, 0, 0) := rfl
theorem ct_63_4 : am_CT 63 4 = some (.iload 4, 6, 0, 0, 0) := rfl
theorem ct_63_6 : am_CT 63 6 = some (.iload 5, 8, 0, 0, 0) := rfl
theorem ct_63_8 : am_CT 63 8 = some (.invokespecial 1, 11, 13, 5, 0) := rfl
theorem ct_63_11 : am_CT 63 11 = some (.return_, 12, 0, 0, 0) := rfl
theorem ct_64_0 : am_CT 64 0 = some (.aload 0, 1, 0, 0, 0) := rfl
theorem ct_64_1 : am_CT 64 1 = some (.aload 1, 2, 0, 0, 0) := rfl
theorem ct_64_2 : am_CT 64 2 = some (.invokespecial 7, 5, 14, 1, 0) := rfl
theorem ct_64_5 : am_CT 64 5 = some (.ifCond .ne 19, 8, 24, 0, 0) := rfl
theorem ct_64_8 : am_CT 64 8 = some (.aload 1, 9, 0, 0, 0) := rfl
theorem ct_64_9 : am_CT 64 9 = some (.getfield 11, 12, 9, 3, 0) := rfl
theorem ct_64_12 : am_CT 64 12 = some (.ifCond .ne 16, 15, 28, 0, 0) := rfl
theorem ct_64_15 : am_CT 64 15 = some (.aload 1, 16, 0, 0, 0) := rfl
theorem ct_64_16 : am_CT 64 16 = some (.getfield 17, 19, 7, 3, 0) := rfl
theorem ct_64_19 : am_CT 64 19 = some (.bipush 10, 21, 0, 0, 0) := rfl
theorem ct_64_21 : am_CT 64 21 = some (.if_icmp .lt 7, 24, 28, 0, 0) := rfl
theorem ct_64_24 : am_CT 64 24 = some (.bipush 1, 25, 0, 0, 0) := rfl
theorem ct_64_25 : am_CT 64 25 = some (.goto 4, 28, 29, 0, 0) := rfl
theorem ct_64_28 : am_CT 64 28 = some (.bipush 0, 29, 0, 0, 0) := rfl
theorem ct_64_29 : am_CT 64 29 = some (.ireturn, 30, 1, 0, 0) := rfl
theorem ct_65_0 : am_CT 65 0 = some (.bipush 60, 2, 0, 0, 0) := rfl
theorem ct_65_2 : am_CT 65 2 = some (.aload 2, 3, 0, 0, 0) := rfl
theorem ct_65_3 : am_CT 65 3 = some (.invokestatic 20, 6, 9, 2, 0) := rfl
theorem ct_65_6 : am_CT 65 6 = some (.aload 0, 7, 0, 0, 0) := rfl
theorem ct_65_7 : am_CT 65 7 = some (.iload 1, 8, 0, 0, 0) := rfl
theorem ct_65_8 : am_CT 65 8 = some (.aload 0, 9, 0, 0, 0) := rfl
theorem ct_65_9 : am_CT 65 9 = some (.getfield 26, 12, 1, 0, 0) := rfl
theorem ct_65_12 : am_CT 65 12 = some (.isub, 13, 0, 0, 0) := rfl
theorem ct_65_13 : am_CT 65 13 = some (.aload 2, 14, 0, 0, 0) := rfl
theorem ct_65_14 : am_CT 65 14 = some (.invokespecial 29, 17, 8, 2, 0) := rfl
theorem ct_65_17 : am_CT 65 17 = some (.ireturn, 18, 0, 0, 0) := rfl
theorem ct_66_0 : am_CT 66 0 = some (.aload 0, 1, 0, 0, 0) := rfl
theorem ct_66_1 : am_CT 66 1 = some (.invokespecial 3, 4, 0, 0, 1) := rfl
theorem ct_66_4 : am_CT 66 4 = some (.aload 0, 5, 0, 0, 0) := rfl
theorem ct_66_5 : am_CT 66 5 = some (.new 9, 8, 7, 0, 0) := rfl
theorem ct_66_8 : am_CT 66 8 = some (.dup, 9, 0, 0, 0) := rfl
theorem ct_66_9 : am_CT 66 9 = some (.invokespecial 11, 12, 36, 0, 0) := rfl
theorem ct_66_12 : am_CT 66 12 = some (.putfield 12, 15, 0, 11, 2) := rfl
theorem ct_66_15 : am_CT 66 15 = some (.aload 0, 16, 0, 0, 0) := rfl
theorem ct_66_16 : am_CT 66 16 = some (.aconst_null, 17, 0, 0, 0) := rfl
theorem ct_66_17 : am_CT 66 17 = some (.putfield 18, 20, 1, 11, 2) := rfl
theorem ct_66_20 : am_CT 66 20 = some (.aload 0, 21, 0, 0, 0) := rfl
theorem ct_66_21 : am_CT 66 21 = some (.new 21, 24, 3, 0, 0) := rfl
theorem ct_66_24 : am_CT 66 24 = some (.dup, 25, 0, 0, 0) := rfl
theorem ct_66_25 : am_CT 66 25 = some (.invokespecial 23, 28, 16, 0, 0) := rfl
theorem ct_66_28 : am_CT 66 28 = some (.putfield 24, 31, 2, 11, 2) := rfl
theorem ct_66_31 : am_CT 66 31 = some (.aload 0, 32, 0, 0, 0) := rfl
theorem ct_66_32 : am_CT 66 32 = some (.new 28, 35, 8, 0, 0) := rfl
theorem ct_66_35 : am_CT 66 35 = some (.dup, 36, 0, 0, 0) := rfl
theorem ct_66_36 : am_CT 66 36 = some (.invokespecial 30, 39, 42, 0, 0) := rfl
theorem ct_66_39 : am_CT 66 39 = some (.putfield 31, 42, 3, 11, 2) := rfl
theorem ct_66_42 : am_CT 66 42 = some (.aload 0, 43, 0, 0, 0) := rfl
theorem ct_66_43 : am_CT 66 43 = some (.bipush 6, 45, 0, 0, 0) := rfl
theorem ct_66_45 : am_CT 66 45 = some (.anewarray 35, 48, 25, 0, 0) := rfl
theorem ct_66_48 : am_CT 66 48 = some (.putfield 37, 51, 4, 11, 2) := rfl
theorem ct_66_51 : am_CT 66 51 = some (.aload 0, 52, 0, 0, 0) := rfl
theorem ct_66_52 : am_CT 66 52 = some (.bipush 0, 53, 0, 0, 0) := rfl
theorem ct_66_53 : am_CT 66 53 = some (.putfield 41, 56, 5, 11, 0) := rfl
theorem ct_66_56 : am_CT 66 56 = some (.aload 0, 57, 0, 0, 0) := rfl
theorem ct_66_57 : am_CT 66 57 = some (.aconst_null, 58, 0, 0, 0) := rfl
theorem ct_66_58 : am_CT 66 58 = some (.putfield 45, 61, 6, 11, 2) := rfl
theorem ct_66_61 : am_CT 66 61 = some (.aload 0, 62, 0, 0, 0) := rfl
theorem ct_66_62 : am_CT 66 62 = some (.bipush 5, 63, 0, 0, 0) := rfl
theorem ct_66_63 : am_CT 66 63 = some (.newarray .int, 65, 20, 0, 0) := rfl
theorem ct_66_65 : am_CT 66 65 = some (.putfield 49, 68, 7, 11, 2) := rfl
theorem ct_66_68 : am_CT 66 68 = some (.aload 0, 69, 0, 0, 0) := rfl
theorem ct_66_69 : am_CT 66 69 = some (.bipush 0, 70, 0, 0, 0) := rfl
theorem ct_66_70 : am_CT 66 70 = some (.putfield 53, 73, 8, 11, 0) := rfl
theorem ct_66_73 : am_CT 66 73 = some (.aload 0, 74, 0, 0, 0) := rfl
theorem ct_66_74 : am_CT 66 74 = some (.bipush 0, 75, 0, 0, 0) := rfl
theorem ct_66_75 : am_CT 66 75 = some (.putfield 56, 78, 9, 11, 0) := rfl
theorem ct_66_78 : am_CT 66 78 = some (.aload 0, 79, 0, 0, 0) := rfl
theorem ct_66_79 : am_CT 66 79 = some (.bipush 21, 81, 0, 0, 0) := rfl
theorem ct_66_81 : am_CT 66 81 = some (.newarray .int, 83, 20, 0, 0) := rfl
theorem ct_66_83 : am_CT 66 83 = some (.putfield 59, 86, 10, 11, 2) := rfl
theorem ct_66_86 : am_CT 66 86 = some (.aload 0, 87, 0, 0, 0) := rfl
theorem ct_66_87 : am_CT 66 87 = some (.bipush 6, 89, 0, 0, 0) := rfl
theorem ct_66_89 : am_CT 66 89 = some (.newarray .int, 91, 20, 0, 0) := rfl
theorem ct_66_91 : am_CT 66 91 = some (.dup, 92, 0, 0, 0) := rfl
theorem ct_66_92 : am_CT 66 92 = some (.bipush 0, 93, 0, 0, 0) := rfl
theorem ct_66_93 : am_CT 66 93 = some (.bipush (-1), 94, 0, 0, 0) := rfl
theorem ct_66_94 : am_CT 66 94 = some (.iastore, 95, 0, 0, 0) := rfl
theorem ct_66_95 : am_CT 66 95 = some (.dup, 96, 0, 0, 0) := rfl
theorem ct_66_96 : am_CT 66 96 = some (.bipush 1, 97, 0, 0, 0) := rfl
theorem ct_66_97 : am_CT 66 97 = some (.bipush (-1), 98, 0, 0, 0) := rfl
theorem ct_66_98 : am_CT 66 98 = some (.iastore, 99, 0, 0, 0) := rfl
theorem ct_66_99 : am_CT 66 99 = some (.dup, 100, 0, 0, 0) := rfl
theorem ct_66_100 : am_CT 66 100 = some (.bipush 2, 101, 0, 0, 0) := rfl
theorem ct_66_101 : am_CT 66 101 = some (.bipush (-1), 102, 0, 0, 0) := rfl
theorem ct_66_102 : am_CT 66 102 = some (.iastore, 103, 0, 0, 0) := rfl
theorem ct_66_103 : am_CT 66 103 = some (.dup, 104, 0, 0, 0) := rfl
theorem ct_66_104 : am_CT 66 104 = some (.bipush 3, 105, 0, 0, 0) := rfl
theorem ct_66_105 : am_CT 66 105 = some (.bipush (-1), 106, 0, 0, 0) := rfl
theorem ct_66_106 : am_CT 66 106 = some (.iastore, 107, 0, 0, 0) := rfl
theorem ct_66_107 : am_CT 66 107 = some (.dup, 108, 0, 0, 0) := rfl
theorem ct_66_108 : am_CT 66 108 = some (.bipush 4, 109, 0, 0, 0) := rfl
theorem ct_66_109 : am_CT 66 109 = some (.bipush (-1), 110, 0, 0, 0) := rfl
theorem ct_66_110 : am_CT 66 110 = some (.iastore, 111, 0, 0, 0) := rfl
theorem ct_66_111 : am_CT 66 111 = some (.dup, 112, 0, 0, 0) := rfl
theorem ct_66_112 : am_CT 66 112 = some (.bipush 5, 113, 0, 0, 0) := rfl
theorem ct_66_113 : am_CT 66 113 = some (.bipush (-1), 114, 0, 0, 0) := rfl
theorem ct_66_114 : am_CT 66 114 = some (.iastore, 115, 0, 0, 0) := rfl
theorem ct_66_115 : am_CT 66 115 = some (.putfield 62, 118, 11, 11, 2) := rfl
theorem ct_66_118 : am_CT 66 118 = some (.aload 0, 119, 0, 0, 0) := rfl
theorem ct_66_119 : am_CT 66 119 = some (.bipush 6, 121, 0, 0, 0) := rfl
theorem ct_66_121 : am_CT 66 121 = some (.newarray .int, 123, 20, 0, 0) := rfl
theorem ct_66_123 : am_CT 66 123 = some (.putfield 65, 126, 12, 11, 2) := rfl
theorem ct_66_126 : am_CT 66 126 = some (.aload 0, 127, 0, 0, 0) := rfl
theorem ct_66_127 : am_CT 66 127 = some (.bipush 6, 129, 0, 0, 0) := rfl
theorem ct_66_129 : am_CT 66 129 = some (.bipush 60, 131, 0, 0, 0) := rfl
theorem ct_66_131 : am_CT 66 131 = some (.multianewarray 68 2, 135, 27, 21, 0) := rfl
theorem ct_66_135 : am_CT 66 135 = some (.putfield 70, 138, 13, 11, 2) := rfl
theorem ct_66_138 : am_CT 66 138 = some (.return_, 139, 0, 0, 0) := rfl
theorem ct_67_0 : am_CT 67 0 = some (.iload 1, 1, 0, 0, 0) := rfl
theorem ct_67_1 : am_CT 67 1 = some (.ifCond .lt 9, 4, 10, 0, 0) := rfl
theorem ct_67_4 : am_CT 67 4 = some (.iload 1, 5, 0, 0, 0) := rfl
theorem ct_67_5 : am_CT 67 5 = some (.bipush 6, 7, 0, 0, 0) := rfl
theorem ct_67_7 : am_CT 67 7 = some (.if_icmp .le 5, 10, 12, 0, 0) := rfl
theorem ct_67_10 : am_CT 67 10 = some (.bipush (-1), 11, 0, 0, 0) := rfl
theorem ct_67_11 : am_CT 67 11 = some (.ireturn, 12, 0, 0, 0) := rfl
theorem ct_67_12 : am_CT 67 12 = some (.iload 2, 13, 0, 0, 0) := rfl
theorem ct_67_13 : am_CT 67 13 = some (.bipush 0, 14, 0, 0, 0) := rfl
theorem ct_67_14 : am_CT 67 14 = some (.bipush 9, 16, 0, 0, 0) := rfl
theorem ct_67_16 : am_CT 67 16 = some (.invokestatic 73, 19, 103, 3, 0) := rfl
theorem ct_67_19 : am_CT 67 19 = some (.ifCond .eq 24, 22, 43, 0, 0) := rfl
theorem ct_67_22 : am_CT 67 22 = some (.iload 3, 23, 0, 0, 0) := rfl
theorem ct_67_23 : am_CT 67 23 = some (.bipush 1, 24, 0, 0, 0) := rfl
theorem ct_67_24 : am_CT 67 24 = some (.bipush 9, 26, 0, 0, 0) := rfl
theorem ct_67_26 : am_CT 67 26 = some (.invokestatic 73, 29, 103, 3, 0) := rfl
theorem ct_67_29 : am_CT 67 29 = some (.ifCond .eq 14, 32, 43, 0, 0) := rfl
theorem ct_67_32 : am_CT 67 32 = some (.iload 4, 34, 0, 0, 0) := rfl
theorem ct_67_34 : am_CT 67 34 = some (.bipush 1, 35, 0, 0, 0) := rfl
theorem ct_67_35 : am_CT 67 35 = some (.bipush 60, 37, 0, 0, 0) := rfl
theorem ct_67_37 : am_CT 67 37 = some (.invokestatic 73, 40, 103, 3, 0) := rfl
theorem ct_67_40 : am_CT 67 40 = some (.ifCond .ne 6, 43, 46, 0, 0) := rfl
theorem ct_67_43 : am_CT 67 43 = some (.bipush (-2), 45, 0, 0, 0) := rfl
theorem ct_67_45 : am_CT 67 45 = some (.ireturn, 46, 0, 0, 0) := rfl
theorem ct_67_46 : am_CT 67 46 = some (.aload 0, 47, 0, 0, 0) := rfl
theorem ct_67_47 : am_CT 67 47 = some (.getfield 12, 50, 0, 11, 2) := rfl
theorem ct_67_50 : am_CT 67 50 = some (.getfield 77, 53, 1, 7, 0) := rfl
theorem ct_67_53 : am_CT 67 53 = some (.bipush 5, 54, 0, 0, 0) := rfl
theorem ct_67_54 : am_CT 67 54 = some (.if_icmp .lt 6, 57, 60, 0, 0) := rfl
theorem ct_67_57 : am_CT 67 57 = some (.bipush (-4), 59, 0, 0, 0) := rfl
theorem ct_67_59 : am_CT 67 59 = some (.ireturn, 60, 0, 0, 0) := rfl
theorem ct_67_60 : am_CT 67 60 = some (.aload 0, 61, 0, 0, 0) := rfl
theorem ct_67_61 : am_CT 67 61 = some (.getfield 12, 64, 0, 11, 2) := rfl
theorem ct_67_64 : am_CT 67 64 = some (.getfield 77, 67, 1, 7, 0) := rfl
theorem ct_67_67 : am_CT 67 67 = some (.istore 5, 69, 0, 0, 0) := rfl
theorem ct_67_69 : am_CT 67 69 = some (.aload 0, 70, 0, 0, 0) := rfl
theorem ct_67_70 : am_CT 67 70 = some (.getfield 12, 73, 0, 11, 2) := rfl
theorem ct_67_73 : am_CT 67 73 = some (.getfield 80, 76, 0, 7, 2) := rfl
theorem ct_67_76 : am_CT 67 76 = some (.iload 5, 78, 0, 0, 0) := rfl
theorem ct_67_78 : am_CT 67 78 = some (.iload 1, 79, 0, 0, 0) := rfl
theorem ct_67_79 : am_CT 67 79 = some (.iload 5, 81, 0, 0, 0) := rfl
theorem ct_67_81 : am_CT 67 81 = some (.iload 2, 82, 0, 0, 0) := rfl
theorem ct_67_82 : am_CT 67 82 = some (.iload 3, 83, 0, 0, 0) := rfl
theorem ct_67_83 : am_CT 67 83 = some (.iload 4, 85, 0, 0, 0) := rfl
theorem ct_67_85 : am_CT 67 85 = some (.invokestatic 84, 88, 105, 5, 0) := rfl
theorem ct_67_88 : am_CT 67 88 = some (.aastore, 89, 0, 0, 0) := rfl
theorem ct_67_89 : am_CT 67 89 = some (.aload 0, 90, 0, 0, 0) := rfl
theorem ct_67_90 : am_CT 67 90 = some (.getfield 12, 93, 0, 11, 2) := rfl
theorem ct_67_93 : am_CT 67 93 = some (.dup, 94, 0, 0, 0) := rfl
theorem ct_67_94 : am_CT 67 94 = some (.getfield 77, 97, 1, 7, 0) := rfl
theorem ct_67_97 : am_CT 67 97 = some (.bipush 1, 98, 0, 0, 0) := rfl
theorem ct_67_98 : am_CT 67 98 = some (.iadd, 99, 0, 0, 0) := rfl
theorem ct_67_99 : am_CT 67 99 = some (.putfield 77, 102, 1, 7, 0) := rfl
theorem ct_67_102 : am_CT 67 102 = some (.iload 5, 104, 0, 0, 0) := rfl
theorem ct_67_104 : am_CT 67 104 = some (.ireturn, 105, 0, 0, 0) := rfl
theorem ct_68_0 : am_CT 68 0 = some (.aload 0, 1, 0, 0, 0) := rfl
theorem ct_68_1 : am_CT 68 1 = some (.iload 1, 2, 0, 0, 0) := rfl
theorem ct_68_2 : am_CT 68 2 = some (.invokevirtual 88, 5, 204, 1, 11) := rfl
theorem ct_68_5 : am_CT 68 5 = some (.astore 3, 6, 0, 0, 0) := rfl
theorem ct_68_6 : am_CT 68 6 = some (.aload 3, 7, 0, 0, 0) := rfl
theorem ct_68_7 : am_CT 68 7 = some (.ifnonnull 5, 10, 12, 0, 0) := rfl
theorem ct_68_10 : am_CT 68 10 = some (.bipush (-1), 11, 0, 0, 0) := rfl
theorem ct_68_11 : am_CT 68 11 = some (.ireturn, 12, 0, 0, 0) := rfl
theorem ct_68_12 : am_CT 68 12 = some (.iload 2, 13, 0, 0, 0) := rfl
theorem ct_68_13 : am_CT 68 13 = some (.tableswitch 60 0 4 #[35, 40, 45, 50, 55], 48, 0, 0, 0) := rfl
theorem ct_68_48 : am_CT 68 48 = some (.aload 3, 49, 0, 0, 0) := rfl
theorem ct_68_49 : am_CT 68 49 = some (.getfield 92, 52, 0, 0, 0) := rfl
theorem ct_68_52 : am_CT 68 52 = some (.ireturn, 53, 0, 0, 0) := rfl
theorem ct_68_53 : am_CT 68 53 = some (.aload 3, 54, 0, 0, 0) := rfl
theorem ct_68_54 : am_CT 68 54 = some (.getfield 97, 57, 2, 0, 0) := rfl
theorem ct_68_57 : am_CT 68 57 = some (.ireturn, 58, 0, 0, 0) := rfl
theorem ct_68_58 : am_CT 68 58 = some (.aload 3, 59, 0, 0, 0) := rfl
theorem ct_68_59 : am_CT 68 59 = some (.getfield 100, 62, 3, 0, 0) := rfl
theorem ct_68_62 : am_CT 68 62 = some (.ireturn, 63, 0, 0, 0) := rfl
theorem ct_68_63 : am_CT 68 63 = some (.aload 3, 64, 0, 0, 0) := rfl
theorem ct_68_64 : am_CT 68 64 = some (.getfield 103, 67, 4, 0, 0) := rfl
theorem ct_68_67 : am_CT 68 67 = some (.ireturn, 68, 0, 0, 0) := rfl
theorem ct_68_68 : am_CT 68 68 = some (.aload 3, 69, 0, 0, 0) := rfl
theorem ct_68_69 : am_CT 68 69 = some (.getfield 106, 72, 5, 0, 0) := rfl
theorem ct_68_72 : am_CT 68 72 = some (.ireturn, 73, 0, 0, 0) := rfl
theorem ct_68_73 : am_CT 68 73 = some (.bipush (-1), 74, 0, 0, 0) := rfl
theorem ct_68_74 : am_CT 68 74 = some (.ireturn, 75, 0, 0, 0) := rfl
theorem ct_69_0 : am_CT 69 0 = some (.aload 0, 1, 0, 0, 0) := rfl
theorem ct_69_1 : am_CT 69 1 = some (.iload 1, 2, 0, 0, 0) := rfl
theorem ct_69_2 : am_CT 69 2 = some (.invokevirtual 88, 5, 204, 1, 11) := rfl
theorem ct_69_5 : am_CT 69 5 = some (.astore 4, 7, 0, 0, 0) := rfl
theorem ct_69_7 : am_CT 69 7 = some (.aload 4, 9, 0, 0, 0) := rfl
theorem ct_69_9 : am_CT 69 9 = some (.ifnull 12, 12, 21, 0, 0) := rfl
theorem ct_69_12 : am_CT 69 12 = some (.iload 2, 13, 0, 0, 0) := rfl
theorem ct_69_13 : am_CT 69 13 = some (.bipush 0, 14, 0, 0, 0) := rfl
theorem ct_69_14 : am_CT 69 14 = some (.bipush 1, 15, 0, 0, 0) := rfl
theorem ct_69_15 : am_CT 69 15 = some (.invokestatic 73, 18, 103, 3, 0) := rfl
theorem ct_69_18 : am_CT 69 18 = some (.ifCond .ne 5, 21, 23, 0, 0) := rfl
theorem ct_69_21 : am_CT 69 21 = some (.bipush (-1), 22, 0, 0, 0) := rfl
theorem ct_69_22 : am_CT 69 22 = some (.ireturn, 23, 0, 0, 0) := rfl
theorem ct_69_23 : am_CT 69 23 = some (.iload 3, 24, 0, 0, 0) := rfl
theorem ct_69_24 : am_CT 69 24 = some (.bipush 1, 25, 0, 0, 0) := rfl
theorem ct_69_25 : am_CT 69 25 = some (.iload 2, 26, 0, 0, 0) := rfl
theorem ct_69_26 : am_CT 69 26 = some (.ifCond .ne 8, 29, 34, 0, 0) := rfl
theorem ct_69_29 : am_CT 69 29 = some (.bipush 9, 31, 0, 0, 0) := rfl
theorem ct_69_31 : am_CT 69 31 = some (.goto 5, 34, 36, 0, 0) := rfl
theorem ct_69_34 : am_CT 69 34 = some (.bipush 60, 36, 0, 0, 0) := rfl
theorem ct_69_36 : am_CT 69 36 = some (.invokestatic 73, 39, 103, 3, 0) := rfl
theorem ct_69_39 : am_CT 69 39 = some (.ifCond .ne 6, 42, 45, 0, 0) := rfl
theorem ct_69_42 : am_CT 69 42 = some (.bipush (-2), 44, 0, 0, 0) := rfl
theorem ct_69_44 : am_CT 69 44 = some (.ireturn, 45, 0, 0, 0) := rfl
theorem ct_69_45 : am_CT 69 45 = some (.iload 2, 46, 0, 0, 0) := rfl
theorem ct_69_46 : am_CT 69 46 = some (.ifCond .ne 11, 49, 57, 0, 0) := rfl
theorem ct_69_49 : am_CT 69 49 = some (.aload 4, 51, 0, 0, 0) := rfl
theorem ct_69_51 : am_CT 69 51 = some (.getfield 100, 54, 3, 0, 0) := rfl
theorem ct_69_54 : am_CT 69 54 = some (.goto 8, 57, 62, 0, 0) := rfl
theorem ct_69_57 : am_CT 69 57 = some (.aload 4, 59, 0, 0, 0) := rfl
theorem ct_69_59 : am_CT 69 59 = some (.getfield 103, 62, 4, 0, 0) := rfl
theorem ct_69_62 : am_CT 69 62 = some (.istore 5, 64, 0, 0, 0) := rfl
theorem ct_69_64 : am_CT 69 64 = some (.iload 2, 65, 0, 0, 0) := rfl
theorem ct_69_65 : am_CT 69 65 = some (.ifCond .ne 12, 68, 77, 0, 0) := rfl
theorem ct_69_68 : am_CT 69 68 = some (.aload 4, 70, 0, 0, 0) := rfl
theorem ct_69_70 : am_CT 69 70 = some (.iload 3, 71, 0, 0, 0) := rfl
theorem ct_69_71 : am_CT 69 71 = some (.putfield 100, 74, 3, 0, 0) := rfl
theorem ct_69_74 : am_CT 69 74 = some (.goto 9, 77, 83, 0, 0) := rfl
theorem ct_69_77 : am_CT 69 77 = some (.aload 4, 79, 0, 0, 0) := rfl
theorem ct_69_79 : am_CT 69 79 = some (.iload 3, 80, 0, 0, 0) := rfl
theorem ct_69_80 : am_CT 69 80 = some (.putfield 103, 83, 4, 0, 0) := rfl
theorem ct_69_83 : am_CT 69 83 = some (.iload 5, 85, 0, 0, 0) := rfl
theorem ct_69_85 : am_CT 69 85 = some (.ireturn, 86, 0, 0, 0) := rfl
theorem ct_70_0 : am_CT 70 0 = some (.iload 1, 1, 0, 0, 0) := rfl
theorem ct_70_1 : am_CT 70 1 = some (.bipush 0, 2, 0, 0, 0) := rfl
theorem ct_70_2 : am_CT 70 2 = some (.bipush 3, 3, 0, 0, 0) := rfl
theorem ct_70_3 : am_CT 70 3 = some (.invokestatic 73, 6, 103, 3, 0) := rfl
theorem ct_70_6 : am_CT 70 6 = some (.ifCond .ne 5, 9, 11, 0, 0) := rfl
theorem ct_70_9 : am_CT 70 9 = some (.bipush (-1), 10, 0, 0, 0) := rfl
theorem ct_70_10 : am_CT 70 10 = some (.ireturn, 11, 0, 0, 0) := rfl
theorem ct_70_11 : am_CT 70 11 = some (.iload 2, 12, 0, 0, 0) := rfl
theorem ct_70_12 : am_CT 70 12 = some (.bipush 0, 13, 0, 0, 0) := rfl
theorem ct_70_13 : am_CT 70 13 = some (.iload 1, 14, 0, 0, 0) := rfl
theorem ct_70_14 : am_CT 70 14 = some (.bipush 3, 15, 0, 0, 0) := rfl
theorem ct_70_15 : am_CT 70 15 = some (.if_icmp .ne 8, 18, 23, 0, 0) := rfl
theorem ct_70_18 : am_CT 70 18 = some (.bipush 99, 20, 0, 0, 0) := rfl
theorem ct_70_20 : am_CT 70 20 = some (.goto 5, 23, 25, 0, 0) := rfl
theorem ct_70_23 : am_CT 70 23 = some (.bipush 9, 25, 0, 0, 0) := rfl
theorem ct_70_25 : am_CT 70 25 = some (.invokestatic 73, 28, 103, 3, 0) := rfl
theorem ct_70_28 : am_CT 70 28 = some (.ifCond .ne 6, 31, 34, 0, 0) := rfl
theorem ct_70_31 : am_CT 70 31 = some (.bipush (-2), 33, 0, 0, 0) := rfl
theorem ct_70_33 : am_CT 70 33 = some (.ireturn, 34, 0, 0, 0) := rfl
theorem ct_70_34 : am_CT 70 34 = some (.aload 0, 35, 0, 0, 0) := rfl
theorem ct_70_35 : am_CT 70 35 = some (.getfield 12, 38, 0, 11, 2) := rfl
theorem ct_70_38 : am_CT 70 38 = some (.getfield 109, 41, 2, 7, 2) := rfl
theorem ct_70_41 : am_CT 70 41 = some (.iload 1, 42, 0, 0, 0) := rfl
theorem ct_70_42 : am_CT 70 42 = some (.iaload, 43, 0, 0, 0) := rfl
theorem ct_70_43 : am_CT 70 43 = some (.istore 3, 44, 0, 0, 0) := rfl
theorem ct_70_44 : am_CT 70 44 = some (.aload 0, 45, 0, 0, 0) := rfl
theorem ct_70_45 : am_CT 70 45 = some (.getfield 12, 48, 0, 11, 2) := rfl
theorem ct_70_48 : am_CT 70 48 = some (.getfield 109, 51, 2, 7, 2) := rfl
theorem ct_70_51 : am_CT 70 51 = some (.iload 1, 52, 0, 0, 0) := rfl
theorem ct_70_52 : am_CT 70 52 = some (.iload 2, 53, 0, 0, 0) := rfl
theorem ct_70_53 : am_CT 70 53 = some (.iastore, 54, 0, 0, 0) := rfl
theorem ct_70_54 : am_CT 70 54 = some (.iload 3, 55, 0, 0, 0) := rfl
theorem ct_70_55 : am_CT 70 55 = some (.ireturn, 56, 0, 0, 0) := rfl
theorem ct_71_0 : am_CT 71 0 = some (.aload 0, 1, 0, 0, 0) := rfl
theorem ct_71_1 : am_CT 71 1 = some (.iload 1, 2, 0, 0, 0) := rfl
theorem ct_71_2 : am_CT 71 2 = some (.invokevirtual 88, 5, 204, 1, 11) := rfl
theorem ct_71_5 : am_CT 71 5 = some (.astore 4, 7, 0, 0, 0) := rfl
theorem ct_71_7 : am_CT 71 7 = some (.aload 4, 9, 0, 0, 0) := rfl
theorem ct_71_9 : am_CT 71 9 = some (.ifnull 12, 12, 21, 0, 0) := rfl
theorem ct_71_12 : am_CT 71 12 = some (.iload 2, 13, 0, 0, 0) := rfl
theorem ct_71_13 : am_CT 71 13 = some (.bipush 0, 14, 0, 0, 0) := rfl
theorem ct_71_14 : am_CT 71 14 = some (.bipush 3, 15, 0, 0, 0) := rfl
theorem ct_71_15 : am_CT 71 15 = some (.invokestatic 73, 18, 103, 3, 0) := rfl
theorem ct_71_18 : am_CT 71 18 = some (.ifCond .ne 5, 21, 23, 0, 0) := rfl
theorem ct_71_21 : am_CT 71 21 = some (.bipush (-1), 22, 0, 0, 0) := rfl
theorem ct_71_22 : am_CT 71 22 = some (.ireturn, 23, 0, 0, 0) := rfl
theorem ct_71_23 : am_CT 71 23 = some (.iload 3, 24, 0, 0, 0) := rfl
theorem ct_71_24 : am_CT 71 24 = some (.bipush 0, 25, 0, 0, 0) := rfl
theorem ct_71_25 : am_CT 71 25 = some (.bipush 9, 27, 0, 0, 0) := rfl
theorem ct_71_27 : am_CT 71 27 = some (.invokestatic 73, 30, 103, 3, 0) := rfl
theorem ct_71_30 : am_CT 71 30 = some (.ifCond .ne 6, 33, 36, 0, 0) := rfl
theorem ct_71_33 : am_CT 71 33 = some (.bipush (-2), 35, 0, 0, 0) := rfl
theorem ct_71_35 : am_CT 71 35 = some (.ireturn, 36, 0, 0, 0) := rfl
theorem ct_71_36 : am_CT 71 36 = some (.aload 4, 38, 0, 0, 0) := rfl
theorem ct_71_38 : am_CT 71 38 = some (.instanceof 112, 41, 9, 0, 0) := rfl
theorem ct_71_41 : am_CT 71 41 = some (.ifCond .ne 6, 44, 47, 0, 0) := rfl
theorem ct_71_44 : am_CT 71 44 = some (.bipush (-3), 46, 0, 0, 0) := rfl
theorem ct_71_46 : am_CT 71 46 = some (.ireturn, 47, 0, 0, 0) := rfl
theorem ct_71_47 : am_CT 71 47 = some (.aload 4, 49, 0, 0, 0) := rfl
theorem ct_71_49 : am_CT 71 49 = some (.checkcast 112, 52, 9, 0, 0) := rfl
theorem ct_71_52 : am_CT 71 52 = some (.getfield 114, 55, 6, 9, 2) := rfl
theorem ct_71_55 : am_CT 71 55 = some (.astore 5, 57, 0, 0, 0) := rfl
theorem ct_71_57 : am_CT 71 57 = some (.aload 5, 59, 0, 0, 0) := rfl
theorem ct_71_59 : am_CT 71 59 = some (.iload 2, 60, 0, 0, 0) := rfl
theorem ct_71_60 : am_CT 71 60 = some (.iaload, 61, 0, 0, 0) := rfl
theorem ct_71_61 : am_CT 71 61 = some (.istore 6, 63, 0, 0, 0) := rfl
theorem ct_71_63 : am_CT 71 63 = some (.aload 5, 65, 0, 0, 0) := rfl
theorem ct_71_65 : am_CT 71 65 = some (.iload 2, 66, 0, 0, 0) := rfl
theorem ct_71_66 : am_CT 71 66 = some (.iload 3, 67, 0, 0, 0) := rfl
theorem ct_71_67 : am_CT 71 67 = some (.iastore, 68, 0, 0, 0) := rfl
theorem ct_71_68 : am_CT 71 68 = some (.iload 6, 70, 0, 0, 0) := rfl
theorem ct_71_70 : am_CT 71 70 = some (.ireturn, 71, 0, 0, 0) := rfl
theorem ct_72_0 : am_CT 72 0 = some (.iload 1, 1, 0, 0, 0) := rfl
theorem ct_72_1 : am_CT 72 1 = some (.bipush 0, 2, 0, 0, 0) := rfl
theorem ct_72_2 : am_CT 72 2 = some (.bipush 127, 4, 0, 0, 0) := rfl
theorem ct_72_4 : am_CT 72 4 = some (.invokestatic 73, 7, 103, 3, 0) := rfl
theorem ct_72_7 : am_CT 72 7 = some (.ifCond .ne 6, 10, 13, 0, 0) := rfl
theorem ct_72_10 : am_CT 72 10 = some (.bipush (-2), 12, 0, 0, 0) := rfl
theorem ct_72_12 : am_CT 72 12 = some (.ireturn, 13, 0, 0, 0) := rfl
theorem ct_72_13 : am_CT 72 13 = some (.aload 0, 14, 0, 0, 0) := rfl
theorem ct_72_14 : am_CT 72 14 = some (.getfield 31, 17, 3, 11, 2) := rfl
theorem ct_72_17 : am_CT 72 17 = some (.invokevirtual 117, 20, 143, 0, 8) := rfl
theorem ct_72_20 : am_CT 72 20 = some (.ifCond .eq 6, 23, 26, 0, 0) := rfl
theorem ct_72_23 : am_CT 72 23 = some (.bipush (-4), 25, 0, 0, 0) := rfl
theorem ct_72_25 : am_CT 72 25 = some (.ireturn, 26, 0, 0, 0) := rfl
theorem ct_72_26 : am_CT 72 26 = some (.aload 0, 27, 0, 0, 0) := rfl
theorem ct_72_27 : am_CT 72 27 = some (.getfield 31, 30, 3, 11, 2) := rfl
theorem ct_72_30 : am_CT 72 30 = some (.iload 1, 31, 0, 0, 0) := rfl
theorem ct_72_31 : am_CT 72 31 = some (.invokevirtual 121, 34, 144, 1, 8) := rfl
theorem ct_72_34 : am_CT 72 34 = some (.aload 0, 35, 0, 0, 0) := rfl
theorem ct_72_35 : am_CT 72 35 = some (.getfield 31, 38, 3, 11, 2) := rfl
theorem ct_72_38 : am_CT 72 38 = some (.getfield 125, 41, 1, 8, 0) := rfl
theorem ct_72_41 : am_CT 72 41 = some (.ireturn, 42, 0, 0, 0) := rfl
theorem ct_73_0 : am_CT 73 0 = some (.aload 0, 1, 0, 0, 0) := rfl
theorem ct_73_1 : am_CT 73 1 = some (.getfield 41, 4, 5, 11, 0) := rfl
theorem ct_73_4 : am_CT 73 4 = some (.bipush 6, 6, 0, 0, 0) := rfl
theorem ct_73_6 : am_CT 73 6 = some (.if_icmp .lt 6, 9, 12, 0, 0) := rfl
theorem ct_73_9 : am_CT 73 9 = some (.bipush (-4), 11, 0, 0, 0) := rfl
theorem ct_73_11 : am_CT 73 11 = some (.ireturn, 12, 0, 0, 0) := rfl
theorem ct_73_12 : am_CT 73 12 = some (.aload 0, 13, 0, 0, 0) := rfl
theorem ct_73_13 : am_CT 73 13 = some (.getfield 45, 16, 6, 11, 2) := rfl
theorem ct_73_16 : am_CT 73 16 = some (.ifnonnull 14, 19, 30, 0, 0) := rfl
theorem ct_73_19 : am_CT 73 19 = some (.aload 0, 20, 0, 0, 0) := rfl
theorem ct_73_20 : am_CT 73 20 = some (.new 35, 23, 6, 0, 0) := rfl
theorem ct_73_23 : am_CT 73 23 = some (.dup, 24, 0, 0, 0) := rfl
theorem ct_73_24 : am_CT 73 24 = some (.invokespecial 128, 27, 30, 0, 0) := rfl
theorem ct_73_27 : am_CT 73 27 = some (.putfield 45, 30, 6, 11, 2) := rfl
theorem ct_73_30 : am_CT 73 30 = some (.aload 0, 31, 0, 0, 0) := rfl
theorem ct_73_31 : am_CT 73 31 = some (.getfield 31, 34, 3, 11, 2) := rfl
theorem ct_73_34 : am_CT 73 34 = some (.aload 0, 35, 0, 0, 0) := rfl
theorem ct_73_35 : am_CT 73 35 = some (.getfield 45, 38, 6, 11, 2) := rfl
theorem ct_73_38 : am_CT 73 38 = some (.invokevirtual 129, 41, 145, 1, 8) := rfl
theorem ct_73_41 : am_CT 73 41 = some (.istore 1, 42, 0, 0, 0) := rfl
theorem ct_73_42 : am_CT 73 42 = some (.aload 0, 43, 0, 0, 0) := rfl
theorem ct_73_43 : am_CT 73 43 = some (.getfield 31, 46, 3, 11, 2) := rfl
theorem ct_73_46 : am_CT 73 46 = some (.bipush 0, 47, 0, 0, 0) := rfl
theorem ct_73_47 : am_CT 73 47 = some (.putfield 125, 50, 1, 8, 0) := rfl
theorem ct_73_50 : am_CT 73 50 = some (.iload 1, 51, 0, 0, 0) := rfl
theorem ct_73_51 : am_CT 73 51 = some (.ifCond .ne 14, 54, 65, 0, 0) := rfl
theorem ct_73_54 : am_CT 73 54 = some (.bipush (-10), 56, 0, 0, 0) := rfl
theorem ct_73_56 : am_CT 73 56 = some (.aload 0, 57, 0, 0, 0) := rfl
theorem ct_73_57 : am_CT 73 57 = some (.getfield 31, 60, 3, 11, 2) := rfl
theorem ct_73_60 : am_CT 73 60 = some (.getfield 133, 63, 2, 8, 0) := rfl
theorem ct_73_63 : am_CT 73 63 = some (.isub, 64, 0, 0, 0) := rfl
theorem ct_73_64 : am_CT 73 64 = some (.ireturn, 65, 0, 0, 0) := rfl
theorem ct_73_65 : am_CT 73 65 = some (.aload 0, 66, 0, 0, 0) := rfl
theorem ct_73_66 : am_CT 73 66 = some (.getfield 37, 69, 4, 11, 2) := rfl
theorem ct_73_69 : am_CT 73 69 = some (.aload 0, 70, 0, 0, 0) := rfl
theorem ct_73_70 : am_CT 73 70 = some (.getfield 41, 73, 5, 11, 0) := rfl
theorem ct_73_73 : am_CT 73 73 = some (.aload 0, 74, 0, 0, 0) := rfl
theorem ct_73_74 : am_CT 73 74 = some (.getfield 45, 77, 6, 11, 2) := rfl
theorem ct_73_77 : am_CT 73 77 = some (.aastore, 78, 0, 0, 0) := rfl
theorem ct_73_78 : am_CT 73 78 = some (.aload 0, 79, 0, 0, 0) := rfl
theorem ct_73_79 : am_CT 73 79 = some (.aconst_null, 80, 0, 0, 0) := rfl
theorem ct_73_80 : am_CT 73 80 = some (.putfield 45, 83, 6, 11, 2) := rfl
theorem ct_73_83 : am_CT 73 83 = some (.aload 0, 84, 0, 0, 0) := rfl
theorem ct_73_84 : am_CT 73 84 = some (.getfield 12, 87, 0, 11, 2) := rfl
theorem ct_73_87 : am_CT 73 87 = some (.aload 0, 88, 0, 0, 0) := rfl
theorem ct_73_88 : am_CT 73 88 = some (.getfield 41, 91, 5, 11, 0) := rfl
theorem ct_73_91 : am_CT 73 91 = some (.putfield 136, 94, 4, 7, 0) := rfl
theorem ct_73_94 : am_CT 73 94 = some (.aload 0, 95, 0, 0, 0) := rfl
theorem ct_73_95 : am_CT 73 95 = some (.dup, 96, 0, 0, 0) := rfl
theorem ct_73_96 : am_CT 73 96 = some (.getfield 41, 99, 5, 11, 0) := rfl
theorem ct_73_99 : am_CT 73 99 = some (.bipush 1, 100, 0, 0, 0) := rfl
theorem ct_73_100 : am_CT 73 100 = some (.iadd, 101, 0, 0, 0) := rfl
theorem ct_73_101 : am_CT 73 101 = some (.putfield 41, 104, 5, 11, 0) := rfl
theorem ct_73_104 : am_CT 73 104 = some (.aload 0, 105, 0, 0, 0) := rfl
theorem ct_73_105 : am_CT 73 105 = some (.getfield 12, 108, 0, 11, 2) := rfl
theorem ct_73_108 : am_CT 73 108 = some (.getfield 136, 111, 4, 7, 0) := rfl
theorem ct_73_111 : am_CT 73 111 = some (.ireturn, 112, 0, 0, 0) := rfl
theorem ct_74_0 : am_CT 74 0 = some (.iload 1, 1, 0, 0, 0) := rfl
theorem ct_74_1 : am_CT 74 1 = some (.bipush 0, 2, 0, 0, 0) := rfl
theorem ct_74_2 : am_CT 74 2 = some (.bipush 3, 3, 0, 0, 0) := rfl
theorem ct_74_3 : am_CT 74 3 = some (.invokestatic 73, 6, 103, 3, 0) := rfl
theorem ct_74_6 : am_CT 74 6 = some (.ifCond .eq 13, 9, 19, 0, 0) := rfl
theorem ct_74_9 : am_CT 74 9 = some (.aload 0, 10, 0, 0, 0) := rfl
theorem ct_74_10 : am_CT 74 10 = some (.getfield 12, 13, 0, 11, 2) := rfl
theorem ct_74_13 : am_CT 74 13 = some (.getfield 109, 16, 2, 7, 2) := rfl
theorem ct_74_16 : am_CT 74 16 = some (.iload 1, 17, 0, 0, 0) := rfl
theorem ct_74_17 : am_CT 74 17 = some (.iaload, 18, 0, 0, 0) := rfl
theorem ct_74_18 : am_CT 74 18 = some (.ireturn, 19, 0, 0, 0) := rfl
theorem ct_74_19 : am_CT 74 19 = some (.iload 1, 20, 0, 0, 0) := rfl
theorem ct_74_20 : am_CT 74 20 = some (.bipush 4, 21, 0, 0, 0) := rfl
theorem ct_74_21 : am_CT 74 21 = some (.if_icmp .ne 11, 24, 32, 0, 0) := rfl
theorem ct_74_24 : am_CT 74 24 = some (.aload 0, 25, 0, 0, 0) := rfl
theorem ct_74_25 : am_CT 74 25 = some (.getfield 12, 28, 0, 11, 2) := rfl
theorem ct_74_28 : am_CT 74 28 = some (.invokevirtual 139, 31, 137, 0, 7) := rfl
theorem ct_74_31 : am_CT 74 31 = some (.ireturn, 32, 0, 0, 0) := rfl
theorem ct_74_32 : am_CT 74 32 = some (.iload 1, 33, 0, 0, 0) := rfl
theorem ct_74_33 : am_CT 74 33 = some (.bipush 5, 34, 0, 0, 0) := rfl
theorem ct_74_34 : am_CT 74 34 = some (.if_icmp .ne 13, 37, 47, 0, 0) := rfl
theorem ct_74_37 : am_CT 74 37 = some (.aload 0, 38, 0, 0, 0) := rfl
theorem ct_74_38 : am_CT 74 38 = some (.getfield 12, 41, 0, 11, 2) := rfl
theorem ct_74_41 : am_CT 74 41 = some (.getfield 143, 44, 3, 7, 0) := rfl
theorem ct_74_44 : am_CT 74 44 = some (.goto 4, 47, 48, 0, 0) := rfl
theorem ct_74_47 : am_CT 74 47 = some (.bipush (-1), 48, 0, 0, 0) := rfl
theorem ct_74_48 : am_CT 74 48 = some (.ireturn, 49, 0, 0, 0) := rfl
theorem ct_75_0 : am_CT 75 0 = some (.iload 1, 1, 0, 0, 0) := rfl
theorem ct_75_1 : am_CT 75 1 = some (.bipush 0, 2, 0, 0, 0) := rfl
theorem ct_75_2 : am_CT 75 2 = some (.bipush 60, 4, 0, 0, 0) := rfl
theorem ct_75_4 : am_CT 75 4 = some (.invokestatic 73, 7, 103, 3, 0) := rfl
theorem ct_75_7 : am_CT 75 7 = some (.ifCond .ne 6, 10, 13, 0, 0) := rfl
theorem ct_75_10 : am_CT 75 10 = some (.bipush (-2), 12, 0, 0, 0) := rfl
theorem ct_75_12 : am_CT 75 12 = some (.ireturn, 13, 0, 0, 0) := rfl
theorem ct_75_13 : am_CT 75 13 = some (.aload 0, 14, 0, 0, 0) := rfl
theorem ct_75_14 : am_CT 75 14 = some (.getfield 12, 17, 0, 11, 2) := rfl
theorem ct_75_17 : am_CT 75 17 = some (.getfield 143, 20, 3, 7, 0) := rfl
theorem ct_75_20 : am_CT 75 20 = some (.iload 1, 21, 0, 0, 0) := rfl
theorem ct_75_21 : am_CT 75 21 = some (.iadd, 22, 0, 0, 0) := rfl
theorem ct_75_22 : am_CT 75 22 = some (.bipush 9999, 25, 0, 0, 0) := rfl
theorem ct_75_25 : am_CT 75 25 = some (.if_icmp .le 6, 28, 31, 0, 0) := rfl
theorem ct_75_28 : am_CT 75 28 = some (.bipush (-3), 30, 0, 0, 0) := rfl
theorem ct_75_30 : am_CT 75 30 = some (.ireturn, 31, 0, 0, 0) := rfl
theorem ct_75_31 : am_CT 75 31 = some (.aload 0, 32, 0, 0, 0) := rfl
theorem ct_75_32 : am_CT 75 32 = some (.getfield 12, 35, 0, 11, 2) := rfl
theorem ct_75_35 : am_CT 75 35 = some (.dup, 36, 0, 0, 0) := rfl
theorem ct_75_36 : am_CT 75 36 = some (.getfield 143, 39, 3, 7, 0) := rfl
theorem ct_75_39 : am_CT 75 39 = some (.iload 1, 40, 0, 0, 0) := rfl
theorem ct_75_40 : am_CT 75 40 = some (.iadd, 41, 0, 0, 0) := rfl
theorem ct_75_41 : am_CT 75 41 = some (.putfield 143, 44, 3, 7, 0) := rfl
theorem ct_75_44 : am_CT 75 44 = some (.aload 0, 45, 0, 0, 0) := rfl
theorem ct_75_45 : am_CT 75 45 = some (.getfield 12, 48, 0, 11, 2) := rfl
theorem ct_75_48 : am_CT 75 48 = some (.getfield 143, 51, 3, 7, 0) := rfl
theorem ct_75_51 : am_CT 75 51 = some (.ireturn, 52, 0, 0, 0) := rfl
theorem ct_76_0 : am_CT 76 0 = some (.aload 0, 1, 0, 0, 0) := rfl
theorem ct_76_1 : am_CT 76 1 = some (.iload 1, 2, 0, 0, 0) := rfl
theorem ct_76_2 : am_CT 76 2 = some (.invokevirtual 88, 5, 204, 1, 11) := rfl
theorem ct_76_5 : am_CT 76 5 = some (.astore 2, 6, 0, 0, 0) := rfl
theorem ct_76_6 : am_CT 76 6 = some (.aload 2, 7, 0, 0, 0) := rfl
theorem ct_76_7 : am_CT 76 7 = some (.ifnonnull 5, 10, 12, 0, 0) := rfl
theorem ct_76_10 : am_CT 76 10 = some (.bipush (-1), 11, 0, 0, 0) := rfl
theorem ct_76_11 : am_CT 76 11 = some (.ireturn, 12, 0, 0, 0) := rfl
theorem ct_76_12 : am_CT 76 12 = some (.aload 0, 13, 0, 0, 0) := rfl
theorem ct_76_13 : am_CT 76 13 = some (.getfield 12, 16, 0, 11, 2) := rfl
theorem ct_76_16 : am_CT 76 16 = some (.getfield 109, 19, 2, 7, 2) := rfl
theorem ct_76_19 : am_CT 76 19 = some (.bipush 3, 20, 0, 0, 0) := rfl
theorem ct_76_20 : am_CT 76 20 = some (.iaload, 21, 0, 0, 0) := rfl
theorem ct_76_21 : am_CT 76 21 = some (.bipush 1, 22, 0, 0, 0) := rfl
theorem ct_76_22 : am_CT 76 22 = some (.if_icmp .lt 16, 25, 38, 0, 0) := rfl
theorem ct_76_25 : am_CT 76 25 = some (.aload 0, 26, 0, 0, 0) := rfl
theorem ct_76_26 : am_CT 76 26 = some (.getfield 12, 29, 0, 11, 2) := rfl
theorem ct_76_29 : am_CT 76 29 = some (.getfield 143, 32, 3, 7, 0) := rfl
theorem ct_76_32 : am_CT 76 32 = some (.bipush 9900, 35, 0, 0, 0) := rfl
theorem ct_76_35 : am_CT 76 35 = some (.if_icmp .le 6, 38, 41, 0, 0) := rfl
theorem ct_76_38 : am_CT 76 38 = some (.bipush (-3), 40, 0, 0, 0) := rfl
theorem ct_76_40 : am_CT 76 40 = some (.ireturn, 41, 0, 0, 0) := rfl
theorem ct_76_41 : am_CT 76 41 = some (.aload 0, 42, 0, 0, 0) := rfl
theorem ct_76_42 : am_CT 76 42 = some (.aload 2, 43, 0, 0, 0) := rfl
theorem ct_76_43 : am_CT 76 43 = some (.invokevirtual 146, 46, 207, 1, 11) := rfl
theorem ct_76_46 : am_CT 76 46 = some (.aload 0, 47, 0, 0, 0) := rfl
theorem ct_76_47 : am_CT 76 47 = some (.getfield 24, 50, 2, 11, 2) := rfl
theorem ct_76_50 : am_CT 76 50 = some (.aload 2, 51, 0, 0, 0) := rfl
theorem ct_76_51 : am_CT 76 51 = some (.invokevirtual 150, 54, 117, 1, 3) := rfl
theorem ct_76_54 : am_CT 76 54 = some (.aload 0, 55, 0, 0, 0) := rfl
theorem ct_76_55 : am_CT 76 55 = some (.getfield 12, 58, 0, 11, 2) := rfl
theorem ct_76_58 : am_CT 76 58 = some (.getfield 109, 61, 2, 7, 2) := rfl
theorem ct_76_61 : am_CT 76 61 = some (.bipush 3, 62, 0, 0, 0) := rfl
theorem ct_76_62 : am_CT 76 62 = some (.dup2, 63, 0, 0, 0) := rfl
theorem ct_76_63 : am_CT 76 63 = some (.iaload, 64, 0, 0, 0) := rfl
theorem ct_76_64 : am_CT 76 64 = some (.bipush 1, 65, 0, 0, 0) := rfl
theorem ct_76_65 : am_CT 76 65 = some (.isub, 66, 0, 0, 0) := rfl
theorem ct_76_66 : am_CT 76 66 = some (.iastore, 67, 0, 0, 0) := rfl
theorem ct_76_67 : am_CT 76 67 = some (.aload 0, 68, 0, 0, 0) := rfl
theorem ct_76_68 : am_CT 76 68 = some (.getfield 12, 71, 0, 11, 2) := rfl
theorem ct_76_71 : am_CT 76 71 = some (.aload 0, 72, 0, 0, 0) := rfl
theorem ct_76_72 : am_CT 76 72 = some (.getfield 24, 75, 2, 11, 2) := rfl
theorem ct_76_75 : am_CT 76 75 = some (.getfield 153, 78, 4, 3, 0) := rfl
theorem ct_76_78 : am_CT 76 78 = some (.putfield 143, 81, 3, 7, 0) := rfl
theorem ct_76_81 : am_CT 76 81 = some (.aload 2, 82, 0, 0, 0) := rfl
theorem ct_76_82 : am_CT 76 82 = some (.aload 2, 83, 0, 0, 0) := rfl
theorem ct_76_83 : am_CT 76 83 = some (.getfield 106, 86, 5, 0, 0) := rfl
theorem ct_76_86 : am_CT 76 86 = some (.aload 0, 87, 0, 0, 0) := rfl
theorem ct_76_87 : am_CT 76 87 = some (.getfield 24, 90, 2, 11, 2) := rfl
theorem ct_76_90 : am_CT 76 90 = some (.getfield 154, 93, 12, 3, 0) := rfl
theorem ct_76_93 : am_CT 76 93 = some (.iadd, 94, 0, 0, 0) := rfl
theorem ct_76_94 : am_CT 76 94 = some (.bipush 999999, 96, 157, 1, 0) := rfl
theorem ct_76_96 : am_CT 76 96 = some (.invokestatic 158, 99, 202, 2, 0) := rfl
theorem ct_76_99 : am_CT 76 99 = some (.putfield 106, 102, 5, 0, 0) := rfl
theorem ct_76_102 : am_CT 76 102 = some (.aload 0, 103, 0, 0, 0) := rfl
theorem ct_76_103 : am_CT 76 103 = some (.getfield 24, 106, 2, 11, 2) := rfl
theorem ct_76_106 : am_CT 76 106 = some (.getfield 164, 109, 7, 3, 0) := rfl
theorem ct_76_109 : am_CT 76 109 = some (.ireturn, 110, 0, 0, 0) := rfl
theorem ct_77_0 : am_CT 77 0 = some (.aload 0, 1, 0, 0, 0) := rfl
theorem ct_77_1 : am_CT 77 1 = some (.iload 1, 2, 0, 0, 0) := rfl
theorem ct_77_2 : am_CT 77 2 = some (.invokevirtual 88, 5, 204, 1, 11) := rfl
theorem ct_77_5 : am_CT 77 5 = some (.astore 3, 6, 0, 0, 0) := rfl
theorem ct_77_6 : am_CT 77 6 = some (.aload 3, 7, 0, 0, 0) := rfl
theorem ct_77_7 : am_CT 77 7 = some (.ifnull 12, 10, 19, 0, 0) := rfl
theorem ct_77_10 : am_CT 77 10 = some (.iload 2, 11, 0, 0, 0) := rfl
theorem ct_77_11 : am_CT 77 11 = some (.bipush 0, 12, 0, 0, 0) := rfl
theorem ct_77_12 : am_CT 77 12 = some (.bipush 4, 13, 0, 0, 0) := rfl
theorem ct_77_13 : am_CT 77 13 = some (.invokestatic 73, 16, 103, 3, 0) := rfl
theorem ct_77_16 : am_CT 77 16 = some (.ifCond .ne 5, 19, 21, 0, 0) := rfl
theorem ct_77_19 : am_CT 77 19 = some (.bipush (-1), 20, 0, 0, 0) := rfl
theorem ct_77_20 : am_CT 77 20 = some (.ireturn, 21, 0, 0, 0) := rfl
theorem ct_77_21 : am_CT 77 21 = some (.aload 0, 22, 0, 0, 0) := rfl
theorem ct_77_22 : am_CT 77 22 = some (.aload 3, 23, 0, 0, 0) := rfl
theorem ct_77_23 : am_CT 77 23 = some (.invokevirtual 146, 26, 207, 1, 11) := rfl
theorem ct_77_26 : am_CT 77 26 = some (.aload 0, 27, 0, 0, 0) := rfl
theorem ct_77_27 : am_CT 77 27 = some (.getfield 24, 30, 2, 11, 2) := rfl
theorem ct_77_30 : am_CT 77 30 = some (.aload 3, 31, 0, 0, 0) := rfl
theorem ct_77_31 : am_CT 77 31 = some (.invokevirtual 150, 34, 117, 1, 3) := rfl
theorem ct_77_34 : am_CT 77 34 = some (.iload 2, 35, 0, 0, 0) := rfl
theorem ct_77_35 : am_CT 77 35 = some (.tableswitch 69 0 3 #[29, 37, 45, 61], 64, 0, 0, 0) := rfl
theorem ct_77_64 : am_CT 77 64 = some (.aload 0, 65, 0, 0, 0) := rfl
theorem ct_77_65 : am_CT 77 65 = some (.getfield 24, 68, 2, 11, 2) := rfl
theorem ct_77_68 : am_CT 77 68 = some (.getfield 164, 71, 7, 3, 0) := rfl
theorem ct_77_71 : am_CT 77 71 = some (.ireturn, 72, 0, 0, 0) := rfl
theorem ct_77_72 : am_CT 77 72 = some (.aload 0, 73, 0, 0, 0) := rfl
theorem ct_77_73 : am_CT 77 73 = some (.getfield 24, 76, 2, 11, 2) := rfl
theorem ct_77_76 : am_CT 77 76 = some (.getfield 167, 79, 11, 3, 0) := rfl
theorem ct_77_79 : am_CT 77 79 = some (.ireturn, 80, 0, 0, 0) := rfl
theorem ct_77_80 : am_CT 77 80 = some (.aload 0, 81, 0, 0, 0) := rfl
theorem ct_77_81 : am_CT 77 81 = some (.getfield 24, 84, 2, 11, 2) := rfl
theorem ct_77_84 : am_CT 77 84 = some (.getfield 170, 87, 13, 3, 1) := rfl
theorem ct_77_87 : am_CT 77 87 = some (.ifCond .eq 7, 90, 94, 0, 0) := rfl
theorem ct_77_90 : am_CT 77 90 = some (.bipush 1, 91, 0, 0, 0) := rfl
theorem ct_77_91 : am_CT 77 91 = some (.goto 4, 94, 95, 0, 0) := rfl
theorem ct_77_94 : am_CT 77 94 = some (.bipush 0, 95, 0, 0, 0) := rfl
theorem ct_77_95 : am_CT 77 95 = some (.ireturn, 96, 0, 0, 0) := rfl
theorem ct_77_96 : am_CT 77 96 = some (.aload 0, 97, 0, 0, 0) := rfl
theorem ct_77_97 : am_CT 77 97 = some (.getfield 24, 100, 2, 11, 2) := rfl
theorem ct_77_100 : am_CT 77 100 = some (.getfield 154, 103, 12, 3, 0) := rfl
theorem ct_77_103 : am_CT 77 103 = some (.ireturn, 104, 0, 0, 0) := rfl
theorem ct_77_104 : am_CT 77 104 = some (.aload 0, 105, 0, 0, 0) := rfl
theorem ct_77_105 : am_CT 77 105 = some (.getfield 24, 108, 2, 11, 2) := rfl
theorem ct_77_108 : am_CT 77 108 = some (.getfield 174, 111, 10, 3, 0) := rfl
theorem ct_77_111 : am_CT 77 111 = some (.ireturn, 112, 0, 0, 0) := rfl
theorem ct_78_0 : am_CT 78 0 = some (.aload 0, 1, 0, 0, 0) := rfl
theorem ct_78_1 : am_CT 78 1 = some (.bipush 0, 2, 0, 0, 0) := rfl
theorem ct_78_2 : am_CT 78 2 = some (.bipush 1, 3, 0, 0, 0) := rfl
theorem ct_78_3 : am_CT 78 3 = some (.bipush 60, 5, 0, 0, 0) := rfl
theorem ct_78_5 : am_CT 78 5 = some (.iload 1, 6, 0, 0, 0) := rfl
theorem ct_78_6 : am_CT 78 6 = some (.iload 2, 7, 0, 0, 0) := rfl
theorem ct_78_7 : am_CT 78 7 = some (.invokevirtual 177, 10, 209, 5, 11) := rfl
theorem ct_78_10 : am_CT 78 10 = some (.ireturn, 11, 0, 0, 0) := rfl
theorem ct_79_0 : am_CT 79 0 = some (.aload 0, 1, 0, 0, 0) := rfl
theorem ct_79_1 : am_CT 79 1 = some (.bipush 1, 2, 0, 0, 0) := rfl
theorem ct_79_2 : am_CT 79 2 = some (.bipush 1, 3, 0, 0, 0) := rfl
theorem ct_79_3 : am_CT 79 3 = some (.bipush 9, 5, 0, 0, 0) := rfl
theorem ct_79_5 : am_CT 79 5 = some (.iload 1, 6, 0, 0, 0) := rfl
theorem ct_79_6 : am_CT 79 6 = some (.iload 2, 7, 0, 0, 0) := rfl
theorem ct_79_7 : am_CT 79 7 = some (.invokevirtual 177, 10, 209, 5, 11) := rfl
theorem ct_79_10 : am_CT 79 10 = some (.ireturn, 11, 0, 0, 0) := rfl
theorem ct_80_0 : am_CT 80 0 = some (.aload 0, 1, 0, 0, 0) := rfl
theorem ct_80_1 : am_CT 80 1 = some (.bipush 2, 2, 0, 0, 0) := rfl
theorem ct_80_2 : am_CT 80 2 = some (.bipush 0, 3, 0, 0, 0) := rfl
theorem ct_80_3 : am_CT 80 3 = some (.bipush 99, 5, 0, 0, 0) := rfl
theorem ct_80_5 : am_CT 80 5 = some (.iload 1, 6, 0, 0, 0) := rfl
theorem ct_80_6 : am_CT 80 6 = some (.iload 2, 7, 0, 0, 0) := rfl
theorem ct_80_7 : am_CT 80 7 = some (.invokevirtual 177, 10, 209, 5, 11) := rfl
theorem ct_80_10 : am_CT 80 10 = some (.ireturn, 11, 0, 0, 0) := rfl
theorem ct_81_0 : am_CT 81 0 = some (.aload 0, 1, 0, 0, 0) := rfl
theorem ct_81_1 : am_CT 81 1 = some (.bipush 3, 2, 0, 0, 0) := rfl
theorem ct_81_2 : am_CT 81 2 = some (.bipush 0, 3, 0, 0, 0) := rfl
theorem ct_81_3 : am_CT 81 3 = some (.bipush 23, 5, 0, 0, 0) := rfl
theorem ct_81_5 : am_CT 81 5 = some (.iload 1, 6, 0, 0, 0) := rfl
theorem ct_81_6 : am_CT 81 6 = some (.iload 2, 7, 0, 0, 0) := rfl
theorem ct_81_7 : am_CT 81 7 = some (.invokevirtual 177, 10, 209, 5, 11) := rfl
theorem ct_81_10 : am_CT 81 10 = some (.ireturn, 11, 0, 0, 0) := rfl
theorem ct_82_0 : am_CT 82 0 = some (.aload 0, 1, 0, 0, 0) := rfl
theorem ct_82_1 : am_CT 82 1 = some (.iload 2, 2, 0, 0, 0) := rfl
theorem ct_82_2 : am_CT 82 2 = some (.invokevirtual 88, 5, 204, 1, 11) := rfl
theorem ct_82_5 : am_CT 82 5 = some (.ifnonnull 17, 8, 22, 0, 0) := rfl
theorem ct_82_8 : am_CT 82 8 = some (.iload 2, 9, 0, 0, 0) := rfl
theorem ct_82_9 : am_CT 82 9 = some (.bipush 10, 11, 0, 0, 0) := rfl
theorem ct_82_11 : am_CT 82 11 = some (.if_icmp .eq 11, 14, 22, 0, 0) := rfl
theorem ct_82_14 : am_CT 82 14 = some (.iload 2, 15, 0, 0, 0) := rfl
theorem ct_82_15 : am_CT 82 15 = some (.bipush 11, 17, 0, 0, 0) := rfl
theorem ct_82_17 : am_CT 82 17 = some (.if_icmp .eq 5, 20, 22, 0, 0) := rfl
theorem ct_82_20 : am_CT 82 20 = some (.bipush (-1), 21, 0, 0, 0) := rfl
theorem ct_82_21 : am_CT 82 21 = some (.ireturn, 22, 0, 0, 0) := rfl
theorem ct_82_22 : am_CT 82 22 = some (.iload 1, 23, 0, 0, 0) := rfl
theorem ct_82_23 : am_CT 82 23 = some (.bipush 0, 24, 0, 0, 0) := rfl
theorem ct_82_24 : am_CT 82 24 = some (.bipush 20, 26, 0, 0, 0) := rfl
theorem ct_82_26 : am_CT 82 26 = some (.invokestatic 73, 29, 103, 3, 0) := rfl
theorem ct_82_29 : am_CT 82 29 = some (.ifCond .ne 6, 32, 35, 0, 0) := rfl
theorem ct_82_32 : am_CT 82 32 = some (.bipush (-2), 34, 0, 0, 0) := rfl
theorem ct_82_34 : am_CT 82 34 = some (.ireturn, 35, 0, 0, 0) := rfl
theorem ct_82_35 : am_CT 82 35 = some (.aload 0, 36, 0, 0, 0) := rfl
theorem ct_82_36 : am_CT 82 36 = some (.iload 1, 37, 0, 0, 0) := rfl
theorem ct_82_37 : am_CT 82 37 = some (.invokevirtual 181, 40, 211, 1, 11) := rfl
theorem ct_82_40 : am_CT 82 40 = some (.iload 2, 41, 0, 0, 0) := rfl
theorem ct_82_41 : am_CT 82 41 = some (.bipush 10, 43, 0, 0, 0) := rfl
theorem ct_82_43 : am_CT 82 43 = some (.if_icmp .ne 8, 46, 51, 0, 0) := rfl
theorem ct_82_46 : am_CT 82 46 = some (.aload 0, 47, 0, 0, 0) := rfl
theorem ct_82_47 : am_CT 82 47 = some (.getfield 53, 50, 8, 11, 0) := rfl
theorem ct_82_50 : am_CT 82 50 = some (.ireturn, 51, 0, 0, 0) := rfl
theorem ct_82_51 : am_CT 82 51 = some (.iload 2, 52, 0, 0, 0) := rfl
theorem ct_82_52 : am_CT 82 52 = some (.bipush 11, 54, 0, 0, 0) := rfl
theorem ct_82_54 : am_CT 82 54 = some (.if_icmp .ne 8, 57, 62, 0, 0) := rfl
theorem ct_82_57 : am_CT 82 57 = some (.aload 0, 58, 0, 0, 0) := rfl
theorem ct_82_58 : am_CT 82 58 = some (.getfield 56, 61, 9, 11, 0) := rfl
theorem ct_82_61 : am_CT 82 61 = some (.ireturn, 62, 0, 0, 0) := rfl
theorem ct_82_62 : am_CT 82 62 = some (.iload 2, 63, 0, 0, 0) := rfl
theorem ct_82_63 : am_CT 82 63 = some (.bipush 0, 64, 0, 0, 0) := rfl
theorem ct_82_64 : am_CT 82 64 = some (.bipush 4, 65, 0, 0, 0) := rfl
theorem ct_82_65 : am_CT 82 65 = some (.invokestatic 73, 68, 103, 3, 0) := rfl
theorem ct_82_68 : am_CT 82 68 = some (.ifCond .eq 12, 71, 80, 0, 0) := rfl
theorem ct_82_71 : am_CT 82 71 = some (.aload 0, 72, 0, 0, 0) := rfl
theorem ct_82_72 : am_CT 82 72 = some (.getfield 49, 75, 7, 11, 2) := rfl
theorem ct_82_75 : am_CT 82 75 = some (.iload 2, 76, 0, 0, 0) := rfl
theorem ct_82_76 : am_CT 82 76 = some (.iaload, 77, 0, 0, 0) := rfl
theorem ct_82_77 : am_CT 82 77 = some (.goto 4, 80, 81, 0, 0) := rfl
theorem ct_82_80 : am_CT 82 80 = some (.bipush (-1), 81, 0, 0, 0) := rfl
theorem ct_82_81 : am_CT 82 81 = some (.ireturn, 82, 0, 0, 0) := rfl
theorem ct_83_0 : am_CT 83 0 = some (.iload 1, 1, 0, 0, 0) := rfl
theorem ct_83_1 : am_CT 83 1 = some (.bipush 0, 2, 0, 0, 0) := rfl
theorem ct_83_2 : am_CT 83 2 = some (.bipush 20, 4, 0, 0, 0) := rfl
theorem ct_83_4 : am_CT 83 4 = some (.invokestatic 73, 7, 103, 3, 0) := rfl
theorem ct_83_7 : am_CT 83 7 = some (.ifCond .ne 6, 10, 13, 0, 0) := rfl
theorem ct_83_10 : am_CT 83 10 = some (.bipush (-2), 12, 0, 0, 0) := rfl
theorem ct_83_12 : am_CT 83 12 = some (.ireturn, 13, 0, 0, 0) := rfl
theorem ct_83_13 : am_CT 83 13 = some (.aload 0, 14, 0, 0, 0) := rfl
theorem ct_83_14 : am_CT 83 14 = some (.iload 1, 15, 0, 0, 0) := rfl
theorem ct_83_15 : am_CT 83 15 = some (.invokevirtual 181, 18, 211, 1, 11) := rfl
theorem ct_83_18 : am_CT 83 18 = some (.bipush (-5), 20, 0, 0, 0) := rfl
theorem ct_83_20 : am_CT 83 20 = some (.istore 2, 21, 0, 0, 0) := rfl
theorem ct_83_21 : am_CT 83 21 = some (.bipush (-1), 22, 0, 0, 0) := rfl
theorem ct_83_22 : am_CT 83 22 = some (.istore 3, 23, 0, 0, 0) := rfl
theorem ct_83_23 : am_CT 83 23 = some (.bipush 0, 24, 0, 0, 0) := rfl
theorem ct_83_24 : am_CT 83 24 = some (.istore 4, 26, 0, 0, 0) := rfl
theorem ct_83_26 : am_CT 83 26 = some (.iload 4, 28, 0, 0, 0) := rfl
theorem ct_83_28 : am_CT 83 28 = some (.aload 0, 29, 0, 0, 0) := rfl
theorem ct_83_29 : am_CT 83 29 = some (.getfield 12, 32, 0, 11, 2) := rfl
theorem ct_83_32 : am_CT 83 32 = some (.getfield 77, 35, 1, 7, 0) := rfl
theorem ct_83_35 : am_CT 83 35 = some (.if_icmp .ge 31, 38, 66, 0, 0) := rfl
theorem ct_83_38 : am_CT 83 38 = some (.aload 0, 39, 0, 0, 0) := rfl
theorem ct_83_39 : am_CT 83 39 = some (.getfield 49, 42, 7, 11, 2) := rfl
theorem ct_83_42 : am_CT 83 42 = some (.iload 4, 44, 0, 0, 0) := rfl
theorem ct_83_44 : am_CT 83 44 = some (.iaload, 45, 0, 0, 0) := rfl
theorem ct_83_45 : am_CT 83 45 = some (.iload 3, 46, 0, 0, 0) := rfl
theorem ct_83_46 : am_CT 83 46 = some (.if_icmp .le 14, 49, 60, 0, 0) := rfl
theorem ct_83_49 : am_CT 83 49 = some (.aload 0, 50, 0, 0, 0) := rfl
theorem ct_83_50 : am_CT 83 50 = some (.getfield 49, 53, 7, 11, 2) := rfl
theorem ct_83_53 : am_CT 83 53 = some (.iload 4, 55, 0, 0, 0) := rfl
theorem ct_83_55 : am_CT 83 55 = some (.iaload, 56, 0, 0, 0) := rfl
theorem ct_83_56 : am_CT 83 56 = some (.istore 3, 57, 0, 0, 0) := rfl
theorem ct_83_57 : am_CT 83 57 = some (.iload 4, 59, 0, 0, 0) := rfl
theorem ct_83_59 : am_CT 83 59 = some (.istore 2, 60, 0, 0, 0) := rfl
theorem ct_83_60 : am_CT 83 60 = some (.iinc 4 1, 63, 0, 0, 0) := rfl
theorem ct_83_63 : am_CT 83 63 = some (.goto (-37), 66, 26, 0, 0) := rfl
theorem ct_83_66 : am_CT 83 66 = some (.iload 2, 67, 0, 0, 0) := rfl
theorem ct_83_67 : am_CT 83 67 = some (.ireturn, 68, 0, 0, 0) := rfl
theorem ct_84_0 : am_CT 84 0 = some (.aload 0, 1, 0, 0, 0) := rfl
theorem ct_84_1 : am_CT 84 1 = some (.iload 1, 2, 0, 0, 0) := rfl
theorem ct_84_2 : am_CT 84 2 = some (.invokevirtual 88, 5, 204, 1, 11) := rfl
theorem ct_84_5 : am_CT 84 5 = some (.astore 3, 6, 0, 0, 0) := rfl
theorem ct_84_6 : am_CT 84 6 = some (.aload 3, 7, 0, 0, 0) := rfl
theorem ct_84_7 : am_CT 84 7 = some (.ifnull 12, 10, 19, 0, 0) := rfl
theorem ct_84_10 : am_CT 84 10 = some (.iload 2, 11, 0, 0, 0) := rfl
theorem ct_84_11 : am_CT 84 11 = some (.bipush 0, 12, 0, 0, 0) := rfl
theorem ct_84_12 : am_CT 84 12 = some (.bipush 1, 13, 0, 0, 0) := rfl
theorem ct_84_13 : am_CT 84 13 = some (.invokestatic 73, 16, 103, 3, 0) := rfl
theorem ct_84_16 : am_CT 84 16 = some (.ifCond .ne 5, 19, 21, 0, 0) := rfl
theorem ct_84_19 : am_CT 84 19 = some (.bipush (-1), 20, 0, 0, 0) := rfl
theorem ct_84_20 : am_CT 84 20 = some (.ireturn, 21, 0, 0, 0) := rfl
theorem ct_84_21 : am_CT 84 21 = some (.bipush 0, 22, 0, 0, 0) := rfl
theorem ct_84_22 : am_CT 84 22 = some (.istore 4, 24, 0, 0, 0) := rfl
theorem ct_84_24 : am_CT 84 24 = some (.bipush (-5), 26, 0, 0, 0) := rfl
theorem ct_84_26 : am_CT 84 26 = some (.istore 5, 28, 0, 0, 0) := rfl
theorem ct_84_28 : am_CT 84 28 = some (.bipush 0, 29, 0, 0, 0) := rfl
theorem ct_84_29 : am_CT 84 29 = some (.istore 6, 31, 0, 0, 0) := rfl
theorem ct_84_31 : am_CT 84 31 = some (.iload 6, 33, 0, 0, 0) := rfl
theorem ct_84_33 : am_CT 84 33 = some (.bipush 12, 35, 0, 0, 0) := rfl
theorem ct_84_35 : am_CT 84 35 = some (.if_icmp .ge 41, 38, 76, 0, 0) := rfl
theorem ct_84_38 : am_CT 84 38 = some (.aload 0, 39, 0, 0, 0) := rfl
theorem ct_84_39 : am_CT 84 39 = some (.aload 3, 40, 0, 0, 0) := rfl
theorem ct_84_40 : am_CT 84 40 = some (.iload 6, 42, 0, 0, 0) := rfl
theorem ct_84_42 : am_CT 84 42 = some (.invokevirtual 184, 45, 208, 2, 11) := rfl
theorem ct_84_45 : am_CT 84 45 = some (.aload 0, 46, 0, 0, 0) := rfl
theorem ct_84_46 : am_CT 84 46 = some (.getfield 24, 49, 2, 11, 2) := rfl
theorem ct_84_49 : am_CT 84 49 = some (.getfield 167, 52, 11, 3, 0) := rfl
theorem ct_84_52 : am_CT 84 52 = some (.iload 4, 54, 0, 0, 0) := rfl
theorem ct_84_54 : am_CT 84 54 = some (.if_icmp .le 16, 57, 70, 0, 0) := rfl
theorem ct_84_57 : am_CT 84 57 = some (.aload 0, 58, 0, 0, 0) := rfl
theorem ct_84_58 : am_CT 84 58 = some (.getfield 24, 61, 2, 11, 2) := rfl
theorem ct_84_61 : am_CT 84 61 = some (.getfield 167, 64, 11, 3, 0) := rfl
theorem ct_84_64 : am_CT 84 64 = some (.istore 4, 66, 0, 0, 0) := rfl
theorem ct_84_66 : am_CT 84 66 = some (.iload 6, 68, 0, 0, 0) := rfl
theorem ct_84_68 : am_CT 84 68 = some (.istore 5, 70, 0, 0, 0) := rfl
theorem ct_84_70 : am_CT 84 70 = some (.iinc 6 1, 73, 0, 0, 0) := rfl
theorem ct_84_73 : am_CT 84 73 = some (.goto (-42), 76, 31, 0, 0) := rfl
theorem ct_84_76 : am_CT 84 76 = some (.iload 2, 77, 0, 0, 0) := rfl
theorem ct_84_77 : am_CT 84 77 = some (.ifCond .ne 8, 80, 85, 0, 0) := rfl
theorem ct_84_80 : am_CT 84 80 = some (.iload 4, 82, 0, 0, 0) := rfl
theorem ct_84_82 : am_CT 84 82 = some (.goto 5, 85, 87, 0, 0) := rfl
theorem ct_84_85 : am_CT 84 85 = some (.iload 5, 87, 0, 0, 0) := rfl
theorem ct_84_87 : am_CT 84 87 = some (.ireturn, 88, 0, 0, 0) := rfl
theorem ct_85_0 : am_CT 85 0 = some (.iload 1, 1, 0, 0, 0) := rfl
theorem ct_85_1 : am_CT 85 1 = some (.bipush (-1), 2, 0, 0, 0) := rfl
theorem ct_85_2 : am_CT 85 2 = some (.if_icmp .ne 13, 5, 15, 0, 0) := rfl
theorem ct_85_5 : am_CT 85 5 = some (.aload 0, 6, 0, 0, 0) := rfl
theorem ct_85_6 : am_CT 85 6 = some (.getfield 12, 9, 0, 11, 2) := rfl
theorem ct_85_9 : am_CT 85 9 = some (.bipush 0, 10, 0, 0, 0) := rfl
theorem ct_85_10 : am_CT 85 10 = some (.putfield 188, 13, 8, 7, 0) := rfl
theorem ct_85_13 : am_CT 85 13 = some (.bipush 0, 14, 0, 0, 0) := rfl
theorem ct_85_14 : am_CT 85 14 = some (.ireturn, 15, 0, 0, 0) := rfl
theorem ct_85_15 : am_CT 85 15 = some (.aload 0, 16, 0, 0, 0) := rfl
theorem ct_85_16 : am_CT 85 16 = some (.iload 1, 17, 0, 0, 0) := rfl
theorem ct_85_17 : am_CT 85 17 = some (.invokevirtual 88, 20, 204, 1, 11) := rfl
theorem ct_85_20 : am_CT 85 20 = some (.ifnonnull 5, 23, 25, 0, 0) := rfl
theorem ct_85_23 : am_CT 85 23 = some (.bipush (-1), 24, 0, 0, 0) := rfl
theorem ct_85_24 : am_CT 85 24 = some (.ireturn, 25, 0, 0, 0) := rfl
theorem ct_85_25 : am_CT 85 25 = some (.iload 2, 26, 0, 0, 0) := rfl
theorem ct_85_26 : am_CT 85 26 = some (.bipush 0, 27, 0, 0, 0) := rfl
theorem ct_85_27 : am_CT 85 27 = some (.bipush 30, 29, 0, 0, 0) := rfl
theorem ct_85_29 : am_CT 85 29 = some (.invokestatic 73, 32, 103, 3, 0) := rfl
theorem ct_85_32 : am_CT 85 32 = some (.ifCond .eq 13, 35, 45, 0, 0) := rfl
theorem ct_85_35 : am_CT 85 35 = some (.iload 3, 36, 0, 0, 0) := rfl
theorem ct_85_36 : am_CT 85 36 = some (.bipush 0, 37, 0, 0, 0) := rfl
theorem ct_85_37 : am_CT 85 37 = some (.bipush 99, 39, 0, 0, 0) := rfl
theorem ct_85_39 : am_CT 85 39 = some (.invokestatic 73, 42, 103, 3, 0) := rfl
theorem ct_85_42 : am_CT 85 42 = some (.ifCond .ne 6, 45, 48, 0, 0) := rfl
theorem ct_85_45 : am_CT 85 45 = some (.bipush (-2), 47, 0, 0, 0) := rfl
theorem ct_85_47 : am_CT 85 47 = some (.ireturn, 48, 0, 0, 0) := rfl
theorem ct_85_48 : am_CT 85 48 = some (.aload 0, 49, 0, 0, 0) := rfl
theorem ct_85_49 : am_CT 85 49 = some (.getfield 12, 52, 0, 11, 2) := rfl
theorem ct_85_52 : am_CT 85 52 = some (.getfield 188, 55, 8, 7, 0) := rfl
theorem ct_85_55 : am_CT 85 55 = some (.bipush 6, 57, 0, 0, 0) := rfl
theorem ct_85_57 : am_CT 85 57 = some (.if_icmp .lt 6, 60, 63, 0, 0) := rfl
theorem ct_85_60 : am_CT 85 60 = some (.bipush (-4), 62, 0, 0, 0) := rfl
theorem ct_85_62 : am_CT 85 62 = some (.ireturn, 63, 0, 0, 0) := rfl
theorem ct_85_63 : am_CT 85 63 = some (.aload 0, 64, 0, 0, 0) := rfl
theorem ct_85_64 : am_CT 85 64 = some (.getfield 12, 67, 0, 11, 2) := rfl
theorem ct_85_67 : am_CT 85 67 = some (.getfield 191, 70, 5, 7, 2) := rfl
theorem ct_85_70 : am_CT 85 70 = some (.aload 0, 71, 0, 0, 0) := rfl
theorem ct_85_71 : am_CT 85 71 = some (.getfield 12, 74, 0, 11, 2) := rfl
theorem ct_85_74 : am_CT 85 74 = some (.getfield 188, 77, 8, 7, 0) := rfl
theorem ct_85_77 : am_CT 85 77 = some (.iload 1, 78, 0, 0, 0) := rfl
theorem ct_85_78 : am_CT 85 78 = some (.iastore, 79, 0, 0, 0) := rfl
theorem ct_85_79 : am_CT 85 79 = some (.aload 0, 80, 0, 0, 0) := rfl
theorem ct_85_80 : am_CT 85 80 = some (.getfield 12, 83, 0, 11, 2) := rfl
theorem ct_85_83 : am_CT 85 83 = some (.getfield 194, 86, 6, 7, 2) := rfl
theorem ct_85_86 : am_CT 85 86 = some (.aload 0, 87, 0, 0, 0) := rfl
theorem ct_85_87 : am_CT 85 87 = some (.getfield 12, 90, 0, 11, 2) := rfl
theorem ct_85_90 : am_CT 85 90 = some (.getfield 188, 93, 8, 7, 0) := rfl
theorem ct_85_93 : am_CT 85 93 = some (.iload 2, 94, 0, 0, 0) := rfl
theorem ct_85_94 : am_CT 85 94 = some (.iastore, 95, 0, 0, 0) := rfl
theorem ct_85_95 : am_CT 85 95 = some (.aload 0, 96, 0, 0, 0) := rfl
theorem ct_85_96 : am_CT 85 96 = some (.getfield 12, 99, 0, 11, 2) := rfl
theorem ct_85_99 : am_CT 85 99 = some (.getfield 197, 102, 7, 7, 2) := rfl
theorem ct_85_102 : am_CT 85 102 = some (.aload 0, 103, 0, 0, 0) := rfl
theorem ct_85_103 : am_CT 85 103 = some (.getfield 12, 106, 0, 11, 2) := rfl
theorem ct_85_106 : am_CT 85 106 = some (.getfield 188, 109, 8, 7, 0) := rfl
theorem ct_85_109 : am_CT 85 109 = some (.iload 3, 110, 0, 0, 0) := rfl
theorem ct_85_110 : am_CT 85 110 = some (.iastore, 111, 0, 0, 0) := rfl
theorem ct_85_111 : am_CT 85 111 = some (.aload 0, 112, 0, 0, 0) := rfl
theorem ct_85_112 : am_CT 85 112 = some (.getfield 12, 115, 0, 11, 2) := rfl
theorem ct_85_115 : am_CT 85 115 = some (.dup, 116, 0, 0, 0) := rfl
theorem ct_85_116 : am_CT 85 116 = some (.getfield 188, 119, 8, 7, 0) := rfl
theorem ct_85_119 : am_CT 85 119 = some (.bipush 1, 120, 0, 0, 0) := rfl
theorem ct_85_120 : am_CT 85 120 = some (.iadd, 121, 0, 0, 0) := rfl
theorem ct_85_121 : am_CT 85 121 = some (.putfield 188, 124, 8, 7, 0) := rfl
theorem ct_85_124 : am_CT 85 124 = some (.aload 0, 125, 0, 0, 0) := rfl
theorem ct_85_125 : am_CT 85 125 = some (.getfield 12, 128, 0, 11, 2) := rfl
theorem ct_85_128 : am_CT 85 128 = some (.getfield 188, 131, 8, 7, 0) := rfl
theorem ct_85_131 : am_CT 85 131 = some (.ireturn, 132, 0, 0, 0) := rfl
theorem ct_86_0 : am_CT 86 0 = some (.bipush 0, 1, 0, 0, 0) := rfl
theorem ct_86_1 : am_CT 86 1 = some (.istore 1, 2, 0, 0, 0) := rfl
theorem ct_86_2 : am_CT 86 2 = some (.bipush 0, 3, 0, 0, 0) := rfl
theorem ct_86_3 : am_CT 86 3 = some (.istore 2, 4, 0, 0, 0) := rfl
theorem ct_86_4 : am_CT 86 4 = some (.iload 2, 5, 0, 0, 0) := rfl
theorem ct_86_5 : am_CT 86 5 = some (.bipush 9, 7, 0, 0, 0) := rfl
theorem ct_86_7 : am_CT 86 7 = some (.if_icmp .gt 23, 10, 30, 0, 0) := rfl
theorem ct_86_10 : am_CT 86 10 = some (.aload 0, 11, 0, 0, 0) := rfl
theorem ct_86_11 : am_CT 86 11 = some (.iload 2, 12, 0, 0, 0) := rfl
theorem ct_86_12 : am_CT 86 12 = some (.invokevirtual 200, 15, 212, 1, 11) := rfl
theorem ct_86_15 : am_CT 86 15 = some (.ifCond .eq 9, 18, 24, 0, 0) := rfl
theorem ct_86_18 : am_CT 86 18 = some (.iload 1, 19, 0, 0, 0) := rfl
theorem ct_86_19 : am_CT 86 19 = some (.bipush 1, 20, 0, 0, 0) := rfl
theorem ct_86_20 : am_CT 86 20 = some (.iload 2, 21, 0, 0, 0) := rfl
theorem ct_86_21 : am_CT 86 21 = some (.ishl, 22, 0, 0, 0) := rfl
theorem ct_86_22 : am_CT 86 22 = some (.ior, 23, 0, 0, 0) := rfl
theorem ct_86_23 : am_CT 86 23 = some (.istore 1, 24, 0, 0, 0) := rfl
theorem ct_86_24 : am_CT 86 24 = some (.iinc 2 1, 27, 0, 0, 0) := rfl
theorem ct_86_27 : am_CT 86 27 = some (.goto (-23), 30, 4, 0, 0) := rfl
theorem ct_86_30 : am_CT 86 30 = some (.iload 1, 31, 0, 0, 0) := rfl
theorem ct_86_31 : am_CT 86 31 = some (.ireturn, 32, 0, 0, 0) := rfl
theorem ct_87_0 : am_CT 87 0 = some (.aload 0, 1, 0, 0, 0) := rfl
theorem ct_87_1 : am_CT 87 1 = some (.iload 1, 2, 0, 0, 0) := rfl
theorem ct_87_2 : am_CT 87 2 = some (.invokevirtual 88, 5, 204, 1, 11) := rfl
theorem ct_87_5 : am_CT 87 5 = some (.astore 2, 6, 0, 0, 0) := rfl
theorem ct_87_6 : am_CT 87 6 = some (.aload 2, 7, 0, 0, 0) := rfl
theorem ct_87_7 : am_CT 87 7 = some (.ifnonnull 6, 10, 13, 0, 0) := rfl
theorem ct_87_10 : am_CT 87 10 = some (.bipush (-1000001), 12, 204, 1, 0) := rfl
theorem ct_87_12 : am_CT 87 12 = some (.ireturn, 13, 0, 0, 0) := rfl
theorem ct_87_13 : am_CT 87 13 = some (.aload 0, 14, 0, 0, 0) := rfl
theorem ct_87_14 : am_CT 87 14 = some (.aload 2, 15, 0, 0, 0) := rfl
theorem ct_87_15 : am_CT 87 15 = some (.invokevirtual 146, 18, 207, 1, 11) := rfl
theorem ct_87_18 : am_CT 87 18 = some (.aload 0, 19, 0, 0, 0) := rfl
theorem ct_87_19 : am_CT 87 19 = some (.getfield 24, 22, 2, 11, 2) := rfl
theorem ct_87_22 : am_CT 87 22 = some (.aload 2, 23, 0, 0, 0) := rfl
theorem ct_87_23 : am_CT 87 23 = some (.invokevirtual 150, 26, 117, 1, 3) := rfl
theorem ct_87_26 : am_CT 87 26 = some (.aload 0, 27, 0, 0, 0) := rfl
theorem ct_87_27 : am_CT 87 27 = some (.getfield 24, 30, 2, 11, 2) := rfl
theorem ct_87_30 : am_CT 87 30 = some (.getfield 154, 33, 12, 3, 0) := rfl
theorem ct_87_33 : am_CT 87 33 = some (.istore 3, 34, 0, 0, 0) := rfl
theorem ct_87_34 : am_CT 87 34 = some (.aload 0, 35, 0, 0, 0) := rfl
theorem ct_87_35 : am_CT 87 35 = some (.aload 2, 36, 0, 0, 0) := rfl
theorem ct_87_36 : am_CT 87 36 = some (.invokevirtual 146, 39, 207, 1, 11) := rfl
theorem ct_87_39 : am_CT 87 39 = some (.aload 0, 40, 0, 0, 0) := rfl
theorem ct_87_40 : am_CT 87 40 = some (.getfield 24, 43, 2, 11, 2) := rfl
theorem ct_87_43 : am_CT 87 43 = some (.bipush 1, 44, 0, 0, 0) := rfl
theorem ct_87_44 : am_CT 87 44 = some (.putfield 205, 47, 6, 3, 1) := rfl
theorem ct_87_47 : am_CT 87 47 = some (.aload 0, 48, 0, 0, 0) := rfl
theorem ct_87_48 : am_CT 87 48 = some (.getfield 24, 51, 2, 11, 2) := rfl
theorem ct_87_51 : am_CT 87 51 = some (.aload 2, 52, 0, 0, 0) := rfl
theorem ct_87_52 : am_CT 87 52 = some (.invokevirtual 150, 55, 117, 1, 3) := rfl
theorem ct_87_55 : am_CT 87 55 = some (.aload 0, 56, 0, 0, 0) := rfl
theorem ct_87_56 : am_CT 87 56 = some (.getfield 24, 59, 2, 11, 2) := rfl
theorem ct_87_59 : am_CT 87 59 = some (.getfield 154, 62, 12, 3, 0) := rfl
theorem ct_87_62 : am_CT 87 62 = some (.iload 3, 63, 0, 0, 0) := rfl
theorem ct_87_63 : am_CT 87 63 = some (.isub, 64, 0, 0, 0) := rfl
theorem ct_87_64 : am_CT 87 64 = some (.ireturn, 65, 0, 0, 0) := rfl
theorem ct_88_0 : am_CT 88 0 = some (.aload 0, 1, 0, 0, 0) := rfl
theorem ct_88_1 : am_CT 88 1 = some (.iload 1, 2, 0, 0, 0) := rfl
theorem ct_88_2 : am_CT 88 2 = some (.invokevirtual 88, 5, 204, 1, 11) := rfl
theorem ct_88_5 : am_CT 88 5 = some (.astore 3, 6, 0, 0, 0) := rfl
theorem ct_88_6 : am_CT 88 6 = some (.aload 3, 7, 0, 0, 0) := rfl
theorem ct_88_7 : am_CT 88 7 = some (.ifnull 12, 10, 19, 0, 0) := rfl
theorem ct_88_10 : am_CT 88 10 = some (.iload 2, 11, 0, 0, 0) := rfl
theorem ct_88_11 : am_CT 88 11 = some (.bipush 0, 12, 0, 0, 0) := rfl
theorem ct_88_12 : am_CT 88 12 = some (.bipush 1, 13, 0, 0, 0) := rfl
theorem ct_88_13 : am_CT 88 13 = some (.invokestatic 73, 16, 103, 3, 0) := rfl
theorem ct_88_16 : am_CT 88 16 = some (.ifCond .ne 7, 19, 23, 0, 0) := rfl
theorem ct_88_19 : am_CT 88 19 = some (.sipush (-9223372036854775808), 22, 208, 1, 0) := rfl
theorem ct_88_22 : am_CT 88 22 = some (.lreturn, 23, 0, 0, 0) := rfl
theorem ct_88_23 : am_CT 88 23 = some (.bipush 0, 24, 0, 0, 0) := rfl
theorem ct_88_24 : am_CT 88 24 = some (.istore 4, 26, 0, 0, 0) := rfl
theorem ct_88_26 : am_CT 88 26 = some (.bipush 0, 27, 0, 0, 0) := rfl
theorem ct_88_27 : am_CT 88 27 = some (.istore 5, 29, 0, 0, 0) := rfl
theorem ct_88_29 : am_CT 88 29 = some (.iload 5, 31, 0, 0, 0) := rfl
theorem ct_88_31 : am_CT 88 31 = some (.bipush 10, 33, 0, 0, 0) := rfl
theorem ct_88_33 : am_CT 88 33 = some (.if_icmp .ge 44, 36, 77, 0, 0) := rfl
theorem ct_88_36 : am_CT 88 36 = some (.aload 0, 37, 0, 0, 0) := rfl
theorem ct_88_37 : am_CT 88 37 = some (.aload 3, 38, 0, 0, 0) := rfl
theorem ct_88_38 : am_CT 88 38 = some (.invokevirtual 146, 41, 207, 1, 11) := rfl
theorem ct_88_41 : am_CT 88 41 = some (.aload 0, 42, 0, 0, 0) := rfl
theorem ct_88_42 : am_CT 88 42 = some (.getfield 24, 45, 2, 11, 2) := rfl
theorem ct_88_45 : am_CT 88 45 = some (.iload 5, 47, 0, 0, 0) := rfl
theorem ct_88_47 : am_CT 88 47 = some (.putfield 210, 50, 5, 3, 0) := rfl
theorem ct_88_50 : am_CT 88 50 = some (.aload 0, 51, 0, 0, 0) := rfl
theorem ct_88_51 : am_CT 88 51 = some (.getfield 24, 54, 2, 11, 2) := rfl
theorem ct_88_54 : am_CT 88 54 = some (.aload 3, 55, 0, 0, 0) := rfl
theorem ct_88_55 : am_CT 88 55 = some (.invokevirtual 150, 58, 117, 1, 3) := rfl
theorem ct_88_58 : am_CT 88 58 = some (.aload 0, 59, 0, 0, 0) := rfl
theorem ct_88_59 : am_CT 88 59 = some (.getfield 24, 62, 2, 11, 2) := rfl
theorem ct_88_62 : am_CT 88 62 = some (.getfield 170, 65, 13, 3, 1) := rfl
theorem ct_88_65 : am_CT 88 65 = some (.ifCond .eq 6, 68, 71, 0, 0) := rfl
theorem ct_88_68 : am_CT 88 68 = some (.iinc 4 1, 71, 0, 0, 0) := rfl
theorem ct_88_71 : am_CT 88 71 = some (.iinc 5 1, 74, 0, 0, 0) := rfl
theorem ct_88_74 : am_CT 88 74 = some (.goto (-45), 77, 29, 0, 0) := rfl
theorem ct_88_77 : am_CT 88 77 = some (.iload 4, 79, 0, 0, 0) := rfl
theorem ct_88_79 : am_CT 88 79 = some (.bipush 10, 81, 0, 0, 0) := rfl
theorem ct_88_81 : am_CT 88 81 = some (.iload 2, 82, 0, 0, 0) := rfl
theorem ct_88_82 : am_CT 88 82 = some (.invokestatic 213, 85, 113, 3, 0) := rfl
theorem ct_88_85 : am_CT 88 85 = some (.i2l, 86, 0, 0, 0) := rfl
theorem ct_88_86 : am_CT 88 86 = some (.lreturn, 87, 0, 0, 0) := rfl
theorem ct_89_0 : am_CT 89 0 = some (.aload 0, 1, 0, 0, 0) := rfl
theorem ct_89_1 : am_CT 89 1 = some (.iload 1, 2, 0, 0, 0) := rfl
theorem ct_89_2 : am_CT 89 2 = some (.invokevirtual 88, 5, 204, 1, 11) := rfl
theorem ct_89_5 : am_CT 89 5 = some (.astore 3, 6, 0, 0, 0) := rfl
theorem ct_89_6 : am_CT 89 6 = some (.aload 3, 7, 0, 0, 0) := rfl
theorem ct_89_7 : am_CT 89 7 = some (.ifnull 12, 10, 19, 0, 0) := rfl
theorem ct_89_10 : am_CT 89 10 = some (.iload 2, 11, 0, 0, 0) := rfl
theorem ct_89_11 : am_CT 89 11 = some (.bipush 0, 12, 0, 0, 0) := rfl
theorem ct_89_12 : am_CT 89 12 = some (.bipush 1, 13, 0, 0, 0) := rfl
theorem ct_89_13 : am_CT 89 13 = some (.invokestatic 73, 16, 103, 3, 0) := rfl
theorem ct_89_16 : am_CT 89 16 = some (.ifCond .ne 7, 19, 23, 0, 0) := rfl
theorem ct_89_19 : am_CT 89 19 = some (.sipush (-9223372036854775808), 22, 208, 1, 0) := rfl
theorem ct_89_22 : am_CT 89 22 = some (.lreturn, 23, 0, 0, 0) := rfl
theorem ct_89_23 : am_CT 89 23 = some (.bipush 0, 24, 0, 0, 0) := rfl
theorem ct_89_24 : am_CT 89 24 = some (.istore 4, 26, 0, 0, 0) := rfl
theorem ct_89_26 : am_CT 89 26 = some (.bipush 0, 27, 0, 0, 0) := rfl
theorem ct_89_27 : am_CT 89 27 = some (.istore 5, 29, 0, 0, 0) := rfl
theorem ct_89_29 : am_CT 89 29 = some (.iload 5, 31, 0, 0, 0) := rfl
theorem ct_89_31 : am_CT 89 31 = some (.bipush 12, 33, 0, 0, 0) := rfl
theorem ct_89_33 : am_CT 89 33 = some (.if_icmp .ge 28, 36, 61, 0, 0) := rfl
theorem ct_89_36 : am_CT 89 36 = some (.aload 0, 37, 0, 0, 0) := rfl
theorem ct_89_37 : am_CT 89 37 = some (.aload 3, 38, 0, 0, 0) := rfl
theorem ct_89_38 : am_CT 89 38 = some (.iload 5, 40, 0, 0, 0) := rfl
theorem ct_89_40 : am_CT 89 40 = some (.invokevirtual 184, 43, 208, 2, 11) := rfl
theorem ct_89_43 : am_CT 89 43 = some (.iload 4, 45, 0, 0, 0) := rfl
theorem ct_89_45 : am_CT 89 45 = some (.aload 0, 46, 0, 0, 0) := rfl
theorem ct_89_46 : am_CT 89 46 = some (.getfield 24, 49, 2, 11, 2) := rfl
theorem ct_89_49 : am_CT 89 49 = some (.getfield 154, 52, 12, 3, 0) := rfl
theorem ct_89_52 : am_CT 89 52 = some (.iadd, 53, 0, 0, 0) := rfl
theorem ct_89_53 : am_CT 89 53 = some (.istore 4, 55, 0, 0, 0) := rfl
theorem ct_89_55 : am_CT 89 55 = some (.iinc 5 1, 58, 0, 0, 0) := rfl
theorem ct_89_58 : am_CT 89 58 = some (.goto (-29), 61, 29, 0, 0) := rfl
theorem ct_89_61 : am_CT 89 61 = some (.iload 4, 63, 0, 0, 0) := rfl
theorem ct_89_63 : am_CT 89 63 = some (.bipush 12, 65, 0, 0, 0) := rfl
theorem ct_89_65 : am_CT 89 65 = some (.iload 2, 66, 0, 0, 0) := rfl
theorem ct_89_66 : am_CT 89 66 = some (.invokestatic 213, 69, 113, 3, 0) := rfl
theorem ct_89_69 : am_CT 89 69 = some (.i2l, 70, 0, 0, 0) := rfl
theorem ct_89_70 : am_CT 89 70 = some (.lreturn, 71, 0, 0, 0) := rfl
theorem ct_90_0 : am_CT 90 0 = some (.iload 1, 1, 0, 0, 0) := rfl
theorem ct_90_1 : am_CT 90 1 = some (.bipush (-1), 2, 0, 0, 0) := rfl
theorem ct_90_2 : am_CT 90 2 = some (.if_icmp .ne 13, 5, 15, 0, 0) := rfl
theorem ct_90_5 : am_CT 90 5 = some (.aload 0, 6, 0, 0, 0) := rfl
theorem ct_90_6 : am_CT 90 6 = some (.getfield 12, 9, 0, 11, 2) := rfl
theorem ct_90_9 : am_CT 90 9 = some (.bipush 0, 10, 0, 0, 0) := rfl
theorem ct_90_10 : am_CT 90 10 = some (.putfield 217, 13, 11, 7, 0) := rfl
theorem ct_90_13 : am_CT 90 13 = some (.bipush 0, 14, 0, 0, 0) := rfl
theorem ct_90_14 : am_CT 90 14 = some (.ireturn, 15, 0, 0, 0) := rfl
theorem ct_90_15 : am_CT 90 15 = some (.aload 0, 16, 0, 0, 0) := rfl
theorem ct_90_16 : am_CT 90 16 = some (.iload 1, 17, 0, 0, 0) := rfl
theorem ct_90_17 : am_CT 90 17 = some (.invokevirtual 88, 20, 204, 1, 11) := rfl
theorem ct_90_20 : am_CT 90 20 = some (.ifnonnull 5, 23, 25, 0, 0) := rfl
theorem ct_90_23 : am_CT 90 23 = some (.bipush (-1), 24, 0, 0, 0) := rfl
theorem ct_90_24 : am_CT 90 24 = some (.ireturn, 25, 0, 0, 0) := rfl
theorem ct_90_25 : am_CT 90 25 = some (.aload 0, 26, 0, 0, 0) := rfl
theorem ct_90_26 : am_CT 90 26 = some (.getfield 12, 29, 0, 11, 2) := rfl
theorem ct_90_29 : am_CT 90 29 = some (.getfield 217, 32, 11, 7, 0) := rfl
theorem ct_90_32 : am_CT 90 32 = some (.bipush 12, 34, 0, 0, 0) := rfl
theorem ct_90_34 : am_CT 90 34 = some (.if_icmp .lt 6, 37, 40, 0, 0) := rfl
theorem ct_90_37 : am_CT 90 37 = some (.bipush (-4), 39, 0, 0, 0) := rfl
theorem ct_90_39 : am_CT 90 39 = some (.ireturn, 40, 0, 0, 0) := rfl
theorem ct_90_40 : am_CT 90 40 = some (.aload 0, 41, 0, 0, 0) := rfl
theorem ct_90_41 : am_CT 90 41 = some (.getfield 12, 44, 0, 11, 2) := rfl
theorem ct_90_44 : am_CT 90 44 = some (.getfield 220, 47, 9, 7, 2) := rfl
theorem ct_90_47 : am_CT 90 47 = some (.aload 0, 48, 0, 0, 0) := rfl
theorem ct_90_48 : am_CT 90 48 = some (.getfield 12, 51, 0, 11, 2) := rfl
theorem ct_90_51 : am_CT 90 51 = some (.getfield 217, 54, 11, 7, 0) := rfl
theorem ct_90_54 : am_CT 90 54 = some (.iload 1, 55, 0, 0, 0) := rfl
theorem ct_90_55 : am_CT 90 55 = some (.iastore, 56, 0, 0, 0) := rfl
theorem ct_90_56 : am_CT 90 56 = some (.aload 0, 57, 0, 0, 0) := rfl
theorem ct_90_57 : am_CT 90 57 = some (.getfield 12, 60, 0, 11, 2) := rfl
theorem ct_90_60 : am_CT 90 60 = some (.getfield 223, 63, 10, 7, 2) := rfl
theorem ct_90_63 : am_CT 90 63 = some (.aload 0, 64, 0, 0, 0) := rfl
theorem ct_90_64 : am_CT 90 64 = some (.getfield 12, 67, 0, 11, 2) := rfl
theorem ct_90_67 : am_CT 90 67 = some (.getfield 217, 70, 11, 7, 0) := rfl
theorem ct_90_70 : am_CT 90 70 = some (.iload 2, 71, 0, 0, 0) := rfl
theorem ct_90_71 : am_CT 90 71 = some (.bastore, 72, 0, 0, 0) := rfl
theorem ct_90_72 : am_CT 90 72 = some (.aload 0, 73, 0, 0, 0) := rfl
theorem ct_90_73 : am_CT 90 73 = some (.getfield 12, 76, 0, 11, 2) := rfl
theorem ct_90_76 : am_CT 90 76 = some (.dup, 77, 0, 0, 0) := rfl
theorem ct_90_77 : am_CT 90 77 = some (.getfield 217, 80, 11, 7, 0) := rfl
theorem ct_90_80 : am_CT 90 80 = some (.bipush 1, 81, 0, 0, 0) := rfl
theorem ct_90_81 : am_CT 90 81 = some (.iadd, 82, 0, 0, 0) := rfl
theorem ct_90_82 : am_CT 90 82 = some (.putfield 217, 85, 11, 7, 0) := rfl
theorem ct_90_85 : am_CT 90 85 = some (.aload 0, 86, 0, 0, 0) := rfl
theorem ct_90_86 : am_CT 90 86 = some (.getfield 12, 89, 0, 11, 2) := rfl
theorem ct_90_89 : am_CT 90 89 = some (.getfield 217, 92, 11, 7, 0) := rfl
theorem ct_90_92 : am_CT 90 92 = some (.ireturn, 93, 0, 0, 0) := rfl
theorem ct_91_0 : am_CT 91 0 = some (.aload 0, 1, 0, 0, 0) := rfl
theorem ct_91_1 : am_CT 91 1 = some (.getfield 12, 4, 0, 11, 2) := rfl
theorem ct_91_4 : am_CT 91 4 = some (.getfield 143, 7, 3, 7, 0) := rfl
theorem ct_91_7 : am_CT 91 7 = some (.istore 1, 8, 0, 0, 0) := rfl
theorem ct_91_8 : am_CT 91 8 = some (.bipush 0, 9, 0, 0, 0) := rfl
theorem ct_91_9 : am_CT 91 9 = some (.istore 2, 10, 0, 0, 0) := rfl
theorem ct_91_10 : am_CT 91 10 = some (.iload 2, 11, 0, 0, 0) := rfl
theorem ct_91_11 : am_CT 91 11 = some (.aload 0, 12, 0, 0, 0) := rfl
theorem ct_91_12 : am_CT 91 12 = some (.getfield 12, 15, 0, 11, 2) := rfl
theorem ct_91_15 : am_CT 91 15 = some (.getfield 217, 18, 11, 7, 0) := rfl
theorem ct_91_18 : am_CT 91 18 = some (.if_icmp .ge 92, 21, 110, 0, 0) := rfl
theorem ct_91_21 : am_CT 91 21 = some (.aload 0, 22, 0, 0, 0) := rfl
theorem ct_91_22 : am_CT 91 22 = some (.aload 0, 23, 0, 0, 0) := rfl
theorem ct_91_23 : am_CT 91 23 = some (.getfield 12, 26, 0, 11, 2) := rfl
theorem ct_91_26 : am_CT 91 26 = some (.getfield 220, 29, 9, 7, 2) := rfl
theorem ct_91_29 : am_CT 91 29 = some (.iload 2, 30, 0, 0, 0) := rfl
theorem ct_91_30 : am_CT 91 30 = some (.iaload, 31, 0, 0, 0) := rfl
theorem ct_91_31 : am_CT 91 31 = some (.invokevirtual 88, 34, 204, 1, 11) := rfl
theorem ct_91_34 : am_CT 91 34 = some (.astore 3, 35, 0, 0, 0) := rfl
theorem ct_91_35 : am_CT 91 35 = some (.aload 3, 36, 0, 0, 0) := rfl
theorem ct_91_36 : am_CT 91 36 = some (.ifnull 16, 39, 52, 0, 0) := rfl
theorem ct_91_39 : am_CT 91 39 = some (.iload 2, 40, 0, 0, 0) := rfl
theorem ct_91_40 : am_CT 91 40 = some (.aload 0, 41, 0, 0, 0) := rfl
theorem ct_91_41 : am_CT 91 41 = some (.getfield 12, 44, 0, 11, 2) := rfl
theorem ct_91_44 : am_CT 91 44 = some (.getfield 109, 47, 2, 7, 2) := rfl
theorem ct_91_47 : am_CT 91 47 = some (.bipush 3, 48, 0, 0, 0) := rfl
theorem ct_91_48 : am_CT 91 48 = some (.iaload, 49, 0, 0, 0) := rfl
theorem ct_91_49 : am_CT 91 49 = some (.if_icmp .lt 5, 52, 54, 0, 0) := rfl
theorem ct_91_52 : am_CT 91 52 = some (.iload 2, 53, 0, 0, 0) := rfl
theorem ct_91_53 : am_CT 91 53 = some (.ireturn, 54, 0, 0, 0) := rfl
theorem ct_91_54 : am_CT 91 54 = some (.aload 0, 55, 0, 0, 0) := rfl
theorem ct_91_55 : am_CT 91 55 = some (.aload 3, 56, 0, 0, 0) := rfl
theorem ct_91_56 : am_CT 91 56 = some (.invokevirtual 146, 59, 207, 1, 11) := rfl
theorem ct_91_59 : am_CT 91 59 = some (.aload 0, 60, 0, 0, 0) := rfl
theorem ct_91_60 : am_CT 91 60 = some (.getfield 24, 63, 2, 11, 2) := rfl
theorem ct_91_63 : am_CT 91 63 = some (.iload 1, 64, 0, 0, 0) := rfl
theorem ct_91_64 : am_CT 91 64 = some (.putfield 153, 67, 4, 3, 0) := rfl
theorem ct_91_67 : am_CT 91 67 = some (.aload 0, 68, 0, 0, 0) := rfl
theorem ct_91_68 : am_CT 91 68 = some (.getfield 24, 71, 2, 11, 2) := rfl
theorem ct_91_71 : am_CT 91 71 = some (.aload 3, 72, 0, 0, 0) := rfl
theorem ct_91_72 : am_CT 91 72 = some (.invokevirtual 150, 75, 117, 1, 3) := rfl
theorem ct_91_75 : am_CT 91 75 = some (.aload 0, 76, 0, 0, 0) := rfl
theorem ct_91_76 : am_CT 91 76 = some (.getfield 24, 79, 2, 11, 2) := rfl
theorem ct_91_79 : am_CT 91 79 = some (.getfield 170, 82, 13, 3, 1) := rfl
theorem ct_91_82 : am_CT 91 82 = some (.aload 0, 83, 0, 0, 0) := rfl
theorem ct_91_83 : am_CT 91 83 = some (.getfield 12, 86, 0, 11, 2) := rfl
theorem ct_91_86 : am_CT 91 86 = some (.getfield 223, 89, 10, 7, 2) := rfl
theorem ct_91_89 : am_CT 91 89 = some (.iload 2, 90, 0, 0, 0) := rfl
theorem ct_91_90 : am_CT 91 90 = some (.baload, 91, 0, 0, 0) := rfl
theorem ct_91_91 : am_CT 91 91 = some (.if_icmp .eq 5, 94, 96, 0, 0) := rfl
theorem ct_91_94 : am_CT 91 94 = some (.iload 2, 95, 0, 0, 0) := rfl
theorem ct_91_95 : am_CT 91 95 = some (.ireturn, 96, 0, 0, 0) := rfl
theorem ct_91_96 : am_CT 91 96 = some (.aload 0, 97, 0, 0, 0) := rfl
theorem ct_91_97 : am_CT 91 97 = some (.getfield 24, 100, 2, 11, 2) := rfl
theorem ct_91_100 : am_CT 91 100 = some (.getfield 153, 103, 4, 3, 0) := rfl
theorem ct_91_103 : am_CT 91 103 = some (.istore 1, 104, 0, 0, 0) := rfl
theorem ct_91_104 : am_CT 91 104 = some (.iinc 2 1, 107, 0, 0, 0) := rfl
theorem ct_91_107 : am_CT 91 107 = some (.goto (-97), 110, 10, 0, 0) := rfl
theorem ct_91_110 : am_CT 91 110 = some (.bipush (-5), 112, 0, 0, 0) := rfl
theorem ct_91_112 : am_CT 91 112 = some (.ireturn, 113, 0, 0, 0) := rfl
theorem ct_92_0 : am_CT 92 0 = some (.iload 1, 1, 0, 0, 0) := rfl
theorem ct_92_1 : am_CT 92 1 = some (.invokestatic 227, 4, 114, 1, 0) := rfl
theorem ct_92_4 : am_CT 92 4 = some (.ifCond .ne 5, 7, 9, 0, 0) := rfl
theorem ct_92_7 : am_CT 92 7 = some (.bipush (-1), 8, 0, 0, 0) := rfl
theorem ct_92_8 : am_CT 92 8 = some (.ireturn, 9, 0, 0, 0) := rfl
theorem ct_92_9 : am_CT 92 9 = some (.aload 0, 10, 0, 0, 0) := rfl
theorem ct_92_10 : am_CT 92 10 = some (.iload 1, 11, 0, 0, 0) := rfl
theorem ct_92_11 : am_CT 92 11 = some (.invokevirtual 230, 14, 215, 1, 11) := rfl
theorem ct_92_14 : am_CT 92 14 = some (.ifCond .eq 16, 17, 30, 0, 0) := rfl
theorem ct_92_17 : am_CT 92 17 = some (.aload 0, 18, 0, 0, 0) := rfl
theorem ct_92_18 : am_CT 92 18 = some (.getfield 62, 21, 11, 11, 2) := rfl
theorem ct_92_21 : am_CT 92 21 = some (.iload 1, 22, 0, 0, 0) := rfl
theorem ct_92_22 : am_CT 92 22 = some (.iaload, 23, 0, 0, 0) := rfl
theorem ct_92_23 : am_CT 92 23 = some (.bipush 3, 24, 0, 0, 0) := rfl
theorem ct_92_24 : am_CT 92 24 = some (.if_icmp .eq 6, 27, 30, 0, 0) := rfl
theorem ct_92_27 : am_CT 92 27 = some (.bipush (-12), 29, 0, 0, 0) := rfl
theorem ct_92_29 : am_CT 92 29 = some (.ireturn, 30, 0, 0, 0) := rfl
theorem ct_92_30 : am_CT 92 30 = some (.bipush 0, 31, 0, 0, 0) := rfl
theorem ct_92_31 : am_CT 92 31 = some (.istore 3, 32, 0, 0, 0) := rfl
theorem ct_92_32 : am_CT 92 32 = some (.iload 3, 33, 0, 0, 0) := rfl
theorem ct_92_33 : am_CT 92 33 = some (.aload 0, 34, 0, 0, 0) := rfl
theorem ct_92_34 : am_CT 92 34 = some (.getfield 12, 37, 0, 11, 2) := rfl
theorem ct_92_37 : am_CT 92 37 = some (.getfield 77, 40, 1, 7, 0) := rfl
theorem ct_92_40 : am_CT 92 40 = some (.if_icmp .ge 72, 43, 112, 0, 0) := rfl
theorem ct_92_43 : am_CT 92 43 = some (.iload 2, 44, 0, 0, 0) := rfl
theorem ct_92_44 : am_CT 92 44 = some (.i2l, 45, 0, 0, 0) := rfl
theorem ct_92_45 : am_CT 92 45 = some (.iload 3, 46, 0, 0, 0) := rfl
theorem ct_92_46 : am_CT 92 46 = some (.i2l, 47, 0, 0, 0) := rfl
theorem ct_92_47 : am_CT 92 47 = some (.ladd, 48, 0, 0, 0) := rfl
theorem ct_92_48 : am_CT 92 48 = some (.lstore 4, 50, 0, 0, 0) := rfl
theorem ct_92_50 : am_CT 92 50 = some (.iload 2, 51, 0, 0, 0) := rfl
theorem ct_92_51 : am_CT 92 51 = some (.ifCond .lt 16, 54, 67, 0, 0) := rfl
theorem ct_92_54 : am_CT 92 54 = some (.lload 4, 56, 0, 0, 0) := rfl
theorem ct_92_56 : am_CT 92 56 = some (.aload 0, 57, 0, 0, 0) := rfl
theorem ct_92_57 : am_CT 92 57 = some (.getfield 65, 60, 12, 11, 2) := rfl
theorem ct_92_60 : am_CT 92 60 = some (.iload 1, 61, 0, 0, 0) := rfl
theorem ct_92_61 : am_CT 92 61 = some (.iaload, 62, 0, 0, 0) := rfl
theorem ct_92_62 : am_CT 92 62 = some (.i2l, 63, 0, 0, 0) := rfl
theorem ct_92_63 : am_CT 92 63 = some (.lcmp, 64, 0, 0, 0) := rfl
theorem ct_92_64 : am_CT 92 64 = some (.ifCond .lt 8, 67, 72, 0, 0) := rfl
theorem ct_92_67 : am_CT 92 67 = some (.bipush 100, 69, 0, 0, 0) := rfl
theorem ct_92_69 : am_CT 92 69 = some (.iload 3, 70, 0, 0, 0) := rfl
theorem ct_92_70 : am_CT 92 70 = some (.iadd, 71, 0, 0, 0) := rfl
theorem ct_92_71 : am_CT 92 71 = some (.ireturn, 72, 0, 0, 0) := rfl
theorem ct_92_72 : am_CT 92 72 = some (.aload 0, 73, 0, 0, 0) := rfl
theorem ct_92_73 : am_CT 92 73 = some (.iload 3, 74, 0, 0, 0) := rfl
theorem ct_92_74 : am_CT 92 74 = some (.invokevirtual 88, 77, 204, 1, 11) := rfl
theorem ct_92_77 : am_CT 92 77 = some (.astore 6, 79, 0, 0, 0) := rfl
theorem ct_92_79 : am_CT 92 79 = some (.aload 6, 81, 0, 0, 0) := rfl
theorem ct_92_81 : am_CT 92 81 = some (.ifnull 23, 84, 104, 0, 0) := rfl
theorem ct_92_84 : am_CT 92 84 = some (.aload 0, 85, 0, 0, 0) := rfl
theorem ct_92_85 : am_CT 92 85 = some (.getfield 70, 88, 13, 11, 2) := rfl
theorem ct_92_88 : am_CT 92 88 = some (.iload 1, 89, 0, 0, 0) := rfl
theorem ct_92_89 : am_CT 92 89 = some (.aaload, 90, 0, 0, 0) := rfl
theorem ct_92_90 : am_CT 92 90 = some (.lload 4, 92, 0, 0, 0) := rfl
theorem ct_92_92 : am_CT 92 92 = some (.l2i, 93, 0, 0, 0) := rfl
theorem ct_92_93 : am_CT 92 93 = some (.laload, 94, 0, 0, 0) := rfl
theorem ct_92_94 : am_CT 92 94 = some (.aload 6, 96, 0, 0, 0) := rfl
theorem ct_92_96 : am_CT 92 96 = some (.getfield 106, 99, 5, 0, 0) := rfl
theorem ct_92_99 : am_CT 92 99 = some (.i2l, 100, 0, 0, 0) := rfl
theorem ct_92_100 : am_CT 92 100 = some (.lcmp, 101, 0, 0, 0) := rfl
theorem ct_92_101 : am_CT 92 101 = some (.ifCond .eq 5, 104, 106, 0, 0) := rfl
theorem ct_92_104 : am_CT 92 104 = some (.iload 3, 105, 0, 0, 0) := rfl
theorem ct_92_105 : am_CT 92 105 = some (.ireturn, 106, 0, 0, 0) := rfl
theorem ct_92_106 : am_CT 92 106 = some (.iinc 3 1, 109, 0, 0, 0) := rfl
theorem ct_92_109 : am_CT 92 109 = some (.goto (-77), 112, 32, 0, 0) := rfl
theorem ct_92_112 : am_CT 92 112 = some (.bipush (-5), 114, 0, 0, 0) := rfl
theorem ct_92_114 : am_CT 92 114 = some (.ireturn, 115, 0, 0, 0) := rfl
theorem ct_93_0 : am_CT 93 0 = some (.aload 0, 1, 0, 0, 0) := rfl
theorem ct_93_1 : am_CT 93 1 = some (.getfield 18, 4, 1, 11, 2) := rfl
theorem ct_93_4 : am_CT 93 4 = some (.ifnonnull 14, 7, 18, 0, 0) := rfl
theorem ct_93_7 : am_CT 93 7 = some (.aload 0, 8, 0, 0, 0) := rfl
theorem ct_93_8 : am_CT 93 8 = some (.new 9, 11, 7, 0, 0) := rfl
theorem ct_93_11 : am_CT 93 11 = some (.dup, 12, 0, 0, 0) := rfl
theorem ct_93_12 : am_CT 93 12 = some (.invokespecial 11, 15, 36, 0, 0) := rfl
theorem ct_93_15 : am_CT 93 15 = some (.putfield 18, 18, 1, 11, 2) := rfl
theorem ct_93_18 : am_CT 93 18 = some (.aload 0, 19, 0, 0, 0) := rfl
theorem ct_93_19 : am_CT 93 19 = some (.getfield 18, 22, 1, 11, 2) := rfl
theorem ct_93_22 : am_CT 93 22 = some (.aload 0, 23, 0, 0, 0) := rfl
theorem ct_93_23 : am_CT 93 23 = some (.getfield 12, 26, 0, 11, 2) := rfl
theorem ct_93_26 : am_CT 93 26 = some (.invokevirtual 233, 29, 139, 1, 7) := rfl
theorem ct_93_29 : am_CT 93 29 = some (.aload 0, 30, 0, 0, 0) := rfl
theorem ct_93_30 : am_CT 93 30 = some (.getfield 18, 33, 1, 11, 2) := rfl
theorem ct_93_33 : am_CT 93 33 = some (.invokevirtual 237, 36, 140, 0, 7) := rfl
theorem ct_93_36 : am_CT 93 36 = some (.aload 0, 37, 0, 0, 0) := rfl
theorem ct_93_37 : am_CT 93 37 = some (.getfield 12, 40, 0, 11, 2) := rfl
theorem ct_93_40 : am_CT 93 40 = some (.getfield 77, 43, 1, 7, 0) := rfl
theorem ct_93_43 : am_CT 93 43 = some (.ireturn, 44, 0, 0, 0) := rfl
theorem ct_94_0 : am_CT 94 0 = some (.aload 0, 1, 0, 0, 0) := rfl
theorem ct_94_1 : am_CT 94 1 = some (.getfield 18, 4, 1, 11, 2) := rfl
theorem ct_94_4 : am_CT 94 4 = some (.ifnonnull 6, 7, 10, 0, 0) := rfl
theorem ct_94_7 : am_CT 94 7 = some (.bipush (-3), 9, 0, 0, 0) := rfl
theorem ct_94_9 : am_CT 94 9 = some (.ireturn, 10, 0, 0, 0) := rfl
theorem ct_94_10 : am_CT 94 10 = some (.aload 0, 11, 0, 0, 0) := rfl
theorem ct_94_11 : am_CT 94 11 = some (.getfield 12, 14, 0, 11, 2) := rfl
theorem ct_94_14 : am_CT 94 14 = some (.aload 0, 15, 0, 0, 0) := rfl
theorem ct_94_15 : am_CT 94 15 = some (.getfield 18, 18, 1, 11, 2) := rfl
theorem ct_94_18 : am_CT 94 18 = some (.invokevirtual 233, 21, 139, 1, 7) := rfl
theorem ct_94_21 : am_CT 94 21 = some (.aload 0, 22, 0, 0, 0) := rfl
theorem ct_94_22 : am_CT 94 22 = some (.getfield 18, 25, 1, 11, 2) := rfl
theorem ct_94_25 : am_CT 94 25 = some (.invokevirtual 240, 28, 141, 0, 7) := rfl
theorem ct_94_28 : am_CT 94 28 = some (.aload 0, 29, 0, 0, 0) := rfl
theorem ct_94_29 : am_CT 94 29 = some (.getfield 12, 32, 0, 11, 2) := rfl
theorem ct_94_32 : am_CT 94 32 = some (.getfield 77, 35, 1, 7, 0) := rfl
theorem ct_94_35 : am_CT 94 35 = some (.ireturn, 36, 0, 0, 0) := rfl
theorem ct_95_0 : am_CT 95 0 = some (.aload 0, 1, 0, 0, 0) := rfl
theorem ct_95_1 : am_CT 95 1 = some (.getfield 59, 4, 10, 11, 2) := rfl
theorem ct_95_4 : am_CT 95 4 = some (.bipush 0, 5, 0, 0, 0) := rfl
theorem ct_95_5 : am_CT 95 5 = some (.bipush 0, 6, 0, 0, 0) := rfl
theorem ct_95_6 : am_CT 95 6 = some (.iastore, 7, 0, 0, 0) := rfl
theorem ct_95_7 : am_CT 95 7 = some (.aload 0, 8, 0, 0, 0) := rfl
theorem ct_95_8 : am_CT 95 8 = some (.iload 1, 9, 0, 0, 0) := rfl
theorem ct_95_9 : am_CT 95 9 = some (.invokevirtual 88, 12, 204, 1, 11) := rfl
theorem ct_95_12 : am_CT 95 12 = some (.astore 4, 14, 0, 0, 0) := rfl
theorem ct_95_14 : am_CT 95 14 = some (.aload 4, 16, 0, 0, 0) := rfl
theorem ct_95_16 : am_CT 95 16 = some (.ifnonnull 5, 19, 21, 0, 0) := rfl
theorem ct_95_19 : am_CT 95 19 = some (.bipush 0, 20, 0, 0, 0) := rfl
theorem ct_95_20 : am_CT 95 20 = some (.ireturn, 21, 0, 0, 0) := rfl
theorem ct_95_21 : am_CT 95 21 = some (.iload 2, 22, 0, 0, 0) := rfl
theorem ct_95_22 : am_CT 95 22 = some (.tableswitch 59 0 2 #[26, 37, 48], 48, 0, 0, 0) := rfl
theorem ct_95_48 : am_CT 95 48 = some (.aload 4, 50, 0, 0, 0) := rfl
theorem ct_95_50 : am_CT 95 50 = some (.iload 3, 51, 0, 0, 0) := rfl
theorem ct_95_51 : am_CT 95 51 = some (.aload 0, 52, 0, 0, 0) := rfl
theorem ct_95_52 : am_CT 95 52 = some (.getfield 59, 55, 10, 11, 2) := rfl
theorem ct_95_55 : am_CT 95 55 = some (.invokevirtual 243, 58, 5, 2, 0) := rfl
theorem ct_95_58 : am_CT 95 58 = some (.ireturn, 59, 0, 0, 0) := rfl
theorem ct_95_59 : am_CT 95 59 = some (.aload 4, 61, 0, 0, 0) := rfl
theorem ct_95_61 : am_CT 95 61 = some (.iload 3, 62, 0, 0, 0) := rfl
theorem ct_95_62 : am_CT 95 62 = some (.aload 0, 63, 0, 0, 0) := rfl
theorem ct_95_63 : am_CT 95 63 = some (.getfield 59, 66, 10, 11, 2) := rfl
theorem ct_95_66 : am_CT 95 66 = some (.invokevirtual 247, 69, 6, 2, 0) := rfl
theorem ct_95_69 : am_CT 95 69 = some (.ireturn, 70, 0, 0, 0) := rfl
theorem ct_95_70 : am_CT 95 70 = some (.aload 4, 72, 0, 0, 0) := rfl
theorem ct_95_72 : am_CT 95 72 = some (.iload 3, 73, 0, 0, 0) := rfl
theorem ct_95_73 : am_CT 95 73 = some (.aload 0, 74, 0, 0, 0) := rfl
theorem ct_95_74 : am_CT 95 74 = some (.getfield 59, 77, 10, 11, 2) := rfl
theorem ct_95_77 : am_CT 95 77 = some (.invokevirtual 250, 80, 7, 2, 0) := rfl
theorem ct_95_80 : am_CT 95 80 = some (.ireturn, 81, 0, 0, 0) := rfl
theorem ct_95_81 : am_CT 95 81 = some (.bipush 0, 82, 0, 0, 0) := rfl
theorem ct_95_82 : am_CT 95 82 = some (.ireturn, 83, 0, 0, 0) := rfl
theorem ct_96_0 : am_CT 96 0 = some (.iload 1, 1, 0, 0, 0) := rfl
theorem ct_96_1 : am_CT 96 1 = some (.ifCond .lt 19, 4, 20, 0, 0) := rfl
theorem ct_96_4 : am_CT 96 4 = some (.iload 1, 5, 0, 0, 0) := rfl
theorem ct_96_5 : am_CT 96 5 = some (.bipush 20, 7, 0, 0, 0) := rfl
theorem ct_96_7 : am_CT 96 7 = some (.if_icmp .ge 13, 10, 20, 0, 0) := rfl
theorem ct_96_10 : am_CT 96 10 = some (.iload 1, 11, 0, 0, 0) := rfl
theorem ct_96_11 : am_CT 96 11 = some (.aload 0, 12, 0, 0, 0) := rfl
theorem ct_96_12 : am_CT 96 12 = some (.getfield 59, 15, 10, 11, 2) := rfl
theorem ct_96_15 : am_CT 96 15 = some (.bipush 0, 16, 0, 0, 0) := rfl
theorem ct_96_16 : am_CT 96 16 = some (.iaload, 17, 0, 0, 0) := rfl
theorem ct_96_17 : am_CT 96 17 = some (.if_icmp .lt 5, 20, 22, 0, 0) := rfl
theorem ct_96_20 : am_CT 96 20 = some (.bipush (-1), 21, 0, 0, 0) := rfl
theorem ct_96_21 : am_CT 96 21 = some (.ireturn, 22, 0, 0, 0) := rfl
theorem ct_96_22 : am_CT 96 22 = some (.aload 0, 23, 0, 0, 0) := rfl
theorem ct_96_23 : am_CT 96 23 = some (.getfield 59, 26, 10, 11, 2) := rfl
theorem ct_96_26 : am_CT 96 26 = some (.bipush 1, 27, 0, 0, 0) := rfl
theorem ct_96_27 : am_CT 96 27 = some (.iload 1, 28, 0, 0, 0) := rfl
theorem ct_96_28 : am_CT 96 28 = some (.iadd, 29, 0, 0, 0) := rfl
theorem ct_96_29 : am_CT 96 29 = some (.iaload, 30, 0, 0, 0) := rfl
theorem ct_96_30 : am_CT 96 30 = some (.ireturn, 31, 0, 0, 0) := rfl
theorem ct_97_0 : am_CT 97 0 = some (.iload 2, 1, 0, 0, 0) := rfl
theorem ct_97_1 : am_CT 97 1 = some (.ifCond .lt 9, 4, 10, 0, 0) := rfl
theorem ct_97_4 : am_CT 97 4 = some (.iload 2, 5, 0, 0, 0) := rfl
theorem ct_97_5 : am_CT 97 5 = some (.bipush 6, 7, 0, 0, 0) := rfl
theorem ct_97_7 : am_CT 97 7 = some (.if_icmp .le 6, 10, 13, 0, 0) := rfl
theorem ct_97_10 : am_CT 97 10 = some (.bipush (-2), 12, 0, 0, 0) := rfl
theorem ct_97_12 : am_CT 97 12 = some (.ireturn, 13, 0, 0, 0) := rfl
theorem ct_97_13 : am_CT 97 13 = some (.aload 0, 14, 0, 0, 0) := rfl
theorem ct_97_14 : am_CT 97 14 = some (.iload 1, 15, 0, 0, 0) := rfl
theorem ct_97_15 : am_CT 97 15 = some (.invokevirtual 88, 18, 204, 1, 11) := rfl
theorem ct_97_18 : am_CT 97 18 = some (.astore 3, 19, 0, 0, 0) := rfl
theorem ct_97_19 : am_CT 97 19 = some (.aload 3, 20, 0, 0, 0) := rfl
theorem ct_97_20 : am_CT 97 20 = some (.ifnonnull 6, 23, 26, 0, 0) := rfl
theorem ct_97_23 : am_CT 97 23 = some (.bipush (-11), 25, 0, 0, 0) := rfl
theorem ct_97_25 : am_CT 97 25 = some (.ireturn, 26, 0, 0, 0) := rfl
theorem ct_97_26 : am_CT 97 26 = some (.aload 3, 27, 0, 0, 0) := rfl
theorem ct_97_27 : am_CT 97 27 = some (.iload 2, 28, 0, 0, 0) := rfl
theorem ct_97_28 : am_CT 97 28 = some (.invokestatic 253, 31, 106, 2, 0) := rfl
theorem ct_97_31 : am_CT 97 31 = some (.ifCond .eq 10, 34, 41, 0, 0) := rfl
theorem ct_97_34 : am_CT 97 34 = some (.aload 3, 35, 0, 0, 0) := rfl
theorem ct_97_35 : am_CT 97 35 = some (.getfield 92, 38, 0, 0, 0) := rfl
theorem ct_97_38 : am_CT 97 38 = some (.goto 5, 41, 43, 0, 0) := rfl
theorem ct_97_41 : am_CT 97 41 = some (.bipush (-12), 43, 0, 0, 0) := rfl
theorem ct_97_43 : am_CT 97 43 = some (.ireturn, 44, 0, 0, 0) := rfl
theorem ct_98_0 : am_CT 98 0 = some (.iload 1, 1, 0, 0, 0) := rfl
theorem ct_98_1 : am_CT 98 1 = some (.tableswitch 83 0 5 #[39, 47, 52, 60, 68, 76], 40, 0, 0, 0) := rfl
theorem ct_98_40 : am_CT 98 40 = some (.aload 0, 41, 0, 0, 0) := rfl
theorem ct_98_41 : am_CT 98 41 = some (.getfield 12, 44, 0, 11, 2) := rfl
theorem ct_98_44 : am_CT 98 44 = some (.getfield 77, 47, 1, 7, 0) := rfl
theorem ct_98_47 : am_CT 98 47 = some (.ireturn, 48, 0, 0, 0) := rfl
theorem ct_98_48 : am_CT 98 48 = some (.aload 0, 49, 0, 0, 0) := rfl
theorem ct_98_49 : am_CT 98 49 = some (.getfield 41, 52, 5, 11, 0) := rfl
theorem ct_98_52 : am_CT 98 52 = some (.ireturn, 53, 0, 0, 0) := rfl
theorem ct_98_53 : am_CT 98 53 = some (.aload 0, 54, 0, 0, 0) := rfl
theorem ct_98_54 : am_CT 98 54 = some (.getfield 12, 57, 0, 11, 2) := rfl
theorem ct_98_57 : am_CT 98 57 = some (.getfield 188, 60, 8, 7, 0) := rfl
theorem ct_98_60 : am_CT 98 60 = some (.ireturn, 61, 0, 0, 0) := rfl
theorem ct_98_61 : am_CT 98 61 = some (.aload 0, 62, 0, 0, 0) := rfl
theorem ct_98_62 : am_CT 98 62 = some (.getfield 12, 65, 0, 11, 2) := rfl
theorem ct_98_65 : am_CT 98 65 = some (.getfield 217, 68, 11, 7, 0) := rfl
theorem ct_98_68 : am_CT 98 68 = some (.ireturn, 69, 0, 0, 0) := rfl
theorem ct_98_69 : am_CT 98 69 = some (.aload 0, 70, 0, 0, 0) := rfl
theorem ct_98_70 : am_CT 98 70 = some (.getfield 31, 73, 3, 11, 2) := rfl
theorem ct_98_73 : am_CT 98 73 = some (.getfield 125, 76, 1, 8, 0) := rfl
theorem ct_98_76 : am_CT 98 76 = some (.ireturn, 77, 0, 0, 0) := rfl
theorem ct_98_77 : am_CT 98 77 = some (.aload 0, 78, 0, 0, 0) := rfl
theorem ct_98_78 : am_CT 98 78 = some (.getfield 59, 81, 10, 11, 2) := rfl
theorem ct_98_81 : am_CT 98 81 = some (.bipush 0, 82, 0, 0, 0) := rfl
theorem ct_98_82 : am_CT 98 82 = some (.iaload, 83, 0, 0, 0) := rfl
theorem ct_98_83 : am_CT 98 83 = some (.ireturn, 84, 0, 0, 0) := rfl
theorem ct_98_84 : am_CT 98 84 = some (.bipush (-2), 86, 0, 0, 0) := rfl
theorem ct_98_86 : am_CT 98 86 = some (.ireturn, 87, 0, 0, 0) := rfl
theorem ct_99_0 : am_CT 99 0 = some (.iload 1, 1, 0, 0, 0) := rfl
theorem ct_99_1 : am_CT 99 1 = some (.invokestatic 227, 4, 114, 1, 0) := rfl
theorem ct_99_4 : am_CT 99 4 = some (.ifCond .ne 5, 7, 9, 0, 0) := rfl
theorem ct_99_7 : am_CT 99 7 = some (.bipush (-1), 8, 0, 0, 0) := rfl
theorem ct_99_8 : am_CT 99 8 = some (.ireturn, 9, 0, 0, 0) := rfl
theorem ct_99_9 : am_CT 99 9 = some (.iload 2, 10, 0, 0, 0) := rfl
theorem ct_99_10 : am_CT 99 10 = some (.bipush (-1), 11, 0, 0, 0) := rfl
theorem ct_99_11 : am_CT 99 11 = some (.if_icmp .lt 8, 14, 19, 0, 0) := rfl
theorem ct_99_14 : am_CT 99 14 = some (.iload 2, 15, 0, 0, 0) := rfl
theorem ct_99_15 : am_CT 99 15 = some (.bipush 4, 16, 0, 0, 0) := rfl
theorem ct_99_16 : am_CT 99 16 = some (.if_icmp .le 6, 19, 22, 0, 0) := rfl
theorem ct_99_19 : am_CT 99 19 = some (.bipush (-2), 21, 0, 0, 0) := rfl
theorem ct_99_21 : am_CT 99 21 = some (.ireturn, 22, 0, 0, 0) := rfl
theorem ct_99_22 : am_CT 99 22 = some (.iload 2, 23, 0, 0, 0) := rfl
theorem ct_99_23 : am_CT 99 23 = some (.bipush (-1), 24, 0, 0, 0) := rfl
theorem ct_99_24 : am_CT 99 24 = some (.if_icmp .ne 7, 27, 31, 0, 0) := rfl
theorem ct_99_27 : am_CT 99 27 = some (.bipush 0, 28, 0, 0, 0) := rfl
theorem ct_99_28 : am_CT 99 28 = some (.goto 4, 31, 32, 0, 0) := rfl
theorem ct_99_31 : am_CT 99 31 = some (.iload 3, 32, 0, 0, 0) := rfl
theorem ct_99_32 : am_CT 99 32 = some (.istore 4, 34, 0, 0, 0) := rfl
theorem ct_99_34 : am_CT 99 34 = some (.iload 4, 36, 0, 0, 0) := rfl
theorem ct_99_36 : am_CT 99 36 = some (.bipush 60, 38, 0, 0, 0) := rfl
theorem ct_99_38 : am_CT 99 38 = some (.if_icmp .le 6, 41, 44, 0, 0) := rfl
theorem ct_99_41 : am_CT 99 41 = some (.bipush (-2), 43, 0, 0, 0) := rfl
theorem ct_99_43 : am_CT 99 43 = some (.ireturn, 44, 0, 0, 0) := rfl
theorem ct_99_44 : am_CT 99 44 = some (.iload 4, 46, 0, 0, 0) := rfl
theorem ct_99_46 : am_CT 99 46 = some (.ifCond .ge 6, 49, 52, 0, 0) := rfl
theorem ct_99_49 : am_CT 99 49 = some (.bipush (-14), 51, 0, 0, 0) := rfl
theorem ct_99_51 : am_CT 99 51 = some (.ireturn, 52, 0, 0, 0) := rfl
theorem ct_99_52 : am_CT 99 52 = some (.aload 0, 53, 0, 0, 0) := rfl
theorem ct_99_53 : am_CT 99 53 = some (.getfield 62, 56, 11, 11, 2) := rfl
theorem ct_99_56 : am_CT 99 56 = some (.iload 1, 57, 0, 0, 0) := rfl
theorem ct_99_57 : am_CT 99 57 = some (.iload 2, 58, 0, 0, 0) := rfl
theorem ct_99_58 : am_CT 99 58 = some (.iastore, 59, 0, 0, 0) := rfl
theorem ct_99_59 : am_CT 99 59 = some (.aload 0, 60, 0, 0, 0) := rfl
theorem ct_99_60 : am_CT 99 60 = some (.getfield 65, 63, 12, 11, 2) := rfl
theorem ct_99_63 : am_CT 99 63 = some (.iload 1, 64, 0, 0, 0) := rfl
theorem ct_99_64 : am_CT 99 64 = some (.iload 4, 66, 0, 0, 0) := rfl
theorem ct_99_66 : am_CT 99 66 = some (.iastore, 67, 0, 0, 0) := rfl
theorem ct_99_67 : am_CT 99 67 = some (.bipush 0, 68, 0, 0, 0) := rfl
theorem ct_99_68 : am_CT 99 68 = some (.istore 5, 70, 0, 0, 0) := rfl
theorem ct_99_70 : am_CT 99 70 = some (.iload 5, 72, 0, 0, 0) := rfl
theorem ct_99_72 : am_CT 99 72 = some (.iload 4, 74, 0, 0, 0) := rfl
theorem ct_99_74 : am_CT 99 74 = some (.if_icmp .ge 19, 77, 93, 0, 0) := rfl
theorem ct_99_77 : am_CT 99 77 = some (.aload 0, 78, 0, 0, 0) := rfl
theorem ct_99_78 : am_CT 99 78 = some (.getfield 70, 81, 13, 11, 2) := rfl
theorem ct_99_81 : am_CT 99 81 = some (.iload 1, 82, 0, 0, 0) := rfl
theorem ct_99_82 : am_CT 99 82 = some (.aaload, 83, 0, 0, 0) := rfl
theorem ct_99_83 : am_CT 99 83 = some (.iload 5, 85, 0, 0, 0) := rfl
theorem ct_99_85 : am_CT 99 85 = some (.sipush 0, 86, 0, 0, 0) := rfl
theorem ct_99_86 : am_CT 99 86 = some (.lastore, 87, 0, 0, 0) := rfl
theorem ct_99_87 : am_CT 99 87 = some (.iinc 5 1, 90, 0, 0, 0) := rfl
theorem ct_99_90 : am_CT 99 90 = some (.goto (-20), 93, 70, 0, 0) := rfl
theorem ct_99_93 : am_CT 99 93 = some (.bipush 1, 94, 0, 0, 0) := rfl
theorem ct_99_94 : am_CT 99 94 = some (.ireturn, 95, 0, 0, 0) := rfl
theorem ct_100_0 : am_CT 100 0 = some (.iload 1, 1, 0, 0, 0) := rfl
theorem ct_100_1 : am_CT 100 1 = some (.invokestatic 227, 4, 114, 1, 0) := rfl
theorem ct_100_4 : am_CT 100 4 = some (.ifCond .ne 5, 7, 9, 0, 0) := rfl
theorem ct_100_7 : am_CT 100 7 = some (.bipush (-1), 8, 0, 0, 0) := rfl
theorem ct_100_8 : am_CT 100 8 = some (.ireturn, 9, 0, 0, 0) := rfl
theorem ct_100_9 : am_CT 100 9 = some (.aload 0, 10, 0, 0, 0) := rfl
theorem ct_100_10 : am_CT 100 10 = some (.iload 1, 11, 0, 0, 0) := rfl
theorem ct_100_11 : am_CT 100 11 = some (.invokevirtual 230, 14, 215, 1, 11) := rfl
theorem ct_100_14 : am_CT 100 14 = some (.ifCond .ne 6, 17, 20, 0, 0) := rfl
theorem ct_100_17 : am_CT 100 17 = some (.bipush (-11), 19, 0, 0, 0) := rfl
theorem ct_100_19 : am_CT 100 19 = some (.ireturn, 20, 0, 0, 0) := rfl
theorem ct_100_20 : am_CT 100 20 = some (.iload 2, 21, 0, 0, 0) := rfl
theorem ct_100_21 : am_CT 100 21 = some (.ifCond .lt 13, 24, 34, 0, 0) := rfl
theorem ct_100_24 : am_CT 100 24 = some (.iload 2, 25, 0, 0, 0) := rfl
theorem ct_100_25 : am_CT 100 25 = some (.aload 0, 26, 0, 0, 0) := rfl
theorem ct_100_26 : am_CT 100 26 = some (.getfield 65, 29, 12, 11, 2) := rfl
theorem ct_100_29 : am_CT 100 29 = some (.iload 1, 30, 0, 0, 0) := rfl
theorem ct_100_30 : am_CT 100 30 = some (.iaload, 31, 0, 0, 0) := rfl
theorem ct_100_31 : am_CT 100 31 = some (.if_icmp .lt 6, 34, 37, 0, 0) := rfl
theorem ct_100_34 : am_CT 100 34 = some (.bipush (-13), 36, 0, 0, 0) := rfl
theorem ct_100_36 : am_CT 100 36 = some (.ireturn, 37, 0, 0, 0) := rfl
theorem ct_100_37 : am_CT 100 37 = some (.aload 0, 38, 0, 0, 0) := rfl
theorem ct_100_38 : am_CT 100 38 = some (.getfield 70, 41, 13, 11, 2) := rfl
theorem ct_100_41 : am_CT 100 41 = some (.iload 1, 42, 0, 0, 0) := rfl
theorem ct_100_42 : am_CT 100 42 = some (.aaload, 43, 0, 0, 0) := rfl
theorem ct_100_43 : am_CT 100 43 = some (.iload 2, 44, 0, 0, 0) := rfl
theorem ct_100_44 : am_CT 100 44 = some (.aload 0, 45, 0, 0, 0) := rfl
theorem ct_100_45 : am_CT 100 45 = some (.getfield 62, 48, 11, 11, 2) := rfl
theorem ct_100_48 : am_CT 100 48 = some (.iload 1, 49, 0, 0, 0) := rfl
theorem ct_100_49 : am_CT 100 49 = some (.iaload, 50, 0, 0, 0) := rfl
theorem ct_100_50 : am_CT 100 50 = some (.lload 3, 51, 0, 0, 0) := rfl
theorem ct_100_51 : am_CT 100 51 = some (.invokestatic 257, 54, 117, 2, 0) := rfl
theorem ct_100_54 : am_CT 100 54 = some (.lastore, 55, 0, 0, 0) := rfl
theorem ct_100_55 : am_CT 100 55 = some (.bipush 1, 56, 0, 0, 0) := rfl
theorem ct_100_56 : am_CT 100 56 = some (.ireturn, 57, 0, 0, 0) := rfl
theorem ct_101_0 : am_CT 101 0 = some (.iload 1, 1, 0, 0, 0) := rfl
theorem ct_101_1 : am_CT 101 1 = some (.invokestatic 227, 4, 114, 1, 0) := rfl
theorem ct_101_4 : am_CT 101 4 = some (.ifCond .eq 17, 7, 21, 0, 0) := rfl
theorem ct_101_7 : am_CT 101 7 = some (.iload 2, 8, 0, 0, 0) := rfl
theorem ct_101_8 : am_CT 101 8 = some (.ifCond .lt 13, 11, 21, 0, 0) := rfl
theorem ct_101_11 : am_CT 101 11 = some (.iload 2, 12, 0, 0, 0) := rfl
theorem ct_101_12 : am_CT 101 12 = some (.aload 0, 13, 0, 0, 0) := rfl
theorem ct_101_13 : am_CT 101 13 = some (.getfield 65, 16, 12, 11, 2) := rfl
theorem ct_101_16 : am_CT 101 16 = some (.iload 1, 17, 0, 0, 0) := rfl
theorem ct_101_17 : am_CT 101 17 = some (.iaload, 18, 0, 0, 0) := rfl
theorem ct_101_18 : am_CT 101 18 = some (.if_icmp .lt 7, 21, 25, 0, 0) := rfl
theorem ct_101_21 : am_CT 101 21 = some (.sipush (-9223372036854775808), 24, 208, 1, 0) := rfl
theorem ct_101_24 : am_CT 101 24 = some (.lreturn, 25, 0, 0, 0) := rfl
theorem ct_101_25 : am_CT 101 25 = some (.aload 0, 26, 0, 0, 0) := rfl
theorem ct_101_26 : am_CT 101 26 = some (.getfield 70, 29, 13, 11, 2) := rfl
theorem ct_101_29 : am_CT 101 29 = some (.iload 1, 30, 0, 0, 0) := rfl
theorem ct_101_30 : am_CT 101 30 = some (.aaload, 31, 0, 0, 0) := rfl
theorem ct_101_31 : am_CT 101 31 = some (.iload 2, 32, 0, 0, 0) := rfl
theorem ct_101_32 : am_CT 101 32 = some (.laload, 33, 0, 0, 0) := rfl
theorem ct_101_33 : am_CT 101 33 = some (.lreturn, 34, 0, 0, 0) := rfl
theorem ct_102_0 : am_CT 102 0 = some (.iload 1, 1, 0, 0, 0) := rfl
theorem ct_102_1 : am_CT 102 1 = some (.invokestatic 227, 4, 114, 1, 0) := rfl
theorem ct_102_4 : am_CT 102 4 = some (.ifCond .eq 10, 7, 14, 0, 0) := rfl
theorem ct_102_7 : am_CT 102 7 = some (.iload 3, 8, 0, 0, 0) := rfl
theorem ct_102_8 : am_CT 102 8 = some (.invokestatic 227, 11, 114, 1, 0) := rfl
theorem ct_102_11 : am_CT 102 11 = some (.ifCond .ne 5, 14, 16, 0, 0) := rfl
theorem ct_102_14 : am_CT 102 14 = some (.bipush (-1), 15, 0, 0, 0) := rfl
theorem ct_102_15 : am_CT 102 15 = some (.ireturn, 16, 0, 0, 0) := rfl
theorem ct_102_16 : am_CT 102 16 = some (.aload 0, 17, 0, 0, 0) := rfl
theorem ct_102_17 : am_CT 102 17 = some (.iload 1, 18, 0, 0, 0) := rfl
theorem ct_102_18 : am_CT 102 18 = some (.invokevirtual 230, 21, 215, 1, 11) := rfl
theorem ct_102_21 : am_CT 102 21 = some (.ifCond .eq 11, 24, 32, 0, 0) := rfl
theorem ct_102_24 : am_CT 102 24 = some (.aload 0, 25, 0, 0, 0) := rfl
theorem ct_102_25 : am_CT 102 25 = some (.iload 3, 26, 0, 0, 0) := rfl
theorem ct_102_26 : am_CT 102 26 = some (.invokevirtual 230, 29, 215, 1, 11) := rfl
theorem ct_102_29 : am_CT 102 29 = some (.ifCond .ne 6, 32, 35, 0, 0) := rfl
theorem ct_102_32 : am_CT 102 32 = some (.bipush (-11), 34, 0, 0, 0) := rfl
theorem ct_102_34 : am_CT 102 34 = some (.ireturn, 35, 0, 0, 0) := rfl
theorem ct_102_35 : am_CT 102 35 = some (.aload 0, 36, 0, 0, 0) := rfl
theorem ct_102_36 : am_CT 102 36 = some (.getfield 62, 39, 11, 11, 2) := rfl
theorem ct_102_39 : am_CT 102 39 = some (.iload 1, 40, 0, 0, 0) := rfl
theorem ct_102_40 : am_CT 102 40 = some (.iaload, 41, 0, 0, 0) := rfl
theorem ct_102_41 : am_CT 102 41 = some (.aload 0, 42, 0, 0, 0) := rfl
theorem ct_102_42 : am_CT 102 42 = some (.getfield 62, 45, 11, 11, 2) := rfl
theorem ct_102_45 : am_CT 102 45 = some (.iload 3, 46, 0, 0, 0) := rfl
theorem ct_102_46 : am_CT 102 46 = some (.iaload, 47, 0, 0, 0) := rfl
theorem ct_102_47 : am_CT 102 47 = some (.if_icmp .eq 6, 50, 53, 0, 0) := rfl
theorem ct_102_50 : am_CT 102 50 = some (.bipush (-12), 52, 0, 0, 0) := rfl
theorem ct_102_52 : am_CT 102 52 = some (.ireturn, 53, 0, 0, 0) := rfl
theorem ct_102_53 : am_CT 102 53 = some (.aload 0, 54, 0, 0, 0) := rfl
theorem ct_102_54 : am_CT 102 54 = some (.iload 1, 55, 0, 0, 0) := rfl
theorem ct_102_55 : am_CT 102 55 = some (.iload 2, 56, 0, 0, 0) := rfl
theorem ct_102_56 : am_CT 102 56 = some (.iload 5, 58, 0, 0, 0) := rfl
theorem ct_102_58 : am_CT 102 58 = some (.invokevirtual 261, 61, 216, 3, 11) := rfl
theorem ct_102_61 : am_CT 102 61 = some (.ifCond .eq 15, 64, 76, 0, 0) := rfl
theorem ct_102_64 : am_CT 102 64 = some (.aload 0, 65, 0, 0, 0) := rfl
theorem ct_102_65 : am_CT 102 65 = some (.iload 3, 66, 0, 0, 0) := rfl
theorem ct_102_66 : am_CT 102 66 = some (.iload 4, 68, 0, 0, 0) := rfl
theorem ct_102_68 : am_CT 102 68 = some (.iload 5, 70, 0, 0, 0) := rfl
theorem ct_102_70 : am_CT 102 70 = some (.invokevirtual 261, 73, 216, 3, 11) := rfl
theorem ct_102_73 : am_CT 102 73 = some (.ifCond .ne 6, 76, 79, 0, 0) := rfl
theorem ct_102_76 : am_CT 102 76 = some (.bipush (-13), 78, 0, 0, 0) := rfl
theorem ct_102_78 : am_CT 102 78 = some (.ireturn, 79, 0, 0, 0) := rfl
theorem ct_102_79 : am_CT 102 79 = some (.aload 0, 80, 0, 0, 0) := rfl
theorem ct_102_80 : am_CT 102 80 = some (.getfield 70, 83, 13, 11, 2) := rfl
theorem ct_102_83 : am_CT 102 83 = some (.iload 1, 84, 0, 0, 0) := rfl
theorem ct_102_84 : am_CT 102 84 = some (.aaload, 85, 0, 0, 0) := rfl
theorem ct_102_85 : am_CT 102 85 = some (.iload 2, 86, 0, 0, 0) := rfl
theorem ct_102_86 : am_CT 102 86 = some (.aload 0, 87, 0, 0, 0) := rfl
theorem ct_102_87 : am_CT 102 87 = some (.getfield 70, 90, 13, 11, 2) := rfl
theorem ct_102_90 : am_CT 102 90 = some (.iload 3, 91, 0, 0, 0) := rfl
theorem ct_102_91 : am_CT 102 91 = some (.aaload, 92, 0, 0, 0) := rfl
theorem ct_102_92 : am_CT 102 92 = some (.iload 4, 94, 0, 0, 0) := rfl
theorem ct_102_94 : am_CT 102 94 = some (.iload 5, 96, 0, 0, 0) := rfl
theorem ct_102_96 : am_CT 102 96 = some (.invokestatic 264, 99, 0, 5, 1) := rfl
theorem ct_102_99 : am_CT 102 99 = some (.iload 5, 101, 0, 0, 0) := rfl
theorem ct_102_101 : am_CT 102 101 = some (.ireturn, 102, 0, 0, 0) := rfl
theorem ct_103_0 : am_CT 103 0 = some (.iload 0, 1, 0, 0, 0) := rfl
theorem ct_103_1 : am_CT 103 1 = some (.iload 1, 2, 0, 0, 0) := rfl
theorem ct_103_2 : am_CT 103 2 = some (.if_icmp .lt 12, 5, 14, 0, 0) := rfl
theorem ct_103_5 : am_CT 103 5 = some (.iload 0, 6, 0, 0, 0) := rfl
theorem ct_103_6 : am_CT 103 6 = some (.iload 2, 7, 0, 0, 0) := rfl
theorem ct_103_7 : am_CT 103 7 = some (.if_icmp .gt 7, 10, 14, 0, 0) := rfl
theorem ct_103_10 : am_CT 103 10 = some (.bipush 1, 11, 0, 0, 0) := rfl
theorem ct_103_11 : am_CT 103 11 = some (.goto 4, 14, 15, 0, 0) := rfl
theorem ct_103_14 : am_CT 103 14 = some (.bipush 0, 15, 0, 0, 0) := rfl
theorem ct_103_15 : am_CT 103 15 = some (.ireturn, 16, 1, 0, 0) := rfl
theorem ct_104_0 : am_CT 104 0 = some (.iload 1, 1, 0, 0, 0) := rfl
theorem ct_104_1 : am_CT 104 1 = some (.bipush 0, 2, 0, 0, 0) := rfl
theorem ct_104_2 : am_CT 104 2 = some (.aload 0, 3, 0, 0, 0) := rfl
theorem ct_104_3 : am_CT 104 3 = some (.getfield 12, 6, 0, 11, 2) := rfl
theorem ct_104_6 : am_CT 104 6 = some (.getfield 77, 9, 1, 7, 0) := rfl
theorem ct_104_9 : am_CT 104 9 = some (.bipush 1, 10, 0, 0, 0) := rfl
theorem ct_104_10 : am_CT 104 10 = some (.isub, 11, 0, 0, 0) := rfl
theorem ct_104_11 : am_CT 104 11 = some (.invokestatic 73, 14, 103, 3, 0) := rfl
theorem ct_104_14 : am_CT 104 14 = some (.ifCond .eq 15, 17, 29, 0, 0) := rfl
theorem ct_104_17 : am_CT 104 17 = some (.aload 0, 18, 0, 0, 0) := rfl
theorem ct_104_18 : am_CT 104 18 = some (.getfield 12, 21, 0, 11, 2) := rfl
theorem ct_104_21 : am_CT 104 21 = some (.getfield 80, 24, 0, 7, 2) := rfl
theorem ct_104_24 : am_CT 104 24 = some (.iload 1, 25, 0, 0, 0) := rfl
theorem ct_104_25 : am_CT 104 25 = some (.aaload, 26, 0, 0, 0) := rfl
theorem ct_104_26 : am_CT 104 26 = some (.goto 4, 29, 30, 0, 0) := rfl
theorem ct_104_29 : am_CT 104 29 = some (.aconst_null, 30, 0, 0, 0) := rfl
theorem ct_104_30 : am_CT 104 30 = some (.areturn, 31, 0, 0, 0) := rfl
theorem ct_105_0 : am_CT 105 0 = some (.iload 0, 1, 0, 0, 0) := rfl
theorem ct_105_1 : am_CT 105 1 = some (.tableswitch 123 1 6 #[39, 53, 67, 81, 95, 109], 40, 0, 0, 0) := rfl
theorem ct_105_40 : am_CT 105 40 = some (.new 270, 43, 1, 0, 0) := rfl
theorem ct_105_43 : am_CT 105 43 = some (.dup, 44, 0, 0, 0) := rfl
theorem ct_105_44 : am_CT 105 44 = some (.iload 0, 45, 0, 0, 0) := rfl
theorem ct_105_45 : am_CT 105 45 = some (.iload 1, 46, 0, 0, 0) := rfl
theorem ct_105_46 : am_CT 105 46 = some (.iload 2, 47, 0, 0, 0) := rfl
theorem ct_105_47 : am_CT 105 47 = some (.iload 3, 48, 0, 0, 0) := rfl
theorem ct_105_48 : am_CT 105 48 = some (.iload 4, 50, 0, 0, 0) := rfl
theorem ct_105_50 : am_CT 105 50 = some (.invokespecial 272, 53, 10, 5, 0) := rfl
theorem ct_105_53 : am_CT 105 53 = some (.areturn, 54, 0, 0, 0) := rfl
theorem ct_105_54 : am_CT 105 54 = some (.new 275, 57, 2, 0, 0) := rfl
theorem ct_105_57 : am_CT 105 57 = some (.dup, 58, 0, 0, 0) := rfl
theorem ct_105_58 : am_CT 105 58 = some (.iload 0, 59, 0, 0, 0) := rfl
theorem ct_105_59 : am_CT 105 59 = some (.iload 1, 60, 0, 0, 0) := rfl
theorem ct_105_60 : am_CT 105 60 = some (.iload 2, 61, 0, 0, 0) := rfl
theorem ct_105_61 : am_CT 105 61 = some (.iload 3, 62, 0, 0, 0) := rfl
theorem ct_105_62 : am_CT 105 62 = some (.iload 4, 64, 0, 0, 0) := rfl
theorem ct_105_64 : am_CT 105 64 = some (.invokespecial 277, 67, 13, 5, 0) := rfl
theorem ct_105_67 : am_CT 105 67 = some (.areturn, 68, 0, 0, 0) := rfl
theorem ct_105_68 : am_CT 105 68 = some (.new 278, 71, 5, 0, 0) := rfl
theorem ct_105_71 : am_CT 105 71 = some (.dup, 72, 0, 0, 0) := rfl
theorem ct_105_72 : am_CT 105 72 = some (.iload 0, 73, 0, 0, 0) := rfl
theorem ct_105_73 : am_CT 105 73 = some (.iload 1, 74, 0, 0, 0) := rfl
theorem ct_105_74 : am_CT 105 74 = some (.iload 2, 75, 0, 0, 0) := rfl
theorem ct_105_75 : am_CT 105 75 = some (.iload 3, 76, 0, 0, 0) := rfl
theorem ct_105_76 : am_CT 105 76 = some (.iload 4, 78, 0, 0, 0) := rfl
theorem ct_105_78 : am_CT 105 78 = some (.invokespecial 280, 81, 27, 5, 0) := rfl
theorem ct_105_81 : am_CT 105 81 = some (.areturn, 82, 0, 0, 0) := rfl
theorem ct_105_82 : am_CT 105 82 = some (.new 281, 85, 4, 0, 0) := rfl
theorem ct_105_85 : am_CT 105 85 = some (.dup, 86, 0, 0, 0) := rfl
theorem ct_105_86 : am_CT 105 86 = some (.iload 0, 87, 0, 0, 0) := rfl
theorem ct_105_87 : am_CT 105 87 = some (.iload 1, 88, 0, 0, 0) := rfl
theorem ct_105_88 : am_CT 105 88 = some (.iload 2, 89, 0, 0, 0) := rfl
theorem ct_105_89 : am_CT 105 89 = some (.iload 3, 90, 0, 0, 0) := rfl
theorem ct_105_90 : am_CT 105 90 = some (.iload 4, 92, 0, 0, 0) := rfl
theorem ct_105_92 : am_CT 105 92 = some (.invokespecial 283, 95, 22, 5, 0) := rfl
theorem ct_105_95 : am_CT 105 95 = some (.areturn, 96, 0, 0, 0) := rfl
theorem ct_105_96 : am_CT 105 96 = some (.new 284, 99, 10, 0, 0) := rfl
theorem ct_105_99 : am_CT 105 99 = some (.dup, 100, 0, 0, 0) := rfl
theorem ct_105_100 : am_CT 105 100 = some (.iload 0, 101, 0, 0, 0) := rfl
theorem ct_105_101 : am_CT 105 101 = some (.iload 1, 102, 0, 0, 0) := rfl
theorem ct_105_102 : am_CT 105 102 = some (.iload 2, 103, 0, 0, 0) := rfl
theorem ct_105_103 : am_CT 105 103 = some (.iload 3, 104, 0, 0, 0) := rfl
theorem ct_105_104 : am_CT 105 104 = some (.iload 4, 106, 0, 0, 0) := rfl
theorem ct_105_106 : am_CT 105 106 = some (.invokespecial 286, 109, 63, 5, 0) := rfl
theorem ct_105_109 : am_CT 105 109 = some (.areturn, 110, 0, 0, 0) := rfl
theorem ct_105_110 : am_CT 105 110 = some (.new 112, 113, 9, 0, 0) := rfl
theorem ct_105_113 : am_CT 105 113 = some (.dup, 114, 0, 0, 0) := rfl
theorem ct_105_114 : am_CT 105 114 = some (.iload 0, 115, 0, 0, 0) := rfl
theorem ct_105_115 : am_CT 105 115 = some (.iload 1, 116, 0, 0, 0) := rfl
theorem ct_105_116 : am_CT 105 116 = some (.iload 2, 117, 0, 0, 0) := rfl
theorem ct_105_117 : am_CT 105 117 = some (.iload 3, 118, 0, 0, 0) := rfl
theorem ct_105_118 : am_CT 105 118 = some (.iload 4, 120, 0, 0, 0) := rfl
theorem ct_105_120 : am_CT 105 120 = some (.invokespecial 287, 123, 57, 5, 0) := rfl
theorem ct_105_123 : am_CT 105 123 = some (.areturn, 124, 0, 0, 0) := rfl
theorem ct_105_124 : am_CT 105 124 = some (.new 93, 127, 0, 0, 0) := rfl
theorem ct_105_127 : am_CT 105 127 = some (.dup, 128, 0, 0, 0) := rfl
theorem ct_105_128 : am_CT 105 128 = some (.iload 0, 129, 0, 0, 0) := rfl
theorem ct_105_129 : am_CT 105 129 = some (.iload 1, 130, 0, 0, 0) := rfl
theorem ct_105_130 : am_CT 105 130 = some (.iload 2, 131, 0, 0, 0) := rfl
theorem ct_105_131 : am_CT 105 131 = some (.iload 3, 132, 0, 0, 0) := rfl
theorem ct_105_132 : am_CT 105 132 = some (.iload 4, 134, 0, 0, 0) := rfl
theorem ct_105_134 : am_CT 105 134 = some (.invokespecial 288, 137, 0, 5, 0) := rfl
theorem ct_105_137 : am_CT 105 137 = some (.areturn, 138, 0, 0, 0) := rfl
theorem ct_106_0 : am_CT 106 0 = some (.iload 1, 1, 0, 0, 0) := rfl
theorem ct_106_1 : am_CT 106 1 = some (.tableswitch 69 1 6 #[39, 44, 49, 54, 59, 64], 40, 0, 0, 0) := rfl
theorem ct_106_40 : am_CT 106 40 = some (.aload 0, 41, 0, 0, 0) := rfl
theorem ct_106_41 : am_CT 106 41 = some (.instanceof 270, 44, 1, 0, 0) := rfl
theorem ct_106_44 : am_CT 106 44 = some (.ireturn, 45, 1, 0, 0) := rfl
theorem ct_106_45 : am_CT 106 45 = some (.aload 0, 46, 0, 0, 0) := rfl
theorem ct_106_46 : am_CT 106 46 = some (.instanceof 275, 49, 2, 0, 0) := rfl
theorem ct_106_49 : am_CT 106 49 = some (.ireturn, 50, 1, 0, 0) := rfl
theorem ct_106_50 : am_CT 106 50 = some (.aload 0, 51, 0, 0, 0) := rfl
theorem ct_106_51 : am_CT 106 51 = some (.instanceof 278, 54, 5, 0, 0) := rfl
theorem ct_106_54 : am_CT 106 54 = some (.ireturn, 55, 1, 0, 0) := rfl
theorem ct_106_55 : am_CT 106 55 = some (.aload 0, 56, 0, 0, 0) := rfl
theorem ct_106_56 : am_CT 106 56 = some (.instanceof 281, 59, 4, 0, 0) := rfl
theorem ct_106_59 : am_CT 106 59 = some (.ireturn, 60, 1, 0, 0) := rfl
theorem ct_106_60 : am_CT 106 60 = some (.aload 0, 61, 0, 0, 0) := rfl
theorem ct_106_61 : am_CT 106 61 = some (.instanceof 284, 64, 10, 0, 0) := rfl
theorem ct_106_64 : am_CT 106 64 = some (.ireturn, 65, 1, 0, 0) := rfl
theorem ct_106_65 : am_CT 106 65 = some (.aload 0, 66, 0, 0, 0) := rfl
theorem ct_106_66 : am_CT 106 66 = some (.instanceof 112, 69, 9, 0, 0) := rfl
theorem ct_106_69 : am_CT 106 69 = some (.ireturn, 70, 1, 0, 0) := rfl
theorem ct_106_70 : am_CT 106 70 = some (.bipush 1, 71, 0, 0, 0) := rfl
theorem ct_106_71 : am_CT 106 71 = some (.ireturn, 72, 1, 0, 0) := rfl
theorem ct_107_0 : am_CT 107 0 = some (.aload 0, 1, 0, 0, 0) := rfl
theorem ct_107_1 : am_CT 107 1 = some (.getfield 24, 4, 2, 11, 2) := rfl
theorem ct_107_4 : am_CT 107 4 = some (.aload 0, 5, 0, 0, 0) := rfl
theorem ct_107_5 : am_CT 107 5 = some (.getfield 12, 8, 0, 11, 2) := rfl
theorem ct_107_8 : am_CT 107 8 = some (.getfield 136, 11, 4, 7, 0) := rfl
theorem ct_107_11 : am_CT 107 11 = some (.bipush 0, 12, 0, 0, 0) := rfl
theorem ct_107_12 : am_CT 107 12 = some (.bipush 5, 13, 0, 0, 0) := rfl
theorem ct_107_13 : am_CT 107 13 = some (.invokestatic 73, 16, 103, 3, 0) := rfl
theorem ct_107_16 : am_CT 107 16 = some (.ifCond .eq 18, 19, 34, 0, 0) := rfl
theorem ct_107_19 : am_CT 107 19 = some (.aload 0, 20, 0, 0, 0) := rfl
theorem ct_107_20 : am_CT 107 20 = some (.getfield 37, 23, 4, 11, 2) := rfl
theorem ct_107_23 : am_CT 107 23 = some (.aload 0, 24, 0, 0, 0) := rfl
theorem ct_107_24 : am_CT 107 24 = some (.getfield 12, 27, 0, 11, 2) := rfl
theorem ct_107_27 : am_CT 107 27 = some (.getfield 136, 30, 4, 7, 0) := rfl
theorem ct_107_30 : am_CT 107 30 = some (.aaload, 31, 0, 0, 0) := rfl
theorem ct_107_31 : am_CT 107 31 = some (.goto 4, 34, 35, 0, 0) := rfl
theorem ct_107_34 : am_CT 107 34 = some (.aconst_null, 35, 0, 0, 0) := rfl
theorem ct_107_35 : am_CT 107 35 = some (.putfield 289, 38, 0, 3, 2) := rfl
theorem ct_107_38 : am_CT 107 38 = some (.aload 0, 39, 0, 0, 0) := rfl
theorem ct_107_39 : am_CT 107 39 = some (.getfield 24, 42, 2, 11, 2) := rfl
theorem ct_107_42 : am_CT 107 42 = some (.aload 1, 43, 0, 0, 0) := rfl
theorem ct_107_43 : am_CT 107 43 = some (.getfield 100, 46, 3, 0, 0) := rfl
theorem ct_107_46 : am_CT 107 46 = some (.putfield 291, 49, 1, 3, 0) := rfl
theorem ct_107_49 : am_CT 107 49 = some (.aload 0, 50, 0, 0, 0) := rfl
theorem ct_107_50 : am_CT 107 50 = some (.getfield 24, 53, 2, 11, 2) := rfl
theorem ct_107_53 : am_CT 107 53 = some (.aload 1, 54, 0, 0, 0) := rfl
theorem ct_107_54 : am_CT 107 54 = some (.getfield 103, 57, 4, 0, 0) := rfl
theorem ct_107_57 : am_CT 107 57 = some (.putfield 292, 60, 2, 3, 0) := rfl
theorem ct_107_60 : am_CT 107 60 = some (.aload 0, 61, 0, 0, 0) := rfl
theorem ct_107_61 : am_CT 107 61 = some (.getfield 24, 64, 2, 11, 2) := rfl
theorem ct_107_64 : am_CT 107 64 = some (.aload 0, 65, 0, 0, 0) := rfl
theorem ct_107_65 : am_CT 107 65 = some (.getfield 12, 68, 0, 11, 2) := rfl
theorem ct_107_68 : am_CT 107 68 = some (.invokevirtual 139, 71, 137, 0, 7) := rfl
theorem ct_107_71 : am_CT 107 71 = some (.putfield 293, 74, 3, 3, 0) := rfl
theorem ct_107_74 : am_CT 107 74 = some (.aload 0, 75, 0, 0, 0) := rfl
theorem ct_107_75 : am_CT 107 75 = some (.getfield 24, 78, 2, 11, 2) := rfl
theorem ct_107_78 : am_CT 107 78 = some (.aload 0, 79, 0, 0, 0) := rfl
theorem ct_107_79 : am_CT 107 79 = some (.getfield 12, 82, 0, 11, 2) := rfl
theorem ct_107_82 : am_CT 107 82 = some (.getfield 143, 85, 3, 7, 0) := rfl
theorem ct_107_85 : am_CT 107 85 = some (.putfield 153, 88, 4, 3, 0) := rfl
theorem ct_107_88 : am_CT 107 88 = some (.aload 0, 89, 0, 0, 0) := rfl
theorem ct_107_89 : am_CT 107 89 = some (.getfield 24, 92, 2, 11, 2) := rfl
theorem ct_107_92 : am_CT 107 92 = some (.bipush 0, 93, 0, 0, 0) := rfl
theorem ct_107_93 : am_CT 107 93 = some (.putfield 210, 96, 5, 3, 0) := rfl
theorem ct_107_96 : am_CT 107 96 = some (.aload 0, 97, 0, 0, 0) := rfl
theorem ct_107_97 : am_CT 107 97 = some (.getfield 24, 100, 2, 11, 2) := rfl
theorem ct_107_100 : am_CT 107 100 = some (.bipush 0, 101, 0, 0, 0) := rfl
theorem ct_107_101 : am_CT 107 101 = some (.putfield 205, 104, 6, 3, 1) := rfl
theorem ct_107_104 : am_CT 107 104 = some (.return_, 105, 0, 0, 0) := rfl
theorem ct_108_0 : am_CT 108 0 = some (.aload 0, 1, 0, 0, 0) := rfl
theorem ct_108_1 : am_CT 108 1 = some (.aload 1, 2, 0, 0, 0) := rfl
theorem ct_108_2 : am_CT 108 2 = some (.invokevirtual 146, 5, 207, 1, 11) := rfl
theorem ct_108_5 : am_CT 108 5 = some (.aload 0, 6, 0, 0, 0) := rfl
theorem ct_108_6 : am_CT 108 6 = some (.getfield 24, 9, 2, 11, 2) := rfl
theorem ct_108_9 : am_CT 108 9 = some (.dup, 10, 0, 0, 0) := rfl
theorem ct_108_10 : am_CT 108 10 = some (.getfield 153, 13, 4, 3, 0) := rfl
theorem ct_108_13 : am_CT 108 13 = some (.iload 2, 14, 0, 0, 0) := rfl
theorem ct_108_14 : am_CT 108 14 = some (.iadd, 15, 0, 0, 0) := rfl
theorem ct_108_15 : am_CT 108 15 = some (.putfield 153, 18, 4, 3, 0) := rfl
theorem ct_108_18 : am_CT 108 18 = some (.aload 0, 19, 0, 0, 0) := rfl
theorem ct_108_19 : am_CT 108 19 = some (.getfield 24, 22, 2, 11, 2) := rfl
theorem ct_108_22 : am_CT 108 22 = some (.aload 1, 23, 0, 0, 0) := rfl
theorem ct_108_23 : am_CT 108 23 = some (.invokevirtual 150, 26, 117, 1, 3) := rfl
theorem ct_108_26 : am_CT 108 26 = some (.return_, 27, 0, 0, 0) := rfl
theorem ct_109_0 : am_CT 109 0 = some (.aload 0, 1, 0, 0, 0) := rfl
theorem ct_109_1 : am_CT 109 1 = some (.iload 4, 3, 0, 0, 0) := rfl
theorem ct_109_3 : am_CT 109 3 = some (.invokevirtual 88, 6, 204, 1, 11) := rfl
theorem ct_109_6 : am_CT 109 6 = some (.astore 6, 8, 0, 0, 0) := rfl
theorem ct_109_8 : am_CT 109 8 = some (.aload 6, 10, 0, 0, 0) := rfl
theorem ct_109_10 : am_CT 109 10 = some (.ifnull 13, 13, 23, 0, 0) := rfl
theorem ct_109_13 : am_CT 109 13 = some (.iload 5, 15, 0, 0, 0) := rfl
theorem ct_109_15 : am_CT 109 15 = some (.bipush 0, 16, 0, 0, 0) := rfl
theorem ct_109_16 : am_CT 109 16 = some (.bipush 1, 17, 0, 0, 0) := rfl
theorem ct_109_17 : am_CT 109 17 = some (.invokestatic 73, 20, 103, 3, 0) := rfl
theorem ct_109_20 : am_CT 109 20 = some (.ifCond .ne 5, 23, 25, 0, 0) := rfl
theorem ct_109_23 : am_CT 109 23 = some (.bipush (-1), 24, 0, 0, 0) := rfl
theorem ct_109_24 : am_CT 109 24 = some (.ireturn, 25, 0, 0, 0) := rfl
theorem ct_109_25 : am_CT 109 25 = some (.iload 2, 26, 0, 0, 0) := rfl
theorem ct_109_26 : am_CT 109 26 = some (.istore 7, 28, 0, 0, 0) := rfl
theorem ct_109_28 : am_CT 109 28 = some (.bipush (-1), 29, 0, 0, 0) := rfl
theorem ct_109_29 : am_CT 109 29 = some (.istore 8, 31, 0, 0, 0) := rfl
theorem ct_109_31 : am_CT 109 31 = some (.iload 2, 32, 0, 0, 0) := rfl
theorem ct_109_32 : am_CT 109 32 = some (.istore 9, 34, 0, 0, 0) := rfl
theorem ct_109_34 : am_CT 109 34 = some (.iload 9, 36, 0, 0, 0) := rfl
theorem ct_109_36 : am_CT 109 36 = some (.iload 3, 37, 0, 0, 0) := rfl
theorem ct_109_37 : am_CT 109 37 = some (.if_icmp .gt 56, 40, 93, 0, 0) := rfl
theorem ct_109_40 : am_CT 109 40 = some (.aload 0, 41, 0, 0, 0) := rfl
theorem ct_109_41 : am_CT 109 41 = some (.aload 6, 43, 0, 0, 0) := rfl
theorem ct_109_43 : am_CT 109 43 = some (.invokevirtual 146, 46, 207, 1, 11) := rfl
theorem ct_109_46 : am_CT 109 46 = some (.aload 0, 47, 0, 0, 0) := rfl
theorem ct_109_47 : am_CT 109 47 = some (.iload 1, 48, 0, 0, 0) := rfl
theorem ct_109_48 : am_CT 109 48 = some (.iload 9, 50, 0, 0, 0) := rfl
theorem ct_109_50 : am_CT 109 50 = some (.invokevirtual 295, 53, 210, 2, 11) := rfl
theorem ct_109_53 : am_CT 109 53 = some (.aload 0, 54, 0, 0, 0) := rfl
theorem ct_109_54 : am_CT 109 54 = some (.getfield 24, 57, 2, 11, 2) := rfl
theorem ct_109_57 : am_CT 109 57 = some (.aload 6, 59, 0, 0, 0) := rfl
theorem ct_109_59 : am_CT 109 59 = some (.invokevirtual 150, 62, 117, 1, 3) := rfl
theorem ct_109_62 : am_CT 109 62 = some (.aload 0, 63, 0, 0, 0) := rfl
theorem ct_109_63 : am_CT 109 63 = some (.getfield 24, 66, 2, 11, 2) := rfl
theorem ct_109_66 : am_CT 109 66 = some (.getfield 154, 69, 12, 3, 0) := rfl
theorem ct_109_69 : am_CT 109 69 = some (.iload 8, 71, 0, 0, 0) := rfl
theorem ct_109_71 : am_CT 109 71 = some (.if_icmp .le 16, 74, 87, 0, 0) := rfl
theorem ct_109_74 : am_CT 109 74 = some (.aload 0, 75, 0, 0, 0) := rfl
theorem ct_109_75 : am_CT 109 75 = some (.getfield 24, 78, 2, 11, 2) := rfl
theorem ct_109_78 : am_CT 109 78 = some (.getfield 154, 81, 12, 3, 0) := rfl
theorem ct_109_81 : am_CT 109 81 = some (.istore 8, 83, 0, 0, 0) := rfl
theorem ct_109_83 : am_CT 109 83 = some (.iload 9, 85, 0, 0, 0) := rfl
theorem ct_109_85 : am_CT 109 85 = some (.istore 7, 87, 0, 0, 0) := rfl
theorem ct_109_87 : am_CT 109 87 = some (.iinc 9 1, 90, 0, 0, 0) := rfl
theorem ct_109_90 : am_CT 109 90 = some (.goto (-56), 93, 34, 0, 0) := rfl
theorem ct_109_93 : am_CT 109 93 = some (.iload 5, 95, 0, 0, 0) := rfl
theorem ct_109_95 : am_CT 109 95 = some (.ifCond .ne 8, 98, 103, 0, 0) := rfl
theorem ct_109_98 : am_CT 109 98 = some (.iload 7, 100, 0, 0, 0) := rfl
theorem ct_109_100 : am_CT 109 100 = some (.goto 5, 103, 105, 0, 0) := rfl
theorem ct_109_103 : am_CT 109 103 = some (.iload 8, 105, 0, 0, 0) := rfl
theorem ct_109_105 : am_CT 109 105 = some (.ireturn, 106, 0, 0, 0) := rfl
theorem ct_110_0 : am_CT 110 0 = some (.iload 1, 1, 0, 0, 0) := rfl
theorem ct_110_1 : am_CT 110 1 = some (.tableswitch 79 0 2 #[27, 38, 49], 28, 0, 0, 0) := rfl
theorem ct_110_28 : am_CT 110 28 = some (.aload 0, 29, 0, 0, 0) := rfl
theorem ct_110_29 : am_CT 110 29 = some (.getfield 24, 32, 2, 11, 2) := rfl
theorem ct_110_32 : am_CT 110 32 = some (.iload 2, 33, 0, 0, 0) := rfl
theorem ct_110_33 : am_CT 110 33 = some (.putfield 292, 36, 2, 3, 0) := rfl
theorem ct_110_36 : am_CT 110 36 = some (.goto 57, 39, 93, 0, 0) := rfl
theorem ct_110_39 : am_CT 110 39 = some (.aload 0, 40, 0, 0, 0) := rfl
theorem ct_110_40 : am_CT 110 40 = some (.getfield 24, 43, 2, 11, 2) := rfl
theorem ct_110_43 : am_CT 110 43 = some (.iload 2, 44, 0, 0, 0) := rfl
theorem ct_110_44 : am_CT 110 44 = some (.putfield 291, 47, 1, 3, 0) := rfl
theorem ct_110_47 : am_CT 110 47 = some (.goto 46, 50, 93, 0, 0) := rfl
theorem ct_110_50 : am_CT 110 50 = some (.aload 0, 51, 0, 0, 0) := rfl
theorem ct_110_51 : am_CT 110 51 = some (.getfield 24, 54, 2, 11, 2) := rfl
theorem ct_110_54 : am_CT 110 54 = some (.iload 2, 55, 0, 0, 0) := rfl
theorem ct_110_55 : am_CT 110 55 = some (.bipush 10, 57, 0, 0, 0) := rfl
theorem ct_110_57 : am_CT 110 57 = some (.idiv, 58, 0, 0, 0) := rfl
theorem ct_110_58 : am_CT 110 58 = some (.iload 2, 59, 0, 0, 0) := rfl
theorem ct_110_59 : am_CT 110 59 = some (.bipush 10, 61, 0, 0, 0) := rfl
theorem ct_110_61 : am_CT 110 61 = some (.irem, 62, 0, 0, 0) := rfl
theorem ct_110_62 : am_CT 110 62 = some (.aload 0, 63, 0, 0, 0) := rfl
theorem ct_110_63 : am_CT 110 63 = some (.getfield 12, 66, 0, 11, 2) := rfl
theorem ct_110_66 : am_CT 110 66 = some (.getfield 109, 69, 2, 7, 2) := rfl
theorem ct_110_69 : am_CT 110 69 = some (.bipush 2, 70, 0, 0, 0) := rfl
theorem ct_110_70 : am_CT 110 70 = some (.iaload, 71, 0, 0, 0) := rfl
theorem ct_110_71 : am_CT 110 71 = some (.invokestatic 299, 74, 38, 3, 0) := rfl
theorem ct_110_74 : am_CT 110 74 = some (.putfield 293, 77, 3, 3, 0) := rfl
theorem ct_110_77 : am_CT 110 77 = some (.goto 16, 80, 93, 0, 0) := rfl
theorem ct_110_80 : am_CT 110 80 = some (.aload 0, 81, 0, 0, 0) := rfl
theorem ct_110_81 : am_CT 110 81 = some (.getfield 24, 84, 2, 11, 2) := rfl
theorem ct_110_84 : am_CT 110 84 = some (.dup, 85, 0, 0, 0) := rfl
theorem ct_110_85 : am_CT 110 85 = some (.getfield 153, 88, 4, 3, 0) := rfl
theorem ct_110_88 : am_CT 110 88 = some (.iload 2, 89, 0, 0, 0) := rfl
theorem ct_110_89 : am_CT 110 89 = some (.iadd, 90, 0, 0, 0) := rfl
theorem ct_110_90 : am_CT 110 90 = some (.putfield 153, 93, 4, 3, 0) := rfl
theorem ct_110_93 : am_CT 110 93 = some (.return_, 94, 0, 0, 0) := rfl
theorem ct_111_0 : am_CT 111 0 = some (.bipush 0, 1, 0, 0, 0) := rfl
theorem ct_111_1 : am_CT 111 1 = some (.istore 2, 2, 0, 0, 0) := rfl
theorem ct_111_2 : am_CT 111 2 = some (.iload 2, 3, 0, 0, 0) := rfl
theorem ct_111_3 : am_CT 111 3 = some (.bipush 5, 4, 0, 0, 0) := rfl
theorem ct_111_4 : am_CT 111 4 = some (.if_icmp .ge 16, 7, 20, 0, 0) := rfl
theorem ct_111_7 : am_CT 111 7 = some (.aload 0, 8, 0, 0, 0) := rfl
theorem ct_111_8 : am_CT 111 8 = some (.getfield 49, 11, 7, 11, 2) := rfl
theorem ct_111_11 : am_CT 111 11 = some (.iload 2, 12, 0, 0, 0) := rfl
theorem ct_111_12 : am_CT 111 12 = some (.bipush 0, 13, 0, 0, 0) := rfl
theorem ct_111_13 : am_CT 111 13 = some (.iastore, 14, 0, 0, 0) := rfl
theorem ct_111_14 : am_CT 111 14 = some (.iinc 2 1, 17, 0, 0, 0) := rfl
theorem ct_111_17 : am_CT 111 17 = some (.goto (-15), 20, 2, 0, 0) := rfl
theorem ct_111_20 : am_CT 111 20 = some (.aload 0, 21, 0, 0, 0) := rfl
theorem ct_111_21 : am_CT 111 21 = some (.bipush 0, 22, 0, 0, 0) := rfl
theorem ct_111_22 : am_CT 111 22 = some (.putfield 53, 25, 8, 11, 0) := rfl
theorem ct_111_25 : am_CT 111 25 = some (.aload 0, 26, 0, 0, 0) := rfl
theorem ct_111_26 : am_CT 111 26 = some (.aload 0, 27, 0, 0, 0) := rfl
theorem ct_111_27 : am_CT 111 27 = some (.getfield 12, 30, 0, 11, 2) := rfl
theorem ct_111_30 : am_CT 111 30 = some (.getfield 143, 33, 3, 7, 0) := rfl
theorem ct_111_33 : am_CT 111 33 = some (.putfield 56, 36, 9, 11, 0) := rfl
theorem ct_111_36 : am_CT 111 36 = some (.bipush 0, 37, 0, 0, 0) := rfl
theorem ct_111_37 : am_CT 111 37 = some (.istore 2, 38, 0, 0, 0) := rfl
theorem ct_111_38 : am_CT 111 38 = some (.bipush 0, 39, 0, 0, 0) := rfl
theorem ct_111_39 : am_CT 111 39 = some (.istore 3, 40, 0, 0, 0) := rfl
theorem ct_111_40 : am_CT 111 40 = some (.iload 3, 41, 0, 0, 0) := rfl
theorem ct_111_41 : am_CT 111 41 = some (.iload 1, 42, 0, 0, 0) := rfl
theorem ct_111_42 : am_CT 111 42 = some (.if_icmp .ge 129, 45, 171, 0, 0) := rfl
theorem ct_111_45 : am_CT 111 45 = some (.iload 3, 46, 0, 0, 0) := rfl
theorem ct_111_46 : am_CT 111 46 = some (.aload 0, 47, 0, 0, 0) := rfl
theorem ct_111_47 : am_CT 111 47 = some (.getfield 12, 50, 0, 11, 2) := rfl
theorem ct_111_50 : am_CT 111 50 = some (.getfield 109, 53, 2, 7, 2) := rfl
theorem ct_111_53 : am_CT 111 53 = some (.bipush 3, 54, 0, 0, 0) := rfl
theorem ct_111_54 : am_CT 111 54 = some (.iaload, 55, 0, 0, 0) := rfl
theorem ct_111_55 : am_CT 111 55 = some (.if_icmp .ge 116, 58, 171, 0, 0) := rfl
theorem ct_111_58 : am_CT 111 58 = some (.aload 0, 59, 0, 0, 0) := rfl
theorem ct_111_59 : am_CT 111 59 = some (.iload 2, 60, 0, 0, 0) := rfl
theorem ct_111_60 : am_CT 111 60 = some (.invokevirtual 88, 63, 204, 1, 11) := rfl
theorem ct_111_63 : am_CT 111 63 = some (.astore 4, 65, 0, 0, 0) := rfl
theorem ct_111_65 : am_CT 111 65 = some (.aload 4, 67, 0, 0, 0) := rfl
theorem ct_111_67 : am_CT 111 67 = some (.ifnonnull 4, 70, 71, 0, 0) := rfl
theorem ct_111_70 : am_CT 111 70 = some (.return_, 71, 0, 0, 0) := rfl
theorem ct_111_71 : am_CT 111 71 = some (.aload 0, 72, 0, 0, 0) := rfl
theorem ct_111_72 : am_CT 111 72 = some (.aload 4, 74, 0, 0, 0) := rfl
theorem ct_111_74 : am_CT 111 74 = some (.invokevirtual 146, 77, 207, 1, 11) := rfl
theorem ct_111_77 : am_CT 111 77 = some (.aload 0, 78, 0, 0, 0) := rfl
theorem ct_111_78 : am_CT 111 78 = some (.getfield 24, 81, 2, 11, 2) := rfl
theorem ct_111_81 : am_CT 111 81 = some (.aload 0, 82, 0, 0, 0) := rfl
theorem ct_111_82 : am_CT 111 82 = some (.getfield 56, 85, 9, 11, 0) := rfl
theorem ct_111_85 : am_CT 111 85 = some (.putfield 153, 88, 4, 3, 0) := rfl
theorem ct_111_88 : am_CT 111 88 = some (.aload 0, 89, 0, 0, 0) := rfl
theorem ct_111_89 : am_CT 111 89 = some (.getfield 24, 92, 2, 11, 2) := rfl
theorem ct_111_92 : am_CT 111 92 = some (.aload 4, 94, 0, 0, 0) := rfl
theorem ct_111_94 : am_CT 111 94 = some (.invokevirtual 150, 97, 117, 1, 3) := rfl
theorem ct_111_97 : am_CT 111 97 = some (.aload 0, 98, 0, 0, 0) := rfl
theorem ct_111_98 : am_CT 111 98 = some (.getfield 49, 101, 7, 11, 2) := rfl
theorem ct_111_101 : am_CT 111 101 = some (.iload 2, 102, 0, 0, 0) := rfl
theorem ct_111_102 : am_CT 111 102 = some (.dup2, 103, 0, 0, 0) := rfl
theorem ct_111_103 : am_CT 111 103 = some (.iaload, 104, 0, 0, 0) := rfl
theorem ct_111_104 : am_CT 111 104 = some (.aload 0, 105, 0, 0, 0) := rfl
theorem ct_111_105 : am_CT 111 105 = some (.getfield 24, 108, 2, 11, 2) := rfl
theorem ct_111_108 : am_CT 111 108 = some (.getfield 154, 111, 12, 3, 0) := rfl
theorem ct_111_111 : am_CT 111 111 = some (.iadd, 112, 0, 0, 0) := rfl
theorem ct_111_112 : am_CT 111 112 = some (.iastore, 113, 0, 0, 0) := rfl
theorem ct_111_113 : am_CT 111 113 = some (.aload 0, 114, 0, 0, 0) := rfl
theorem ct_111_114 : am_CT 111 114 = some (.getfield 24, 117, 2, 11, 2) := rfl
theorem ct_111_117 : am_CT 111 117 = some (.getfield 170, 120, 13, 3, 1) := rfl
theorem ct_111_120 : am_CT 111 120 = some (.ifCond .eq 13, 123, 133, 0, 0) := rfl
theorem ct_111_123 : am_CT 111 123 = some (.aload 0, 124, 0, 0, 0) := rfl
theorem ct_111_124 : am_CT 111 124 = some (.dup, 125, 0, 0, 0) := rfl
theorem ct_111_125 : am_CT 111 125 = some (.getfield 53, 128, 8, 11, 0) := rfl
theorem ct_111_128 : am_CT 111 128 = some (.bipush 1, 129, 0, 0, 0) := rfl
theorem ct_111_129 : am_CT 111 129 = some (.iadd, 130, 0, 0, 0) := rfl
theorem ct_111_130 : am_CT 111 130 = some (.putfield 53, 133, 8, 11, 0) := rfl
theorem ct_111_133 : am_CT 111 133 = some (.aload 0, 134, 0, 0, 0) := rfl
theorem ct_111_134 : am_CT 111 134 = some (.aload 0, 135, 0, 0, 0) := rfl
theorem ct_111_135 : am_CT 111 135 = some (.getfield 24, 138, 2, 11, 2) := rfl
theorem ct_111_138 : am_CT 111 138 = some (.getfield 153, 141, 4, 3, 0) := rfl
theorem ct_111_141 : am_CT 111 141 = some (.putfield 56, 144, 9, 11, 0) := rfl
theorem ct_111_144 : am_CT 111 144 = some (.iload 2, 145, 0, 0, 0) := rfl
theorem ct_111_145 : am_CT 111 145 = some (.bipush 1, 146, 0, 0, 0) := rfl
theorem ct_111_146 : am_CT 111 146 = some (.iadd, 147, 0, 0, 0) := rfl
theorem ct_111_147 : am_CT 111 147 = some (.aload 0, 148, 0, 0, 0) := rfl
theorem ct_111_148 : am_CT 111 148 = some (.getfield 12, 151, 0, 11, 2) := rfl
theorem ct_111_151 : am_CT 111 151 = some (.getfield 77, 154, 1, 7, 0) := rfl
theorem ct_111_154 : am_CT 111 154 = some (.if_icmp .ge 9, 157, 163, 0, 0) := rfl
theorem ct_111_157 : am_CT 111 157 = some (.iload 2, 158, 0, 0, 0) := rfl
theorem ct_111_158 : am_CT 111 158 = some (.bipush 1, 159, 0, 0, 0) := rfl
theorem ct_111_159 : am_CT 111 159 = some (.iadd, 160, 0, 0, 0) := rfl
theorem ct_111_160 : am_CT 111 160 = some (.goto 4, 163, 164, 0, 0) := rfl
theorem ct_111_163 : am_CT 111 163 = some (.bipush 0, 164, 0, 0, 0) := rfl
theorem ct_111_164 : am_CT 111 164 = some (.istore 2, 165, 0, 0, 0) := rfl
theorem ct_111_165 : am_CT 111 165 = some (.iinc 3 1, 168, 0, 0, 0) := rfl
theorem ct_111_168 : am_CT 111 168 = some (.goto (-128), 171, 40, 0, 0) := rfl
theorem ct_111_171 : am_CT 111 171 = some (.return_, 172, 0, 0, 0) := rfl
theorem ct_112_0 : am_CT 112 0 = some (.bipush 0, 1, 0, 0, 0) := rfl
theorem ct_112_1 : am_CT 112 1 = some (.istore 2, 2, 0, 0, 0) := rfl
theorem ct_112_2 : am_CT 112 2 = some (.iload 2, 3, 0, 0, 0) := rfl
theorem ct_112_3 : am_CT 112 3 = some (.aload 0, 4, 0, 0, 0) := rfl
theorem ct_112_4 : am_CT 112 4 = some (.getfield 12, 7, 0, 11, 2) := rfl
theorem ct_112_7 : am_CT 112 7 = some (.getfield 188, 10, 8, 7, 0) := rfl
theorem ct_112_10 : am_CT 112 10 = some (.if_icmp .ge 113, 13, 123, 0, 0) := rfl
theorem ct_112_13 : am_CT 112 13 = some (.aload 0, 14, 0, 0, 0) := rfl
theorem ct_112_14 : am_CT 112 14 = some (.aload 0, 15, 0, 0, 0) := rfl
theorem ct_112_15 : am_CT 112 15 = some (.getfield 12, 18, 0, 11, 2) := rfl
theorem ct_112_18 : am_CT 112 18 = some (.getfield 191, 21, 5, 7, 2) := rfl
theorem ct_112_21 : am_CT 112 21 = some (.iload 2, 22, 0, 0, 0) := rfl
theorem ct_112_22 : am_CT 112 22 = some (.iaload, 23, 0, 0, 0) := rfl
theorem ct_112_23 : am_CT 112 23 = some (.invokevirtual 88, 26, 204, 1, 11) := rfl
theorem ct_112_26 : am_CT 112 26 = some (.astore 3, 27, 0, 0, 0) := rfl
theorem ct_112_27 : am_CT 112 27 = some (.aload 3, 28, 0, 0, 0) := rfl
theorem ct_112_28 : am_CT 112 28 = some (.ifnonnull 5, 31, 33, 0, 0) := rfl
theorem ct_112_31 : am_CT 112 31 = some (.bipush 0, 32, 0, 0, 0) := rfl
theorem ct_112_32 : am_CT 112 32 = some (.ireturn, 33, 1, 0, 0) := rfl
theorem ct_112_33 : am_CT 112 33 = some (.aload 0, 34, 0, 0, 0) := rfl
theorem ct_112_34 : am_CT 112 34 = some (.aload 3, 35, 0, 0, 0) := rfl
theorem ct_112_35 : am_CT 112 35 = some (.invokevirtual 146, 38, 207, 1, 11) := rfl
theorem ct_112_38 : am_CT 112 38 = some (.aload 0, 39, 0, 0, 0) := rfl
theorem ct_112_39 : am_CT 112 39 = some (.getfield 24, 42, 2, 11, 2) := rfl
theorem ct_112_42 : am_CT 112 42 = some (.iload 1, 43, 0, 0, 0) := rfl
theorem ct_112_43 : am_CT 112 43 = some (.aload 0, 44, 0, 0, 0) := rfl
theorem ct_112_44 : am_CT 112 44 = some (.getfield 12, 47, 0, 11, 2) := rfl
theorem ct_112_47 : am_CT 112 47 = some (.getfield 109, 50, 2, 7, 2) := rfl
theorem ct_112_50 : am_CT 112 50 = some (.bipush 1, 51, 0, 0, 0) := rfl
theorem ct_112_51 : am_CT 112 51 = some (.iaload, 52, 0, 0, 0) := rfl
theorem ct_112_52 : am_CT 112 52 = some (.aload 0, 53, 0, 0, 0) := rfl
theorem ct_112_53 : am_CT 112 53 = some (.getfield 12, 56, 0, 11, 2) := rfl
theorem ct_112_56 : am_CT 112 56 = some (.getfield 109, 59, 2, 7, 2) := rfl
theorem ct_112_59 : am_CT 112 59 = some (.bipush 2, 60, 0, 0, 0) := rfl
theorem ct_112_60 : am_CT 112 60 = some (.iaload, 61, 0, 0, 0) := rfl
theorem ct_112_61 : am_CT 112 61 = some (.invokestatic 299, 64, 38, 3, 0) := rfl
theorem ct_112_64 : am_CT 112 64 = some (.putfield 293, 67, 3, 3, 0) := rfl
theorem ct_112_67 : am_CT 112 67 = some (.aload 0, 68, 0, 0, 0) := rfl
theorem ct_112_68 : am_CT 112 68 = some (.getfield 24, 71, 2, 11, 2) := rfl
theorem ct_112_71 : am_CT 112 71 = some (.dup, 72, 0, 0, 0) := rfl
theorem ct_112_72 : am_CT 112 72 = some (.getfield 153, 75, 4, 3, 0) := rfl
theorem ct_112_75 : am_CT 112 75 = some (.aload 0, 76, 0, 0, 0) := rfl
theorem ct_112_76 : am_CT 112 76 = some (.getfield 12, 79, 0, 11, 2) := rfl
theorem ct_112_79 : am_CT 112 79 = some (.getfield 194, 82, 6, 7, 2) := rfl
theorem ct_112_82 : am_CT 112 82 = some (.iload 2, 83, 0, 0, 0) := rfl
theorem ct_112_83 : am_CT 112 83 = some (.iaload, 84, 0, 0, 0) := rfl
theorem ct_112_84 : am_CT 112 84 = some (.iadd, 85, 0, 0, 0) := rfl
theorem ct_112_85 : am_CT 112 85 = some (.putfield 153, 88, 4, 3, 0) := rfl
theorem ct_112_88 : am_CT 112 88 = some (.aload 0, 89, 0, 0, 0) := rfl
theorem ct_112_89 : am_CT 112 89 = some (.getfield 24, 92, 2, 11, 2) := rfl
theorem ct_112_92 : am_CT 112 92 = some (.aload 3, 93, 0, 0, 0) := rfl
theorem ct_112_93 : am_CT 112 93 = some (.invokevirtual 150, 96, 117, 1, 3) := rfl
theorem ct_112_96 : am_CT 112 96 = some (.aload 0, 97, 0, 0, 0) := rfl
theorem ct_112_97 : am_CT 112 97 = some (.getfield 24, 100, 2, 11, 2) := rfl
theorem ct_112_100 : am_CT 112 100 = some (.getfield 164, 103, 7, 3, 0) := rfl
theorem ct_112_103 : am_CT 112 103 = some (.aload 0, 104, 0, 0, 0) := rfl
theorem ct_112_104 : am_CT 112 104 = some (.getfield 12, 107, 0, 11, 2) := rfl
theorem ct_112_107 : am_CT 112 107 = some (.getfield 197, 110, 7, 7, 2) := rfl
theorem ct_112_110 : am_CT 112 110 = some (.iload 2, 111, 0, 0, 0) := rfl
theorem ct_112_111 : am_CT 112 111 = some (.iaload, 112, 0, 0, 0) := rfl
theorem ct_112_112 : am_CT 112 112 = some (.if_icmp .eq 5, 115, 117, 0, 0) := rfl
theorem ct_112_115 : am_CT 112 115 = some (.bipush 0, 116, 0, 0, 0) := rfl
theorem ct_112_116 : am_CT 112 116 = some (.ireturn, 117, 1, 0, 0) := rfl
theorem ct_112_117 : am_CT 112 117 = some (.iinc 2 1, 120, 0, 0, 0) := rfl
theorem ct_112_120 : am_CT 112 120 = some (.goto (-118), 123, 2, 0, 0) := rfl
theorem ct_112_123 : am_CT 112 123 = some (.bipush 1, 124, 0, 0, 0) := rfl
theorem ct_112_124 : am_CT 112 124 = some (.ireturn, 125, 1, 0, 0) := rfl
theorem ct_113_0 : am_CT 113 0 = some (.bipush 1, 1, 0, 0, 0) := rfl
theorem ct_113_1 : am_CT 113 1 = some (.istore 3, 2, 0, 0, 0) := rfl
theorem ct_113_2 : am_CT 113 2 = some (.bipush 2, 3, 0, 0, 0) := rfl
theorem ct_113_3 : am_CT 113 3 = some (.istore 4, 5, 0, 0, 0) := rfl
theorem ct_113_5 : am_CT 113 5 = some (.iload 4, 7, 0, 0, 0) := rfl
theorem ct_113_7 : am_CT 113 7 = some (.iload 1, 8, 0, 0, 0) := rfl
theorem ct_113_8 : am_CT 113 8 = some (.if_icmp .gt 26, 11, 34, 0, 0) := rfl
theorem ct_113_11 : am_CT 113 11 = some (.iload 0, 12, 0, 0, 0) := rfl
theorem ct_113_12 : am_CT 113 12 = some (.iload 4, 14, 0, 0, 0) := rfl
theorem ct_113_14 : am_CT 113 14 = some (.irem, 15, 0, 0, 0) := rfl
theorem ct_113_15 : am_CT 113 15 = some (.ifCond .ne 13, 18, 28, 0, 0) := rfl
theorem ct_113_18 : am_CT 113 18 = some (.iload 1, 19, 0, 0, 0) := rfl
theorem ct_113_19 : am_CT 113 19 = some (.iload 4, 21, 0, 0, 0) := rfl
theorem ct_113_21 : am_CT 113 21 = some (.irem, 22, 0, 0, 0) := rfl
theorem ct_113_22 : am_CT 113 22 = some (.ifCond .ne 6, 25, 28, 0, 0) := rfl
theorem ct_113_25 : am_CT 113 25 = some (.iload 4, 27, 0, 0, 0) := rfl
theorem ct_113_27 : am_CT 113 27 = some (.istore 3, 28, 0, 0, 0) := rfl
theorem ct_113_28 : am_CT 113 28 = some (.iinc 4 1, 31, 0, 0, 0) := rfl
theorem ct_113_31 : am_CT 113 31 = some (.goto (-26), 34, 5, 0, 0) := rfl
theorem ct_113_34 : am_CT 113 34 = some (.iload 2, 35, 0, 0, 0) := rfl
theorem ct_113_35 : am_CT 113 35 = some (.ifCond .ne 9, 38, 44, 0, 0) := rfl
theorem ct_113_38 : am_CT 113 38 = some (.iload 0, 39, 0, 0, 0) := rfl
theorem ct_113_39 : am_CT 113 39 = some (.iload 3, 40, 0, 0, 0) := rfl
theorem ct_113_40 : am_CT 113 40 = some (.idiv, 41, 0, 0, 0) := rfl
theorem ct_113_41 : am_CT 113 41 = some (.goto 6, 44, 47, 0, 0) := rfl
theorem ct_113_44 : am_CT 113 44 = some (.iload 1, 45, 0, 0, 0) := rfl
theorem ct_113_45 : am_CT 113 45 = some (.iload 3, 46, 0, 0, 0) := rfl
theorem ct_113_46 : am_CT 113 46 = some (.idiv, 47, 0, 0, 0) := rfl
theorem ct_113_47 : am_CT 113 47 = some (.ireturn, 48, 0, 0, 0) := rfl
theorem ct_114_0 : am_CT 114 0 = some (.iload 0, 1, 0, 0, 0) := rfl
theorem ct_114_1 : am_CT 114 1 = some (.bipush 0, 2, 0, 0, 0) := rfl
theorem ct_114_2 : am_CT 114 2 = some (.bipush 5, 3, 0, 0, 0) := rfl
theorem ct_114_3 : am_CT 114 3 = some (.invokestatic 73, 6, 103, 3, 0) := rfl
theorem ct_114_6 : am_CT 114 6 = some (.ireturn, 7, 1, 0, 0) := rfl
theorem ct_115_0 : am_CT 115 0 = some (.aload 0, 1, 0, 0, 0) := rfl
theorem ct_115_1 : am_CT 115 1 = some (.getfield 62, 4, 11, 11, 2) := rfl
theorem ct_115_4 : am_CT 115 4 = some (.iload 1, 5, 0, 0, 0) := rfl
theorem ct_115_5 : am_CT 115 5 = some (.iaload, 6, 0, 0, 0) := rfl
theorem ct_115_6 : am_CT 115 6 = some (.bipush (-1), 7, 0, 0, 0) := rfl
theorem ct_115_7 : am_CT 115 7 = some (.if_icmp .eq 7, 10, 14, 0, 0) := rfl
theorem ct_115_10 : am_CT 115 10 = some (.bipush 1, 11, 0, 0, 0) := rfl
theorem ct_115_11 : am_CT 115 11 = some (.goto 4, 14, 15, 0, 0) := rfl
theorem ct_115_14 : am_CT 115 14 = some (.bipush 0, 15, 0, 0, 0) := rfl
theorem ct_115_15 : am_CT 115 15 = some (.ireturn, 16, 1, 0, 0) := rfl
theorem ct_116_0 : am_CT 116 0 = some (.iload 2, 1, 0, 0, 0) := rfl
theorem ct_116_1 : am_CT 116 1 = some (.ifCond .lt 27, 4, 28, 0, 0) := rfl
theorem ct_116_4 : am_CT 116 4 = some (.iload 3, 5, 0, 0, 0) := rfl
theorem ct_116_5 : am_CT 116 5 = some (.ifCond .lt 23, 8, 28, 0, 0) := rfl
theorem ct_116_8 : am_CT 116 8 = some (.iload 2, 9, 0, 0, 0) := rfl
theorem ct_116_9 : am_CT 116 9 = some (.i2l, 10, 0, 0, 0) := rfl
theorem ct_116_10 : am_CT 116 10 = some (.iload 3, 11, 0, 0, 0) := rfl
theorem ct_116_11 : am_CT 116 11 = some (.i2l, 12, 0, 0, 0) := rfl
theorem ct_116_12 : am_CT 116 12 = some (.ladd, 13, 0, 0, 0) := rfl
theorem ct_116_13 : am_CT 116 13 = some (.aload 0, 14, 0, 0, 0) := rfl
theorem ct_116_14 : am_CT 116 14 = some (.getfield 65, 17, 12, 11, 2) := rfl
theorem ct_116_17 : am_CT 116 17 = some (.iload 1, 18, 0, 0, 0) := rfl
theorem ct_116_18 : am_CT 116 18 = some (.iaload, 19, 0, 0, 0) := rfl
theorem ct_116_19 : am_CT 116 19 = some (.i2l, 20, 0, 0, 0) := rfl
theorem ct_116_20 : am_CT 116 20 = some (.lcmp, 21, 0, 0, 0) := rfl
theorem ct_116_21 : am_CT 116 21 = some (.ifCond .gt 7, 24, 28, 0, 0) := rfl
theorem ct_116_24 : am_CT 116 24 = some (.bipush 1, 25, 0, 0, 0) := rfl
theorem ct_116_25 : am_CT 116 25 = some (.goto 4, 28, 29, 0, 0) := rfl
theorem ct_116_28 : am_CT 116 28 = some (.bipush 0, 29, 0, 0, 0) := rfl
theorem ct_116_29 : am_CT 116 29 = some (.ireturn, 30, 1, 0, 0) := rfl
theorem ct_117_0 : am_CT 117 0 = some (.iload 0, 1, 0, 0, 0) := rfl
theorem ct_117_1 : am_CT 117 1 = some (.tableswitch 61 0 4 #[35, 40, 45, 61, 49], 36, 0, 0, 0) := rfl
theorem ct_117_36 : am_CT 117 36 = some (.lload 1, 37, 0, 0, 0) := rfl
theorem ct_117_37 : am_CT 117 37 = some (.l2i, 38, 0, 0, 0) := rfl
theorem ct_117_38 : am_CT 117 38 = some (.i2b, 39, 0, 0, 0) := rfl
theorem ct_117_39 : am_CT 117 39 = some (.i2l, 40, 0, 0, 0) := rfl
theorem ct_117_40 : am_CT 117 40 = some (.lreturn, 41, 0, 0, 0) := rfl
theorem ct_117_41 : am_CT 117 41 = some (.lload 1, 42, 0, 0, 0) := rfl
theorem ct_117_42 : am_CT 117 42 = some (.l2i, 43, 0, 0, 0) := rfl
theorem ct_117_43 : am_CT 117 43 = some (.i2s, 44, 0, 0, 0) := rfl
theorem ct_117_44 : am_CT 117 44 = some (.i2l, 45, 0, 0, 0) := rfl
theorem ct_117_45 : am_CT 117 45 = some (.lreturn, 46, 0, 0, 0) := rfl
theorem ct_117_46 : am_CT 117 46 = some (.lload 1, 47, 0, 0, 0) := rfl
theorem ct_117_47 : am_CT 117 47 = some (.l2i, 48, 0, 0, 0) := rfl
theorem ct_117_48 : am_CT 117 48 = some (.i2l, 49, 0, 0, 0) := rfl
theorem ct_117_49 : am_CT 117 49 = some (.lreturn, 50, 0, 0, 0) := rfl
theorem ct_117_50 : am_CT 117 50 = some (.lload 1, 51, 0, 0, 0) := rfl
theorem ct_117_51 : am_CT 117 51 = some (.sipush 0, 52, 0, 0, 0) := rfl
theorem ct_117_52 : am_CT 117 52 = some (.lcmp, 53, 0, 0, 0) := rfl
theorem ct_117_53 : am_CT 117 53 = some (.ifCond .eq 7, 56, 60, 0, 0) := rfl
theorem ct_117_56 : am_CT 117 56 = some (.sipush 1, 57, 0, 0, 0) := rfl
theorem ct_117_57 : am_CT 117 57 = some (.goto 4, 60, 61, 0, 0) := rfl
theorem ct_117_60 : am_CT 117 60 = some (.sipush 0, 61, 0, 0, 0) := rfl
theorem ct_117_61 : am_CT 117 61 = some (.lreturn, 62, 0, 0, 0) := rfl
theorem ct_117_62 : am_CT 117 62 = some (.lload 1, 63, 0, 0, 0) := rfl
theorem ct_117_63 : am_CT 117 63 = some (.lreturn, 64, 0, 0, 0) := rfl
theorem ct_118_0 : am_CT 118 0 = some (.aload 0, 1, 0, 0, 0) := rfl
theorem ct_118_1 : am_CT 118 1 = some (.invokespecial 1, 4, 0, 0, 1) := rfl
theorem ct_118_4 : am_CT 118 4 = some (.aload 0, 5, 0, 0, 0) := rfl
theorem ct_118_5 : am_CT 118 5 = some (.bipush 0, 6, 0, 0, 0) := rfl
theorem ct_118_6 : am_CT 118 6 = some (.putfield 7, 9, 0, 12, 0) := rfl
theorem ct_118_9 : am_CT 118 9 = some (.aload 0, 10, 0, 0, 0) := rfl
theorem ct_118_10 : am_CT 118 10 = some (.bipush 0, 11, 0, 0, 0) := rfl
theorem ct_118_11 : am_CT 118 11 = some (.putfield 13, 14, 1, 12, 0) := rfl
theorem ct_118_14 : am_CT 118 14 = some (.aload 0, 15, 0, 0, 0) := rfl
theorem ct_118_15 : am_CT 118 15 = some (.bipush 5, 16, 0, 0, 0) := rfl
theorem ct_118_16 : am_CT 118 16 = some (.newarray .int, 18, 20, 0, 0) := rfl
theorem ct_118_18 : am_CT 118 18 = some (.putfield 16, 21, 2, 12, 2) := rfl
theorem ct_118_21 : am_CT 118 21 = some (.aload 0, 22, 0, 0, 0) := rfl
theorem ct_118_22 : am_CT 118 22 = some (.bipush 5, 23, 0, 0, 0) := rfl
theorem ct_118_23 : am_CT 118 23 = some (.newarray .int, 25, 20, 0, 0) := rfl
theorem ct_118_25 : am_CT 118 25 = some (.putfield 20, 28, 3, 12, 2) := rfl
theorem ct_118_28 : am_CT 118 28 = some (.aload 0, 29, 0, 0, 0) := rfl
theorem ct_118_29 : am_CT 118 29 = some (.bipush 5, 30, 0, 0, 0) := rfl
theorem ct_118_30 : am_CT 118 30 = some (.newarray .int, 32, 20, 0, 0) := rfl
theorem ct_118_32 : am_CT 118 32 = some (.putfield 23, 35, 4, 12, 2) := rfl
theorem ct_118_35 : am_CT 118 35 = some (.aload 0, 36, 0, 0, 0) := rfl
theorem ct_118_36 : am_CT 118 36 = some (.bipush 5, 37, 0, 0, 0) := rfl
theorem ct_118_37 : am_CT 118 37 = some (.newarray .int, 39, 20, 0, 0) := rfl
theorem ct_118_39 : am_CT 118 39 = some (.putfield 26, 42, 5, 12, 2) := rfl
theorem ct_118_42 : am_CT 118 42 = some (.aload 0, 43, 0, 0, 0) := rfl
theorem ct_118_43 : am_CT 118 43 = some (.bipush 5, 44, 0, 0, 0) := rfl
theorem ct_118_44 : am_CT 118 44 = some (.newarray .int, 46, 20, 0, 0) := rfl
theorem ct_118_46 : am_CT 118 46 = some (.putfield 29, 49, 6, 12, 2) := rfl
theorem ct_118_49 : am_CT 118 49 = some (.aload 0, 50, 0, 0, 0) := rfl
theorem ct_118_50 : am_CT 118 50 = some (.bipush 20, 52, 0, 0, 0) := rfl
theorem ct_118_52 : am_CT 118 52 = some (.newarray .int, 54, 20, 0, 0) := rfl
theorem ct_118_54 : am_CT 118 54 = some (.putfield 32, 57, 7, 12, 2) := rfl
theorem ct_118_57 : am_CT 118 57 = some (.aload 0, 58, 0, 0, 0) := rfl
theorem ct_118_58 : am_CT 118 58 = some (.bipush 4, 59, 0, 0, 0) := rfl
theorem ct_118_59 : am_CT 118 59 = some (.newarray .int, 61, 20, 0, 0) := rfl
theorem ct_118_61 : am_CT 118 61 = some (.dup, 62, 0, 0, 0) := rfl
theorem ct_118_62 : am_CT 118 62 = some (.bipush 0, 63, 0, 0, 0) := rfl
theorem ct_118_63 : am_CT 118 63 = some (.bipush 5, 64, 0, 0, 0) := rfl
theorem ct_118_64 : am_CT 118 64 = some (.iastore, 65, 0, 0, 0) := rfl
theorem ct_118_65 : am_CT 118 65 = some (.dup, 66, 0, 0, 0) := rfl
theorem ct_118_66 : am_CT 118 66 = some (.bipush 1, 67, 0, 0, 0) := rfl
theorem ct_118_67 : am_CT 118 67 = some (.bipush 3, 68, 0, 0, 0) := rfl
theorem ct_118_68 : am_CT 118 68 = some (.iastore, 69, 0, 0, 0) := rfl
theorem ct_118_69 : am_CT 118 69 = some (.dup, 70, 0, 0, 0) := rfl
theorem ct_118_70 : am_CT 118 70 = some (.bipush 2, 71, 0, 0, 0) := rfl
theorem ct_118_71 : am_CT 118 71 = some (.bipush 0, 72, 0, 0, 0) := rfl
theorem ct_118_72 : am_CT 118 72 = some (.iastore, 73, 0, 0, 0) := rfl
theorem ct_118_73 : am_CT 118 73 = some (.dup, 74, 0, 0, 0) := rfl
theorem ct_118_74 : am_CT 118 74 = some (.bipush 3, 75, 0, 0, 0) := rfl
theorem ct_118_75 : am_CT 118 75 = some (.bipush 20, 77, 0, 0, 0) := rfl
theorem ct_118_77 : am_CT 118 77 = some (.iastore, 78, 0, 0, 0) := rfl
theorem ct_118_78 : am_CT 118 78 = some (.putfield 35, 81, 8, 12, 2) := rfl
theorem ct_118_81 : am_CT 118 81 = some (.aload 0, 82, 0, 0, 0) := rfl
theorem ct_118_82 : am_CT 118 82 = some (.bipush 0, 83, 0, 0, 0) := rfl
theorem ct_118_83 : am_CT 118 83 = some (.putfield 38, 86, 9, 12, 0) := rfl
theorem ct_118_86 : am_CT 118 86 = some (.aload 0, 87, 0, 0, 0) := rfl
theorem ct_118_87 : am_CT 118 87 = some (.bipush (-1), 88, 0, 0, 0) := rfl
theorem ct_118_88 : am_CT 118 88 = some (.putfield 41, 91, 10, 12, 0) := rfl
theorem ct_118_91 : am_CT 118 91 = some (.aload 0, 92, 0, 0, 0) := rfl
theorem ct_118_92 : am_CT 118 92 = some (.bipush 0, 93, 0, 0, 0) := rfl
theorem ct_118_93 : am_CT 118 93 = some (.putfield 44, 96, 11, 12, 0) := rfl
theorem ct_118_96 : am_CT 118 96 = some (.aload 0, 97, 0, 0, 0) := rfl
theorem ct_118_97 : am_CT 118 97 = some (.bipush 0, 98, 0, 0, 0) := rfl
theorem ct_118_98 : am_CT 118 98 = some (.putfield 47, 101, 12, 12, 0) := rfl
theorem ct_118_101 : am_CT 118 101 = some (.aload 0, 102, 0, 0, 0) := rfl
theorem ct_118_102 : am_CT 118 102 = some (.bipush 0, 103, 0, 0, 0) := rfl
theorem ct_118_103 : am_CT 118 103 = some (.putfield 50, 106, 13, 12, 0) := rfl
theorem ct_118_106 : am_CT 118 106 = some (.aload 0, 107, 0, 0, 0) := rfl
theorem ct_118_107 : am_CT 118 107 = some (.bipush 100, 109, 0, 0, 0) := rfl
theorem ct_118_109 : am_CT 118 109 = some (.newarray .int, 111, 20, 0, 0) := rfl
theorem ct_118_111 : am_CT 118 111 = some (.putfield 53, 114, 14, 12, 2) := rfl
theorem ct_118_114 : am_CT 118 114 = some (.aload 0, 115, 0, 0, 0) := rfl
theorem ct_118_115 : am_CT 118 115 = some (.bipush 6, 117, 0, 0, 0) := rfl
theorem ct_118_117 : am_CT 118 117 = some (.newarray .int, 119, 20, 0, 0) := rfl
theorem ct_118_119 : am_CT 118 119 = some (.putfield 56, 122, 15, 12, 2) := rfl
theorem ct_118_122 : am_CT 118 122 = some (.aload 0, 123, 0, 0, 0) := rfl
theorem ct_118_123 : am_CT 118 123 = some (.bipush 60, 125, 0, 0, 0) := rfl
theorem ct_118_125 : am_CT 118 125 = some (.newarray .int, 127, 20, 0, 0) := rfl
theorem ct_118_127 : am_CT 118 127 = some (.putfield 59, 130, 16, 12, 2) := rfl
theorem ct_118_130 : am_CT 118 130 = some (.aload 0, 131, 0, 0, 0) := rfl
theorem ct_118_131 : am_CT 118 131 = some (.bipush 60, 133, 0, 0, 0) := rfl
theorem ct_118_133 : am_CT 118 133 = some (.newarray .int, 135, 20, 0, 0) := rfl
theorem ct_118_135 : am_CT 118 135 = some (.putfield 62, 138, 17, 12, 2) := rfl
theorem ct_118_138 : am_CT 118 138 = some (.aload 0, 139, 0, 0, 0) := rfl
theorem ct_118_139 : am_CT 118 139 = some (.bipush 60, 141, 0, 0, 0) := rfl
theorem ct_118_141 : am_CT 118 141 = some (.newarray .int, 143, 20, 0, 0) := rfl
theorem ct_118_143 : am_CT 118 143 = some (.putfield 65, 146, 18, 12, 2) := rfl
theorem ct_118_146 : am_CT 118 146 = some (.aload 0, 147, 0, 0, 0) := rfl
theorem ct_118_147 : am_CT 118 147 = some (.bipush 60, 149, 0, 0, 0) := rfl
theorem ct_118_149 : am_CT 118 149 = some (.newarray .int, 151, 20, 0, 0) := rfl
theorem ct_118_151 : am_CT 118 151 = some (.putfield 68, 154, 19, 12, 2) := rfl
theorem ct_118_154 : am_CT 118 154 = some (.aload 0, 155, 0, 0, 0) := rfl
theorem ct_118_155 : am_CT 118 155 = some (.bipush 600, 158, 0, 0, 0) := rfl
theorem ct_118_158 : am_CT 118 158 = some (.newarray .int, 160, 20, 0, 0) := rfl
theorem ct_118_160 : am_CT 118 160 = some (.putfield 71, 163, 20, 12, 2) := rfl
theorem ct_118_163 : am_CT 118 163 = some (.aload 0, 164, 0, 0, 0) := rfl
theorem ct_118_164 : am_CT 118 164 = some (.bipush 101, 166, 0, 0, 0) := rfl
theorem ct_118_166 : am_CT 118 166 = some (.newarray .int, 168, 20, 0, 0) := rfl
theorem ct_118_168 : am_CT 118 168 = some (.putfield 74, 171, 21, 12, 2) := rfl
theorem ct_118_171 : am_CT 118 171 = some (.aload 0, 172, 0, 0, 0) := rfl
theorem ct_118_172 : am_CT 118 172 = some (.bipush 0, 173, 0, 0, 0) := rfl
theorem ct_118_173 : am_CT 118 173 = some (.putfield 77, 176, 22, 12, 0) := rfl
theorem ct_118_176 : am_CT 118 176 = some (.aload 0, 177, 0, 0, 0) := rfl
theorem ct_118_177 : am_CT 118 177 = some (.bipush 0, 178, 0, 0, 0) := rfl
theorem ct_118_178 : am_CT 118 178 = some (.putfield 80, 181, 23, 12, 0) := rfl
theorem ct_118_181 : am_CT 118 181 = some (.aload 0, 182, 0, 0, 0) := rfl
theorem ct_118_182 : am_CT 118 182 = some (.bipush 0, 183, 0, 0, 0) := rfl
theorem ct_118_183 : am_CT 118 183 = some (.putfield 83, 186, 24, 12, 0) := rfl
theorem ct_118_186 : am_CT 118 186 = some (.aload 0, 187, 0, 0, 0) := rfl
theorem ct_118_187 : am_CT 118 187 = some (.bipush 11, 189, 0, 0, 0) := rfl
theorem ct_118_189 : am_CT 118 189 = some (.newarray .int, 191, 20, 0, 0) := rfl
theorem ct_118_191 : am_CT 118 191 = some (.dup, 192, 0, 0, 0) := rfl
theorem ct_118_192 : am_CT 118 192 = some (.bipush 0, 193, 0, 0, 0) := rfl
theorem ct_118_193 : am_CT 118 193 = some (.bipush 119, 195, 0, 0, 0) := rfl
theorem ct_118_195 : am_CT 118 195 = some (.iastore, 196, 0, 0, 0) := rfl
theorem ct_118_196 : am_CT 118 196 = some (.dup, 197, 0, 0, 0) := rfl
theorem ct_118_197 : am_CT 118 197 = some (.bipush 1, 198, 0, 0, 0) := rfl
theorem ct_118_198 : am_CT 118 198 = some (.bipush 105, 200, 0, 0, 0) := rfl
theorem ct_118_200 : am_CT 118 200 = some (.iastore, 201, 0, 0, 0) := rfl
theorem ct_118_201 : am_CT 118 201 = some (.dup, 202, 0, 0, 0) := rfl
theorem ct_118_202 : am_CT 118 202 = some (.bipush 2, 203, 0, 0, 0) := rfl
theorem ct_118_203 : am_CT 118 203 = some (.bipush 110, 205, 0, 0, 0) := rfl
theorem ct_118_205 : am_CT 118 205 = some (.iastore, 206, 0, 0, 0) := rfl
theorem ct_118_206 : am_CT 118 206 = some (.dup, 207, 0, 0, 0) := rfl
theorem ct_118_207 : am_CT 118 207 = some (.bipush 3, 208, 0, 0, 0) := rfl
theorem ct_118_208 : am_CT 118 208 = some (.bipush 100, 210, 0, 0, 0) := rfl
theorem ct_118_210 : am_CT 118 210 = some (.iastore, 211, 0, 0, 0) := rfl
theorem ct_118_211 : am_CT 118 211 = some (.dup, 212, 0, 0, 0) := rfl
theorem ct_118_212 : am_CT 118 212 = some (.bipush 4, 213, 0, 0, 0) := rfl
theorem ct_118_213 : am_CT 118 213 = some (.bipush 100, 215, 0, 0, 0) := rfl
theorem ct_118_215 : am_CT 118 215 = some (.iastore, 216, 0, 0, 0) := rfl
theorem ct_118_216 : am_CT 118 216 = some (.dup, 217, 0, 0, 0) := rfl
theorem ct_118_217 : am_CT 118 217 = some (.bipush 5, 218, 0, 0, 0) := rfl
theorem ct_118_218 : am_CT 118 218 = some (.bipush 114, 220, 0, 0, 0) := rfl
theorem ct_118_220 : am_CT 118 220 = some (.iastore, 221, 0, 0, 0) := rfl
theorem ct_118_221 : am_CT 118 221 = some (.dup, 222, 0, 0, 0) := rfl
theorem ct_118_222 : am_CT 118 222 = some (.bipush 6, 224, 0, 0, 0) := rfl
theorem ct_118_224 : am_CT 118 224 = some (.bipush 121, 226, 0, 0, 0) := rfl
theorem ct_118_226 : am_CT 118 226 = some (.iastore, 227, 0, 0, 0) := rfl
theorem ct_118_227 : am_CT 118 227 = some (.dup, 228, 0, 0, 0) := rfl
theorem ct_118_228 : am_CT 118 228 = some (.bipush 7, 230, 0, 0, 0) := rfl
theorem ct_118_230 : am_CT 118 230 = some (.bipush 99, 232, 0, 0, 0) := rfl
theorem ct_118_232 : am_CT 118 232 = some (.iastore, 233, 0, 0, 0) := rfl
theorem ct_118_233 : am_CT 118 233 = some (.dup, 234, 0, 0, 0) := rfl
theorem ct_118_234 : am_CT 118 234 = some (.bipush 8, 236, 0, 0, 0) := rfl
theorem ct_118_236 : am_CT 118 236 = some (.bipush 111, 238, 0, 0, 0) := rfl
theorem ct_118_238 : am_CT 118 238 = some (.iastore, 239, 0, 0, 0) := rfl
theorem ct_118_239 : am_CT 118 239 = some (.dup, 240, 0, 0, 0) := rfl
theorem ct_118_240 : am_CT 118 240 = some (.bipush 9, 242, 0, 0, 0) := rfl
theorem ct_118_242 : am_CT 118 242 = some (.bipush 105, 244, 0, 0, 0) := rfl
theorem ct_118_244 : am_CT 118 244 = some (.iastore, 245, 0, 0, 0) := rfl
theorem ct_118_245 : am_CT 118 245 = some (.dup, 246, 0, 0, 0) := rfl
theorem ct_118_246 : am_CT 118 246 = some (.bipush 10, 248, 0, 0, 0) := rfl
theorem ct_118_248 : am_CT 118 248 = some (.bipush 110, 250, 0, 0, 0) := rfl
theorem ct_118_250 : am_CT 118 250 = some (.iastore, 251, 0, 0, 0) := rfl
theorem ct_118_251 : am_CT 118 251 = some (.putfield 86, 254, 25, 12, 2) := rfl
theorem ct_118_254 : am_CT 118 254 = some (.aload 0, 255, 0, 0, 0) := rfl
theorem ct_118_255 : am_CT 118 255 = some (.bipush 100, 257, 0, 0, 0) := rfl
theorem ct_118_257 : am_CT 118 257 = some (.newarray .boolean, 259, 23, 0, 0) := rfl
theorem ct_118_259 : am_CT 118 259 = some (.putfield 89, 262, 26, 12, 2) := rfl
theorem ct_118_262 : am_CT 118 262 = some (.aload 0, 263, 0, 0, 0) := rfl
theorem ct_118_263 : am_CT 118 263 = some (.bipush 0, 264, 0, 0, 0) := rfl
theorem ct_118_264 : am_CT 118 264 = some (.putfield 93, 267, 27, 12, 0) := rfl
theorem ct_118_267 : am_CT 118 267 = some (.aload 0, 268, 0, 0, 0) := rfl
theorem ct_118_268 : am_CT 118 268 = some (.bipush 0, 269, 0, 0, 0) := rfl
theorem ct_118_269 : am_CT 118 269 = some (.putfield 96, 272, 28, 12, 0) := rfl
theorem ct_118_272 : am_CT 118 272 = some (.aload 0, 273, 0, 0, 0) := rfl
theorem ct_118_273 : am_CT 118 273 = some (.bipush 0, 274, 0, 0, 0) := rfl
theorem ct_118_274 : am_CT 118 274 = some (.putfield 99, 277, 29, 12, 0) := rfl
theorem ct_118_277 : am_CT 118 277 = some (.aload 0, 278, 0, 0, 0) := rfl
theorem ct_118_278 : am_CT 118 278 = some (.bipush 0, 279, 0, 0, 0) := rfl
theorem ct_118_279 : am_CT 118 279 = some (.putfield 102, 282, 30, 12, 0) := rfl
theorem ct_118_282 : am_CT 118 282 = some (.aload 0, 283, 0, 0, 0) := rfl
theorem ct_118_283 : am_CT 118 283 = some (.bipush 0, 284, 0, 0, 0) := rfl
theorem ct_118_284 : am_CT 118 284 = some (.putfield 105, 287, 31, 12, 0) := rfl
theorem ct_118_287 : am_CT 118 287 = some (.aload 0, 288, 0, 0, 0) := rfl
theorem ct_118_288 : am_CT 118 288 = some (.bipush 0, 289, 0, 0, 0) := rfl
theorem ct_118_289 : am_CT 118 289 = some (.putfield 108, 292, 32, 12, 0) := rfl
theorem ct_118_292 : am_CT 118 292 = some (.aload 0, 293, 0, 0, 0) := rfl
theorem ct_118_293 : am_CT 118 293 = some (.bipush 0, 294, 0, 0, 0) := rfl
theorem ct_118_294 : am_CT 118 294 = some (.putfield 111, 297, 33, 12, 0) := rfl
theorem ct_118_297 : am_CT 118 297 = some (.aload 0, 298, 0, 0, 0) := rfl
theorem ct_118_298 : am_CT 118 298 = some (.bipush 0, 299, 0, 0, 0) := rfl
theorem ct_118_299 : am_CT 118 299 = some (.putfield 114, 302, 34, 12, 1) := rfl
theorem ct_118_302 : am_CT 118 302 = some (.aload 0, 303, 0, 0, 0) := rfl
theorem ct_118_303 : am_CT 118 303 = some (.bipush 0, 304, 0, 0, 0) := rfl
theorem ct_118_304 : am_CT 118 304 = some (.putfield 118, 307, 35, 12, 1) := rfl
theorem ct_118_307 : am_CT 118 307 = some (.aload 0, 308, 0, 0, 0) := rfl
theorem ct_118_308 : am_CT 118 308 = some (.bipush 0, 309, 0, 0, 0) := rfl
theorem ct_118_309 : am_CT 118 309 = some (.putfield 121, 312, 36, 12, 0) := rfl
theorem ct_118_312 : am_CT 118 312 = some (.aload 0, 313, 0, 0, 0) := rfl
theorem ct_118_313 : am_CT 118 313 = some (.bipush 5, 314, 0, 0, 0) := rfl
theorem ct_118_314 : am_CT 118 314 = some (.newarray .int, 316, 20, 0, 0) := rfl
theorem ct_118_316 : am_CT 118 316 = some (.putfield 124, 319, 37, 12, 2) := rfl
theorem ct_118_319 : am_CT 118 319 = some (.aload 0, 320, 0, 0, 0) := rfl
theorem ct_118_320 : am_CT 118 320 = some (.bipush 0, 321, 0, 0, 0) := rfl
theorem ct_118_321 : am_CT 118 321 = some (.putfield 127, 324, 38, 12, 0) := rfl
theorem ct_118_324 : am_CT 118 324 = some (.aload 0, 325, 0, 0, 0) := rfl
theorem ct_118_325 : am_CT 118 325 = some (.bipush 0, 326, 0, 0, 0) := rfl
theorem ct_118_326 : am_CT 118 326 = some (.putfield 130, 329, 39, 12, 0) := rfl
theorem ct_118_329 : am_CT 118 329 = some (.aload 0, 330, 0, 0, 0) := rfl
theorem ct_118_330 : am_CT 118 330 = some (.bipush 0, 331, 0, 0, 0) := rfl
theorem ct_118_331 : am_CT 118 331 = some (.putfield 133, 334, 40, 12, 0) := rfl
theorem ct_118_334 : am_CT 118 334 = some (.aload 0, 335, 0, 0, 0) := rfl
theorem ct_118_335 : am_CT 118 335 = some (.bipush 6, 337, 0, 0, 0) := rfl
theorem ct_118_337 : am_CT 118 337 = some (.newarray .int, 339, 20, 0, 0) := rfl
theorem ct_118_339 : am_CT 118 339 = some (.putfield 136, 342, 41, 12, 2) := rfl
theorem ct_118_342 : am_CT 118 342 = some (.aload 0, 343, 0, 0, 0) := rfl
theorem ct_118_343 : am_CT 118 343 = some (.bipush 6, 345, 0, 0, 0) := rfl
theorem ct_118_345 : am_CT 118 345 = some (.newarray .int, 347, 20, 0, 0) := rfl
theorem ct_118_347 : am_CT 118 347 = some (.putfield 139, 350, 42, 12, 2) := rfl
theorem ct_118_350 : am_CT 118 350 = some (.aload 0, 351, 0, 0, 0) := rfl
theorem ct_118_351 : am_CT 118 351 = some (.bipush 6, 353, 0, 0, 0) := rfl
theorem ct_118_353 : am_CT 118 353 = some (.newarray .int, 355, 20, 0, 0) := rfl
theorem ct_118_355 : am_CT 118 355 = some (.putfield 142, 358, 43, 12, 2) := rfl
theorem ct_118_358 : am_CT 118 358 = some (.aload 0, 359, 0, 0, 0) := rfl
theorem ct_118_359 : am_CT 118 359 = some (.bipush 0, 360, 0, 0, 0) := rfl
theorem ct_118_360 : am_CT 118 360 = some (.putfield 145, 363, 44, 12, 0) := rfl
theorem ct_118_363 : am_CT 118 363 = some (.aload 0, 364, 0, 0, 0) := rfl
theorem ct_118_364 : am_CT 118 364 = some (.bipush 12, 366, 0, 0, 0) := rfl
theorem ct_118_366 : am_CT 118 366 = some (.newarray .int, 368, 20, 0, 0) := rfl
theorem ct_118_368 : am_CT 118 368 = some (.putfield 148, 371, 45, 12, 2) := rfl
theorem ct_118_371 : am_CT 118 371 = some (.aload 0, 372, 0, 0, 0) := rfl
theorem ct_118_372 : am_CT 118 372 = some (.bipush 12, 374, 0, 0, 0) := rfl
theorem ct_118_374 : am_CT 118 374 = some (.newarray .boolean, 376, 23, 0, 0) := rfl
theorem ct_118_376 : am_CT 118 376 = some (.putfield 151, 379, 46, 12, 2) := rfl
theorem ct_118_379 : am_CT 118 379 = some (.aload 0, 380, 0, 0, 0) := rfl
theorem ct_118_380 : am_CT 118 380 = some (.bipush 0, 381, 0, 0, 0) := rfl
theorem ct_118_381 : am_CT 118 381 = some (.putfield 154, 384, 47, 12, 1) := rfl
theorem ct_118_384 : am_CT 118 384 = some (.aload 0, 385, 0, 0, 0) := rfl
theorem ct_118_385 : am_CT 118 385 = some (.bipush (-1), 386, 0, 0, 0) := rfl
theorem ct_118_386 : am_CT 118 386 = some (.putfield 157, 389, 48, 12, 0) := rfl
theorem ct_118_389 : am_CT 118 389 = some (.aload 0, 390, 0, 0, 0) := rfl
theorem ct_118_390 : am_CT 118 390 = some (.bipush 0, 391, 0, 0, 0) := rfl
theorem ct_118_391 : am_CT 118 391 = some (.putfield 160, 394, 49, 12, 0) := rfl
theorem ct_118_394 : am_CT 118 394 = some (.aload 0, 395, 0, 0, 0) := rfl
theorem ct_118_395 : am_CT 118 395 = some (.bipush 0, 396, 0, 0, 0) := rfl
theorem ct_118_396 : am_CT 118 396 = some (.putfield 163, 399, 50, 12, 0) := rfl
theorem ct_118_399 : am_CT 118 399 = some (.aload 0, 400, 0, 0, 0) := rfl
theorem ct_118_400 : am_CT 118 400 = some (.bipush 0, 401, 0, 0, 0) := rfl
theorem ct_118_401 : am_CT 118 401 = some (.putfield 166, 404, 51, 12, 0) := rfl
theorem ct_118_404 : am_CT 118 404 = some (.aload 0, 405, 0, 0, 0) := rfl
theorem ct_118_405 : am_CT 118 405 = some (.bipush 0, 406, 0, 0, 0) := rfl
theorem ct_118_406 : am_CT 118 406 = some (.putfield 169, 409, 52, 12, 0) := rfl
theorem ct_118_409 : am_CT 118 409 = some (.aload 0, 410, 0, 0, 0) := rfl
theorem ct_118_410 : am_CT 118 410 = some (.bipush 5, 411, 0, 0, 0) := rfl
theorem ct_118_411 : am_CT 118 411 = some (.newarray .int, 413, 20, 0, 0) := rfl
theorem ct_118_413 : am_CT 118 413 = some (.putfield 172, 416, 53, 12, 2) := rfl
theorem ct_118_416 : am_CT 118 416 = some (.aload 0, 417, 0, 0, 0) := rfl
theorem ct_118_417 : am_CT 118 417 = some (.bipush 5, 418, 0, 0, 0) := rfl
theorem ct_118_418 : am_CT 118 418 = some (.newarray .int, 420, 20, 0, 0) := rfl
theorem ct_118_420 : am_CT 118 420 = some (.putfield 175, 423, 54, 12, 2) := rfl
theorem ct_118_423 : am_CT 118 423 = some (.aload 0, 424, 0, 0, 0) := rfl
theorem ct_118_424 : am_CT 118 424 = some (.bipush 5, 425, 0, 0, 0) := rfl
theorem ct_118_425 : am_CT 118 425 = some (.newarray .int, 427, 20, 0, 0) := rfl
theorem ct_118_427 : am_CT 118 427 = some (.putfield 178, 430, 55, 12, 2) := rfl
theorem ct_118_430 : am_CT 118 430 = some (.aload 0, 431, 0, 0, 0) := rfl
theorem ct_118_431 : am_CT 118 431 = some (.bipush 5, 432, 0, 0, 0) := rfl
theorem ct_118_432 : am_CT 118 432 = some (.newarray .int, 434, 20, 0, 0) := rfl
theorem ct_118_434 : am_CT 118 434 = some (.putfield 181, 437, 56, 12, 2) := rfl
theorem ct_118_437 : am_CT 118 437 = some (.aload 0, 438, 0, 0, 0) := rfl
theorem ct_118_438 : am_CT 118 438 = some (.bipush 5, 439, 0, 0, 0) := rfl
theorem ct_118_439 : am_CT 118 439 = some (.newarray .int, 441, 20, 0, 0) := rfl
theorem ct_118_441 : am_CT 118 441 = some (.putfield 184, 444, 57, 12, 2) := rfl
theorem ct_118_444 : am_CT 118 444 = some (.aload 0, 445, 0, 0, 0) := rfl
theorem ct_118_445 : am_CT 118 445 = some (.bipush 20, 447, 0, 0, 0) := rfl
theorem ct_118_447 : am_CT 118 447 = some (.newarray .int, 449, 20, 0, 0) := rfl
theorem ct_118_449 : am_CT 118 449 = some (.putfield 187, 452, 58, 12, 2) := rfl
theorem ct_118_452 : am_CT 118 452 = some (.aload 0, 453, 0, 0, 0) := rfl
theorem ct_118_453 : am_CT 118 453 = some (.bipush 4, 454, 0, 0, 0) := rfl
theorem ct_118_454 : am_CT 118 454 = some (.newarray .int, 456, 20, 0, 0) := rfl
theorem ct_118_456 : am_CT 118 456 = some (.putfield 190, 459, 59, 12, 2) := rfl
theorem ct_118_459 : am_CT 118 459 = some (.aload 0, 460, 0, 0, 0) := rfl
theorem ct_118_460 : am_CT 118 460 = some (.bipush 6, 462, 0, 0, 0) := rfl
theorem ct_118_462 : am_CT 118 462 = some (.newarray .int, 464, 20, 0, 0) := rfl
theorem ct_118_464 : am_CT 118 464 = some (.putfield 193, 467, 60, 12, 2) := rfl
theorem ct_118_467 : am_CT 118 467 = some (.aload 0, 468, 0, 0, 0) := rfl
theorem ct_118_468 : am_CT 118 468 = some (.bipush 6, 470, 0, 0, 0) := rfl
theorem ct_118_470 : am_CT 118 470 = some (.newarray .int, 472, 20, 0, 0) := rfl
theorem ct_118_472 : am_CT 118 472 = some (.putfield 196, 475, 61, 12, 2) := rfl
theorem ct_118_475 : am_CT 118 475 = some (.aload 0, 476, 0, 0, 0) := rfl
theorem ct_118_476 : am_CT 118 476 = some (.bipush 6, 478, 0, 0, 0) := rfl
theorem ct_118_478 : am_CT 118 478 = some (.newarray .int, 480, 20, 0, 0) := rfl
theorem ct_118_480 : am_CT 118 480 = some (.putfield 199, 483, 62, 12, 2) := rfl
theorem ct_118_483 : am_CT 118 483 = some (.aload 0, 484, 0, 0, 0) := rfl
theorem ct_118_484 : am_CT 118 484 = some (.bipush 12, 486, 0, 0, 0) := rfl
theorem ct_118_486 : am_CT 118 486 = some (.newarray .int, 488, 20, 0, 0) := rfl
theorem ct_118_488 : am_CT 118 488 = some (.putfield 202, 491, 63, 12, 2) := rfl
theorem ct_118_491 : am_CT 118 491 = some (.aload 0, 492, 0, 0, 0) := rfl
theorem ct_118_492 : am_CT 118 492 = some (.bipush 12, 494, 0, 0, 0) := rfl
theorem ct_118_494 : am_CT 118 494 = some (.newarray .boolean, 496, 23, 0, 0) := rfl
theorem ct_118_496 : am_CT 118 496 = some (.putfield 205, 499, 64, 12, 2) := rfl
theorem ct_118_499 : am_CT 118 499 = some (.aload 0, 500, 0, 0, 0) := rfl
theorem ct_118_500 : am_CT 118 500 = some (.bipush 0, 501, 0, 0, 0) := rfl
theorem ct_118_501 : am_CT 118 501 = some (.putfield 208, 504, 65, 12, 0) := rfl
theorem ct_118_504 : am_CT 118 504 = some (.aload 0, 505, 0, 0, 0) := rfl
theorem ct_118_505 : am_CT 118 505 = some (.bipush 20, 507, 0, 0, 0) := rfl
theorem ct_118_507 : am_CT 118 507 = some (.newarray .int, 509, 20, 0, 0) := rfl
theorem ct_118_509 : am_CT 118 509 = some (.putfield 211, 512, 66, 12, 2) := rfl
theorem ct_118_512 : am_CT 118 512 = some (.aload 0, 513, 0, 0, 0) := rfl
theorem ct_118_513 : am_CT 118 513 = some (.bipush 6, 515, 0, 0, 0) := rfl
theorem ct_118_515 : am_CT 118 515 = some (.newarray .int, 517, 20, 0, 0) := rfl
theorem ct_118_517 : am_CT 118 517 = some (.dup, 518, 0, 0, 0) := rfl
theorem ct_118_518 : am_CT 118 518 = some (.bipush 0, 519, 0, 0, 0) := rfl
theorem ct_118_519 : am_CT 118 519 = some (.bipush (-1), 520, 0, 0, 0) := rfl
theorem ct_118_520 : am_CT 118 520 = some (.iastore, 521, 0, 0, 0) := rfl
theorem ct_118_521 : am_CT 118 521 = some (.dup, 522, 0, 0, 0) := rfl
theorem ct_118_522 : am_CT 118 522 = some (.bipush 1, 523, 0, 0, 0) := rfl
theorem ct_118_523 : am_CT 118 523 = some (.bipush (-1), 524, 0, 0, 0) := rfl
theorem ct_118_524 : am_CT 118 524 = some (.iastore, 525, 0, 0, 0) := rfl
theorem ct_118_525 : am_CT 118 525 = some (.dup, 526, 0, 0, 0) := rfl
theorem ct_118_526 : am_CT 118 526 = some (.bipush 2, 527, 0, 0, 0) := rfl
theorem ct_118_527 : am_CT 118 527 = some (.bipush (-1), 528, 0, 0, 0) := rfl
theorem ct_118_528 : am_CT 118 528 = some (.iastore, 529, 0, 0, 0) := rfl
theorem ct_118_529 : am_CT 118 529 = some (.dup, 530, 0, 0, 0) := rfl
theorem ct_118_530 : am_CT 118 530 = some (.bipush 3, 531, 0, 0, 0) := rfl
theorem ct_118_531 : am_CT 118 531 = some (.bipush (-1), 532, 0, 0, 0) := rfl
theorem ct_118_532 : am_CT 118 532 = some (.iastore, 533, 0, 0, 0) := rfl
theorem ct_118_533 : am_CT 118 533 = some (.dup, 534, 0, 0, 0) := rfl
theorem ct_118_534 : am_CT 118 534 = some (.bipush 4, 535, 0, 0, 0) := rfl
theorem ct_118_535 : am_CT 118 535 = some (.bipush (-1), 536, 0, 0, 0) := rfl
theorem ct_118_536 : am_CT 118 536 = some (.iastore, 537, 0, 0, 0) := rfl
theorem ct_118_537 : am_CT 118 537 = some (.dup, 538, 0, 0, 0) := rfl
theorem ct_118_538 : am_CT 118 538 = some (.bipush 5, 539, 0, 0, 0) := rfl
theorem ct_118_539 : am_CT 118 539 = some (.bipush (-1), 540, 0, 0, 0) := rfl
theorem ct_118_540 : am_CT 118 540 = some (.iastore, 541, 0, 0, 0) := rfl
theorem ct_118_541 : am_CT 118 541 = some (.putfield 214, 544, 67, 12, 2) := rfl
theorem ct_118_544 : am_CT 118 544 = some (.aload 0, 545, 0, 0, 0) := rfl
theorem ct_118_545 : am_CT 118 545 = some (.bipush 6, 547, 0, 0, 0) := rfl
theorem ct_118_547 : am_CT 118 547 = some (.newarray .int, 549, 20, 0, 0) := rfl
theorem ct_118_549 : am_CT 118 549 = some (.putfield 217, 552, 68, 12, 2) := rfl
theorem ct_118_552 : am_CT 118 552 = some (.aload 0, 553, 0, 0, 0) := rfl
theorem ct_118_553 : am_CT 118 553 = some (.bipush 360, 556, 0, 0, 0) := rfl
theorem ct_118_556 : am_CT 118 556 = some (.newarray .long, 558, 21, 0, 0) := rfl
theorem ct_118_558 : am_CT 118 558 = some (.putfield 220, 561, 69, 12, 2) := rfl
theorem ct_118_561 : am_CT 118 561 = some (.aload 0, 562, 0, 0, 0) := rfl
theorem ct_118_562 : am_CT 118 562 = some (.bipush 60, 564, 0, 0, 0) := rfl
theorem ct_118_564 : am_CT 118 564 = some (.newarray .long, 566, 21, 0, 0) := rfl
theorem ct_118_566 : am_CT 118 566 = some (.putfield 224, 569, 70, 12, 2) := rfl
theorem ct_118_569 : am_CT 118 569 = some (.return_, 570, 0, 0, 0) := rfl
theorem ct_119_0 : am_CT 119 0 = some (.iload 1, 1, 0, 0, 0) := rfl
theorem ct_119_1 : am_CT 119 1 = some (.iload 2, 2, 0, 0, 0) := rfl
theorem ct_119_2 : am_CT 119 2 = some (.if_icmp .lt 12, 5, 14, 0, 0) := rfl
theorem ct_119_5 : am_CT 119 5 = some (.iload 1, 6, 0, 0, 0) := rfl
theorem ct_119_6 : am_CT 119 6 = some (.iload 3, 7, 0, 0, 0) := rfl
theorem ct_119_7 : am_CT 119 7 = some (.if_icmp .gt 7, 10, 14, 0, 0) := rfl
theorem ct_119_10 : am_CT 119 10 = some (.bipush 1, 11, 0, 0, 0) := rfl
theorem ct_119_11 : am_CT 119 11 = some (.goto 4, 14, 15, 0, 0) := rfl
theorem ct_119_14 : am_CT 119 14 = some (.bipush 0, 15, 0, 0, 0) := rfl
theorem ct_119_15 : am_CT 119 15 = some (.ireturn, 16, 1, 0, 0) := rfl
theorem ct_120_0 : am_CT 120 0 = some (.aload 0, 1, 0, 0, 0) := rfl
theorem ct_120_1 : am_CT 120 1 = some (.iload 1, 2, 0, 0, 0) := rfl
theorem ct_120_2 : am_CT 120 2 = some (.bipush 0, 3, 0, 0, 0) := rfl
theorem ct_120_3 : am_CT 120 3 = some (.aload 0, 4, 0, 0, 0) := rfl
theorem ct_120_4 : am_CT 120 4 = some (.getfield 7, 7, 0, 12, 0) := rfl
theorem ct_120_7 : am_CT 120 7 = some (.bipush 1, 8, 0, 0, 0) := rfl
theorem ct_120_8 : am_CT 120 8 = some (.isub, 9, 0, 0, 0) := rfl
theorem ct_120_9 : am_CT 120 9 = some (.invokevirtual 227, 12, 219, 3, 12) := rfl
theorem ct_120_12 : am_CT 120 12 = some (.ireturn, 13, 1, 0, 0) := rfl
theorem ct_121_0 : am_CT 121 0 = some (.aload 0, 1, 0, 0, 0) := rfl
theorem ct_121_1 : am_CT 121 1 = some (.iload 1, 2, 0, 0, 0) := rfl
theorem ct_121_2 : am_CT 121 2 = some (.bipush 0, 3, 0, 0, 0) := rfl
theorem ct_121_3 : am_CT 121 3 = some (.bipush 6, 5, 0, 0, 0) := rfl
theorem ct_121_5 : am_CT 121 5 = some (.invokevirtual 227, 8, 219, 3, 12) := rfl
theorem ct_121_8 : am_CT 121 8 = some (.ifCond .ne 5, 11, 13, 0, 0) := rfl
theorem ct_121_11 : am_CT 121 11 = some (.bipush (-1), 12, 0, 0, 0) := rfl
theorem ct_121_12 : am_CT 121 12 = some (.ireturn, 13, 0, 0, 0) := rfl
theorem ct_121_13 : am_CT 121 13 = some (.aload 0, 14, 0, 0, 0) := rfl
theorem ct_121_14 : am_CT 121 14 = some (.iload 2, 15, 0, 0, 0) := rfl
theorem ct_121_15 : am_CT 121 15 = some (.bipush 0, 16, 0, 0, 0) := rfl
theorem ct_121_16 : am_CT 121 16 = some (.bipush 9, 18, 0, 0, 0) := rfl
theorem ct_121_18 : am_CT 121 18 = some (.invokevirtual 227, 21, 219, 3, 12) := rfl
theorem ct_121_21 : am_CT 121 21 = some (.ifCond .eq 26, 24, 47, 0, 0) := rfl
theorem ct_121_24 : am_CT 121 24 = some (.aload 0, 25, 0, 0, 0) := rfl
theorem ct_121_25 : am_CT 121 25 = some (.iload 3, 26, 0, 0, 0) := rfl
theorem ct_121_26 : am_CT 121 26 = some (.bipush 1, 27, 0, 0, 0) := rfl
theorem ct_121_27 : am_CT 121 27 = some (.bipush 9, 29, 0, 0, 0) := rfl
theorem ct_121_29 : am_CT 121 29 = some (.invokevirtual 227, 32, 219, 3, 12) := rfl
theorem ct_121_32 : am_CT 121 32 = some (.ifCond .eq 15, 35, 47, 0, 0) := rfl
theorem ct_121_35 : am_CT 121 35 = some (.aload 0, 36, 0, 0, 0) := rfl
theorem ct_121_36 : am_CT 121 36 = some (.iload 4, 38, 0, 0, 0) := rfl
theorem ct_121_38 : am_CT 121 38 = some (.bipush 1, 39, 0, 0, 0) := rfl
theorem ct_121_39 : am_CT 121 39 = some (.bipush 60, 41, 0, 0, 0) := rfl
theorem ct_121_41 : am_CT 121 41 = some (.invokevirtual 227, 44, 219, 3, 12) := rfl
theorem ct_121_44 : am_CT 121 44 = some (.ifCond .ne 6, 47, 50, 0, 0) := rfl
theorem ct_121_47 : am_CT 121 47 = some (.bipush (-2), 49, 0, 0, 0) := rfl
theorem ct_121_49 : am_CT 121 49 = some (.ireturn, 50, 0, 0, 0) := rfl
theorem ct_121_50 : am_CT 121 50 = some (.aload 0, 51, 0, 0, 0) := rfl
theorem ct_121_51 : am_CT 121 51 = some (.getfield 7, 54, 0, 12, 0) := rfl
theorem ct_121_54 : am_CT 121 54 = some (.bipush 5, 55, 0, 0, 0) := rfl
theorem ct_121_55 : am_CT 121 55 = some (.if_icmp .ne 6, 58, 61, 0, 0) := rfl
theorem ct_121_58 : am_CT 121 58 = some (.bipush (-4), 60, 0, 0, 0) := rfl
theorem ct_121_60 : am_CT 121 60 = some (.ireturn, 61, 0, 0, 0) := rfl
theorem ct_121_61 : am_CT 121 61 = some (.aload 0, 62, 0, 0, 0) := rfl
theorem ct_121_62 : am_CT 121 62 = some (.getfield 16, 65, 2, 12, 2) := rfl
theorem ct_121_65 : am_CT 121 65 = some (.aload 0, 66, 0, 0, 0) := rfl
theorem ct_121_66 : am_CT 121 66 = some (.getfield 7, 69, 0, 12, 0) := rfl
theorem ct_121_69 : am_CT 121 69 = some (.iload 1, 70, 0, 0, 0) := rfl
theorem ct_121_70 : am_CT 121 70 = some (.iastore, 71, 0, 0, 0) := rfl
theorem ct_121_71 : am_CT 121 71 = some (.aload 0, 72, 0, 0, 0) := rfl
theorem ct_121_72 : am_CT 121 72 = some (.getfield 20, 75, 3, 12, 2) := rfl
theorem ct_121_75 : am_CT 121 75 = some (.aload 0, 76, 0, 0, 0) := rfl
theorem ct_121_76 : am_CT 121 76 = some (.getfield 7, 79, 0, 12, 0) := rfl
theorem ct_121_79 : am_CT 121 79 = some (.iload 2, 80, 0, 0, 0) := rfl
theorem ct_121_80 : am_CT 121 80 = some (.iastore, 81, 0, 0, 0) := rfl
theorem ct_121_81 : am_CT 121 81 = some (.aload 0, 82, 0, 0, 0) := rfl
theorem ct_121_82 : am_CT 121 82 = some (.getfield 23, 85, 4, 12, 2) := rfl
theorem ct_121_85 : am_CT 121 85 = some (.aload 0, 86, 0, 0, 0) := rfl
theorem ct_121_86 : am_CT 121 86 = some (.getfield 7, 89, 0, 12, 0) := rfl
theorem ct_121_89 : am_CT 121 89 = some (.iload 3, 90, 0, 0, 0) := rfl
theorem ct_121_90 : am_CT 121 90 = some (.iastore, 91, 0, 0, 0) := rfl
theorem ct_121_91 : am_CT 121 91 = some (.aload 0, 92, 0, 0, 0) := rfl
theorem ct_121_92 : am_CT 121 92 = some (.getfield 26, 95, 5, 12, 2) := rfl
theorem ct_121_95 : am_CT 121 95 = some (.aload 0, 96, 0, 0, 0) := rfl
theorem ct_121_96 : am_CT 121 96 = some (.getfield 7, 99, 0, 12, 0) := rfl
theorem ct_121_99 : am_CT 121 99 = some (.iload 4, 101, 0, 0, 0) := rfl
theorem ct_121_101 : am_CT 121 101 = some (.iastore, 102, 0, 0, 0) := rfl
theorem ct_121_102 : am_CT 121 102 = some (.aload 0, 103, 0, 0, 0) := rfl
theorem ct_121_103 : am_CT 121 103 = some (.getfield 29, 106, 6, 12, 2) := rfl
theorem ct_121_106 : am_CT 121 106 = some (.aload 0, 107, 0, 0, 0) := rfl
theorem ct_121_107 : am_CT 121 107 = some (.getfield 7, 110, 0, 12, 0) := rfl
theorem ct_121_110 : am_CT 121 110 = some (.bipush 0, 111, 0, 0, 0) := rfl
theorem ct_121_111 : am_CT 121 111 = some (.iastore, 112, 0, 0, 0) := rfl
theorem ct_121_112 : am_CT 121 112 = some (.bipush 0, 113, 0, 0, 0) := rfl
theorem ct_121_113 : am_CT 121 113 = some (.istore 5, 115, 0, 0, 0) := rfl
theorem ct_121_115 : am_CT 121 115 = some (.iload 5, 117, 0, 0, 0) := rfl
theorem ct_121_117 : am_CT 121 117 = some (.bipush 4, 118, 0, 0, 0) := rfl
theorem ct_121_118 : am_CT 121 118 = some (.if_icmp .ge 24, 121, 142, 0, 0) := rfl
theorem ct_121_121 : am_CT 121 121 = some (.aload 0, 122, 0, 0, 0) := rfl
theorem ct_121_122 : am_CT 121 122 = some (.getfield 32, 125, 7, 12, 2) := rfl
theorem ct_121_125 : am_CT 121 125 = some (.bipush 4, 126, 0, 0, 0) := rfl
theorem ct_121_126 : am_CT 121 126 = some (.aload 0, 127, 0, 0, 0) := rfl
theorem ct_121_127 : am_CT 121 127 = some (.getfield 7, 130, 0, 12, 0) := rfl
theorem ct_121_130 : am_CT 121 130 = some (.imul, 131, 0, 0, 0) := rfl
theorem ct_121_131 : am_CT 121 131 = some (.iload 5, 133, 0, 0, 0) := rfl
theorem ct_121_133 : am_CT 121 133 = some (.iadd, 134, 0, 0, 0) := rfl
theorem ct_121_134 : am_CT 121 134 = some (.bipush 0, 135, 0, 0, 0) := rfl
theorem ct_121_135 : am_CT 121 135 = some (.iastore, 136, 0, 0, 0) := rfl
theorem ct_121_136 : am_CT 121 136 = some (.iinc 5 1, 139, 0, 0, 0) := rfl
theorem ct_121_139 : am_CT 121 139 = some (.goto (-24), 142, 115, 0, 0) := rfl
theorem ct_121_142 : am_CT 121 142 = some (.aload 0, 143, 0, 0, 0) := rfl
theorem ct_121_143 : am_CT 121 143 = some (.dup, 144, 0, 0, 0) := rfl
theorem ct_121_144 : am_CT 121 144 = some (.getfield 7, 147, 0, 12, 0) := rfl
theorem ct_121_147 : am_CT 121 147 = some (.bipush 1, 148, 0, 0, 0) := rfl
theorem ct_121_148 : am_CT 121 148 = some (.iadd, 149, 0, 0, 0) := rfl
theorem ct_121_149 : am_CT 121 149 = some (.putfield 7, 152, 0, 12, 0) := rfl
theorem ct_121_152 : am_CT 121 152 = some (.aload 0, 153, 0, 0, 0) := rfl
theorem ct_121_153 : am_CT 121 153 = some (.getfield 7, 156, 0, 12, 0) := rfl
theorem ct_121_156 : am_CT 121 156 = some (.bipush 1, 157, 0, 0, 0) := rfl
theorem ct_121_157 : am_CT 121 157 = some (.isub, 158, 0, 0, 0) := rfl
theorem ct_121_158 : am_CT 121 158 = some (.ireturn, 159, 0, 0, 0) := rfl
theorem ct_122_0 : am_CT 122 0 = some (.aload 0, 1, 0, 0, 0) := rfl
theorem ct_122_1 : am_CT 122 1 = some (.iload 1, 2, 0, 0, 0) := rfl
theorem ct_122_2 : am_CT 122 2 = some (.invokevirtual 231, 5, 220, 1, 12) := rfl
theorem ct_122_5 : am_CT 122 5 = some (.ifCond .ne 5, 8, 10, 0, 0) := rfl
theorem ct_122_8 : am_CT 122 8 = some (.bipush (-1), 9, 0, 0, 0) := rfl
theorem ct_122_9 : am_CT 122 9 = some (.ireturn, 10, 0, 0, 0) := rfl
theorem ct_122_10 : am_CT 122 10 = some (.iload 2, 11, 0, 0, 0) := rfl
theorem ct_122_11 : am_CT 122 11 = some (.tableswitch 68 0 4 #[33, 40, 47, 54, 61], 44, 0, 0, 0) := rfl
theorem ct_122_44 : am_CT 122 44 = some (.aload 0, 45, 0, 0, 0) := rfl
theorem ct_122_45 : am_CT 122 45 = some (.getfield 16, 48, 2, 12, 2) := rfl
theorem ct_122_48 : am_CT 122 48 = some (.iload 1, 49, 0, 0, 0) := rfl
theorem ct_122_49 : am_CT 122 49 = some (.iaload, 50, 0, 0, 0) := rfl
theorem ct_122_50 : am_CT 122 50 = some (.ireturn, 51, 0, 0, 0) := rfl
theorem ct_122_51 : am_CT 122 51 = some (.aload 0, 52, 0, 0, 0) := rfl
theorem ct_122_52 : am_CT 122 52 = some (.getfield 20, 55, 3, 12, 2) := rfl
theorem ct_122_55 : am_CT 122 55 = some (.iload 1, 56, 0, 0, 0) := rfl
theorem ct_122_56 : am_CT 122 56 = some (.iaload, 57, 0, 0, 0) := rfl
theorem ct_122_57 : am_CT 122 57 = some (.ireturn, 58, 0, 0, 0) := rfl
theorem ct_122_58 : am_CT 122 58 = some (.aload 0, 59, 0, 0, 0) := rfl
theorem ct_122_59 : am_CT 122 59 = some (.getfield 23, 62, 4, 12, 2) := rfl
theorem ct_122_62 : am_CT 122 62 = some (.iload 1, 63, 0, 0, 0) := rfl
theorem ct_122_63 : am_CT 122 63 = some (.iaload, 64, 0, 0, 0) := rfl
theorem ct_122_64 : am_CT 122 64 = some (.ireturn, 65, 0, 0, 0) := rfl
theorem ct_122_65 : am_CT 122 65 = some (.aload 0, 66, 0, 0, 0) := rfl
theorem ct_122_66 : am_CT 122 66 = some (.getfield 26, 69, 5, 12, 2) := rfl
theorem ct_122_69 : am_CT 122 69 = some (.iload 1, 70, 0, 0, 0) := rfl
theorem ct_122_70 : am_CT 122 70 = some (.iaload, 71, 0, 0, 0) := rfl
theorem ct_122_71 : am_CT 122 71 = some (.ireturn, 72, 0, 0, 0) := rfl
theorem ct_122_72 : am_CT 122 72 = some (.aload 0, 73, 0, 0, 0) := rfl
theorem ct_122_73 : am_CT 122 73 = some (.getfield 29, 76, 6, 12, 2) := rfl
theorem ct_122_76 : am_CT 122 76 = some (.iload 1, 77, 0, 0, 0) := rfl
theorem ct_122_77 : am_CT 122 77 = some (.iaload, 78, 0, 0, 0) := rfl
theorem ct_122_78 : am_CT 122 78 = some (.ireturn, 79, 0, 0, 0) := rfl
theorem ct_122_79 : am_CT 122 79 = some (.bipush (-1), 80, 0, 0, 0) := rfl
theorem ct_122_80 : am_CT 122 80 = some (.ireturn, 81, 0, 0, 0) := rfl
theorem ct_123_0 : am_CT 123 0 = some (.aload 0, 1, 0, 0, 0) := rfl
theorem ct_123_1 : am_CT 123 1 = some (.iload 1, 2, 0, 0, 0) := rfl
theorem ct_123_2 : am_CT 123 2 = some (.invokevirtual 231, 5, 220, 1, 12) := rfl
theorem ct_123_5 : am_CT 123 5 = some (.ifCond .eq 13, 8, 18, 0, 0) := rfl
theorem ct_123_8 : am_CT 123 8 = some (.aload 0, 9, 0, 0, 0) := rfl
theorem ct_123_9 : am_CT 123 9 = some (.iload 2, 10, 0, 0, 0) := rfl
theorem ct_123_10 : am_CT 123 10 = some (.bipush 0, 11, 0, 0, 0) := rfl
theorem ct_123_11 : am_CT 123 11 = some (.bipush 1, 12, 0, 0, 0) := rfl
theorem ct_123_12 : am_CT 123 12 = some (.invokevirtual 227, 15, 219, 3, 12) := rfl
theorem ct_123_15 : am_CT 123 15 = some (.ifCond .ne 5, 18, 20, 0, 0) := rfl
theorem ct_123_18 : am_CT 123 18 = some (.bipush (-1), 19, 0, 0, 0) := rfl
theorem ct_123_19 : am_CT 123 19 = some (.ireturn, 20, 0, 0, 0) := rfl
theorem ct_123_20 : am_CT 123 20 = some (.aload 0, 21, 0, 0, 0) := rfl
theorem ct_123_21 : am_CT 123 21 = some (.iload 3, 22, 0, 0, 0) := rfl
theorem ct_123_22 : am_CT 123 22 = some (.bipush 1, 23, 0, 0, 0) := rfl
theorem ct_123_23 : am_CT 123 23 = some (.iload 2, 24, 0, 0, 0) := rfl
theorem ct_123_24 : am_CT 123 24 = some (.ifCond .ne 8, 27, 32, 0, 0) := rfl
theorem ct_123_27 : am_CT 123 27 = some (.bipush 9, 29, 0, 0, 0) := rfl
theorem ct_123_29 : am_CT 123 29 = some (.goto 5, 32, 34, 0, 0) := rfl
theorem ct_123_32 : am_CT 123 32 = some (.bipush 60, 34, 0, 0, 0) := rfl
theorem ct_123_34 : am_CT 123 34 = some (.invokevirtual 227, 37, 219, 3, 12) := rfl
theorem ct_123_37 : am_CT 123 37 = some (.ifCond .ne 6, 40, 43, 0, 0) := rfl
theorem ct_123_40 : am_CT 123 40 = some (.bipush (-2), 42, 0, 0, 0) := rfl
theorem ct_123_42 : am_CT 123 42 = some (.ireturn, 43, 0, 0, 0) := rfl
theorem ct_123_43 : am_CT 123 43 = some (.iload 2, 44, 0, 0, 0) := rfl
theorem ct_123_44 : am_CT 123 44 = some (.ifCond .ne 12, 47, 56, 0, 0) := rfl
theorem ct_123_47 : am_CT 123 47 = some (.aload 0, 48, 0, 0, 0) := rfl
theorem ct_123_48 : am_CT 123 48 = some (.getfield 23, 51, 4, 12, 2) := rfl
theorem ct_123_51 : am_CT 123 51 = some (.iload 1, 52, 0, 0, 0) := rfl
theorem ct_123_52 : am_CT 123 52 = some (.iaload, 53, 0, 0, 0) := rfl
theorem ct_123_53 : am_CT 123 53 = some (.goto 9, 56, 62, 0, 0) := rfl
theorem ct_123_56 : am_CT 123 56 = some (.aload 0, 57, 0, 0, 0) := rfl
theorem ct_123_57 : am_CT 123 57 = some (.getfield 26, 60, 5, 12, 2) := rfl
theorem ct_123_60 : am_CT 123 60 = some (.iload 1, 61, 0, 0, 0) := rfl
theorem ct_123_61 : am_CT 123 61 = some (.iaload, 62, 0, 0, 0) := rfl
theorem ct_123_62 : am_CT 123 62 = some (.istore 4, 64, 0, 0, 0) := rfl
theorem ct_123_64 : am_CT 123 64 = some (.iload 2, 65, 0, 0, 0) := rfl
theorem ct_123_65 : am_CT 123 65 = some (.ifCond .ne 13, 68, 78, 0, 0) := rfl
theorem ct_123_68 : am_CT 123 68 = some (.aload 0, 69, 0, 0, 0) := rfl
theorem ct_123_69 : am_CT 123 69 = some (.getfield 23, 72, 4, 12, 2) := rfl
theorem ct_123_72 : am_CT 123 72 = some (.iload 1, 73, 0, 0, 0) := rfl
theorem ct_123_73 : am_CT 123 73 = some (.iload 3, 74, 0, 0, 0) := rfl
theorem ct_123_74 : am_CT 123 74 = some (.iastore, 75, 0, 0, 0) := rfl
theorem ct_123_75 : am_CT 123 75 = some (.goto 10, 78, 85, 0, 0) := rfl
theorem ct_123_78 : am_CT 123 78 = some (.aload 0, 79, 0, 0, 0) := rfl
theorem ct_123_79 : am_CT 123 79 = some (.getfield 26, 82, 5, 12, 2) := rfl
theorem ct_123_82 : am_CT 123 82 = some (.iload 1, 83, 0, 0, 0) := rfl
theorem ct_123_83 : am_CT 123 83 = some (.iload 3, 84, 0, 0, 0) := rfl
theorem ct_123_84 : am_CT 123 84 = some (.iastore, 85, 0, 0, 0) := rfl
theorem ct_123_85 : am_CT 123 85 = some (.iload 4, 87, 0, 0, 0) := rfl
theorem ct_123_87 : am_CT 123 87 = some (.ireturn, 88, 0, 0, 0) := rfl
theorem ct_124_0 : am_CT 124 0 = some (.aload 0, 1, 0, 0, 0) := rfl
theorem ct_124_1 : am_CT 124 1 = some (.iload 1, 2, 0, 0, 0) := rfl
theorem ct_124_2 : am_CT 124 2 = some (.bipush 0, 3, 0, 0, 0) := rfl
theorem ct_124_3 : am_CT 124 3 = some (.bipush 3, 4, 0, 0, 0) := rfl
theorem ct_124_4 : am_CT 124 4 = some (.invokevirtual 227, 7, 219, 3, 12) := rfl
theorem ct_124_7 : am_CT 124 7 = some (.ifCond .ne 5, 10, 12, 0, 0) := rfl
theorem ct_124_10 : am_CT 124 10 = some (.bipush (-1), 11, 0, 0, 0) := rfl
theorem ct_124_11 : am_CT 124 11 = some (.ireturn, 12, 0, 0, 0) := rfl
theorem ct_124_12 : am_CT 124 12 = some (.aload 0, 13, 0, 0, 0) := rfl
theorem ct_124_13 : am_CT 124 13 = some (.iload 2, 14, 0, 0, 0) := rfl
theorem ct_124_14 : am_CT 124 14 = some (.bipush 0, 15, 0, 0, 0) := rfl
theorem ct_124_15 : am_CT 124 15 = some (.iload 1, 16, 0, 0, 0) := rfl
theorem ct_124_16 : am_CT 124 16 = some (.bipush 3, 17, 0, 0, 0) := rfl
theorem ct_124_17 : am_CT 124 17 = some (.if_icmp .ne 8, 20, 25, 0, 0) := rfl
theorem ct_124_20 : am_CT 124 20 = some (.bipush 99, 22, 0, 0, 0) := rfl
theorem ct_124_22 : am_CT 124 22 = some (.goto 5, 25, 27, 0, 0) := rfl
theorem ct_124_25 : am_CT 124 25 = some (.bipush 9, 27, 0, 0, 0) := rfl
theorem ct_124_27 : am_CT 124 27 = some (.invokevirtual 227, 30, 219, 3, 12) := rfl
theorem ct_124_30 : am_CT 124 30 = some (.ifCond .ne 6, 33, 36, 0, 0) := rfl
theorem ct_124_33 : am_CT 124 33 = some (.bipush (-2), 35, 0, 0, 0) := rfl
theorem ct_124_35 : am_CT 124 35 = some (.ireturn, 36, 0, 0, 0) := rfl
theorem ct_124_36 : am_CT 124 36 = some (.aload 0, 37, 0, 0, 0) := rfl
theorem ct_124_37 : am_CT 124 37 = some (.getfield 35, 40, 8, 12, 2) := rfl
theorem ct_124_40 : am_CT 124 40 = some (.iload 1, 41, 0, 0, 0) := rfl
theorem ct_124_41 : am_CT 124 41 = some (.iaload, 42, 0, 0, 0) := rfl
theorem ct_124_42 : am_CT 124 42 = some (.istore 3, 43, 0, 0, 0) := rfl
theorem ct_124_43 : am_CT 124 43 = some (.aload 0, 44, 0, 0, 0) := rfl
theorem ct_124_44 : am_CT 124 44 = some (.getfield 35, 47, 8, 12, 2) := rfl
theorem ct_124_47 : am_CT 124 47 = some (.iload 1, 48, 0, 0, 0) := rfl
theorem ct_124_48 : am_CT 124 48 = some (.iload 2, 49, 0, 0, 0) := rfl
theorem ct_124_49 : am_CT 124 49 = some (.iastore, 50, 0, 0, 0) := rfl
theorem ct_124_50 : am_CT 124 50 = some (.iload 3, 51, 0, 0, 0) := rfl
theorem ct_124_51 : am_CT 124 51 = some (.ireturn, 52, 0, 0, 0) := rfl
theorem ct_125_0 : am_CT 125 0 = some (.aload 0, 1, 0, 0, 0) := rfl
theorem ct_125_1 : am_CT 125 1 = some (.iload 1, 2, 0, 0, 0) := rfl
theorem ct_125_2 : am_CT 125 2 = some (.invokevirtual 231, 5, 220, 1, 12) := rfl
theorem ct_125_5 : am_CT 125 5 = some (.ifCond .eq 13, 8, 18, 0, 0) := rfl
theorem ct_125_8 : am_CT 125 8 = some (.aload 0, 9, 0, 0, 0) := rfl
theorem ct_125_9 : am_CT 125 9 = some (.iload 2, 10, 0, 0, 0) := rfl
theorem ct_125_10 : am_CT 125 10 = some (.bipush 0, 11, 0, 0, 0) := rfl
theorem ct_125_11 : am_CT 125 11 = some (.bipush 3, 12, 0, 0, 0) := rfl
theorem ct_125_12 : am_CT 125 12 = some (.invokevirtual 227, 15, 219, 3, 12) := rfl
theorem ct_125_15 : am_CT 125 15 = some (.ifCond .ne 5, 18, 20, 0, 0) := rfl
theorem ct_125_18 : am_CT 125 18 = some (.bipush (-1), 19, 0, 0, 0) := rfl
theorem ct_125_19 : am_CT 125 19 = some (.ireturn, 20, 0, 0, 0) := rfl
theorem ct_125_20 : am_CT 125 20 = some (.aload 0, 21, 0, 0, 0) := rfl
theorem ct_125_21 : am_CT 125 21 = some (.iload 3, 22, 0, 0, 0) := rfl
theorem ct_125_22 : am_CT 125 22 = some (.bipush 0, 23, 0, 0, 0) := rfl
theorem ct_125_23 : am_CT 125 23 = some (.bipush 9, 25, 0, 0, 0) := rfl
theorem ct_125_25 : am_CT 125 25 = some (.invokevirtual 227, 28, 219, 3, 12) := rfl
theorem ct_125_28 : am_CT 125 28 = some (.ifCond .ne 6, 31, 34, 0, 0) := rfl
theorem ct_125_31 : am_CT 125 31 = some (.bipush (-2), 33, 0, 0, 0) := rfl
theorem ct_125_33 : am_CT 125 33 = some (.ireturn, 34, 0, 0, 0) := rfl
theorem ct_125_34 : am_CT 125 34 = some (.aload 0, 35, 0, 0, 0) := rfl
theorem ct_125_35 : am_CT 125 35 = some (.getfield 16, 38, 2, 12, 2) := rfl
theorem ct_125_38 : am_CT 125 38 = some (.iload 1, 39, 0, 0, 0) := rfl
theorem ct_125_39 : am_CT 125 39 = some (.iaload, 40, 0, 0, 0) := rfl
theorem ct_125_40 : am_CT 125 40 = some (.bipush 6, 42, 0, 0, 0) := rfl
theorem ct_125_42 : am_CT 125 42 = some (.if_icmp .eq 6, 45, 48, 0, 0) := rfl
theorem ct_125_45 : am_CT 125 45 = some (.bipush (-3), 47, 0, 0, 0) := rfl
theorem ct_125_47 : am_CT 125 47 = some (.ireturn, 48, 0, 0, 0) := rfl
theorem ct_125_48 : am_CT 125 48 = some (.aload 0, 49, 0, 0, 0) := rfl
theorem ct_125_49 : am_CT 125 49 = some (.getfield 32, 52, 7, 12, 2) := rfl
theorem ct_125_52 : am_CT 125 52 = some (.bipush 4, 53, 0, 0, 0) := rfl
theorem ct_125_53 : am_CT 125 53 = some (.iload 1, 54, 0, 0, 0) := rfl
theorem ct_125_54 : am_CT 125 54 = some (.imul, 55, 0, 0, 0) := rfl
theorem ct_125_55 : am_CT 125 55 = some (.iload 2, 56, 0, 0, 0) := rfl
theorem ct_125_56 : am_CT 125 56 = some (.iadd, 57, 0, 0, 0) := rfl
theorem ct_125_57 : am_CT 125 57 = some (.iaload, 58, 0, 0, 0) := rfl
theorem ct_125_58 : am_CT 125 58 = some (.istore 4, 60, 0, 0, 0) := rfl
theorem ct_125_60 : am_CT 125 60 = some (.aload 0, 61, 0, 0, 0) := rfl
theorem ct_125_61 : am_CT 125 61 = some (.getfield 32, 64, 7, 12, 2) := rfl
theorem ct_125_64 : am_CT 125 64 = some (.bipush 4, 65, 0, 0, 0) := rfl
theorem ct_125_65 : am_CT 125 65 = some (.iload 1, 66, 0, 0, 0) := rfl
theorem ct_125_66 : am_CT 125 66 = some (.imul, 67, 0, 0, 0) := rfl
theorem ct_125_67 : am_CT 125 67 = some (.iload 2, 68, 0, 0, 0) := rfl
theorem ct_125_68 : am_CT 125 68 = some (.iadd, 69, 0, 0, 0) := rfl
theorem ct_125_69 : am_CT 125 69 = some (.iload 3, 70, 0, 0, 0) := rfl
theorem ct_125_70 : am_CT 125 70 = some (.iastore, 71, 0, 0, 0) := rfl
theorem ct_125_71 : am_CT 125 71 = some (.iload 4, 73, 0, 0, 0) := rfl
theorem ct_125_73 : am_CT 125 73 = some (.ireturn, 74, 0, 0, 0) := rfl
theorem ct_126_0 : am_CT 126 0 = some (.aload 0, 1, 0, 0, 0) := rfl
theorem ct_126_1 : am_CT 126 1 = some (.iload 1, 2, 0, 0, 0) := rfl
theorem ct_126_2 : am_CT 126 2 = some (.bipush 0, 3, 0, 0, 0) := rfl
theorem ct_126_3 : am_CT 126 3 = some (.bipush 127, 5, 0, 0, 0) := rfl
theorem ct_126_5 : am_CT 126 5 = some (.invokevirtual 227, 8, 219, 3, 12) := rfl
theorem ct_126_8 : am_CT 126 8 = some (.ifCond .ne 6, 11, 14, 0, 0) := rfl
theorem ct_126_11 : am_CT 126 11 = some (.bipush (-2), 13, 0, 0, 0) := rfl
theorem ct_126_13 : am_CT 126 13 = some (.ireturn, 14, 0, 0, 0) := rfl
theorem ct_126_14 : am_CT 126 14 = some (.aload 0, 15, 0, 0, 0) := rfl
theorem ct_126_15 : am_CT 126 15 = some (.getfield 44, 18, 11, 12, 0) := rfl
theorem ct_126_18 : am_CT 126 18 = some (.bipush 100, 20, 0, 0, 0) := rfl
theorem ct_126_20 : am_CT 126 20 = some (.if_icmp .ne 6, 23, 26, 0, 0) := rfl
theorem ct_126_23 : am_CT 126 23 = some (.bipush (-4), 25, 0, 0, 0) := rfl
theorem ct_126_25 : am_CT 126 25 = some (.ireturn, 26, 0, 0, 0) := rfl
theorem ct_126_26 : am_CT 126 26 = some (.aload 0, 27, 0, 0, 0) := rfl
theorem ct_126_27 : am_CT 126 27 = some (.getfield 53, 30, 14, 12, 2) := rfl
theorem ct_126_30 : am_CT 126 30 = some (.aload 0, 31, 0, 0, 0) := rfl
theorem ct_126_31 : am_CT 126 31 = some (.getfield 44, 34, 11, 12, 0) := rfl
theorem ct_126_34 : am_CT 126 34 = some (.iload 1, 35, 0, 0, 0) := rfl
theorem ct_126_35 : am_CT 126 35 = some (.iastore, 36, 0, 0, 0) := rfl
theorem ct_126_36 : am_CT 126 36 = some (.aload 0, 37, 0, 0, 0) := rfl
theorem ct_126_37 : am_CT 126 37 = some (.dup, 38, 0, 0, 0) := rfl
theorem ct_126_38 : am_CT 126 38 = some (.getfield 44, 41, 11, 12, 0) := rfl
theorem ct_126_41 : am_CT 126 41 = some (.bipush 1, 42, 0, 0, 0) := rfl
theorem ct_126_42 : am_CT 126 42 = some (.iadd, 43, 0, 0, 0) := rfl
theorem ct_126_43 : am_CT 126 43 = some (.putfield 44, 46, 11, 12, 0) := rfl
theorem ct_126_46 : am_CT 126 46 = some (.aload 0, 47, 0, 0, 0) := rfl
theorem ct_126_47 : am_CT 126 47 = some (.getfield 44, 50, 11, 12, 0) := rfl
theorem ct_126_50 : am_CT 126 50 = some (.ireturn, 51, 0, 0, 0) := rfl
theorem ct_127_0 : am_CT 127 0 = some (.aload 0, 1, 0, 0, 0) := rfl
theorem ct_127_1 : am_CT 127 1 = some (.getfield 47, 4, 12, 12, 0) := rfl
theorem ct_127_4 : am_CT 127 4 = some (.aload 0, 5, 0, 0, 0) := rfl
theorem ct_127_5 : am_CT 127 5 = some (.getfield 44, 8, 11, 12, 0) := rfl
theorem ct_127_8 : am_CT 127 8 = some (.if_icmp .ge 15, 11, 23, 0, 0) := rfl
theorem ct_127_11 : am_CT 127 11 = some (.aload 0, 12, 0, 0, 0) := rfl
theorem ct_127_12 : am_CT 127 12 = some (.getfield 53, 15, 14, 12, 2) := rfl
theorem ct_127_15 : am_CT 127 15 = some (.aload 0, 16, 0, 0, 0) := rfl
theorem ct_127_16 : am_CT 127 16 = some (.getfield 47, 19, 12, 12, 0) := rfl
theorem ct_127_19 : am_CT 127 19 = some (.iaload, 20, 0, 0, 0) := rfl
theorem ct_127_20 : am_CT 127 20 = some (.goto 4, 23, 24, 0, 0) := rfl
theorem ct_127_23 : am_CT 127 23 = some (.bipush (-1), 24, 0, 0, 0) := rfl
theorem ct_127_24 : am_CT 127 24 = some (.ireturn, 25, 0, 0, 0) := rfl
theorem ct_128_0 : am_CT 128 0 = some (.aload 0, 1, 0, 0, 0) := rfl
theorem ct_128_1 : am_CT 128 1 = some (.invokevirtual 235, 4, 227, 0, 12) := rfl
theorem ct_128_4 : am_CT 128 4 = some (.iload 1, 5, 0, 0, 0) := rfl
theorem ct_128_5 : am_CT 128 5 = some (.if_icmp .eq 5, 8, 10, 0, 0) := rfl
theorem ct_128_8 : am_CT 128 8 = some (.bipush 0, 9, 0, 0, 0) := rfl
theorem ct_128_9 : am_CT 128 9 = some (.ireturn, 10, 1, 0, 0) := rfl
theorem ct_128_10 : am_CT 128 10 = some (.aload 0, 11, 0, 0, 0) := rfl
theorem ct_128_11 : am_CT 128 11 = some (.dup, 12, 0, 0, 0) := rfl
theorem ct_128_12 : am_CT 128 12 = some (.getfield 47, 15, 12, 12, 0) := rfl
theorem ct_128_15 : am_CT 128 15 = some (.bipush 1, 16, 0, 0, 0) := rfl
theorem ct_128_16 : am_CT 128 16 = some (.iadd, 17, 0, 0, 0) := rfl
theorem ct_128_17 : am_CT 128 17 = some (.putfield 47, 20, 12, 12, 0) := rfl
theorem ct_128_20 : am_CT 128 20 = some (.bipush 1, 21, 0, 0, 0) := rfl
theorem ct_128_21 : am_CT 128 21 = some (.ireturn, 22, 1, 0, 0) := rfl
theorem ct_129_0 : am_CT 129 0 = some (.bipush 0, 1, 0, 0, 0) := rfl
theorem ct_129_1 : am_CT 129 1 = some (.istore 3, 2, 0, 0, 0) := rfl
theorem ct_129_2 : am_CT 129 2 = some (.iload 3, 3, 0, 0, 0) := rfl
theorem ct_129_3 : am_CT 129 3 = some (.iload 2, 4, 0, 0, 0) := rfl
theorem ct_129_4 : am_CT 129 4 = some (.if_icmp .ge 26, 7, 30, 0, 0) := rfl
theorem ct_129_7 : am_CT 129 7 = some (.aload 0, 8, 0, 0, 0) := rfl
theorem ct_129_8 : am_CT 129 8 = some (.aload 0, 9, 0, 0, 0) := rfl
theorem ct_129_9 : am_CT 129 9 = some (.getfield 86, 12, 25, 12, 2) := rfl
theorem ct_129_12 : am_CT 129 12 = some (.iload 1, 13, 0, 0, 0) := rfl
theorem ct_129_13 : am_CT 129 13 = some (.iload 3, 14, 0, 0, 0) := rfl
theorem ct_129_14 : am_CT 129 14 = some (.iadd, 15, 0, 0, 0) := rfl
theorem ct_129_15 : am_CT 129 15 = some (.iaload, 16, 0, 0, 0) := rfl
theorem ct_129_16 : am_CT 129 16 = some (.invokevirtual 239, 19, 228, 1, 12) := rfl
theorem ct_129_19 : am_CT 129 19 = some (.ifCond .ne 5, 22, 24, 0, 0) := rfl
theorem ct_129_22 : am_CT 129 22 = some (.bipush 0, 23, 0, 0, 0) := rfl
theorem ct_129_23 : am_CT 129 23 = some (.ireturn, 24, 1, 0, 0) := rfl
theorem ct_129_24 : am_CT 129 24 = some (.iinc 3 1, 27, 0, 0, 0) := rfl
theorem ct_129_27 : am_CT 129 27 = some (.goto (-25), 30, 2, 0, 0) := rfl
theorem ct_129_30 : am_CT 129 30 = some (.aload 0, 31, 0, 0, 0) := rfl
theorem ct_129_31 : am_CT 129 31 = some (.bipush 32, 33, 0, 0, 0) := rfl
theorem ct_129_33 : am_CT 129 33 = some (.invokevirtual 239, 36, 228, 1, 12) := rfl
theorem ct_129_36 : am_CT 129 36 = some (.ireturn, 37, 1, 0, 0) := rfl
theorem ct_130_0 : am_CT 130 0 = some (.aload 0, 1, 0, 0, 0) := rfl
theorem ct_130_1 : am_CT 130 1 = some (.aload 0, 2, 0, 0, 0) := rfl
theorem ct_130_2 : am_CT 130 2 = some (.invokevirtual 235, 5, 227, 0, 12) := rfl
theorem ct_130_5 : am_CT 130 5 = some (.bipush 48, 7, 0, 0, 0) := rfl
theorem ct_130_7 : am_CT 130 7 = some (.bipush 57, 9, 0, 0, 0) := rfl
theorem ct_130_9 : am_CT 130 9 = some (.invokevirtual 227, 12, 219, 3, 12) := rfl
theorem ct_130_12 : am_CT 130 12 = some (.ireturn, 13, 1, 0, 0) := rfl
theorem ct_131_0 : am_CT 131 0 = some (.aload 0, 1, 0, 0, 0) := rfl
theorem ct_131_1 : am_CT 131 1 = some (.invokevirtual 242, 4, 230, 0, 12) := rfl
theorem ct_131_4 : am_CT 131 4 = some (.ifCond .ne 5, 7, 9, 0, 0) := rfl
theorem ct_131_7 : am_CT 131 7 = some (.bipush 0, 8, 0, 0, 0) := rfl
theorem ct_131_8 : am_CT 131 8 = some (.ireturn, 9, 1, 0, 0) := rfl
theorem ct_131_9 : am_CT 131 9 = some (.aload 0, 10, 0, 0, 0) := rfl
theorem ct_131_10 : am_CT 131 10 = some (.bipush 0, 11, 0, 0, 0) := rfl
theorem ct_131_11 : am_CT 131 11 = some (.putfield 50, 14, 13, 12, 0) := rfl
theorem ct_131_14 : am_CT 131 14 = some (.bipush 0, 15, 0, 0, 0) := rfl
theorem ct_131_15 : am_CT 131 15 = some (.istore 1, 16, 0, 0, 0) := rfl
theorem ct_131_16 : am_CT 131 16 = some (.iload 1, 17, 0, 0, 0) := rfl
theorem ct_131_17 : am_CT 131 17 = some (.bipush 2, 18, 0, 0, 0) := rfl
theorem ct_131_18 : am_CT 131 18 = some (.if_icmp .ge 45, 21, 63, 0, 0) := rfl
theorem ct_131_21 : am_CT 131 21 = some (.aload 0, 22, 0, 0, 0) := rfl
theorem ct_131_22 : am_CT 131 22 = some (.invokevirtual 242, 25, 230, 0, 12) := rfl
theorem ct_131_25 : am_CT 131 25 = some (.ifCond .eq 38, 28, 63, 0, 0) := rfl
theorem ct_131_28 : am_CT 131 28 = some (.aload 0, 29, 0, 0, 0) := rfl
theorem ct_131_29 : am_CT 131 29 = some (.bipush 10, 31, 0, 0, 0) := rfl
theorem ct_131_31 : am_CT 131 31 = some (.aload 0, 32, 0, 0, 0) := rfl
theorem ct_131_32 : am_CT 131 32 = some (.getfield 50, 35, 13, 12, 0) := rfl
theorem ct_131_35 : am_CT 131 35 = some (.imul, 36, 0, 0, 0) := rfl
theorem ct_131_36 : am_CT 131 36 = some (.aload 0, 37, 0, 0, 0) := rfl
theorem ct_131_37 : am_CT 131 37 = some (.invokevirtual 235, 40, 227, 0, 12) := rfl
theorem ct_131_40 : am_CT 131 40 = some (.iadd, 41, 0, 0, 0) := rfl
theorem ct_131_41 : am_CT 131 41 = some (.bipush 48, 43, 0, 0, 0) := rfl
theorem ct_131_43 : am_CT 131 43 = some (.isub, 44, 0, 0, 0) := rfl
theorem ct_131_44 : am_CT 131 44 = some (.putfield 50, 47, 13, 12, 0) := rfl
theorem ct_131_47 : am_CT 131 47 = some (.aload 0, 48, 0, 0, 0) := rfl
theorem ct_131_48 : am_CT 131 48 = some (.dup, 49, 0, 0, 0) := rfl
theorem ct_131_49 : am_CT 131 49 = some (.getfield 47, 52, 12, 12, 0) := rfl
theorem ct_131_52 : am_CT 131 52 = some (.bipush 1, 53, 0, 0, 0) := rfl
theorem ct_131_53 : am_CT 131 53 = some (.iadd, 54, 0, 0, 0) := rfl
theorem ct_131_54 : am_CT 131 54 = some (.putfield 47, 57, 12, 12, 0) := rfl
theorem ct_131_57 : am_CT 131 57 = some (.iinc 1 1, 60, 0, 0, 0) := rfl
theorem ct_131_60 : am_CT 131 60 = some (.goto (-44), 63, 16, 0, 0) := rfl
theorem ct_131_63 : am_CT 131 63 = some (.bipush 1, 64, 0, 0, 0) := rfl
theorem ct_131_64 : am_CT 131 64 = some (.ireturn, 65, 1, 0, 0) := rfl
theorem ct_132_0 : am_CT 132 0 = some (.aload 0, 1, 0, 0, 0) := rfl
theorem ct_132_1 : am_CT 132 1 = some (.getfield 71, 4, 20, 12, 2) := rfl
theorem ct_132_4 : am_CT 132 4 = some (.aload 0, 5, 0, 0, 0) := rfl
theorem ct_132_5 : am_CT 132 5 = some (.getfield 77, 8, 22, 12, 0) := rfl
theorem ct_132_8 : am_CT 132 8 = some (.iload 1, 9, 0, 0, 0) := rfl
theorem ct_132_9 : am_CT 132 9 = some (.iastore, 10, 0, 0, 0) := rfl
theorem ct_132_10 : am_CT 132 10 = some (.aload 0, 11, 0, 0, 0) := rfl
theorem ct_132_11 : am_CT 132 11 = some (.dup, 12, 0, 0, 0) := rfl
theorem ct_132_12 : am_CT 132 12 = some (.getfield 77, 15, 22, 12, 0) := rfl
theorem ct_132_15 : am_CT 132 15 = some (.bipush 1, 16, 0, 0, 0) := rfl
theorem ct_132_16 : am_CT 132 16 = some (.iadd, 17, 0, 0, 0) := rfl
theorem ct_132_17 : am_CT 132 17 = some (.putfield 77, 20, 22, 12, 0) := rfl
theorem ct_132_20 : am_CT 132 20 = some (.return_, 21, 0, 0, 0) := rfl
theorem ct_133_0 : am_CT 133 0 = some (.aload 0, 1, 0, 0, 0) := rfl
theorem ct_133_1 : am_CT 133 1 = some (.getfield 80, 4, 23, 12, 0) := rfl
theorem ct_133_4 : am_CT 133 4 = some (.ifCond .le 48, 7, 52, 0, 0) := rfl
theorem ct_133_7 : am_CT 133 7 = some (.aload 0, 8, 0, 0, 0) := rfl
theorem ct_133_8 : am_CT 133 8 = some (.getfield 74, 11, 21, 12, 2) := rfl
theorem ct_133_11 : am_CT 133 11 = some (.aload 0, 12, 0, 0, 0) := rfl
theorem ct_133_12 : am_CT 133 12 = some (.getfield 80, 15, 23, 12, 0) := rfl
theorem ct_133_15 : am_CT 133 15 = some (.bipush 1, 16, 0, 0, 0) := rfl
theorem ct_133_16 : am_CT 133 16 = some (.isub, 17, 0, 0, 0) := rfl
theorem ct_133_17 : am_CT 133 17 = some (.iaload, 18, 0, 0, 0) := rfl
theorem ct_133_18 : am_CT 133 18 = some (.bipush 33, 20, 0, 0, 0) := rfl
theorem ct_133_20 : am_CT 133 20 = some (.if_icmp .ne 32, 23, 52, 0, 0) := rfl
theorem ct_133_23 : am_CT 133 23 = some (.aload 0, 24, 0, 0, 0) := rfl
theorem ct_133_24 : am_CT 133 24 = some (.bipush (-33), 26, 0, 0, 0) := rfl
theorem ct_133_26 : am_CT 133 26 = some (.invokevirtual 246, 29, 232, 1, 12) := rfl
theorem ct_133_29 : am_CT 133 29 = some (.aload 0, 30, 0, 0, 0) := rfl
theorem ct_133_30 : am_CT 133 30 = some (.dup, 31, 0, 0, 0) := rfl
theorem ct_133_31 : am_CT 133 31 = some (.getfield 80, 34, 23, 12, 0) := rfl
theorem ct_133_34 : am_CT 133 34 = some (.bipush 1, 35, 0, 0, 0) := rfl
theorem ct_133_35 : am_CT 133 35 = some (.isub, 36, 0, 0, 0) := rfl
theorem ct_133_36 : am_CT 133 36 = some (.putfield 80, 39, 23, 12, 0) := rfl
theorem ct_133_39 : am_CT 133 39 = some (.aload 0, 40, 0, 0, 0) := rfl
theorem ct_133_40 : am_CT 133 40 = some (.dup, 41, 0, 0, 0) := rfl
theorem ct_133_41 : am_CT 133 41 = some (.getfield 83, 44, 24, 12, 0) := rfl
theorem ct_133_44 : am_CT 133 44 = some (.bipush 1, 45, 0, 0, 0) := rfl
theorem ct_133_45 : am_CT 133 45 = some (.isub, 46, 0, 0, 0) := rfl
theorem ct_133_46 : am_CT 133 46 = some (.putfield 83, 49, 24, 12, 0) := rfl
theorem ct_133_49 : am_CT 133 49 = some (.goto (-49), 52, 0, 0, 0) := rfl
theorem ct_133_52 : am_CT 133 52 = some (.return_, 53, 0, 0, 0) := rfl
theorem ct_134_0 : am_CT 134 0 = some (.aload 0, 1, 0, 0, 0) := rfl
theorem ct_134_1 : am_CT 134 1 = some (.getfield 80, 4, 23, 12, 0) := rfl
theorem ct_134_4 : am_CT 134 4 = some (.ifCond .le 68, 7, 72, 0, 0) := rfl
theorem ct_134_7 : am_CT 134 7 = some (.aload 0, 8, 0, 0, 0) := rfl
theorem ct_134_8 : am_CT 134 8 = some (.getfield 74, 11, 21, 12, 2) := rfl
theorem ct_134_11 : am_CT 134 11 = some (.aload 0, 12, 0, 0, 0) := rfl
theorem ct_134_12 : am_CT 134 12 = some (.getfield 80, 15, 23, 12, 0) := rfl
theorem ct_134_15 : am_CT 134 15 = some (.bipush 1, 16, 0, 0, 0) := rfl
theorem ct_134_16 : am_CT 134 16 = some (.isub, 17, 0, 0, 0) := rfl
theorem ct_134_17 : am_CT 134 17 = some (.iaload, 18, 0, 0, 0) := rfl
theorem ct_134_18 : am_CT 134 18 = some (.bipush 38, 20, 0, 0, 0) := rfl
theorem ct_134_20 : am_CT 134 20 = some (.if_icmp .eq 25, 23, 45, 0, 0) := rfl
theorem ct_134_23 : am_CT 134 23 = some (.aload 0, 24, 0, 0, 0) := rfl
theorem ct_134_24 : am_CT 134 24 = some (.getfield 74, 27, 21, 12, 2) := rfl
theorem ct_134_27 : am_CT 134 27 = some (.aload 0, 28, 0, 0, 0) := rfl
theorem ct_134_28 : am_CT 134 28 = some (.getfield 80, 31, 23, 12, 0) := rfl
theorem ct_134_31 : am_CT 134 31 = some (.bipush 1, 32, 0, 0, 0) := rfl
theorem ct_134_32 : am_CT 134 32 = some (.isub, 33, 0, 0, 0) := rfl
theorem ct_134_33 : am_CT 134 33 = some (.iaload, 34, 0, 0, 0) := rfl
theorem ct_134_34 : am_CT 134 34 = some (.bipush 124, 36, 0, 0, 0) := rfl
theorem ct_134_36 : am_CT 134 36 = some (.if_icmp .ne 36, 39, 72, 0, 0) := rfl
theorem ct_134_39 : am_CT 134 39 = some (.iload 1, 40, 0, 0, 0) := rfl
theorem ct_134_40 : am_CT 134 40 = some (.bipush 38, 42, 0, 0, 0) := rfl
theorem ct_134_42 : am_CT 134 42 = some (.if_icmp .eq 30, 45, 72, 0, 0) := rfl
theorem ct_134_45 : am_CT 134 45 = some (.aload 0, 46, 0, 0, 0) := rfl
theorem ct_134_46 : am_CT 134 46 = some (.dup, 47, 0, 0, 0) := rfl
theorem ct_134_47 : am_CT 134 47 = some (.getfield 80, 50, 23, 12, 0) := rfl
theorem ct_134_50 : am_CT 134 50 = some (.bipush 1, 51, 0, 0, 0) := rfl
theorem ct_134_51 : am_CT 134 51 = some (.isub, 52, 0, 0, 0) := rfl
theorem ct_134_52 : am_CT 134 52 = some (.putfield 80, 55, 23, 12, 0) := rfl
theorem ct_134_55 : am_CT 134 55 = some (.aload 0, 56, 0, 0, 0) := rfl
theorem ct_134_56 : am_CT 134 56 = some (.aload 0, 57, 0, 0, 0) := rfl
theorem ct_134_57 : am_CT 134 57 = some (.getfield 74, 60, 21, 12, 2) := rfl
theorem ct_134_60 : am_CT 134 60 = some (.aload 0, 61, 0, 0, 0) := rfl
theorem ct_134_61 : am_CT 134 61 = some (.getfield 80, 64, 23, 12, 0) := rfl
theorem ct_134_64 : am_CT 134 64 = some (.iaload, 65, 0, 0, 0) := rfl
theorem ct_134_65 : am_CT 134 65 = some (.ineg, 66, 0, 0, 0) := rfl
theorem ct_134_66 : am_CT 134 66 = some (.invokevirtual 246, 69, 232, 1, 12) := rfl
theorem ct_134_69 : am_CT 134 69 = some (.goto (-69), 72, 0, 0, 0) := rfl
theorem ct_134_72 : am_CT 134 72 = some (.return_, 73, 0, 0, 0) := rfl
theorem ct_135_0 : am_CT 135 0 = some (.iload 1, 1, 0, 0, 0) := rfl
theorem ct_135_1 : am_CT 135 1 = some (.lookupswitch 71 #[(98, 59), (102, 69), (107, 61), (109, 65), (115, 67), (118, 63)], 60, 0, 0, 0) := rfl
theorem ct_135_60 : am_CT 135 60 = some (.bipush 0, 61, 0, 0, 0) := rfl
theorem ct_135_61 : am_CT 135 61 = some (.ireturn, 62, 0, 0, 0) := rfl
theorem ct_135_62 : am_CT 135 62 = some (.bipush 1, 63, 0, 0, 0) := rfl
theorem ct_135_63 : am_CT 135 63 = some (.ireturn, 64, 0, 0, 0) := rfl
theorem ct_135_64 : am_CT 135 64 = some (.bipush 2, 65, 0, 0, 0) := rfl
theorem ct_135_65 : am_CT 135 65 = some (.ireturn, 66, 0, 0, 0) := rfl
theorem ct_135_66 : am_CT 135 66 = some (.bipush 3, 67, 0, 0, 0) := rfl
theorem ct_135_67 : am_CT 135 67 = some (.ireturn, 68, 0, 0, 0) := rfl
theorem ct_135_68 : am_CT 135 68 = some (.bipush 4, 69, 0, 0, 0) := rfl
theorem ct_135_69 : am_CT 135 69 = some (.ireturn, 70, 0, 0, 0) := rfl
theorem ct_135_70 : am_CT 135 70 = some (.bipush 5, 71, 0, 0, 0) := rfl
theorem ct_135_71 : am_CT 135 71 = some (.ireturn, 72, 0, 0, 0) := rfl
theorem ct_135_72 : am_CT 135 72 = some (.bipush (-1), 73, 0, 0, 0) := rfl
theorem ct_135_73 : am_CT 135 73 = some (.ireturn, 74, 0, 0, 0) := rfl
theorem ct_136_0 : am_CT 136 0 = some (.aload 0, 1, 0, 0, 0) := rfl
theorem ct_136_1 : am_CT 136 1 = some (.aload 0, 2, 0, 0, 0) := rfl
theorem ct_136_2 : am_CT 136 2 = some (.invokevirtual 235, 5, 227, 0, 12) := rfl
theorem ct_136_5 : am_CT 136 5 = some (.invokevirtual 250, 8, 235, 1, 12) := rfl
theorem ct_136_8 : am_CT 136 8 = some (.istore 1, 9, 0, 0, 0) := rfl
theorem ct_136_9 : am_CT 136 9 = some (.iload 1, 10, 0, 0, 0) := rfl
theorem ct_136_10 : am_CT 136 10 = some (.ifCond .ge 5, 13, 15, 0, 0) := rfl
theorem ct_136_13 : am_CT 136 13 = some (.bipush 0, 14, 0, 0, 0) := rfl
theorem ct_136_14 : am_CT 136 14 = some (.ireturn, 15, 1, 0, 0) := rfl
theorem ct_136_15 : am_CT 136 15 = some (.aload 0, 16, 0, 0, 0) := rfl
theorem ct_136_16 : am_CT 136 16 = some (.dup, 17, 0, 0, 0) := rfl
theorem ct_136_17 : am_CT 136 17 = some (.getfield 47, 20, 12, 12, 0) := rfl
theorem ct_136_20 : am_CT 136 20 = some (.bipush 1, 21, 0, 0, 0) := rfl
theorem ct_136_21 : am_CT 136 21 = some (.iadd, 22, 0, 0, 0) := rfl
theorem ct_136_22 : am_CT 136 22 = some (.putfield 47, 25, 12, 12, 0) := rfl
theorem ct_136_25 : am_CT 136 25 = some (.aload 0, 26, 0, 0, 0) := rfl
theorem ct_136_26 : am_CT 136 26 = some (.invokevirtual 235, 29, 227, 0, 12) := rfl
theorem ct_136_29 : am_CT 136 29 = some (.istore 2, 30, 0, 0, 0) := rfl
theorem ct_136_30 : am_CT 136 30 = some (.aload 0, 31, 0, 0, 0) := rfl
theorem ct_136_31 : am_CT 136 31 = some (.iload 2, 32, 0, 0, 0) := rfl
theorem ct_136_32 : am_CT 136 32 = some (.bipush 60, 34, 0, 0, 0) := rfl
theorem ct_136_34 : am_CT 136 34 = some (.bipush 62, 36, 0, 0, 0) := rfl
theorem ct_136_36 : am_CT 136 36 = some (.invokevirtual 227, 39, 219, 3, 12) := rfl
theorem ct_136_39 : am_CT 136 39 = some (.ifCond .ne 5, 42, 44, 0, 0) := rfl
theorem ct_136_42 : am_CT 136 42 = some (.bipush 0, 43, 0, 0, 0) := rfl
theorem ct_136_43 : am_CT 136 43 = some (.ireturn, 44, 1, 0, 0) := rfl
theorem ct_136_44 : am_CT 136 44 = some (.aload 0, 45, 0, 0, 0) := rfl
theorem ct_136_45 : am_CT 136 45 = some (.dup, 46, 0, 0, 0) := rfl
theorem ct_136_46 : am_CT 136 46 = some (.getfield 47, 49, 12, 12, 0) := rfl
theorem ct_136_49 : am_CT 136 49 = some (.bipush 1, 50, 0, 0, 0) := rfl
theorem ct_136_50 : am_CT 136 50 = some (.iadd, 51, 0, 0, 0) := rfl
theorem ct_136_51 : am_CT 136 51 = some (.putfield 47, 54, 12, 12, 0) := rfl
theorem ct_136_54 : am_CT 136 54 = some (.aload 0, 55, 0, 0, 0) := rfl
theorem ct_136_55 : am_CT 136 55 = some (.invokevirtual 254, 58, 231, 0, 12) := rfl
theorem ct_136_58 : am_CT 136 58 = some (.ifCond .ne 5, 61, 63, 0, 0) := rfl
theorem ct_136_61 : am_CT 136 61 = some (.bipush 0, 62, 0, 0, 0) := rfl
theorem ct_136_62 : am_CT 136 62 = some (.ireturn, 63, 1, 0, 0) := rfl
theorem ct_136_63 : am_CT 136 63 = some (.aload 0, 64, 0, 0, 0) := rfl
theorem ct_136_64 : am_CT 136 64 = some (.bipush 1000, 67, 0, 0, 0) := rfl
theorem ct_136_67 : am_CT 136 67 = some (.iload 1, 68, 0, 0, 0) := rfl
theorem ct_136_68 : am_CT 136 68 = some (.imul, 69, 0, 0, 0) := rfl
theorem ct_136_69 : am_CT 136 69 = some (.bipush 100, 71, 0, 0, 0) := rfl
theorem ct_136_71 : am_CT 136 71 = some (.iload 2, 72, 0, 0, 0) := rfl
theorem ct_136_72 : am_CT 136 72 = some (.bipush 60, 74, 0, 0, 0) := rfl
theorem ct_136_74 : am_CT 136 74 = some (.isub, 75, 0, 0, 0) := rfl
theorem ct_136_75 : am_CT 136 75 = some (.imul, 76, 0, 0, 0) := rfl
theorem ct_136_76 : am_CT 136 76 = some (.iadd, 77, 0, 0, 0) := rfl
theorem ct_136_77 : am_CT 136 77 = some (.aload 0, 78, 0, 0, 0) := rfl
theorem ct_136_78 : am_CT 136 78 = some (.getfield 50, 81, 13, 12, 0) := rfl
theorem ct_136_81 : am_CT 136 81 = some (.iadd, 82, 0, 0, 0) := rfl
theorem ct_136_82 : am_CT 136 82 = some (.invokevirtual 246, 85, 232, 1, 12) := rfl
theorem ct_136_85 : am_CT 136 85 = some (.aload 0, 86, 0, 0, 0) := rfl
theorem ct_136_86 : am_CT 136 86 = some (.invokevirtual 257, 89, 233, 0, 12) := rfl
theorem ct_136_89 : am_CT 136 89 = some (.bipush 1, 90, 0, 0, 0) := rfl
theorem ct_136_90 : am_CT 136 90 = some (.ireturn, 91, 1, 0, 0) := rfl
theorem ct_137_0 : am_CT 137 0 = some (.aload 0, 1, 0, 0, 0) := rfl
theorem ct_137_1 : am_CT 137 1 = some (.bipush 0, 2, 0, 0, 0) := rfl
theorem ct_137_2 : am_CT 137 2 = some (.putfield 80, 5, 23, 12, 0) := rfl
theorem ct_137_5 : am_CT 137 5 = some (.aload 0, 6, 0, 0, 0) := rfl
theorem ct_137_6 : am_CT 137 6 = some (.bipush 0, 7, 0, 0, 0) := rfl
theorem ct_137_7 : am_CT 137 7 = some (.putfield 83, 10, 24, 12, 0) := rfl
theorem ct_137_10 : am_CT 137 10 = some (.aload 0, 11, 0, 0, 0) := rfl
theorem ct_137_11 : am_CT 137 11 = some (.getfield 65, 14, 18, 12, 2) := rfl
theorem ct_137_14 : am_CT 137 14 = some (.iload 1, 15, 0, 0, 0) := rfl
theorem ct_137_15 : am_CT 137 15 = some (.aload 0, 16, 0, 0, 0) := rfl
theorem ct_137_16 : am_CT 137 16 = some (.getfield 77, 19, 22, 12, 0) := rfl
theorem ct_137_19 : am_CT 137 19 = some (.iastore, 20, 0, 0, 0) := rfl
theorem ct_137_20 : am_CT 137 20 = some (.bipush 1, 21, 0, 0, 0) := rfl
theorem ct_137_21 : am_CT 137 21 = some (.istore 2, 22, 0, 0, 0) := rfl
theorem ct_137_22 : am_CT 137 22 = some (.aload 0, 23, 0, 0, 0) := rfl
theorem ct_137_23 : am_CT 137 23 = some (.invokevirtual 235, 26, 227, 0, 12) := rfl
theorem ct_137_26 : am_CT 137 26 = some (.istore 3, 27, 0, 0, 0) := rfl
theorem ct_137_27 : am_CT 137 27 = some (.iload 2, 28, 0, 0, 0) := rfl
theorem ct_137_28 : am_CT 137 28 = some (.ifCond .eq 82, 31, 110, 0, 0) := rfl
theorem ct_137_31 : am_CT 137 31 = some (.iload 3, 32, 0, 0, 0) := rfl
theorem ct_137_32 : am_CT 137 32 = some (.bipush 33, 34, 0, 0, 0) := rfl
theorem ct_137_34 : am_CT 137 34 = some (.if_icmp .eq 9, 37, 43, 0, 0) := rfl
theorem ct_137_37 : am_CT 137 37 = some (.iload 3, 38, 0, 0, 0) := rfl
theorem ct_137_38 : am_CT 137 38 = some (.bipush 40, 40, 0, 0, 0) := rfl
theorem ct_137_40 : am_CT 137 40 = some (.if_icmp .ne 56, 43, 96, 0, 0) := rfl
theorem ct_137_43 : am_CT 137 43 = some (.aload 0, 44, 0, 0, 0) := rfl
theorem ct_137_44 : am_CT 137 44 = some (.getfield 83, 47, 24, 12, 0) := rfl
theorem ct_137_47 : am_CT 137 47 = some (.bipush 4, 48, 0, 0, 0) := rfl
theorem ct_137_48 : am_CT 137 48 = some (.if_icmp .ne 5, 51, 53, 0, 0) := rfl
theorem ct_137_51 : am_CT 137 51 = some (.bipush 0, 52, 0, 0, 0) := rfl
theorem ct_137_52 : am_CT 137 52 = some (.ireturn, 53, 1, 0, 0) := rfl
theorem ct_137_53 : am_CT 137 53 = some (.aload 0, 54, 0, 0, 0) := rfl
theorem ct_137_54 : am_CT 137 54 = some (.dup, 55, 0, 0, 0) := rfl
theorem ct_137_55 : am_CT 137 55 = some (.getfield 83, 58, 24, 12, 0) := rfl
theorem ct_137_58 : am_CT 137 58 = some (.bipush 1, 59, 0, 0, 0) := rfl
theorem ct_137_59 : am_CT 137 59 = some (.iadd, 60, 0, 0, 0) := rfl
theorem ct_137_60 : am_CT 137 60 = some (.putfield 83, 63, 24, 12, 0) := rfl
theorem ct_137_63 : am_CT 137 63 = some (.aload 0, 64, 0, 0, 0) := rfl
theorem ct_137_64 : am_CT 137 64 = some (.getfield 74, 67, 21, 12, 2) := rfl
theorem ct_137_67 : am_CT 137 67 = some (.aload 0, 68, 0, 0, 0) := rfl
theorem ct_137_68 : am_CT 137 68 = some (.getfield 80, 71, 23, 12, 0) := rfl
theorem ct_137_71 : am_CT 137 71 = some (.iload 3, 72, 0, 0, 0) := rfl
theorem ct_137_72 : am_CT 137 72 = some (.iastore, 73, 0, 0, 0) := rfl
theorem ct_137_73 : am_CT 137 73 = some (.aload 0, 74, 0, 0, 0) := rfl
theorem ct_137_74 : am_CT 137 74 = some (.dup, 75, 0, 0, 0) := rfl
theorem ct_137_75 : am_CT 137 75 = some (.getfield 80, 78, 23, 12, 0) := rfl
theorem ct_137_78 : am_CT 137 78 = some (.bipush 1, 79, 0, 0, 0) := rfl
theorem ct_137_79 : am_CT 137 79 = some (.iadd, 80, 0, 0, 0) := rfl
theorem ct_137_80 : am_CT 137 80 = some (.putfield 80, 83, 23, 12, 0) := rfl
theorem ct_137_83 : am_CT 137 83 = some (.aload 0, 84, 0, 0, 0) := rfl
theorem ct_137_84 : am_CT 137 84 = some (.dup, 85, 0, 0, 0) := rfl
theorem ct_137_85 : am_CT 137 85 = some (.getfield 47, 88, 12, 12, 0) := rfl
theorem ct_137_88 : am_CT 137 88 = some (.bipush 1, 89, 0, 0, 0) := rfl
theorem ct_137_89 : am_CT 137 89 = some (.iadd, 90, 0, 0, 0) := rfl
theorem ct_137_90 : am_CT 137 90 = some (.putfield 47, 93, 12, 12, 0) := rfl
theorem ct_137_93 : am_CT 137 93 = some (.goto (-71), 96, 22, 0, 0) := rfl
theorem ct_137_96 : am_CT 137 96 = some (.aload 0, 97, 0, 0, 0) := rfl
theorem ct_137_97 : am_CT 137 97 = some (.invokevirtual 260, 100, 236, 0, 12) := rfl
theorem ct_137_100 : am_CT 137 100 = some (.ifCond .eq 8, 103, 108, 0, 0) := rfl
theorem ct_137_103 : am_CT 137 103 = some (.bipush 0, 104, 0, 0, 0) := rfl
theorem ct_137_104 : am_CT 137 104 = some (.istore 2, 105, 0, 0, 0) := rfl
theorem ct_137_105 : am_CT 137 105 = some (.goto (-83), 108, 22, 0, 0) := rfl
theorem ct_137_108 : am_CT 137 108 = some (.bipush 0, 109, 0, 0, 0) := rfl
theorem ct_137_109 : am_CT 137 109 = some (.ireturn, 110, 1, 0, 0) := rfl
theorem ct_137_110 : am_CT 137 110 = some (.iload 3, 111, 0, 0, 0) := rfl
theorem ct_137_111 : am_CT 137 111 = some (.bipush 38, 113, 0, 0, 0) := rfl
theorem ct_137_113 : am_CT 137 113 = some (.if_icmp .eq 9, 116, 122, 0, 0) := rfl
theorem ct_137_116 : am_CT 137 116 = some (.iload 3, 117, 0, 0, 0) := rfl
theorem ct_137_117 : am_CT 137 117 = some (.bipush 124, 119, 0, 0, 0) := rfl
theorem ct_137_119 : am_CT 137 119 = some (.if_icmp .ne 43, 122, 162, 0, 0) := rfl
theorem ct_137_122 : am_CT 137 122 = some (.aload 0, 123, 0, 0, 0) := rfl
theorem ct_137_123 : am_CT 137 123 = some (.iload 3, 124, 0, 0, 0) := rfl
theorem ct_137_124 : am_CT 137 124 = some (.invokevirtual 263, 127, 234, 1, 12) := rfl
theorem ct_137_127 : am_CT 137 127 = some (.aload 0, 128, 0, 0, 0) := rfl
theorem ct_137_128 : am_CT 137 128 = some (.getfield 74, 131, 21, 12, 2) := rfl
theorem ct_137_131 : am_CT 137 131 = some (.aload 0, 132, 0, 0, 0) := rfl
theorem ct_137_132 : am_CT 137 132 = some (.getfield 80, 135, 23, 12, 0) := rfl
theorem ct_137_135 : am_CT 137 135 = some (.iload 3, 136, 0, 0, 0) := rfl
theorem ct_137_136 : am_CT 137 136 = some (.iastore, 137, 0, 0, 0) := rfl
theorem ct_137_137 : am_CT 137 137 = some (.aload 0, 138, 0, 0, 0) := rfl
theorem ct_137_138 : am_CT 137 138 = some (.dup, 139, 0, 0, 0) := rfl
theorem ct_137_139 : am_CT 137 139 = some (.getfield 80, 142, 23, 12, 0) := rfl
theorem ct_137_142 : am_CT 137 142 = some (.bipush 1, 143, 0, 0, 0) := rfl
theorem ct_137_143 : am_CT 137 143 = some (.iadd, 144, 0, 0, 0) := rfl
theorem ct_137_144 : am_CT 137 144 = some (.putfield 80, 147, 23, 12, 0) := rfl
theorem ct_137_147 : am_CT 137 147 = some (.bipush 1, 148, 0, 0, 0) := rfl
theorem ct_137_148 : am_CT 137 148 = some (.istore 2, 149, 0, 0, 0) := rfl
theorem ct_137_149 : am_CT 137 149 = some (.aload 0, 150, 0, 0, 0) := rfl
theorem ct_137_150 : am_CT 137 150 = some (.dup, 151, 0, 0, 0) := rfl
theorem ct_137_151 : am_CT 137 151 = some (.getfield 47, 154, 12, 12, 0) := rfl
theorem ct_137_154 : am_CT 137 154 = some (.bipush 1, 155, 0, 0, 0) := rfl
theorem ct_137_155 : am_CT 137 155 = some (.iadd, 156, 0, 0, 0) := rfl
theorem ct_137_156 : am_CT 137 156 = some (.putfield 47, 159, 12, 12, 0) := rfl
theorem ct_137_159 : am_CT 137 159 = some (.goto (-137), 162, 22, 0, 0) := rfl
theorem ct_137_162 : am_CT 137 162 = some (.aload 0, 163, 0, 0, 0) := rfl
theorem ct_137_163 : am_CT 137 163 = some (.bipush 124, 165, 0, 0, 0) := rfl
theorem ct_137_165 : am_CT 137 165 = some (.invokevirtual 263, 168, 234, 1, 12) := rfl
theorem ct_137_168 : am_CT 137 168 = some (.aload 0, 169, 0, 0, 0) := rfl
theorem ct_137_169 : am_CT 137 169 = some (.getfield 68, 172, 19, 12, 2) := rfl
theorem ct_137_172 : am_CT 137 172 = some (.iload 1, 173, 0, 0, 0) := rfl
theorem ct_137_173 : am_CT 137 173 = some (.aload 0, 174, 0, 0, 0) := rfl
theorem ct_137_174 : am_CT 137 174 = some (.getfield 77, 177, 22, 12, 0) := rfl
theorem ct_137_177 : am_CT 137 177 = some (.iastore, 178, 0, 0, 0) := rfl
theorem ct_137_178 : am_CT 137 178 = some (.aload 0, 179, 0, 0, 0) := rfl
theorem ct_137_179 : am_CT 137 179 = some (.getfield 80, 182, 23, 12, 0) := rfl
theorem ct_137_182 : am_CT 137 182 = some (.ifCond .ne 5, 185, 187, 0, 0) := rfl
theorem ct_137_185 : am_CT 137 185 = some (.bipush 1, 186, 0, 0, 0) := rfl
theorem ct_137_186 : am_CT 137 186 = some (.ireturn, 187, 1, 0, 0) := rfl
theorem ct_137_187 : am_CT 137 187 = some (.iload 3, 188, 0, 0, 0) := rfl
theorem ct_137_188 : am_CT 137 188 = some (.bipush 41, 190, 0, 0, 0) := rfl
theorem ct_137_190 : am_CT 137 190 = some (.if_icmp .eq 5, 193, 195, 0, 0) := rfl
theorem ct_137_193 : am_CT 137 193 = some (.bipush 0, 194, 0, 0, 0) := rfl
theorem ct_137_194 : am_CT 137 194 = some (.ireturn, 195, 1, 0, 0) := rfl
theorem ct_137_195 : am_CT 137 195 = some (.aload 0, 196, 0, 0, 0) := rfl
theorem ct_137_196 : am_CT 137 196 = some (.dup, 197, 0, 0, 0) := rfl
theorem ct_137_197 : am_CT 137 197 = some (.getfield 80, 200, 23, 12, 0) := rfl
theorem ct_137_200 : am_CT 137 200 = some (.bipush 1, 201, 0, 0, 0) := rfl
theorem ct_137_201 : am_CT 137 201 = some (.isub, 202, 0, 0, 0) := rfl
theorem ct_137_202 : am_CT 137 202 = some (.putfield 80, 205, 23, 12, 0) := rfl
theorem ct_137_205 : am_CT 137 205 = some (.aload 0, 206, 0, 0, 0) := rfl
theorem ct_137_206 : am_CT 137 206 = some (.dup, 207, 0, 0, 0) := rfl
theorem ct_137_207 : am_CT 137 207 = some (.getfield 83, 210, 24, 12, 0) := rfl
theorem ct_137_210 : am_CT 137 210 = some (.bipush 1, 211, 0, 0, 0) := rfl
theorem ct_137_211 : am_CT 137 211 = some (.isub, 212, 0, 0, 0) := rfl
theorem ct_137_212 : am_CT 137 212 = some (.putfield 83, 215, 24, 12, 0) := rfl
theorem ct_137_215 : am_CT 137 215 = some (.aload 0, 216, 0, 0, 0) := rfl
theorem ct_137_216 : am_CT 137 216 = some (.dup, 217, 0, 0, 0) := rfl
theorem ct_137_217 : am_CT 137 217 = some (.getfield 47, 220, 12, 12, 0) := rfl
theorem ct_137_220 : am_CT 137 220 = some (.bipush 1, 221, 0, 0, 0) := rfl
theorem ct_137_221 : am_CT 137 221 = some (.iadd, 222, 0, 0, 0) := rfl
theorem ct_137_222 : am_CT 137 222 = some (.putfield 47, 225, 12, 12, 0) := rfl
theorem ct_137_225 : am_CT 137 225 = some (.aload 0, 226, 0, 0, 0) := rfl
theorem ct_137_226 : am_CT 137 226 = some (.invokevirtual 257, 229, 233, 0, 12) := rfl
theorem ct_137_229 : am_CT 137 229 = some (.goto (-207), 232, 22, 0, 0) := rfl
theorem ct_138_0 : am_CT 138 0 = some (.aload 0, 1, 0, 0, 0) := rfl
theorem ct_138_1 : am_CT 138 1 = some (.invokevirtual 235, 4, 227, 0, 12) := rfl
theorem ct_138_4 : am_CT 138 4 = some (.lookupswitch 56 #[(100, 42), (119, 28)], 32, 0, 0, 0) := rfl
theorem ct_138_32 : am_CT 138 32 = some (.aload 0, 33, 0, 0, 0) := rfl
theorem ct_138_33 : am_CT 138 33 = some (.getfield 59, 36, 16, 12, 2) := rfl
theorem ct_138_36 : am_CT 138 36 = some (.iload 1, 37, 0, 0, 0) := rfl
theorem ct_138_37 : am_CT 138 37 = some (.bipush 0, 38, 0, 0, 0) := rfl
theorem ct_138_38 : am_CT 138 38 = some (.iastore, 39, 0, 0, 0) := rfl
theorem ct_138_39 : am_CT 138 39 = some (.aload 0, 40, 0, 0, 0) := rfl
theorem ct_138_40 : am_CT 138 40 = some (.bipush 0, 41, 0, 0, 0) := rfl
theorem ct_138_41 : am_CT 138 41 = some (.bipush 4, 42, 0, 0, 0) := rfl
theorem ct_138_42 : am_CT 138 42 = some (.invokevirtual 266, 45, 229, 2, 12) := rfl
theorem ct_138_45 : am_CT 138 45 = some (.ireturn, 46, 1, 0, 0) := rfl
theorem ct_138_46 : am_CT 138 46 = some (.aload 0, 47, 0, 0, 0) := rfl
theorem ct_138_47 : am_CT 138 47 = some (.getfield 59, 50, 16, 12, 2) := rfl
theorem ct_138_50 : am_CT 138 50 = some (.iload 1, 51, 0, 0, 0) := rfl
theorem ct_138_51 : am_CT 138 51 = some (.bipush 1, 52, 0, 0, 0) := rfl
theorem ct_138_52 : am_CT 138 52 = some (.iastore, 53, 0, 0, 0) := rfl
theorem ct_138_53 : am_CT 138 53 = some (.aload 0, 54, 0, 0, 0) := rfl
theorem ct_138_54 : am_CT 138 54 = some (.bipush 4, 55, 0, 0, 0) := rfl
theorem ct_138_55 : am_CT 138 55 = some (.bipush 3, 56, 0, 0, 0) := rfl
theorem ct_138_56 : am_CT 138 56 = some (.invokevirtual 266, 59, 229, 2, 12) := rfl
theorem ct_138_59 : am_CT 138 59 = some (.ireturn, 60, 1, 0, 0) := rfl
theorem ct_138_60 : am_CT 138 60 = some (.aload 0, 61, 0, 0, 0) := rfl
theorem ct_138_61 : am_CT 138 61 = some (.getfield 59, 64, 16, 12, 2) := rfl
theorem ct_138_64 : am_CT 138 64 = some (.iload 1, 65, 0, 0, 0) := rfl
theorem ct_138_65 : am_CT 138 65 = some (.bipush 2, 66, 0, 0, 0) := rfl
theorem ct_138_66 : am_CT 138 66 = some (.iastore, 67, 0, 0, 0) := rfl
theorem ct_138_67 : am_CT 138 67 = some (.aload 0, 68, 0, 0, 0) := rfl
theorem ct_138_68 : am_CT 138 68 = some (.bipush 7, 70, 0, 0, 0) := rfl
theorem ct_138_70 : am_CT 138 70 = some (.bipush 4, 71, 0, 0, 0) := rfl
theorem ct_138_71 : am_CT 138 71 = some (.invokevirtual 266, 74, 229, 2, 12) := rfl
theorem ct_138_74 : am_CT 138 74 = some (.ireturn, 75, 1, 0, 0) := rfl
theorem ct_139_0 : am_CT 139 0 = some (.aload 0, 1, 0, 0, 0) := rfl
theorem ct_139_1 : am_CT 139 1 = some (.iload 1, 2, 0, 0, 0) := rfl
theorem ct_139_2 : am_CT 139 2 = some (.invokevirtual 270, 5, 238, 1, 12) := rfl
theorem ct_139_5 : am_CT 139 5 = some (.ifCond .eq 10, 8, 15, 0, 0) := rfl
theorem ct_139_8 : am_CT 139 8 = some (.aload 0, 9, 0, 0, 0) := rfl
theorem ct_139_9 : am_CT 139 9 = some (.invokevirtual 254, 12, 231, 0, 12) := rfl
theorem ct_139_12 : am_CT 139 12 = some (.ifCond .ne 5, 15, 17, 0, 0) := rfl
theorem ct_139_15 : am_CT 139 15 = some (.bipush 0, 16, 0, 0, 0) := rfl
theorem ct_139_16 : am_CT 139 16 = some (.ireturn, 17, 1, 0, 0) := rfl
theorem ct_139_17 : am_CT 139 17 = some (.aload 0, 18, 0, 0, 0) := rfl
theorem ct_139_18 : am_CT 139 18 = some (.getfield 62, 21, 17, 12, 2) := rfl
theorem ct_139_21 : am_CT 139 21 = some (.iload 1, 22, 0, 0, 0) := rfl
theorem ct_139_22 : am_CT 139 22 = some (.aload 0, 23, 0, 0, 0) := rfl
theorem ct_139_23 : am_CT 139 23 = some (.getfield 50, 26, 13, 12, 0) := rfl
theorem ct_139_26 : am_CT 139 26 = some (.iastore, 27, 0, 0, 0) := rfl
theorem ct_139_27 : am_CT 139 27 = some (.aload 0, 28, 0, 0, 0) := rfl
theorem ct_139_28 : am_CT 139 28 = some (.bipush 32, 30, 0, 0, 0) := rfl
theorem ct_139_30 : am_CT 139 30 = some (.invokevirtual 239, 33, 228, 1, 12) := rfl
theorem ct_139_33 : am_CT 139 33 = some (.ifCond .eq 15, 36, 48, 0, 0) := rfl
theorem ct_139_36 : am_CT 139 36 = some (.aload 0, 37, 0, 0, 0) := rfl
theorem ct_139_37 : am_CT 139 37 = some (.iload 1, 38, 0, 0, 0) := rfl
theorem ct_139_38 : am_CT 139 38 = some (.invokevirtual 273, 41, 237, 1, 12) := rfl
theorem ct_139_41 : am_CT 139 41 = some (.ifCond .eq 7, 44, 48, 0, 0) := rfl
theorem ct_139_44 : am_CT 139 44 = some (.bipush 1, 45, 0, 0, 0) := rfl
theorem ct_139_45 : am_CT 139 45 = some (.goto 4, 48, 49, 0, 0) := rfl
theorem ct_139_48 : am_CT 139 48 = some (.bipush 0, 49, 0, 0, 0) := rfl
theorem ct_139_49 : am_CT 139 49 = some (.ireturn, 50, 1, 0, 0) := rfl
theorem ct_140_0 : am_CT 140 0 = some (.aload 0, 1, 0, 0, 0) := rfl
theorem ct_140_1 : am_CT 140 1 = some (.bipush 0, 2, 0, 0, 0) := rfl
theorem ct_140_2 : am_CT 140 2 = some (.putfield 47, 5, 12, 12, 0) := rfl
theorem ct_140_5 : am_CT 140 5 = some (.aload 0, 6, 0, 0, 0) := rfl
theorem ct_140_6 : am_CT 140 6 = some (.bipush 100, 8, 0, 0, 0) := rfl
theorem ct_140_8 : am_CT 140 8 = some (.iload 1, 9, 0, 0, 0) := rfl
theorem ct_140_9 : am_CT 140 9 = some (.imul, 10, 0, 0, 0) := rfl
theorem ct_140_10 : am_CT 140 10 = some (.putfield 77, 13, 22, 12, 0) := rfl
theorem ct_140_13 : am_CT 140 13 = some (.bipush 0, 14, 0, 0, 0) := rfl
theorem ct_140_14 : am_CT 140 14 = some (.istore 2, 15, 0, 0, 0) := rfl
theorem ct_140_15 : am_CT 140 15 = some (.aload 0, 16, 0, 0, 0) := rfl
theorem ct_140_16 : am_CT 140 16 = some (.bipush 10, 18, 0, 0, 0) := rfl
theorem ct_140_18 : am_CT 140 18 = some (.iload 1, 19, 0, 0, 0) := rfl
theorem ct_140_19 : am_CT 140 19 = some (.imul, 20, 0, 0, 0) := rfl
theorem ct_140_20 : am_CT 140 20 = some (.iload 2, 21, 0, 0, 0) := rfl
theorem ct_140_21 : am_CT 140 21 = some (.iadd, 22, 0, 0, 0) := rfl
theorem ct_140_22 : am_CT 140 22 = some (.invokevirtual 276, 25, 239, 1, 12) := rfl
theorem ct_140_25 : am_CT 140 25 = some (.ifCond .ne 5, 28, 30, 0, 0) := rfl
theorem ct_140_28 : am_CT 140 28 = some (.bipush 0, 29, 0, 0, 0) := rfl
theorem ct_140_29 : am_CT 140 29 = some (.ireturn, 30, 1, 0, 0) := rfl
theorem ct_140_30 : am_CT 140 30 = some (.iinc 2 1, 33, 0, 0, 0) := rfl
theorem ct_140_33 : am_CT 140 33 = some (.aload 0, 34, 0, 0, 0) := rfl
theorem ct_140_34 : am_CT 140 34 = some (.getfield 56, 37, 15, 12, 2) := rfl
theorem ct_140_37 : am_CT 140 37 = some (.iload 1, 38, 0, 0, 0) := rfl
theorem ct_140_38 : am_CT 140 38 = some (.iload 2, 39, 0, 0, 0) := rfl
theorem ct_140_39 : am_CT 140 39 = some (.iastore, 40, 0, 0, 0) := rfl
theorem ct_140_40 : am_CT 140 40 = some (.aload 0, 41, 0, 0, 0) := rfl
theorem ct_140_41 : am_CT 140 41 = some (.getfield 47, 44, 12, 12, 0) := rfl
theorem ct_140_44 : am_CT 140 44 = some (.aload 0, 45, 0, 0, 0) := rfl
theorem ct_140_45 : am_CT 140 45 = some (.getfield 44, 48, 11, 12, 0) := rfl
theorem ct_140_48 : am_CT 140 48 = some (.if_icmp .ne 5, 51, 53, 0, 0) := rfl
theorem ct_140_51 : am_CT 140 51 = some (.bipush 1, 52, 0, 0, 0) := rfl
theorem ct_140_52 : am_CT 140 52 = some (.ireturn, 53, 1, 0, 0) := rfl
theorem ct_140_53 : am_CT 140 53 = some (.iload 2, 54, 0, 0, 0) := rfl
theorem ct_140_54 : am_CT 140 54 = some (.bipush 10, 56, 0, 0, 0) := rfl
theorem ct_140_56 : am_CT 140 56 = some (.if_icmp .eq 12, 59, 68, 0, 0) := rfl
theorem ct_140_59 : am_CT 140 59 = some (.aload 0, 60, 0, 0, 0) := rfl
theorem ct_140_60 : am_CT 140 60 = some (.bipush 59, 62, 0, 0, 0) := rfl
theorem ct_140_62 : am_CT 140 62 = some (.invokevirtual 239, 65, 228, 1, 12) := rfl
theorem ct_140_65 : am_CT 140 65 = some (.ifCond .ne (-50), 68, 15, 0, 0) := rfl
theorem ct_140_68 : am_CT 140 68 = some (.bipush 0, 69, 0, 0, 0) := rfl
theorem ct_140_69 : am_CT 140 69 = some (.ireturn, 70, 1, 0, 0) := rfl
theorem ct_141_0 : am_CT 141 0 = some (.aload 0, 1, 0, 0, 0) := rfl
theorem ct_141_1 : am_CT 141 1 = some (.getfield 38, 4, 9, 12, 0) := rfl
theorem ct_141_4 : am_CT 141 4 = some (.bipush 6, 6, 0, 0, 0) := rfl
theorem ct_141_6 : am_CT 141 6 = some (.if_icmp .ne 6, 9, 12, 0, 0) := rfl
theorem ct_141_9 : am_CT 141 9 = some (.bipush (-4), 11, 0, 0, 0) := rfl
theorem ct_141_11 : am_CT 141 11 = some (.ireturn, 12, 0, 0, 0) := rfl
theorem ct_141_12 : am_CT 141 12 = some (.aload 0, 13, 0, 0, 0) := rfl
theorem ct_141_13 : am_CT 141 13 = some (.aload 0, 14, 0, 0, 0) := rfl
theorem ct_141_14 : am_CT 141 14 = some (.getfield 38, 17, 9, 12, 0) := rfl
theorem ct_141_17 : am_CT 141 17 = some (.invokevirtual 279, 20, 240, 1, 12) := rfl
theorem ct_141_20 : am_CT 141 20 = some (.istore 1, 21, 0, 0, 0) := rfl
theorem ct_141_21 : am_CT 141 21 = some (.aload 0, 22, 0, 0, 0) := rfl
theorem ct_141_22 : am_CT 141 22 = some (.bipush 0, 23, 0, 0, 0) := rfl
theorem ct_141_23 : am_CT 141 23 = some (.putfield 44, 26, 11, 12, 0) := rfl
theorem ct_141_26 : am_CT 141 26 = some (.iload 1, 27, 0, 0, 0) := rfl
theorem ct_141_27 : am_CT 141 27 = some (.ifCond .ne 11, 30, 38, 0, 0) := rfl
theorem ct_141_30 : am_CT 141 30 = some (.bipush (-10), 32, 0, 0, 0) := rfl
theorem ct_141_32 : am_CT 141 32 = some (.aload 0, 33, 0, 0, 0) := rfl
theorem ct_141_33 : am_CT 141 33 = some (.getfield 47, 36, 12, 12, 0) := rfl
theorem ct_141_36 : am_CT 141 36 = some (.isub, 37, 0, 0, 0) := rfl
theorem ct_141_37 : am_CT 141 37 = some (.ireturn, 38, 0, 0, 0) := rfl
theorem ct_141_38 : am_CT 141 38 = some (.aload 0, 39, 0, 0, 0) := rfl
theorem ct_141_39 : am_CT 141 39 = some (.aload 0, 40, 0, 0, 0) := rfl
theorem ct_141_40 : am_CT 141 40 = some (.getfield 38, 43, 9, 12, 0) := rfl
theorem ct_141_43 : am_CT 141 43 = some (.putfield 41, 46, 10, 12, 0) := rfl
theorem ct_141_46 : am_CT 141 46 = some (.aload 0, 47, 0, 0, 0) := rfl
theorem ct_141_47 : am_CT 141 47 = some (.dup, 48, 0, 0, 0) := rfl
theorem ct_141_48 : am_CT 141 48 = some (.getfield 38, 51, 9, 12, 0) := rfl
theorem ct_141_51 : am_CT 141 51 = some (.bipush 1, 52, 0, 0, 0) := rfl
theorem ct_141_52 : am_CT 141 52 = some (.iadd, 53, 0, 0, 0) := rfl
theorem ct_141_53 : am_CT 141 53 = some (.putfield 38, 56, 9, 12, 0) := rfl
theorem ct_141_56 : am_CT 141 56 = some (.aload 0, 57, 0, 0, 0) := rfl
theorem ct_141_57 : am_CT 141 57 = some (.getfield 41, 60, 10, 12, 0) := rfl
theorem ct_141_60 : am_CT 141 60 = some (.ireturn, 61, 0, 0, 0) := rfl
theorem ct_142_0 : am_CT 142 0 = some (.aload 0, 1, 0, 0, 0) := rfl
theorem ct_142_1 : am_CT 142 1 = some (.getfield 41, 4, 10, 12, 0) := rfl
theorem ct_142_4 : am_CT 142 4 = some (.ifCond .ge 7, 7, 11, 0, 0) := rfl
theorem ct_142_7 : am_CT 142 7 = some (.bipush 0, 8, 0, 0, 0) := rfl
theorem ct_142_8 : am_CT 142 8 = some (.goto 10, 11, 18, 0, 0) := rfl
theorem ct_142_11 : am_CT 142 11 = some (.bipush 10, 13, 0, 0, 0) := rfl
theorem ct_142_13 : am_CT 142 13 = some (.aload 0, 14, 0, 0, 0) := rfl
theorem ct_142_14 : am_CT 142 14 = some (.getfield 41, 17, 10, 12, 0) := rfl
theorem ct_142_17 : am_CT 142 17 = some (.imul, 18, 0, 0, 0) := rfl
theorem ct_142_18 : am_CT 142 18 = some (.ireturn, 19, 0, 0, 0) := rfl
theorem ct_143_0 : am_CT 143 0 = some (.aload 0, 1, 0, 0, 0) := rfl
theorem ct_143_1 : am_CT 143 1 = some (.getfield 41, 4, 10, 12, 0) := rfl
theorem ct_143_4 : am_CT 143 4 = some (.ifCond .ge 7, 7, 11, 0, 0) := rfl
theorem ct_143_7 : am_CT 143 7 = some (.bipush 0, 8, 0, 0, 0) := rfl
theorem ct_143_8 : am_CT 143 8 = some (.goto 20, 11, 28, 0, 0) := rfl
theorem ct_143_11 : am_CT 143 11 = some (.bipush 10, 13, 0, 0, 0) := rfl
theorem ct_143_13 : am_CT 143 13 = some (.aload 0, 14, 0, 0, 0) := rfl
theorem ct_143_14 : am_CT 143 14 = some (.getfield 41, 17, 10, 12, 0) := rfl
theorem ct_143_17 : am_CT 143 17 = some (.imul, 18, 0, 0, 0) := rfl
theorem ct_143_18 : am_CT 143 18 = some (.aload 0, 19, 0, 0, 0) := rfl
theorem ct_143_19 : am_CT 143 19 = some (.getfield 56, 22, 15, 12, 2) := rfl
theorem ct_143_22 : am_CT 143 22 = some (.aload 0, 23, 0, 0, 0) := rfl
theorem ct_143_23 : am_CT 143 23 = some (.getfield 41, 26, 10, 12, 0) := rfl
theorem ct_143_26 : am_CT 143 26 = some (.iaload, 27, 0, 0, 0) := rfl
theorem ct_143_27 : am_CT 143 27 = some (.iadd, 28, 0, 0, 0) := rfl
theorem ct_143_28 : am_CT 143 28 = some (.ireturn, 29, 0, 0, 0) := rfl
theorem ct_144_0 : am_CT 144 0 = some (.iload 1, 1, 0, 0, 0) := rfl
theorem ct_144_1 : am_CT 144 1 = some (.tableswitch 67 0 4 #[35, 37, 44, 51, 59], 36, 0, 0, 0) := rfl
theorem ct_144_36 : am_CT 144 36 = some (.iload 2, 37, 0, 0, 0) := rfl
theorem ct_144_37 : am_CT 144 37 = some (.ireturn, 38, 0, 0, 0) := rfl
theorem ct_144_38 : am_CT 144 38 = some (.aload 0, 39, 0, 0, 0) := rfl
theorem ct_144_39 : am_CT 144 39 = some (.getfield 16, 42, 2, 12, 2) := rfl
theorem ct_144_42 : am_CT 144 42 = some (.iload 2, 43, 0, 0, 0) := rfl
theorem ct_144_43 : am_CT 144 43 = some (.iaload, 44, 0, 0, 0) := rfl
theorem ct_144_44 : am_CT 144 44 = some (.ireturn, 45, 0, 0, 0) := rfl
theorem ct_144_45 : am_CT 144 45 = some (.aload 0, 46, 0, 0, 0) := rfl
theorem ct_144_46 : am_CT 144 46 = some (.getfield 20, 49, 3, 12, 2) := rfl
theorem ct_144_49 : am_CT 144 49 = some (.iload 2, 50, 0, 0, 0) := rfl
theorem ct_144_50 : am_CT 144 50 = some (.iaload, 51, 0, 0, 0) := rfl
theorem ct_144_51 : am_CT 144 51 = some (.ireturn, 52, 0, 0, 0) := rfl
theorem ct_144_52 : am_CT 144 52 = some (.aload 0, 53, 0, 0, 0) := rfl
theorem ct_144_53 : am_CT 144 53 = some (.getfield 99, 56, 29, 12, 0) := rfl
theorem ct_144_56 : am_CT 144 56 = some (.bipush 12, 58, 0, 0, 0) := rfl
theorem ct_144_58 : am_CT 144 58 = some (.irem, 59, 0, 0, 0) := rfl
theorem ct_144_59 : am_CT 144 59 = some (.ireturn, 60, 0, 0, 0) := rfl
theorem ct_144_60 : am_CT 144 60 = some (.aload 0, 61, 0, 0, 0) := rfl
theorem ct_144_61 : am_CT 144 61 = some (.getfield 93, 64, 27, 12, 0) := rfl
theorem ct_144_64 : am_CT 144 64 = some (.bipush 10, 66, 0, 0, 0) := rfl
theorem ct_144_66 : am_CT 144 66 = some (.idiv, 67, 0, 0, 0) := rfl
theorem ct_144_67 : am_CT 144 67 = some (.ireturn, 68, 0, 0, 0) := rfl
theorem ct_144_68 : am_CT 144 68 = some (.aload 0, 69, 0, 0, 0) := rfl
theorem ct_144_69 : am_CT 144 69 = some (.getfield 96, 72, 28, 12, 0) := rfl
theorem ct_144_72 : am_CT 144 72 = some (.bipush 10, 74, 0, 0, 0) := rfl
theorem ct_144_74 : am_CT 144 74 = some (.idiv, 75, 0, 0, 0) := rfl
theorem ct_144_75 : am_CT 144 75 = some (.ireturn, 76, 0, 0, 0) := rfl
theorem ct_145_0 : am_CT 145 0 = some (.bipush 0, 1, 0, 0, 0) := rfl
theorem ct_145_1 : am_CT 145 1 = some (.istore 3, 2, 0, 0, 0) := rfl
theorem ct_145_2 : am_CT 145 2 = some (.aload 0, 3, 0, 0, 0) := rfl
theorem ct_145_3 : am_CT 145 3 = some (.getfield 65, 6, 18, 12, 2) := rfl
theorem ct_145_6 : am_CT 145 6 = some (.iload 1, 7, 0, 0, 0) := rfl
theorem ct_145_7 : am_CT 145 7 = some (.iaload, 8, 0, 0, 0) := rfl
theorem ct_145_8 : am_CT 145 8 = some (.istore 4, 10, 0, 0, 0) := rfl
theorem ct_145_10 : am_CT 145 10 = some (.iload 4, 12, 0, 0, 0) := rfl
theorem ct_145_12 : am_CT 145 12 = some (.aload 0, 13, 0, 0, 0) := rfl
theorem ct_145_13 : am_CT 145 13 = some (.getfield 68, 16, 19, 12, 2) := rfl
theorem ct_145_16 : am_CT 145 16 = some (.iload 1, 17, 0, 0, 0) := rfl
theorem ct_145_17 : am_CT 145 17 = some (.iaload, 18, 0, 0, 0) := rfl
theorem ct_145_18 : am_CT 145 18 = some (.if_icmp .ge 225, 21, 243, 0, 0) := rfl
theorem ct_145_21 : am_CT 145 21 = some (.aload 0, 22, 0, 0, 0) := rfl
theorem ct_145_22 : am_CT 145 22 = some (.getfield 71, 25, 20, 12, 2) := rfl
theorem ct_145_25 : am_CT 145 25 = some (.iload 4, 27, 0, 0, 0) := rfl
theorem ct_145_27 : am_CT 145 27 = some (.iaload, 28, 0, 0, 0) := rfl
theorem ct_145_28 : am_CT 145 28 = some (.istore 5, 30, 0, 0, 0) := rfl
theorem ct_145_30 : am_CT 145 30 = some (.iload 5, 32, 0, 0, 0) := rfl
theorem ct_145_32 : am_CT 145 32 = some (.bipush (-33), 34, 0, 0, 0) := rfl
theorem ct_145_34 : am_CT 145 34 = some (.if_icmp .ne 30, 37, 64, 0, 0) := rfl
theorem ct_145_37 : am_CT 145 37 = some (.aload 0, 38, 0, 0, 0) := rfl
theorem ct_145_38 : am_CT 145 38 = some (.getfield 89, 41, 26, 12, 2) := rfl
theorem ct_145_41 : am_CT 145 41 = some (.iload 3, 42, 0, 0, 0) := rfl
theorem ct_145_42 : am_CT 145 42 = some (.bipush 1, 43, 0, 0, 0) := rfl
theorem ct_145_43 : am_CT 145 43 = some (.isub, 44, 0, 0, 0) := rfl
theorem ct_145_44 : am_CT 145 44 = some (.aload 0, 45, 0, 0, 0) := rfl
theorem ct_145_45 : am_CT 145 45 = some (.getfield 89, 48, 26, 12, 2) := rfl
theorem ct_145_48 : am_CT 145 48 = some (.iload 3, 49, 0, 0, 0) := rfl
theorem ct_145_49 : am_CT 145 49 = some (.bipush 1, 50, 0, 0, 0) := rfl
theorem ct_145_50 : am_CT 145 50 = some (.isub, 51, 0, 0, 0) := rfl
theorem ct_145_51 : am_CT 145 51 = some (.baload, 52, 0, 0, 0) := rfl
theorem ct_145_52 : am_CT 145 52 = some (.ifCond .ne 7, 55, 59, 0, 0) := rfl
theorem ct_145_55 : am_CT 145 55 = some (.bipush 1, 56, 0, 0, 0) := rfl
theorem ct_145_56 : am_CT 145 56 = some (.goto 4, 59, 60, 0, 0) := rfl
theorem ct_145_59 : am_CT 145 59 = some (.bipush 0, 60, 0, 0, 0) := rfl
theorem ct_145_60 : am_CT 145 60 = some (.bastore, 61, 0, 0, 0) := rfl
theorem ct_145_61 : am_CT 145 61 = some (.goto 176, 64, 237, 0, 0) := rfl
theorem ct_145_64 : am_CT 145 64 = some (.iload 5, 66, 0, 0, 0) := rfl
theorem ct_145_66 : am_CT 145 66 = some (.ifCond .ge 77, 69, 143, 0, 0) := rfl
theorem ct_145_69 : am_CT 145 69 = some (.iinc 3 (-1), 72, 0, 0, 0) := rfl
theorem ct_145_72 : am_CT 145 72 = some (.aload 0, 73, 0, 0, 0) := rfl
theorem ct_145_73 : am_CT 145 73 = some (.getfield 89, 76, 26, 12, 2) := rfl
theorem ct_145_76 : am_CT 145 76 = some (.iload 3, 77, 0, 0, 0) := rfl
theorem ct_145_77 : am_CT 145 77 = some (.bipush 1, 78, 0, 0, 0) := rfl
theorem ct_145_78 : am_CT 145 78 = some (.isub, 79, 0, 0, 0) := rfl
theorem ct_145_79 : am_CT 145 79 = some (.iload 5, 81, 0, 0, 0) := rfl
theorem ct_145_81 : am_CT 145 81 = some (.bipush (-38), 83, 0, 0, 0) := rfl
theorem ct_145_83 : am_CT 145 83 = some (.if_icmp .ne 31, 86, 114, 0, 0) := rfl
theorem ct_145_86 : am_CT 145 86 = some (.aload 0, 87, 0, 0, 0) := rfl
theorem ct_145_87 : am_CT 145 87 = some (.getfield 89, 90, 26, 12, 2) := rfl
theorem ct_145_90 : am_CT 145 90 = some (.iload 3, 91, 0, 0, 0) := rfl
theorem ct_145_91 : am_CT 145 91 = some (.bipush 1, 92, 0, 0, 0) := rfl
theorem ct_145_92 : am_CT 145 92 = some (.isub, 93, 0, 0, 0) := rfl
theorem ct_145_93 : am_CT 145 93 = some (.baload, 94, 0, 0, 0) := rfl
theorem ct_145_94 : am_CT 145 94 = some (.ifCond .eq 16, 97, 110, 0, 0) := rfl
theorem ct_145_97 : am_CT 145 97 = some (.aload 0, 98, 0, 0, 0) := rfl
theorem ct_145_98 : am_CT 145 98 = some (.getfield 89, 101, 26, 12, 2) := rfl
theorem ct_145_101 : am_CT 145 101 = some (.iload 3, 102, 0, 0, 0) := rfl
theorem ct_145_102 : am_CT 145 102 = some (.baload, 103, 0, 0, 0) := rfl
theorem ct_145_103 : am_CT 145 103 = some (.ifCond .eq 7, 106, 110, 0, 0) := rfl
theorem ct_145_106 : am_CT 145 106 = some (.bipush 1, 107, 0, 0, 0) := rfl
theorem ct_145_107 : am_CT 145 107 = some (.goto 32, 110, 139, 0, 0) := rfl
theorem ct_145_110 : am_CT 145 110 = some (.bipush 0, 111, 0, 0, 0) := rfl
theorem ct_145_111 : am_CT 145 111 = some (.goto 28, 114, 139, 0, 0) := rfl
theorem ct_145_114 : am_CT 145 114 = some (.aload 0, 115, 0, 0, 0) := rfl
theorem ct_145_115 : am_CT 145 115 = some (.getfield 89, 118, 26, 12, 2) := rfl
theorem ct_145_118 : am_CT 145 118 = some (.iload 3, 119, 0, 0, 0) := rfl
theorem ct_145_119 : am_CT 145 119 = some (.bipush 1, 120, 0, 0, 0) := rfl
theorem ct_145_120 : am_CT 145 120 = some (.isub, 121, 0, 0, 0) := rfl
theorem ct_145_121 : am_CT 145 121 = some (.baload, 122, 0, 0, 0) := rfl
theorem ct_145_122 : am_CT 145 122 = some (.ifCond .ne 12, 125, 134, 0, 0) := rfl
theorem ct_145_125 : am_CT 145 125 = some (.aload 0, 126, 0, 0, 0) := rfl
theorem ct_145_126 : am_CT 145 126 = some (.getfield 89, 129, 26, 12, 2) := rfl
theorem ct_145_129 : am_CT 145 129 = some (.iload 3, 130, 0, 0, 0) := rfl
theorem ct_145_130 : am_CT 145 130 = some (.baload, 131, 0, 0, 0) := rfl
theorem ct_145_131 : am_CT 145 131 = some (.ifCond .eq 7, 134, 138, 0, 0) := rfl
theorem ct_145_134 : am_CT 145 134 = some (.bipush 1, 135, 0, 0, 0) := rfl
theorem ct_145_135 : am_CT 145 135 = some (.goto 4, 138, 139, 0, 0) := rfl
theorem ct_145_138 : am_CT 145 138 = some (.bipush 0, 139, 0, 0, 0) := rfl
theorem ct_145_139 : am_CT 145 139 = some (.bastore, 140, 0, 0, 0) := rfl
theorem ct_145_140 : am_CT 145 140 = some (.goto 97, 143, 237, 0, 0) := rfl
theorem ct_145_143 : am_CT 145 143 = some (.aload 0, 144, 0, 0, 0) := rfl
theorem ct_145_144 : am_CT 145 144 = some (.iload 5, 146, 0, 0, 0) := rfl
theorem ct_145_146 : am_CT 145 146 = some (.bipush 1000, 149, 0, 0, 0) := rfl
theorem ct_145_149 : am_CT 145 149 = some (.idiv, 150, 0, 0, 0) := rfl
theorem ct_145_150 : am_CT 145 150 = some (.iload 2, 151, 0, 0, 0) := rfl
theorem ct_145_151 : am_CT 145 151 = some (.invokevirtual 282, 154, 244, 2, 12) := rfl
theorem ct_145_154 : am_CT 145 154 = some (.istore 6, 156, 0, 0, 0) := rfl
theorem ct_145_156 : am_CT 145 156 = some (.iload 5, 158, 0, 0, 0) := rfl
theorem ct_145_158 : am_CT 145 158 = some (.bipush 100, 160, 0, 0, 0) := rfl
theorem ct_145_160 : am_CT 145 160 = some (.idiv, 161, 0, 0, 0) := rfl
theorem ct_145_161 : am_CT 145 161 = some (.bipush 10, 163, 0, 0, 0) := rfl
theorem ct_145_163 : am_CT 145 163 = some (.irem, 164, 0, 0, 0) := rfl
theorem ct_145_164 : am_CT 145 164 = some (.istore 7, 166, 0, 0, 0) := rfl
theorem ct_145_166 : am_CT 145 166 = some (.aload 0, 167, 0, 0, 0) := rfl
theorem ct_145_167 : am_CT 145 167 = some (.getfield 89, 170, 26, 12, 2) := rfl
theorem ct_145_170 : am_CT 145 170 = some (.iload 3, 171, 0, 0, 0) := rfl
theorem ct_145_171 : am_CT 145 171 = some (.iload 7, 173, 0, 0, 0) := rfl
theorem ct_145_173 : am_CT 145 173 = some (.ifCond .ne 21, 176, 194, 0, 0) := rfl
theorem ct_145_176 : am_CT 145 176 = some (.iload 6, 178, 0, 0, 0) := rfl
theorem ct_145_178 : am_CT 145 178 = some (.iload 5, 180, 0, 0, 0) := rfl
theorem ct_145_180 : am_CT 145 180 = some (.bipush 100, 182, 0, 0, 0) := rfl
theorem ct_145_182 : am_CT 145 182 = some (.irem, 183, 0, 0, 0) := rfl
theorem ct_145_183 : am_CT 145 183 = some (.if_icmp .ge 7, 186, 190, 0, 0) := rfl
theorem ct_145_186 : am_CT 145 186 = some (.bipush 1, 187, 0, 0, 0) := rfl
theorem ct_145_187 : am_CT 145 187 = some (.goto 46, 190, 233, 0, 0) := rfl
theorem ct_145_190 : am_CT 145 190 = some (.bipush 0, 191, 0, 0, 0) := rfl
theorem ct_145_191 : am_CT 145 191 = some (.goto 42, 194, 233, 0, 0) := rfl
theorem ct_145_194 : am_CT 145 194 = some (.iload 7, 196, 0, 0, 0) := rfl
theorem ct_145_196 : am_CT 145 196 = some (.bipush 1, 197, 0, 0, 0) := rfl
theorem ct_145_197 : am_CT 145 197 = some (.if_icmp .ne 21, 200, 218, 0, 0) := rfl
theorem ct_145_200 : am_CT 145 200 = some (.iload 6, 202, 0, 0, 0) := rfl
theorem ct_145_202 : am_CT 145 202 = some (.iload 5, 204, 0, 0, 0) := rfl
theorem ct_145_204 : am_CT 145 204 = some (.bipush 100, 206, 0, 0, 0) := rfl
theorem ct_145_206 : am_CT 145 206 = some (.irem, 207, 0, 0, 0) := rfl
theorem ct_145_207 : am_CT 145 207 = some (.if_icmp .ne 7, 210, 214, 0, 0) := rfl
theorem ct_145_210 : am_CT 145 210 = some (.bipush 1, 211, 0, 0, 0) := rfl
theorem ct_145_211 : am_CT 145 211 = some (.goto 22, 214, 233, 0, 0) := rfl
theorem ct_145_214 : am_CT 145 214 = some (.bipush 0, 215, 0, 0, 0) := rfl
theorem ct_145_215 : am_CT 145 215 = some (.goto 18, 218, 233, 0, 0) := rfl
theorem ct_145_218 : am_CT 145 218 = some (.iload 6, 220, 0, 0, 0) := rfl
theorem ct_145_220 : am_CT 145 220 = some (.iload 5, 222, 0, 0, 0) := rfl
theorem ct_145_222 : am_CT 145 222 = some (.bipush 100, 224, 0, 0, 0) := rfl
theorem ct_145_224 : am_CT 145 224 = some (.irem, 225, 0, 0, 0) := rfl
theorem ct_145_225 : am_CT 145 225 = some (.if_icmp .le 7, 228, 232, 0, 0) := rfl
theorem ct_145_228 : am_CT 145 228 = some (.bipush 1, 229, 0, 0, 0) := rfl
theorem ct_145_229 : am_CT 145 229 = some (.goto 4, 232, 233, 0, 0) := rfl
theorem ct_145_232 : am_CT 145 232 = some (.bipush 0, 233, 0, 0, 0) := rfl
theorem ct_145_233 : am_CT 145 233 = some (.bastore, 234, 0, 0, 0) := rfl
theorem ct_145_234 : am_CT 145 234 = some (.iinc 3 1, 237, 0, 0, 0) := rfl
theorem ct_145_237 : am_CT 145 237 = some (.iinc 4 1, 240, 0, 0, 0) := rfl
theorem ct_145_240 : am_CT 145 240 = some (.goto (-230), 243, 10, 0, 0) := rfl
theorem ct_145_243 : am_CT 145 243 = some (.aload 0, 244, 0, 0, 0) := rfl
theorem ct_145_244 : am_CT 145 244 = some (.getfield 89, 247, 26, 12, 2) := rfl
theorem ct_145_247 : am_CT 145 247 = some (.bipush 0, 248, 0, 0, 0) := rfl
theorem ct_145_248 : am_CT 145 248 = some (.baload, 249, 0, 0, 0) := rfl
theorem ct_145_249 : am_CT 145 249 = some (.ireturn, 250, 1, 0, 0) := rfl
theorem ct_146_0 : am_CT 146 0 = some (.bipush 0, 1, 0, 0, 0) := rfl
theorem ct_146_1 : am_CT 146 1 = some (.istore 4, 3, 0, 0, 0) := rfl
theorem ct_146_3 : am_CT 146 3 = some (.bipush 0, 4, 0, 0, 0) := rfl
theorem ct_146_4 : am_CT 146 4 = some (.istore 5, 6, 0, 0, 0) := rfl
theorem ct_146_6 : am_CT 146 6 = some (.aload 0, 7, 0, 0, 0) := rfl
theorem ct_146_7 : am_CT 146 7 = some (.invokevirtual 286, 10, 242, 0, 12) := rfl
theorem ct_146_10 : am_CT 146 10 = some (.istore 6, 12, 0, 0, 0) := rfl
theorem ct_146_12 : am_CT 146 12 = some (.iload 6, 14, 0, 0, 0) := rfl
theorem ct_146_14 : am_CT 146 14 = some (.aload 0, 15, 0, 0, 0) := rfl
theorem ct_146_15 : am_CT 146 15 = some (.invokevirtual 289, 18, 243, 0, 12) := rfl
theorem ct_146_18 : am_CT 146 18 = some (.if_icmp .ge 52, 21, 70, 0, 0) := rfl
theorem ct_146_21 : am_CT 146 21 = some (.aload 0, 22, 0, 0, 0) := rfl
theorem ct_146_22 : am_CT 146 22 = some (.getfield 59, 25, 16, 12, 2) := rfl
theorem ct_146_25 : am_CT 146 25 = some (.iload 6, 27, 0, 0, 0) := rfl
theorem ct_146_27 : am_CT 146 27 = some (.iaload, 28, 0, 0, 0) := rfl
theorem ct_146_28 : am_CT 146 28 = some (.iload 1, 29, 0, 0, 0) := rfl
theorem ct_146_29 : am_CT 146 29 = some (.if_icmp .eq 6, 32, 35, 0, 0) := rfl
theorem ct_146_32 : am_CT 146 32 = some (.goto 32, 35, 64, 0, 0) := rfl
theorem ct_146_35 : am_CT 146 35 = some (.bipush 1, 36, 0, 0, 0) := rfl
theorem ct_146_36 : am_CT 146 36 = some (.istore 5, 38, 0, 0, 0) := rfl
theorem ct_146_38 : am_CT 146 38 = some (.iload 4, 40, 0, 0, 0) := rfl
theorem ct_146_40 : am_CT 146 40 = some (.aload 0, 41, 0, 0, 0) := rfl
theorem ct_146_41 : am_CT 146 41 = some (.iload 6, 43, 0, 0, 0) := rfl
theorem ct_146_43 : am_CT 146 43 = some (.iload 2, 44, 0, 0, 0) := rfl
theorem ct_146_44 : am_CT 146 44 = some (.invokevirtual 292, 47, 245, 2, 12) := rfl
theorem ct_146_47 : am_CT 146 47 = some (.ifCond .eq 13, 50, 60, 0, 0) := rfl
theorem ct_146_50 : am_CT 146 50 = some (.aload 0, 51, 0, 0, 0) := rfl
theorem ct_146_51 : am_CT 146 51 = some (.getfield 62, 54, 17, 12, 2) := rfl
theorem ct_146_54 : am_CT 146 54 = some (.iload 6, 56, 0, 0, 0) := rfl
theorem ct_146_56 : am_CT 146 56 = some (.iaload, 57, 0, 0, 0) := rfl
theorem ct_146_57 : am_CT 146 57 = some (.goto 4, 60, 61, 0, 0) := rfl
theorem ct_146_60 : am_CT 146 60 = some (.bipush 0, 61, 0, 0, 0) := rfl
theorem ct_146_61 : am_CT 146 61 = some (.iadd, 62, 0, 0, 0) := rfl
theorem ct_146_62 : am_CT 146 62 = some (.istore 4, 64, 0, 0, 0) := rfl
theorem ct_146_64 : am_CT 146 64 = some (.iinc 6 1, 67, 0, 0, 0) := rfl
theorem ct_146_67 : am_CT 146 67 = some (.goto (-55), 70, 12, 0, 0) := rfl
theorem ct_146_70 : am_CT 146 70 = some (.iload 5, 72, 0, 0, 0) := rfl
theorem ct_146_72 : am_CT 146 72 = some (.ifCond .eq 8, 75, 80, 0, 0) := rfl
theorem ct_146_75 : am_CT 146 75 = some (.iload 4, 77, 0, 0, 0) := rfl
theorem ct_146_77 : am_CT 146 77 = some (.goto 4, 80, 81, 0, 0) := rfl
theorem ct_146_80 : am_CT 146 80 = some (.iload 3, 81, 0, 0, 0) := rfl
theorem ct_146_81 : am_CT 146 81 = some (.ireturn, 82, 0, 0, 0) := rfl
theorem ct_147_0 : am_CT 147 0 = some (.iload 1, 1, 0, 0, 0) := rfl
theorem ct_147_1 : am_CT 147 1 = some (.iload 2, 2, 0, 0, 0) := rfl
theorem ct_147_2 : am_CT 147 2 = some (.if_icmp .ge 9, 5, 11, 0, 0) := rfl
theorem ct_147_5 : am_CT 147 5 = some (.iload 2, 6, 0, 0, 0) := rfl
theorem ct_147_6 : am_CT 147 6 = some (.iload 1, 7, 0, 0, 0) := rfl
theorem ct_147_7 : am_CT 147 7 = some (.isub, 8, 0, 0, 0) := rfl
theorem ct_147_8 : am_CT 147 8 = some (.goto 6, 11, 14, 0, 0) := rfl
theorem ct_147_11 : am_CT 147 11 = some (.iload 1, 12, 0, 0, 0) := rfl
theorem ct_147_12 : am_CT 147 12 = some (.iload 2, 13, 0, 0, 0) := rfl
theorem ct_147_13 : am_CT 147 13 = some (.isub, 14, 0, 0, 0) := rfl
theorem ct_147_14 : am_CT 147 14 = some (.ireturn, 15, 0, 0, 0) := rfl
theorem ct_148_0 : am_CT 148 0 = some (.iload 1, 1, 0, 0, 0) := rfl
theorem ct_148_1 : am_CT 148 1 = some (.iload 2, 2, 0, 0, 0) := rfl
theorem ct_148_2 : am_CT 148 2 = some (.if_icmp .ge 7, 5, 9, 0, 0) := rfl
theorem ct_148_5 : am_CT 148 5 = some (.iload 1, 6, 0, 0, 0) := rfl
theorem ct_148_6 : am_CT 148 6 = some (.goto 4, 9, 10, 0, 0) := rfl
theorem ct_148_9 : am_CT 148 9 = some (.iload 2, 10, 0, 0, 0) := rfl
theorem ct_148_10 : am_CT 148 10 = some (.ireturn, 11, 0, 0, 0) := rfl
theorem ct_149_0 : am_CT 149 0 = some (.iload 1, 1, 0, 0, 0) := rfl
theorem ct_149_1 : am_CT 149 1 = some (.iload 2, 2, 0, 0, 0) := rfl
theorem ct_149_2 : am_CT 149 2 = some (.if_icmp .le 7, 5, 9, 0, 0) := rfl
theorem ct_149_5 : am_CT 149 5 = some (.iload 1, 6, 0, 0, 0) := rfl
theorem ct_149_6 : am_CT 149 6 = some (.goto 4, 9, 10, 0, 0) := rfl
theorem ct_149_9 : am_CT 149 9 = some (.iload 2, 10, 0, 0, 0) := rfl
theorem ct_149_10 : am_CT 149 10 = some (.ireturn, 11, 0, 0, 0) := rfl
theorem ct_150_0 : am_CT 150 0 = some (.aload 0, 1, 0, 0, 0) := rfl
theorem ct_150_1 : am_CT 150 1 = some (.bipush 0, 2, 0, 0, 0) := rfl
theorem ct_150_2 : am_CT 150 2 = some (.bipush 30, 4, 0, 0, 0) := rfl
theorem ct_150_4 : am_CT 150 4 = some (.bipush 4, 5, 0, 0, 0) := rfl
theorem ct_150_5 : am_CT 150 5 = some (.aload 0, 6, 0, 0, 0) := rfl
theorem ct_150_6 : am_CT 150 6 = some (.aload 0, 7, 0, 0, 0) := rfl
theorem ct_150_7 : am_CT 150 7 = some (.getfield 35, 10, 8, 12, 2) := rfl
theorem ct_150_10 : am_CT 150 10 = some (.bipush 0, 11, 0, 0, 0) := rfl
theorem ct_150_11 : am_CT 150 11 = some (.iaload, 12, 0, 0, 0) := rfl
theorem ct_150_12 : am_CT 150 12 = some (.bipush 5, 13, 0, 0, 0) := rfl
theorem ct_150_13 : am_CT 150 13 = some (.invokevirtual 295, 16, 247, 2, 12) := rfl
theorem ct_150_16 : am_CT 150 16 = some (.imul, 17, 0, 0, 0) := rfl
theorem ct_150_17 : am_CT 150 17 = some (.isub, 18, 0, 0, 0) := rfl
theorem ct_150_18 : am_CT 150 18 = some (.bipush 2, 19, 0, 0, 0) := rfl
theorem ct_150_19 : am_CT 150 19 = some (.aload 0, 20, 0, 0, 0) := rfl
theorem ct_150_20 : am_CT 150 20 = some (.aload 0, 21, 0, 0, 0) := rfl
theorem ct_150_21 : am_CT 150 21 = some (.getfield 35, 24, 8, 12, 2) := rfl
theorem ct_150_24 : am_CT 150 24 = some (.bipush 1, 25, 0, 0, 0) := rfl
theorem ct_150_25 : am_CT 150 25 = some (.iaload, 26, 0, 0, 0) := rfl
theorem ct_150_26 : am_CT 150 26 = some (.bipush 3, 27, 0, 0, 0) := rfl
theorem ct_150_27 : am_CT 150 27 = some (.invokevirtual 295, 30, 247, 2, 12) := rfl
theorem ct_150_30 : am_CT 150 30 = some (.imul, 31, 0, 0, 0) := rfl
theorem ct_150_31 : am_CT 150 31 = some (.isub, 32, 0, 0, 0) := rfl
theorem ct_150_32 : am_CT 150 32 = some (.aload 0, 33, 0, 0, 0) := rfl
theorem ct_150_33 : am_CT 150 33 = some (.getfield 35, 36, 8, 12, 2) := rfl
theorem ct_150_36 : am_CT 150 36 = some (.bipush 2, 37, 0, 0, 0) := rfl
theorem ct_150_37 : am_CT 150 37 = some (.iaload, 38, 0, 0, 0) := rfl
theorem ct_150_38 : am_CT 150 38 = some (.iadd, 39, 0, 0, 0) := rfl
theorem ct_150_39 : am_CT 150 39 = some (.invokevirtual 298, 42, 249, 2, 12) := rfl
theorem ct_150_42 : am_CT 150 42 = some (.ireturn, 43, 0, 0, 0) := rfl
theorem ct_151_0 : am_CT 151 0 = some (.aload 0, 1, 0, 0, 0) := rfl
theorem ct_151_1 : am_CT 151 1 = some (.iload 1, 2, 0, 0, 0) := rfl
theorem ct_151_2 : am_CT 151 2 = some (.bipush 0, 3, 0, 0, 0) := rfl
theorem ct_151_3 : am_CT 151 3 = some (.bipush 3, 4, 0, 0, 0) := rfl
theorem ct_151_4 : am_CT 151 4 = some (.invokevirtual 227, 7, 219, 3, 12) := rfl
theorem ct_151_7 : am_CT 151 7 = some (.ifCond .eq 12, 10, 19, 0, 0) := rfl
theorem ct_151_10 : am_CT 151 10 = some (.aload 0, 11, 0, 0, 0) := rfl
theorem ct_151_11 : am_CT 151 11 = some (.getfield 35, 14, 8, 12, 2) := rfl
theorem ct_151_14 : am_CT 151 14 = some (.iload 1, 15, 0, 0, 0) := rfl
theorem ct_151_15 : am_CT 151 15 = some (.iaload, 16, 0, 0, 0) := rfl
theorem ct_151_16 : am_CT 151 16 = some (.goto 28, 19, 44, 0, 0) := rfl
theorem ct_151_19 : am_CT 151 19 = some (.iload 1, 20, 0, 0, 0) := rfl
theorem ct_151_20 : am_CT 151 20 = some (.bipush 4, 21, 0, 0, 0) := rfl
theorem ct_151_21 : am_CT 151 21 = some (.if_icmp .ne 10, 24, 31, 0, 0) := rfl
theorem ct_151_24 : am_CT 151 24 = some (.aload 0, 25, 0, 0, 0) := rfl
theorem ct_151_25 : am_CT 151 25 = some (.invokevirtual 301, 28, 250, 0, 12) := rfl
theorem ct_151_28 : am_CT 151 28 = some (.goto 16, 31, 44, 0, 0) := rfl
theorem ct_151_31 : am_CT 151 31 = some (.iload 1, 32, 0, 0, 0) := rfl
theorem ct_151_32 : am_CT 151 32 = some (.bipush 5, 33, 0, 0, 0) := rfl
theorem ct_151_33 : am_CT 151 33 = some (.if_icmp .ne 10, 36, 43, 0, 0) := rfl
theorem ct_151_36 : am_CT 151 36 = some (.aload 0, 37, 0, 0, 0) := rfl
theorem ct_151_37 : am_CT 151 37 = some (.getfield 13, 40, 1, 12, 0) := rfl
theorem ct_151_40 : am_CT 151 40 = some (.goto 4, 43, 44, 0, 0) := rfl
theorem ct_151_43 : am_CT 151 43 = some (.bipush (-1), 44, 0, 0, 0) := rfl
theorem ct_151_44 : am_CT 151 44 = some (.ireturn, 45, 0, 0, 0) := rfl
theorem ct_152_0 : am_CT 152 0 = some (.aload 0, 1, 0, 0, 0) := rfl
theorem ct_152_1 : am_CT 152 1 = some (.iload 1, 2, 0, 0, 0) := rfl
theorem ct_152_2 : am_CT 152 2 = some (.bipush 0, 3, 0, 0, 0) := rfl
theorem ct_152_3 : am_CT 152 3 = some (.bipush 60, 5, 0, 0, 0) := rfl
theorem ct_152_5 : am_CT 152 5 = some (.invokevirtual 227, 8, 219, 3, 12) := rfl
theorem ct_152_8 : am_CT 152 8 = some (.ifCond .ne 6, 11, 14, 0, 0) := rfl
theorem ct_152_11 : am_CT 152 11 = some (.bipush (-2), 13, 0, 0, 0) := rfl
theorem ct_152_13 : am_CT 152 13 = some (.ireturn, 14, 0, 0, 0) := rfl
theorem ct_152_14 : am_CT 152 14 = some (.aload 0, 15, 0, 0, 0) := rfl
theorem ct_152_15 : am_CT 152 15 = some (.getfield 13, 18, 1, 12, 0) := rfl
theorem ct_152_18 : am_CT 152 18 = some (.iload 1, 19, 0, 0, 0) := rfl
theorem ct_152_19 : am_CT 152 19 = some (.iadd, 20, 0, 0, 0) := rfl
theorem ct_152_20 : am_CT 152 20 = some (.bipush 9999, 23, 0, 0, 0) := rfl
theorem ct_152_23 : am_CT 152 23 = some (.if_icmp .le 6, 26, 29, 0, 0) := rfl
theorem ct_152_26 : am_CT 152 26 = some (.bipush (-3), 28, 0, 0, 0) := rfl
theorem ct_152_28 : am_CT 152 28 = some (.ireturn, 29, 0, 0, 0) := rfl
theorem ct_152_29 : am_CT 152 29 = some (.aload 0, 30, 0, 0, 0) := rfl
theorem ct_152_30 : am_CT 152 30 = some (.dup, 31, 0, 0, 0) := rfl
theorem ct_152_31 : am_CT 152 31 = some (.getfield 13, 34, 1, 12, 0) := rfl
theorem ct_152_34 : am_CT 152 34 = some (.iload 1, 35, 0, 0, 0) := rfl
theorem ct_152_35 : am_CT 152 35 = some (.iadd, 36, 0, 0, 0) := rfl
theorem ct_152_36 : am_CT 152 36 = some (.putfield 13, 39, 1, 12, 0) := rfl
theorem ct_152_39 : am_CT 152 39 = some (.aload 0, 40, 0, 0, 0) := rfl
theorem ct_152_40 : am_CT 152 40 = some (.getfield 13, 43, 1, 12, 0) := rfl
theorem ct_152_43 : am_CT 152 43 = some (.ireturn, 44, 0, 0, 0) := rfl
theorem ct_153_0 : am_CT 153 0 = some (.aload 0, 1, 0, 0, 0) := rfl
theorem ct_153_1 : am_CT 153 1 = some (.getfield 16, 4, 2, 12, 2) := rfl
theorem ct_153_4 : am_CT 153 4 = some (.iload 1, 5, 0, 0, 0) := rfl
theorem ct_153_5 : am_CT 153 5 = some (.iaload, 6, 0, 0, 0) := rfl
theorem ct_153_6 : am_CT 153 6 = some (.tableswitch 47 3 6 #[30, 32, 47, 30], 36, 0, 0, 0) := rfl
theorem ct_153_36 : am_CT 153 36 = some (.bipush 1, 37, 0, 0, 0) := rfl
theorem ct_153_37 : am_CT 153 37 = some (.ireturn, 38, 0, 0, 0) := rfl
theorem ct_153_38 : am_CT 153 38 = some (.aload 0, 39, 0, 0, 0) := rfl
theorem ct_153_39 : am_CT 153 39 = some (.getfield 93, 42, 27, 12, 0) := rfl
theorem ct_153_42 : am_CT 153 42 = some (.bipush 20, 44, 0, 0, 0) := rfl
theorem ct_153_44 : am_CT 153 44 = some (.if_icmp .ge 7, 47, 51, 0, 0) := rfl
theorem ct_153_47 : am_CT 153 47 = some (.bipush 3, 48, 0, 0, 0) := rfl
theorem ct_153_48 : am_CT 153 48 = some (.goto 4, 51, 52, 0, 0) := rfl
theorem ct_153_51 : am_CT 153 51 = some (.bipush 2, 52, 0, 0, 0) := rfl
theorem ct_153_52 : am_CT 153 52 = some (.ireturn, 53, 0, 0, 0) := rfl
theorem ct_153_53 : am_CT 153 53 = some (.bipush 2, 54, 0, 0, 0) := rfl
theorem ct_153_54 : am_CT 153 54 = some (.ireturn, 55, 0, 0, 0) := rfl
theorem ct_154_0 : am_CT 154 0 = some (.aload 0, 1, 0, 0, 0) := rfl
theorem ct_154_1 : am_CT 154 1 = some (.getfield 16, 4, 2, 12, 2) := rfl
theorem ct_154_4 : am_CT 154 4 = some (.iload 1, 5, 0, 0, 0) := rfl
theorem ct_154_5 : am_CT 154 5 = some (.iaload, 6, 0, 0, 0) := rfl
theorem ct_154_6 : am_CT 154 6 = some (.tableswitch 218 1 6 #[38, 64, 218, 101, 133, 183], 44, 0, 0, 0) := rfl
theorem ct_154_44 : am_CT 154 44 = some (.aload 0, 45, 0, 0, 0) := rfl
theorem ct_154_45 : am_CT 154 45 = some (.getfield 93, 48, 27, 12, 0) := rfl
theorem ct_154_48 : am_CT 154 48 = some (.aload 0, 49, 0, 0, 0) := rfl
theorem ct_154_49 : am_CT 154 49 = some (.getfield 26, 52, 5, 12, 2) := rfl
theorem ct_154_52 : am_CT 154 52 = some (.iload 1, 53, 0, 0, 0) := rfl
theorem ct_154_53 : am_CT 154 53 = some (.iaload, 54, 0, 0, 0) := rfl
theorem ct_154_54 : am_CT 154 54 = some (.aload 0, 55, 0, 0, 0) := rfl
theorem ct_154_55 : am_CT 154 55 = some (.getfield 20, 58, 3, 12, 2) := rfl
theorem ct_154_58 : am_CT 154 58 = some (.iload 1, 59, 0, 0, 0) := rfl
theorem ct_154_59 : am_CT 154 59 = some (.iaload, 60, 0, 0, 0) := rfl
theorem ct_154_60 : am_CT 154 60 = some (.iadd, 61, 0, 0, 0) := rfl
theorem ct_154_61 : am_CT 154 61 = some (.if_icmp .lt 7, 64, 68, 0, 0) := rfl
theorem ct_154_64 : am_CT 154 64 = some (.bipush 1, 65, 0, 0, 0) := rfl
theorem ct_154_65 : am_CT 154 65 = some (.goto 4, 68, 69, 0, 0) := rfl
theorem ct_154_68 : am_CT 154 68 = some (.bipush 0, 69, 0, 0, 0) := rfl
theorem ct_154_69 : am_CT 154 69 = some (.ireturn, 70, 1, 0, 0) := rfl
theorem ct_154_70 : am_CT 154 70 = some (.aload 0, 71, 0, 0, 0) := rfl
theorem ct_154_71 : am_CT 154 71 = some (.getfield 93, 74, 27, 12, 0) := rfl
theorem ct_154_74 : am_CT 154 74 = some (.aload 0, 75, 0, 0, 0) := rfl
theorem ct_154_75 : am_CT 154 75 = some (.getfield 26, 78, 5, 12, 2) := rfl
theorem ct_154_78 : am_CT 154 78 = some (.iload 1, 79, 0, 0, 0) := rfl
theorem ct_154_79 : am_CT 154 79 = some (.iaload, 80, 0, 0, 0) := rfl
theorem ct_154_80 : am_CT 154 80 = some (.if_icmp .ge 21, 83, 101, 0, 0) := rfl
theorem ct_154_83 : am_CT 154 83 = some (.aload 0, 84, 0, 0, 0) := rfl
theorem ct_154_84 : am_CT 154 84 = some (.getfield 96, 87, 28, 12, 0) := rfl
theorem ct_154_87 : am_CT 154 87 = some (.aload 0, 88, 0, 0, 0) := rfl
theorem ct_154_88 : am_CT 154 88 = some (.getfield 93, 91, 27, 12, 0) := rfl
theorem ct_154_91 : am_CT 154 91 = some (.aload 0, 92, 0, 0, 0) := rfl
theorem ct_154_92 : am_CT 154 92 = some (.getfield 20, 95, 3, 12, 2) := rfl
theorem ct_154_95 : am_CT 154 95 = some (.iload 1, 96, 0, 0, 0) := rfl
theorem ct_154_96 : am_CT 154 96 = some (.iaload, 97, 0, 0, 0) := rfl
theorem ct_154_97 : am_CT 154 97 = some (.iadd, 98, 0, 0, 0) := rfl
theorem ct_154_98 : am_CT 154 98 = some (.if_icmp .gt 7, 101, 105, 0, 0) := rfl
theorem ct_154_101 : am_CT 154 101 = some (.bipush 1, 102, 0, 0, 0) := rfl
theorem ct_154_102 : am_CT 154 102 = some (.goto 4, 105, 106, 0, 0) := rfl
theorem ct_154_105 : am_CT 154 105 = some (.bipush 0, 106, 0, 0, 0) := rfl
theorem ct_154_106 : am_CT 154 106 = some (.ireturn, 107, 1, 0, 0) := rfl
theorem ct_154_107 : am_CT 154 107 = some (.iload 2, 108, 0, 0, 0) := rfl
theorem ct_154_108 : am_CT 154 108 = some (.bipush 6, 110, 0, 0, 0) := rfl
theorem ct_154_110 : am_CT 154 110 = some (.if_icmp .ge 27, 113, 137, 0, 0) := rfl
theorem ct_154_113 : am_CT 154 113 = some (.aload 0, 114, 0, 0, 0) := rfl
theorem ct_154_114 : am_CT 154 114 = some (.getfield 93, 117, 27, 12, 0) := rfl
theorem ct_154_117 : am_CT 154 117 = some (.aload 0, 118, 0, 0, 0) := rfl
theorem ct_154_118 : am_CT 154 118 = some (.getfield 26, 121, 5, 12, 2) := rfl
theorem ct_154_121 : am_CT 154 121 = some (.iload 1, 122, 0, 0, 0) := rfl
theorem ct_154_122 : am_CT 154 122 = some (.iaload, 123, 0, 0, 0) := rfl
theorem ct_154_123 : am_CT 154 123 = some (.aload 0, 124, 0, 0, 0) := rfl
theorem ct_154_124 : am_CT 154 124 = some (.getfield 20, 127, 3, 12, 2) := rfl
theorem ct_154_127 : am_CT 154 127 = some (.iload 1, 128, 0, 0, 0) := rfl
theorem ct_154_128 : am_CT 154 128 = some (.iaload, 129, 0, 0, 0) := rfl
theorem ct_154_129 : am_CT 154 129 = some (.iadd, 130, 0, 0, 0) := rfl
theorem ct_154_130 : am_CT 154 130 = some (.if_icmp .lt 7, 133, 137, 0, 0) := rfl
theorem ct_154_133 : am_CT 154 133 = some (.bipush 1, 134, 0, 0, 0) := rfl
theorem ct_154_134 : am_CT 154 134 = some (.goto 4, 137, 138, 0, 0) := rfl
theorem ct_154_137 : am_CT 154 137 = some (.bipush 0, 138, 0, 0, 0) := rfl
theorem ct_154_138 : am_CT 154 138 = some (.ireturn, 139, 1, 0, 0) := rfl
theorem ct_154_139 : am_CT 154 139 = some (.aload 0, 140, 0, 0, 0) := rfl
theorem ct_154_140 : am_CT 154 140 = some (.getfield 93, 143, 27, 12, 0) := rfl
theorem ct_154_143 : am_CT 154 143 = some (.aload 0, 144, 0, 0, 0) := rfl
theorem ct_154_144 : am_CT 154 144 = some (.getfield 26, 147, 5, 12, 2) := rfl
theorem ct_154_147 : am_CT 154 147 = some (.iload 1, 148, 0, 0, 0) := rfl
theorem ct_154_148 : am_CT 154 148 = some (.iaload, 149, 0, 0, 0) := rfl
theorem ct_154_149 : am_CT 154 149 = some (.if_icmp .ge 34, 152, 183, 0, 0) := rfl
theorem ct_154_152 : am_CT 154 152 = some (.aload 0, 153, 0, 0, 0) := rfl
theorem ct_154_153 : am_CT 154 153 = some (.getfield 96, 156, 28, 12, 0) := rfl
theorem ct_154_156 : am_CT 154 156 = some (.aload 0, 157, 0, 0, 0) := rfl
theorem ct_154_157 : am_CT 154 157 = some (.getfield 93, 160, 27, 12, 0) := rfl
theorem ct_154_160 : am_CT 154 160 = some (.aload 0, 161, 0, 0, 0) := rfl
theorem ct_154_161 : am_CT 154 161 = some (.getfield 20, 164, 3, 12, 2) := rfl
theorem ct_154_164 : am_CT 154 164 = some (.iload 1, 165, 0, 0, 0) := rfl
theorem ct_154_165 : am_CT 154 165 = some (.iaload, 166, 0, 0, 0) := rfl
theorem ct_154_166 : am_CT 154 166 = some (.iadd, 167, 0, 0, 0) := rfl
theorem ct_154_167 : am_CT 154 167 = some (.if_icmp .le 16, 170, 183, 0, 0) := rfl
theorem ct_154_170 : am_CT 154 170 = some (.iload 2, 171, 0, 0, 0) := rfl
theorem ct_154_171 : am_CT 154 171 = some (.ifCond .ne 16, 174, 187, 0, 0) := rfl
theorem ct_154_174 : am_CT 154 174 = some (.aload 0, 175, 0, 0, 0) := rfl
theorem ct_154_175 : am_CT 154 175 = some (.getfield 93, 178, 27, 12, 0) := rfl
theorem ct_154_178 : am_CT 154 178 = some (.bipush 9, 180, 0, 0, 0) := rfl
theorem ct_154_180 : am_CT 154 180 = some (.if_icmp .le 7, 183, 187, 0, 0) := rfl
theorem ct_154_183 : am_CT 154 183 = some (.bipush 1, 184, 0, 0, 0) := rfl
theorem ct_154_184 : am_CT 154 184 = some (.goto 4, 187, 188, 0, 0) := rfl
theorem ct_154_187 : am_CT 154 187 = some (.bipush 0, 188, 0, 0, 0) := rfl
theorem ct_154_188 : am_CT 154 188 = some (.ireturn, 189, 1, 0, 0) := rfl
theorem ct_154_189 : am_CT 154 189 = some (.aload 0, 190, 0, 0, 0) := rfl
theorem ct_154_190 : am_CT 154 190 = some (.getfield 93, 193, 27, 12, 0) := rfl
theorem ct_154_193 : am_CT 154 193 = some (.aload 0, 194, 0, 0, 0) := rfl
theorem ct_154_194 : am_CT 154 194 = some (.getfield 26, 197, 5, 12, 2) := rfl
theorem ct_154_197 : am_CT 154 197 = some (.iload 1, 198, 0, 0, 0) := rfl
theorem ct_154_198 : am_CT 154 198 = some (.iaload, 199, 0, 0, 0) := rfl
theorem ct_154_199 : am_CT 154 199 = some (.aload 0, 200, 0, 0, 0) := rfl
theorem ct_154_200 : am_CT 154 200 = some (.getfield 32, 203, 7, 12, 2) := rfl
theorem ct_154_203 : am_CT 154 203 = some (.bipush 4, 204, 0, 0, 0) := rfl
theorem ct_154_204 : am_CT 154 204 = some (.iload 1, 205, 0, 0, 0) := rfl
theorem ct_154_205 : am_CT 154 205 = some (.imul, 206, 0, 0, 0) := rfl
theorem ct_154_206 : am_CT 154 206 = some (.aload 0, 207, 0, 0, 0) := rfl
theorem ct_154_207 : am_CT 154 207 = some (.getfield 99, 210, 29, 12, 0) := rfl
theorem ct_154_210 : am_CT 154 210 = some (.bipush 4, 211, 0, 0, 0) := rfl
theorem ct_154_211 : am_CT 154 211 = some (.irem, 212, 0, 0, 0) := rfl
theorem ct_154_212 : am_CT 154 212 = some (.iadd, 213, 0, 0, 0) := rfl
theorem ct_154_213 : am_CT 154 213 = some (.iaload, 214, 0, 0, 0) := rfl
theorem ct_154_214 : am_CT 154 214 = some (.iadd, 215, 0, 0, 0) := rfl
theorem ct_154_215 : am_CT 154 215 = some (.if_icmp .lt 7, 218, 222, 0, 0) := rfl
theorem ct_154_218 : am_CT 154 218 = some (.bipush 1, 219, 0, 0, 0) := rfl
theorem ct_154_219 : am_CT 154 219 = some (.goto 4, 222, 223, 0, 0) := rfl
theorem ct_154_222 : am_CT 154 222 = some (.bipush 0, 223, 0, 0, 0) := rfl
theorem ct_154_223 : am_CT 154 223 = some (.ireturn, 224, 1, 0, 0) := rfl
theorem ct_154_224 : am_CT 154 224 = some (.aload 0, 225, 0, 0, 0) := rfl
theorem ct_154_225 : am_CT 154 225 = some (.getfield 93, 228, 27, 12, 0) := rfl
theorem ct_154_228 : am_CT 154 228 = some (.aload 0, 229, 0, 0, 0) := rfl
theorem ct_154_229 : am_CT 154 229 = some (.getfield 26, 232, 5, 12, 2) := rfl
theorem ct_154_232 : am_CT 154 232 = some (.iload 1, 233, 0, 0, 0) := rfl
theorem ct_154_233 : am_CT 154 233 = some (.iaload, 234, 0, 0, 0) := rfl
theorem ct_154_234 : am_CT 154 234 = some (.if_icmp .lt 7, 237, 241, 0, 0) := rfl
theorem ct_154_237 : am_CT 154 237 = some (.bipush 1, 238, 0, 0, 0) := rfl
theorem ct_154_238 : am_CT 154 238 = some (.goto 4, 241, 242, 0, 0) := rfl
theorem ct_154_241 : am_CT 154 241 = some (.bipush 0, 242, 0, 0, 0) := rfl
theorem ct_154_242 : am_CT 154 242 = some (.ireturn, 243, 1, 0, 0) := rfl
theorem ct_155_0 : am_CT 155 0 = some (.aload 0, 1, 0, 0, 0) := rfl
theorem ct_155_1 : am_CT 155 1 = some (.aload 0, 2, 0, 0, 0) := rfl
theorem ct_155_2 : am_CT 155 2 = some (.getfield 93, 5, 27, 12, 0) := rfl
theorem ct_155_5 : am_CT 155 5 = some (.putfield 102, 8, 30, 12, 0) := rfl
theorem ct_155_8 : am_CT 155 8 = some (.aload 0, 9, 0, 0, 0) := rfl
theorem ct_155_9 : am_CT 155 9 = some (.bipush 10, 11, 0, 0, 0) := rfl
theorem ct_155_11 : am_CT 155 11 = some (.aload 0, 12, 0, 0, 0) := rfl
theorem ct_155_12 : am_CT 155 12 = some (.getfield 96, 15, 28, 12, 0) := rfl
theorem ct_155_15 : am_CT 155 15 = some (.imul, 16, 0, 0, 0) := rfl
theorem ct_155_16 : am_CT 155 16 = some (.aload 0, 17, 0, 0, 0) := rfl
theorem ct_155_17 : am_CT 155 17 = some (.getfield 93, 20, 27, 12, 0) := rfl
theorem ct_155_20 : am_CT 155 20 = some (.bipush 1, 21, 0, 0, 0) := rfl
theorem ct_155_21 : am_CT 155 21 = some (.iadd, 22, 0, 0, 0) := rfl
theorem ct_155_22 : am_CT 155 22 = some (.idiv, 23, 0, 0, 0) := rfl
theorem ct_155_23 : am_CT 155 23 = some (.aload 0, 24, 0, 0, 0) := rfl
theorem ct_155_24 : am_CT 155 24 = some (.bipush 1, 25, 0, 0, 0) := rfl
theorem ct_155_25 : am_CT 155 25 = some (.iload 1, 26, 0, 0, 0) := rfl
theorem ct_155_26 : am_CT 155 26 = some (.bipush 1, 27, 0, 0, 0) := rfl
theorem ct_155_27 : am_CT 155 27 = some (.invokevirtual 304, 30, 246, 3, 12) := rfl
theorem ct_155_30 : am_CT 155 30 = some (.bipush 1, 31, 0, 0, 0) := rfl
theorem ct_155_31 : am_CT 155 31 = some (.iadd, 32, 0, 0, 0) := rfl
theorem ct_155_32 : am_CT 155 32 = some (.idiv, 33, 0, 0, 0) := rfl
theorem ct_155_33 : am_CT 155 33 = some (.putfield 105, 36, 31, 12, 0) := rfl
theorem ct_155_36 : am_CT 155 36 = some (.aload 0, 37, 0, 0, 0) := rfl
theorem ct_155_37 : am_CT 155 37 = some (.aload 0, 38, 0, 0, 0) := rfl
theorem ct_155_38 : am_CT 155 38 = some (.aload 0, 39, 0, 0, 0) := rfl
theorem ct_155_39 : am_CT 155 39 = some (.getfield 93, 42, 27, 12, 0) := rfl
theorem ct_155_42 : am_CT 155 42 = some (.i2l, 43, 0, 0, 0) := rfl
theorem ct_155_43 : am_CT 155 43 = some (.aload 0, 44, 0, 0, 0) := rfl
theorem ct_155_44 : am_CT 155 44 = some (.getfield 105, 47, 31, 12, 0) := rfl
theorem ct_155_47 : am_CT 155 47 = some (.i2l, 48, 0, 0, 0) := rfl
theorem ct_155_48 : am_CT 155 48 = some (.lmul, 49, 0, 0, 0) := rfl
theorem ct_155_49 : am_CT 155 49 = some (.aload 0, 50, 0, 0, 0) := rfl
theorem ct_155_50 : am_CT 155 50 = some (.bipush 2, 51, 0, 0, 0) := rfl
theorem ct_155_51 : am_CT 155 51 = some (.iload 1, 52, 0, 0, 0) := rfl
theorem ct_155_52 : am_CT 155 52 = some (.bipush 1, 53, 0, 0, 0) := rfl
theorem ct_155_53 : am_CT 155 53 = some (.invokevirtual 304, 56, 246, 3, 12) := rfl
theorem ct_155_56 : am_CT 155 56 = some (.i2l, 57, 0, 0, 0) := rfl
theorem ct_155_57 : am_CT 155 57 = some (.lmul, 58, 0, 0, 0) := rfl
theorem ct_155_58 : am_CT 155 58 = some (.invokevirtual 308, 61, 256, 1, 12) := rfl
theorem ct_155_61 : am_CT 155 61 = some (.l2i, 62, 0, 0, 0) := rfl
theorem ct_155_62 : am_CT 155 62 = some (.putfield 108, 65, 32, 12, 0) := rfl
theorem ct_155_65 : am_CT 155 65 = some (.return_, 66, 0, 0, 0) := rfl
theorem ct_156_0 : am_CT 156 0 = some (.lload 1, 1, 0, 0, 0) := rfl
theorem ct_156_1 : am_CT 156 1 = some (.sipush 99999, 4, 312, 1, 0) := rfl
theorem ct_156_4 : am_CT 156 4 = some (.lcmp, 5, 0, 0, 0) := rfl
theorem ct_156_5 : am_CT 156 5 = some (.ifCond .ge 7, 8, 12, 0, 0) := rfl
theorem ct_156_8 : am_CT 156 8 = some (.lload 1, 9, 0, 0, 0) := rfl
theorem ct_156_9 : am_CT 156 9 = some (.goto 6, 12, 15, 0, 0) := rfl
theorem ct_156_12 : am_CT 156 12 = some (.sipush 99999, 15, 312, 1, 0) := rfl
theorem ct_156_15 : am_CT 156 15 = some (.lreturn, 16, 0, 0, 0) := rfl
theorem ct_157_0 : am_CT 157 0 = some (.aload 0, 1, 0, 0, 0) := rfl
theorem ct_157_1 : am_CT 157 1 = some (.iload 2, 2, 0, 0, 0) := rfl
theorem ct_157_2 : am_CT 157 2 = some (.putfield 99, 5, 29, 12, 0) := rfl
theorem ct_157_5 : am_CT 157 5 = some (.aload 0, 6, 0, 0, 0) := rfl
theorem ct_157_6 : am_CT 157 6 = some (.bipush 0, 7, 0, 0, 0) := rfl
theorem ct_157_7 : am_CT 157 7 = some (.putfield 93, 10, 27, 12, 0) := rfl
theorem ct_157_10 : am_CT 157 10 = some (.aload 0, 11, 0, 0, 0) := rfl
theorem ct_157_11 : am_CT 157 11 = some (.aload 0, 12, 0, 0, 0) := rfl
theorem ct_157_12 : am_CT 157 12 = some (.getfield 23, 15, 4, 12, 2) := rfl
theorem ct_157_15 : am_CT 157 15 = some (.iload 1, 16, 0, 0, 0) := rfl
theorem ct_157_16 : am_CT 157 16 = some (.iaload, 17, 0, 0, 0) := rfl
theorem ct_157_17 : am_CT 157 17 = some (.aload 0, 18, 0, 0, 0) := rfl
theorem ct_157_18 : am_CT 157 18 = some (.invokevirtual 301, 21, 250, 0, 12) := rfl
theorem ct_157_21 : am_CT 157 21 = some (.imul, 22, 0, 0, 0) := rfl
theorem ct_157_22 : am_CT 157 22 = some (.putfield 96, 25, 28, 12, 0) := rfl
theorem ct_157_25 : am_CT 157 25 = some (.aload 0, 26, 0, 0, 0) := rfl
theorem ct_157_26 : am_CT 157 26 = some (.bipush 0, 27, 0, 0, 0) := rfl
theorem ct_157_27 : am_CT 157 27 = some (.putfield 102, 30, 30, 12, 0) := rfl
theorem ct_157_30 : am_CT 157 30 = some (.aload 0, 31, 0, 0, 0) := rfl
theorem ct_157_31 : am_CT 157 31 = some (.bipush 0, 32, 0, 0, 0) := rfl
theorem ct_157_32 : am_CT 157 32 = some (.putfield 105, 35, 31, 12, 0) := rfl
theorem ct_157_35 : am_CT 157 35 = some (.aload 0, 36, 0, 0, 0) := rfl
theorem ct_157_36 : am_CT 157 36 = some (.bipush 0, 37, 0, 0, 0) := rfl
theorem ct_157_37 : am_CT 157 37 = some (.putfield 108, 40, 32, 12, 0) := rfl
theorem ct_157_40 : am_CT 157 40 = some (.aload 0, 41, 0, 0, 0) := rfl
theorem ct_157_41 : am_CT 157 41 = some (.bipush 0, 42, 0, 0, 0) := rfl
theorem ct_157_42 : am_CT 157 42 = some (.putfield 114, 45, 34, 12, 1) := rfl
theorem ct_157_45 : am_CT 157 45 = some (.bipush 0, 46, 0, 0, 0) := rfl
theorem ct_157_46 : am_CT 157 46 = some (.istore 3, 47, 0, 0, 0) := rfl
theorem ct_157_47 : am_CT 157 47 = some (.bipush 0, 48, 0, 0, 0) := rfl
theorem ct_157_48 : am_CT 157 48 = some (.istore 4, 50, 0, 0, 0) := rfl
theorem ct_157_50 : am_CT 157 50 = some (.iload 4, 52, 0, 0, 0) := rfl
theorem ct_157_52 : am_CT 157 52 = some (.bipush 30, 54, 0, 0, 0) := rfl
theorem ct_157_54 : am_CT 157 54 = some (.if_icmp .ge 141, 57, 195, 0, 0) := rfl
theorem ct_157_57 : am_CT 157 57 = some (.iload 3, 58, 0, 0, 0) := rfl
theorem ct_157_58 : am_CT 157 58 = some (.ifCond .ne 137, 61, 195, 0, 0) := rfl
theorem ct_157_61 : am_CT 157 61 = some (.aload 0, 62, 0, 0, 0) := rfl
theorem ct_157_62 : am_CT 157 62 = some (.getfield 114, 65, 34, 12, 1) := rfl
theorem ct_157_65 : am_CT 157 65 = some (.ifCond .ne 130, 68, 195, 0, 0) := rfl
theorem ct_157_68 : am_CT 157 68 = some (.aload 0, 69, 0, 0, 0) := rfl
theorem ct_157_69 : am_CT 157 69 = some (.getfield 118, 72, 35, 12, 1) := rfl
theorem ct_157_72 : am_CT 157 72 = some (.ifCond .eq 7, 75, 79, 0, 0) := rfl
theorem ct_157_75 : am_CT 157 75 = some (.bipush 0, 76, 0, 0, 0) := rfl
theorem ct_157_76 : am_CT 157 76 = some (.goto 24, 79, 100, 0, 0) := rfl
theorem ct_157_79 : am_CT 157 79 = some (.aload 0, 80, 0, 0, 0) := rfl
theorem ct_157_80 : am_CT 157 80 = some (.bipush 0, 81, 0, 0, 0) := rfl
theorem ct_157_81 : am_CT 157 81 = some (.iload 1, 82, 0, 0, 0) := rfl
theorem ct_157_82 : am_CT 157 82 = some (.bipush 0, 83, 0, 0, 0) := rfl
theorem ct_157_83 : am_CT 157 83 = some (.invokevirtual 304, 86, 246, 3, 12) := rfl
theorem ct_157_86 : am_CT 157 86 = some (.iload 4, 88, 0, 0, 0) := rfl
theorem ct_157_88 : am_CT 157 88 = some (.ifCond .ne 10, 91, 98, 0, 0) := rfl
theorem ct_157_91 : am_CT 157 91 = some (.aload 0, 92, 0, 0, 0) := rfl
theorem ct_157_92 : am_CT 157 92 = some (.getfield 121, 95, 36, 12, 0) := rfl
theorem ct_157_95 : am_CT 157 95 = some (.goto 4, 98, 99, 0, 0) := rfl
theorem ct_157_98 : am_CT 157 98 = some (.bipush 0, 99, 0, 0, 0) := rfl
theorem ct_157_99 : am_CT 157 99 = some (.iadd, 100, 0, 0, 0) := rfl
theorem ct_157_100 : am_CT 157 100 = some (.istore 5, 102, 0, 0, 0) := rfl
theorem ct_157_102 : am_CT 157 102 = some (.aload 0, 103, 0, 0, 0) := rfl
theorem ct_157_103 : am_CT 157 103 = some (.iload 1, 104, 0, 0, 0) := rfl
theorem ct_157_104 : am_CT 157 104 = some (.invokevirtual 314, 107, 253, 1, 12) := rfl
theorem ct_157_107 : am_CT 157 107 = some (.istore 6, 109, 0, 0, 0) := rfl
theorem ct_157_109 : am_CT 157 109 = some (.aload 0, 110, 0, 0, 0) := rfl
theorem ct_157_110 : am_CT 157 110 = some (.dup, 111, 0, 0, 0) := rfl
theorem ct_157_111 : am_CT 157 111 = some (.getfield 93, 114, 27, 12, 0) := rfl
theorem ct_157_114 : am_CT 157 114 = some (.iload 6, 116, 0, 0, 0) := rfl
theorem ct_157_116 : am_CT 157 116 = some (.iadd, 117, 0, 0, 0) := rfl
theorem ct_157_117 : am_CT 157 117 = some (.putfield 93, 120, 27, 12, 0) := rfl
theorem ct_157_120 : am_CT 157 120 = some (.aload 0, 121, 0, 0, 0) := rfl
theorem ct_157_121 : am_CT 157 121 = some (.dup, 122, 0, 0, 0) := rfl
theorem ct_157_122 : am_CT 157 122 = some (.getfield 96, 125, 28, 12, 0) := rfl
theorem ct_157_125 : am_CT 157 125 = some (.iload 6, 127, 0, 0, 0) := rfl
theorem ct_157_127 : am_CT 157 127 = some (.iload 5, 129, 0, 0, 0) := rfl
theorem ct_157_129 : am_CT 157 129 = some (.iadd, 130, 0, 0, 0) := rfl
theorem ct_157_130 : am_CT 157 130 = some (.isub, 131, 0, 0, 0) := rfl
theorem ct_157_131 : am_CT 157 131 = some (.putfield 96, 134, 28, 12, 0) := rfl
theorem ct_157_134 : am_CT 157 134 = some (.aload 0, 135, 0, 0, 0) := rfl
theorem ct_157_135 : am_CT 157 135 = some (.dup, 136, 0, 0, 0) := rfl
theorem ct_157_136 : am_CT 157 136 = some (.getfield 99, 139, 29, 12, 0) := rfl
theorem ct_157_139 : am_CT 157 139 = some (.bipush 1, 140, 0, 0, 0) := rfl
theorem ct_157_140 : am_CT 157 140 = some (.iadd, 141, 0, 0, 0) := rfl
theorem ct_157_141 : am_CT 157 141 = some (.putfield 99, 144, 29, 12, 0) := rfl
theorem ct_157_144 : am_CT 157 144 = some (.iinc 4 1, 147, 0, 0, 0) := rfl
theorem ct_157_147 : am_CT 157 147 = some (.aload 0, 148, 0, 0, 0) := rfl
theorem ct_157_148 : am_CT 157 148 = some (.aload 0, 149, 0, 0, 0) := rfl
theorem ct_157_149 : am_CT 157 149 = some (.getfield 96, 152, 28, 12, 0) := rfl
theorem ct_157_152 : am_CT 157 152 = some (.aload 0, 153, 0, 0, 0) := rfl
theorem ct_157_153 : am_CT 157 153 = some (.getfield 93, 156, 27, 12, 0) := rfl
theorem ct_157_156 : am_CT 157 156 = some (.bipush 2, 157, 0, 0, 0) := rfl
theorem ct_157_157 : am_CT 157 157 = some (.idiv, 158, 0, 0, 0) := rfl
theorem ct_157_158 : am_CT 157 158 = some (.if_icmp .ge 7, 161, 165, 0, 0) := rfl
theorem ct_157_161 : am_CT 157 161 = some (.bipush 1, 162, 0, 0, 0) := rfl
theorem ct_157_162 : am_CT 157 162 = some (.goto 4, 165, 166, 0, 0) := rfl
theorem ct_157_165 : am_CT 157 165 = some (.bipush 0, 166, 0, 0, 0) := rfl
theorem ct_157_166 : am_CT 157 166 = some (.putfield 114, 169, 34, 12, 1) := rfl
theorem ct_157_169 : am_CT 157 169 = some (.aload 0, 170, 0, 0, 0) := rfl
theorem ct_157_170 : am_CT 157 170 = some (.getfield 114, 173, 34, 12, 1) := rfl
theorem ct_157_173 : am_CT 157 173 = some (.ifCond .ne 17, 176, 190, 0, 0) := rfl
theorem ct_157_176 : am_CT 157 176 = some (.aload 0, 177, 0, 0, 0) := rfl
theorem ct_157_177 : am_CT 157 177 = some (.iload 1, 178, 0, 0, 0) := rfl
theorem ct_157_178 : am_CT 157 178 = some (.iload 5, 180, 0, 0, 0) := rfl
theorem ct_157_180 : am_CT 157 180 = some (.invokevirtual 317, 183, 254, 2, 12) := rfl
theorem ct_157_183 : am_CT 157 183 = some (.ifCond .eq 7, 186, 190, 0, 0) := rfl
theorem ct_157_186 : am_CT 157 186 = some (.bipush 1, 187, 0, 0, 0) := rfl
theorem ct_157_187 : am_CT 157 187 = some (.goto 4, 190, 191, 0, 0) := rfl
theorem ct_157_190 : am_CT 157 190 = some (.bipush 0, 191, 0, 0, 0) := rfl
theorem ct_157_191 : am_CT 157 191 = some (.istore 3, 192, 0, 0, 0) := rfl
theorem ct_157_192 : am_CT 157 192 = some (.goto (-142), 195, 50, 0, 0) := rfl
theorem ct_157_195 : am_CT 157 195 = some (.aload 0, 196, 0, 0, 0) := rfl
theorem ct_157_196 : am_CT 157 196 = some (.iload 3, 197, 0, 0, 0) := rfl
theorem ct_157_197 : am_CT 157 197 = some (.ifCond .ne 7, 200, 204, 0, 0) := rfl
theorem ct_157_200 : am_CT 157 200 = some (.bipush 1, 201, 0, 0, 0) := rfl
theorem ct_157_201 : am_CT 157 201 = some (.goto 4, 204, 205, 0, 0) := rfl
theorem ct_157_204 : am_CT 157 204 = some (.bipush 0, 205, 0, 0, 0) := rfl
theorem ct_157_205 : am_CT 157 205 = some (.putfield 114, 208, 34, 12, 1) := rfl
theorem ct_157_208 : am_CT 157 208 = some (.aload 0, 209, 0, 0, 0) := rfl
theorem ct_157_209 : am_CT 157 209 = some (.iload 4, 211, 0, 0, 0) := rfl
theorem ct_157_211 : am_CT 157 211 = some (.putfield 111, 214, 33, 12, 0) := rfl
theorem ct_157_214 : am_CT 157 214 = some (.iload 3, 215, 0, 0, 0) := rfl
theorem ct_157_215 : am_CT 157 215 = some (.ifCond .eq 8, 218, 223, 0, 0) := rfl
theorem ct_157_218 : am_CT 157 218 = some (.aload 0, 219, 0, 0, 0) := rfl
theorem ct_157_219 : am_CT 157 219 = some (.iload 1, 220, 0, 0, 0) := rfl
theorem ct_157_220 : am_CT 157 220 = some (.invokevirtual 320, 223, 255, 1, 12) := rfl
theorem ct_157_223 : am_CT 157 223 = some (.aload 0, 224, 0, 0, 0) := rfl
theorem ct_157_224 : am_CT 157 224 = some (.bipush 0, 225, 0, 0, 0) := rfl
theorem ct_157_225 : am_CT 157 225 = some (.putfield 93, 228, 27, 12, 0) := rfl
theorem ct_157_228 : am_CT 157 228 = some (.aload 0, 229, 0, 0, 0) := rfl
theorem ct_157_229 : am_CT 157 229 = some (.bipush 0, 230, 0, 0, 0) := rfl
theorem ct_157_230 : am_CT 157 230 = some (.putfield 96, 233, 28, 12, 0) := rfl
theorem ct_157_233 : am_CT 157 233 = some (.return_, 234, 0, 0, 0) := rfl
theorem ct_158_0 : am_CT 158 0 = some (.aload 0, 1, 0, 0, 0) := rfl
theorem ct_158_1 : am_CT 158 1 = some (.iload 1, 2, 0, 0, 0) := rfl
theorem ct_158_2 : am_CT 158 2 = some (.invokevirtual 231, 5, 220, 1, 12) := rfl
theorem ct_158_5 : am_CT 158 5 = some (.ifCond .ne 5, 8, 10, 0, 0) := rfl
theorem ct_158_8 : am_CT 158 8 = some (.bipush (-1), 9, 0, 0, 0) := rfl
theorem ct_158_9 : am_CT 158 9 = some (.ireturn, 10, 0, 0, 0) := rfl
theorem ct_158_10 : am_CT 158 10 = some (.aload 0, 11, 0, 0, 0) := rfl
theorem ct_158_11 : am_CT 158 11 = some (.getfield 35, 14, 8, 12, 2) := rfl
theorem ct_158_14 : am_CT 158 14 = some (.bipush 3, 15, 0, 0, 0) := rfl
theorem ct_158_15 : am_CT 158 15 = some (.iaload, 16, 0, 0, 0) := rfl
theorem ct_158_16 : am_CT 158 16 = some (.ifCond .eq 13, 19, 29, 0, 0) := rfl
theorem ct_158_19 : am_CT 158 19 = some (.aload 0, 20, 0, 0, 0) := rfl
theorem ct_158_20 : am_CT 158 20 = some (.getfield 13, 23, 1, 12, 0) := rfl
theorem ct_158_23 : am_CT 158 23 = some (.bipush 9900, 26, 0, 0, 0) := rfl
theorem ct_158_26 : am_CT 158 26 = some (.if_icmp .le 6, 29, 32, 0, 0) := rfl
theorem ct_158_29 : am_CT 158 29 = some (.bipush (-3), 31, 0, 0, 0) := rfl
theorem ct_158_31 : am_CT 158 31 = some (.ireturn, 32, 0, 0, 0) := rfl
theorem ct_158_32 : am_CT 158 32 = some (.aload 0, 33, 0, 0, 0) := rfl
theorem ct_158_33 : am_CT 158 33 = some (.iload 1, 34, 0, 0, 0) := rfl
theorem ct_158_34 : am_CT 158 34 = some (.aload 0, 35, 0, 0, 0) := rfl
theorem ct_158_35 : am_CT 158 35 = some (.getfield 13, 38, 1, 12, 0) := rfl
theorem ct_158_38 : am_CT 158 38 = some (.invokevirtual 323, 41, 257, 2, 12) := rfl
theorem ct_158_41 : am_CT 158 41 = some (.aload 0, 42, 0, 0, 0) := rfl
theorem ct_158_42 : am_CT 158 42 = some (.getfield 35, 45, 8, 12, 2) := rfl
theorem ct_158_45 : am_CT 158 45 = some (.bipush 3, 46, 0, 0, 0) := rfl
theorem ct_158_46 : am_CT 158 46 = some (.dup2, 47, 0, 0, 0) := rfl
theorem ct_158_47 : am_CT 158 47 = some (.iaload, 48, 0, 0, 0) := rfl
theorem ct_158_48 : am_CT 158 48 = some (.bipush 1, 49, 0, 0, 0) := rfl
theorem ct_158_49 : am_CT 158 49 = some (.isub, 50, 0, 0, 0) := rfl
theorem ct_158_50 : am_CT 158 50 = some (.iastore, 51, 0, 0, 0) := rfl
theorem ct_158_51 : am_CT 158 51 = some (.aload 0, 52, 0, 0, 0) := rfl
theorem ct_158_52 : am_CT 158 52 = some (.dup, 53, 0, 0, 0) := rfl
theorem ct_158_53 : am_CT 158 53 = some (.getfield 13, 56, 1, 12, 0) := rfl
theorem ct_158_56 : am_CT 158 56 = some (.aload 0, 57, 0, 0, 0) := rfl
theorem ct_158_57 : am_CT 158 57 = some (.getfield 111, 60, 33, 12, 0) := rfl
theorem ct_158_60 : am_CT 158 60 = some (.iadd, 61, 0, 0, 0) := rfl
theorem ct_158_61 : am_CT 158 61 = some (.putfield 13, 64, 1, 12, 0) := rfl
theorem ct_158_64 : am_CT 158 64 = some (.aload 0, 65, 0, 0, 0) := rfl
theorem ct_158_65 : am_CT 158 65 = some (.getfield 29, 68, 6, 12, 2) := rfl
theorem ct_158_68 : am_CT 158 68 = some (.iload 1, 69, 0, 0, 0) := rfl
theorem ct_158_69 : am_CT 158 69 = some (.aload 0, 70, 0, 0, 0) := rfl
theorem ct_158_70 : am_CT 158 70 = some (.bipush 999999, 73, 327, 2, 0) := rfl
theorem ct_158_73 : am_CT 158 73 = some (.aload 0, 74, 0, 0, 0) := rfl
theorem ct_158_74 : am_CT 158 74 = some (.getfield 29, 77, 6, 12, 2) := rfl
theorem ct_158_77 : am_CT 158 77 = some (.iload 1, 78, 0, 0, 0) := rfl
theorem ct_158_78 : am_CT 158 78 = some (.iaload, 79, 0, 0, 0) := rfl
theorem ct_158_79 : am_CT 158 79 = some (.aload 0, 80, 0, 0, 0) := rfl
theorem ct_158_80 : am_CT 158 80 = some (.getfield 108, 83, 32, 12, 0) := rfl
theorem ct_158_83 : am_CT 158 83 = some (.iadd, 84, 0, 0, 0) := rfl
theorem ct_158_84 : am_CT 158 84 = some (.invokevirtual 328, 87, 248, 2, 12) := rfl
theorem ct_158_87 : am_CT 158 87 = some (.iastore, 88, 0, 0, 0) := rfl
theorem ct_158_88 : am_CT 158 88 = some (.aload 0, 89, 0, 0, 0) := rfl
theorem ct_158_89 : am_CT 158 89 = some (.getfield 102, 92, 30, 12, 0) := rfl
theorem ct_158_92 : am_CT 158 92 = some (.ireturn, 93, 0, 0, 0) := rfl
theorem ct_159_0 : am_CT 159 0 = some (.aload 0, 1, 0, 0, 0) := rfl
theorem ct_159_1 : am_CT 159 1 = some (.iload 1, 2, 0, 0, 0) := rfl
theorem ct_159_2 : am_CT 159 2 = some (.invokevirtual 231, 5, 220, 1, 12) := rfl
theorem ct_159_5 : am_CT 159 5 = some (.ifCond .eq 13, 8, 18, 0, 0) := rfl
theorem ct_159_8 : am_CT 159 8 = some (.aload 0, 9, 0, 0, 0) := rfl
theorem ct_159_9 : am_CT 159 9 = some (.iload 2, 10, 0, 0, 0) := rfl
theorem ct_159_10 : am_CT 159 10 = some (.bipush 0, 11, 0, 0, 0) := rfl
theorem ct_159_11 : am_CT 159 11 = some (.bipush 4, 12, 0, 0, 0) := rfl
theorem ct_159_12 : am_CT 159 12 = some (.invokevirtual 227, 15, 219, 3, 12) := rfl
theorem ct_159_15 : am_CT 159 15 = some (.ifCond .ne 5, 18, 20, 0, 0) := rfl
theorem ct_159_18 : am_CT 159 18 = some (.bipush (-1), 19, 0, 0, 0) := rfl
theorem ct_159_19 : am_CT 159 19 = some (.ireturn, 20, 0, 0, 0) := rfl
theorem ct_159_20 : am_CT 159 20 = some (.aload 0, 21, 0, 0, 0) := rfl
theorem ct_159_21 : am_CT 159 21 = some (.iload 1, 22, 0, 0, 0) := rfl
theorem ct_159_22 : am_CT 159 22 = some (.aload 0, 23, 0, 0, 0) := rfl
theorem ct_159_23 : am_CT 159 23 = some (.getfield 13, 26, 1, 12, 0) := rfl
theorem ct_159_26 : am_CT 159 26 = some (.invokevirtual 323, 29, 257, 2, 12) := rfl
theorem ct_159_29 : am_CT 159 29 = some (.iload 2, 30, 0, 0, 0) := rfl
theorem ct_159_30 : am_CT 159 30 = some (.tableswitch 58 0 3 #[30, 35, 40, 53], 60, 0, 0, 0) := rfl
theorem ct_159_60 : am_CT 159 60 = some (.aload 0, 61, 0, 0, 0) := rfl
theorem ct_159_61 : am_CT 159 61 = some (.getfield 102, 64, 30, 12, 0) := rfl
theorem ct_159_64 : am_CT 159 64 = some (.ireturn, 65, 0, 0, 0) := rfl
theorem ct_159_65 : am_CT 159 65 = some (.aload 0, 66, 0, 0, 0) := rfl
theorem ct_159_66 : am_CT 159 66 = some (.getfield 105, 69, 31, 12, 0) := rfl
theorem ct_159_69 : am_CT 159 69 = some (.ireturn, 70, 0, 0, 0) := rfl
theorem ct_159_70 : am_CT 159 70 = some (.aload 0, 71, 0, 0, 0) := rfl
theorem ct_159_71 : am_CT 159 71 = some (.getfield 114, 74, 34, 12, 1) := rfl
theorem ct_159_74 : am_CT 159 74 = some (.ifCond .eq 7, 77, 81, 0, 0) := rfl
theorem ct_159_77 : am_CT 159 77 = some (.bipush 1, 78, 0, 0, 0) := rfl
theorem ct_159_78 : am_CT 159 78 = some (.goto 4, 81, 82, 0, 0) := rfl
theorem ct_159_81 : am_CT 159 81 = some (.bipush 0, 82, 0, 0, 0) := rfl
theorem ct_159_82 : am_CT 159 82 = some (.ireturn, 83, 0, 0, 0) := rfl
theorem ct_159_83 : am_CT 159 83 = some (.aload 0, 84, 0, 0, 0) := rfl
theorem ct_159_84 : am_CT 159 84 = some (.getfield 108, 87, 32, 12, 0) := rfl
theorem ct_159_87 : am_CT 159 87 = some (.ireturn, 88, 0, 0, 0) := rfl
theorem ct_159_88 : am_CT 159 88 = some (.aload 0, 89, 0, 0, 0) := rfl
theorem ct_159_89 : am_CT 159 89 = some (.getfield 111, 92, 33, 12, 0) := rfl
theorem ct_159_92 : am_CT 159 92 = some (.ireturn, 93, 0, 0, 0) := rfl
theorem ct_160_0 : am_CT 160 0 = some (.aload 0, 1, 0, 0, 0) := rfl
theorem ct_160_1 : am_CT 160 1 = some (.iload 1, 2, 0, 0, 0) := rfl
theorem ct_160_2 : am_CT 160 2 = some (.iload 2, 3, 0, 0, 0) := rfl
theorem ct_160_3 : am_CT 160 3 = some (.invokevirtual 323, 6, 257, 2, 12) := rfl
theorem ct_160_6 : am_CT 160 6 = some (.aload 0, 7, 0, 0, 0) := rfl
theorem ct_160_7 : am_CT 160 7 = some (.getfield 108, 10, 32, 12, 0) := rfl
theorem ct_160_10 : am_CT 160 10 = some (.ireturn, 11, 0, 0, 0) := rfl
theorem ct_161_0 : am_CT 161 0 = some (.aload 0, 1, 0, 0, 0) := rfl
theorem ct_161_1 : am_CT 161 1 = some (.iload 1, 2, 0, 0, 0) := rfl
theorem ct_161_2 : am_CT 161 2 = some (.invokevirtual 231, 5, 220, 1, 12) := rfl
theorem ct_161_5 : am_CT 161 5 = some (.ifCond .eq 13, 8, 18, 0, 0) := rfl
theorem ct_161_8 : am_CT 161 8 = some (.aload 0, 9, 0, 0, 0) := rfl
theorem ct_161_9 : am_CT 161 9 = some (.iload 2, 10, 0, 0, 0) := rfl
theorem ct_161_10 : am_CT 161 10 = some (.bipush 0, 11, 0, 0, 0) := rfl
theorem ct_161_11 : am_CT 161 11 = some (.bipush 1, 12, 0, 0, 0) := rfl
theorem ct_161_12 : am_CT 161 12 = some (.invokevirtual 227, 15, 219, 3, 12) := rfl
theorem ct_161_15 : am_CT 161 15 = some (.ifCond .ne 5, 18, 20, 0, 0) := rfl
theorem ct_161_18 : am_CT 161 18 = some (.bipush (-1), 19, 0, 0, 0) := rfl
theorem ct_161_19 : am_CT 161 19 = some (.ireturn, 20, 0, 0, 0) := rfl
theorem ct_161_20 : am_CT 161 20 = some (.aload 0, 21, 0, 0, 0) := rfl
theorem ct_161_21 : am_CT 161 21 = some (.getfield 26, 24, 5, 12, 2) := rfl
theorem ct_161_24 : am_CT 161 24 = some (.iload 1, 25, 0, 0, 0) := rfl
theorem ct_161_25 : am_CT 161 25 = some (.iaload, 26, 0, 0, 0) := rfl
theorem ct_161_26 : am_CT 161 26 = some (.istore 3, 27, 0, 0, 0) := rfl
theorem ct_161_27 : am_CT 161 27 = some (.bipush 0, 28, 0, 0, 0) := rfl
theorem ct_161_28 : am_CT 161 28 = some (.istore 4, 30, 0, 0, 0) := rfl
theorem ct_161_30 : am_CT 161 30 = some (.bipush (-1), 31, 0, 0, 0) := rfl
theorem ct_161_31 : am_CT 161 31 = some (.istore 5, 33, 0, 0, 0) := rfl
theorem ct_161_33 : am_CT 161 33 = some (.bipush 1, 34, 0, 0, 0) := rfl
theorem ct_161_34 : am_CT 161 34 = some (.istore 6, 36, 0, 0, 0) := rfl
theorem ct_161_36 : am_CT 161 36 = some (.iload 6, 38, 0, 0, 0) := rfl
theorem ct_161_38 : am_CT 161 38 = some (.bipush 61, 40, 0, 0, 0) := rfl
theorem ct_161_40 : am_CT 161 40 = some (.if_icmp .ge 46, 43, 86, 0, 0) := rfl
theorem ct_161_43 : am_CT 161 43 = some (.aload 0, 44, 0, 0, 0) := rfl
theorem ct_161_44 : am_CT 161 44 = some (.getfield 26, 47, 5, 12, 2) := rfl
theorem ct_161_47 : am_CT 161 47 = some (.iload 1, 48, 0, 0, 0) := rfl
theorem ct_161_48 : am_CT 161 48 = some (.iload 6, 50, 0, 0, 0) := rfl
theorem ct_161_50 : am_CT 161 50 = some (.iastore, 51, 0, 0, 0) := rfl
theorem ct_161_51 : am_CT 161 51 = some (.aload 0, 52, 0, 0, 0) := rfl
theorem ct_161_52 : am_CT 161 52 = some (.iload 1, 53, 0, 0, 0) := rfl
theorem ct_161_53 : am_CT 161 53 = some (.aload 0, 54, 0, 0, 0) := rfl
theorem ct_161_54 : am_CT 161 54 = some (.getfield 13, 57, 1, 12, 0) := rfl
theorem ct_161_57 : am_CT 161 57 = some (.invokevirtual 331, 60, 260, 2, 12) := rfl
theorem ct_161_60 : am_CT 161 60 = some (.istore 7, 62, 0, 0, 0) := rfl
theorem ct_161_62 : am_CT 161 62 = some (.iload 7, 64, 0, 0, 0) := rfl
theorem ct_161_64 : am_CT 161 64 = some (.iload 5, 66, 0, 0, 0) := rfl
theorem ct_161_66 : am_CT 161 66 = some (.if_icmp .gt 6, 69, 72, 0, 0) := rfl
theorem ct_161_69 : am_CT 161 69 = some (.goto 11, 72, 80, 0, 0) := rfl
theorem ct_161_72 : am_CT 161 72 = some (.iload 6, 74, 0, 0, 0) := rfl
theorem ct_161_74 : am_CT 161 74 = some (.istore 4, 76, 0, 0, 0) := rfl
theorem ct_161_76 : am_CT 161 76 = some (.iload 7, 78, 0, 0, 0) := rfl
theorem ct_161_78 : am_CT 161 78 = some (.istore 5, 80, 0, 0, 0) := rfl
theorem ct_161_80 : am_CT 161 80 = some (.iinc 6 1, 83, 0, 0, 0) := rfl
theorem ct_161_83 : am_CT 161 83 = some (.goto (-47), 86, 36, 0, 0) := rfl
theorem ct_161_86 : am_CT 161 86 = some (.aload 0, 87, 0, 0, 0) := rfl
theorem ct_161_87 : am_CT 161 87 = some (.getfield 26, 90, 5, 12, 2) := rfl
theorem ct_161_90 : am_CT 161 90 = some (.iload 1, 91, 0, 0, 0) := rfl
theorem ct_161_91 : am_CT 161 91 = some (.iload 3, 92, 0, 0, 0) := rfl
theorem ct_161_92 : am_CT 161 92 = some (.iastore, 93, 0, 0, 0) := rfl
theorem ct_161_93 : am_CT 161 93 = some (.iload 2, 94, 0, 0, 0) := rfl
theorem ct_161_94 : am_CT 161 94 = some (.ifCond .ne 8, 97, 102, 0, 0) := rfl
theorem ct_161_97 : am_CT 161 97 = some (.iload 4, 99, 0, 0, 0) := rfl
theorem ct_161_99 : am_CT 161 99 = some (.goto 5, 102, 104, 0, 0) := rfl
theorem ct_161_102 : am_CT 161 102 = some (.iload 5, 104, 0, 0, 0) := rfl
theorem ct_161_104 : am_CT 161 104 = some (.ireturn, 105, 0, 0, 0) := rfl
theorem ct_162_0 : am_CT 162 0 = some (.aload 0, 1, 0, 0, 0) := rfl
theorem ct_162_1 : am_CT 162 1 = some (.iload 1, 2, 0, 0, 0) := rfl
theorem ct_162_2 : am_CT 162 2 = some (.invokevirtual 231, 5, 220, 1, 12) := rfl
theorem ct_162_5 : am_CT 162 5 = some (.ifCond .eq 13, 8, 18, 0, 0) := rfl
theorem ct_162_8 : am_CT 162 8 = some (.aload 0, 9, 0, 0, 0) := rfl
theorem ct_162_9 : am_CT 162 9 = some (.iload 2, 10, 0, 0, 0) := rfl
theorem ct_162_10 : am_CT 162 10 = some (.bipush 0, 11, 0, 0, 0) := rfl
theorem ct_162_11 : am_CT 162 11 = some (.bipush 1, 12, 0, 0, 0) := rfl
theorem ct_162_12 : am_CT 162 12 = some (.invokevirtual 227, 15, 219, 3, 12) := rfl
theorem ct_162_15 : am_CT 162 15 = some (.ifCond .ne 5, 18, 20, 0, 0) := rfl
theorem ct_162_18 : am_CT 162 18 = some (.bipush (-1), 19, 0, 0, 0) := rfl
theorem ct_162_19 : am_CT 162 19 = some (.ireturn, 20, 0, 0, 0) := rfl
theorem ct_162_20 : am_CT 162 20 = some (.aload 0, 21, 0, 0, 0) := rfl
theorem ct_162_21 : am_CT 162 21 = some (.getfield 23, 24, 4, 12, 2) := rfl
theorem ct_162_24 : am_CT 162 24 = some (.iload 1, 25, 0, 0, 0) := rfl
theorem ct_162_25 : am_CT 162 25 = some (.iaload, 26, 0, 0, 0) := rfl
theorem ct_162_26 : am_CT 162 26 = some (.istore 3, 27, 0, 0, 0) := rfl
theorem ct_162_27 : am_CT 162 27 = some (.bipush 0, 28, 0, 0, 0) := rfl
theorem ct_162_28 : am_CT 162 28 = some (.istore 4, 30, 0, 0, 0) := rfl
theorem ct_162_30 : am_CT 162 30 = some (.bipush (-1), 31, 0, 0, 0) := rfl
theorem ct_162_31 : am_CT 162 31 = some (.istore 5, 33, 0, 0, 0) := rfl
theorem ct_162_33 : am_CT 162 33 = some (.bipush 1, 34, 0, 0, 0) := rfl
theorem ct_162_34 : am_CT 162 34 = some (.istore 6, 36, 0, 0, 0) := rfl
theorem ct_162_36 : am_CT 162 36 = some (.iload 6, 38, 0, 0, 0) := rfl
theorem ct_162_38 : am_CT 162 38 = some (.bipush 10, 40, 0, 0, 0) := rfl
theorem ct_162_40 : am_CT 162 40 = some (.if_icmp .ge 46, 43, 86, 0, 0) := rfl
theorem ct_162_43 : am_CT 162 43 = some (.aload 0, 44, 0, 0, 0) := rfl
theorem ct_162_44 : am_CT 162 44 = some (.getfield 23, 47, 4, 12, 2) := rfl
theorem ct_162_47 : am_CT 162 47 = some (.iload 1, 48, 0, 0, 0) := rfl
theorem ct_162_48 : am_CT 162 48 = some (.iload 6, 50, 0, 0, 0) := rfl
theorem ct_162_50 : am_CT 162 50 = some (.iastore, 51, 0, 0, 0) := rfl
theorem ct_162_51 : am_CT 162 51 = some (.aload 0, 52, 0, 0, 0) := rfl
theorem ct_162_52 : am_CT 162 52 = some (.iload 1, 53, 0, 0, 0) := rfl
theorem ct_162_53 : am_CT 162 53 = some (.aload 0, 54, 0, 0, 0) := rfl
theorem ct_162_54 : am_CT 162 54 = some (.getfield 13, 57, 1, 12, 0) := rfl
theorem ct_162_57 : am_CT 162 57 = some (.invokevirtual 331, 60, 260, 2, 12) := rfl
theorem ct_162_60 : am_CT 162 60 = some (.istore 7, 62, 0, 0, 0) := rfl
theorem ct_162_62 : am_CT 162 62 = some (.iload 7, 64, 0, 0, 0) := rfl
theorem ct_162_64 : am_CT 162 64 = some (.iload 5, 66, 0, 0, 0) := rfl
theorem ct_162_66 : am_CT 162 66 = some (.if_icmp .gt 6, 69, 72, 0, 0) := rfl
theorem ct_162_69 : am_CT 162 69 = some (.goto 11, 72, 80, 0, 0) := rfl
theorem ct_162_72 : am_CT 162 72 = some (.iload 6, 74, 0, 0, 0) := rfl
theorem ct_162_74 : am_CT 162 74 = some (.istore 4, 76, 0, 0, 0) := rfl
theorem ct_162_76 : am_CT 162 76 = some (.iload 7, 78, 0, 0, 0) := rfl
theorem ct_162_78 : am_CT 162 78 = some (.istore 5, 80, 0, 0, 0) := rfl
theorem ct_162_80 : am_CT 162 80 = some (.iinc 6 1, 83, 0, 0, 0) := rfl
theorem ct_162_83 : am_CT 162 83 = some (.goto (-47), 86, 36, 0, 0) := rfl
theorem ct_162_86 : am_CT 162 86 = some (.aload 0, 87, 0, 0, 0) := rfl
theorem ct_162_87 : am_CT 162 87 = some (.getfield 23, 90, 4, 12, 2) := rfl
theorem ct_162_90 : am_CT 162 90 = some (.iload 1, 91, 0, 0, 0) := rfl
theorem ct_162_91 : am_CT 162 91 = some (.iload 3, 92, 0, 0, 0) := rfl
theorem ct_162_92 : am_CT 162 92 = some (.iastore, 93, 0, 0, 0) := rfl
theorem ct_162_93 : am_CT 162 93 = some (.iload 2, 94, 0, 0, 0) := rfl
theorem ct_162_94 : am_CT 162 94 = some (.ifCond .ne 8, 97, 102, 0, 0) := rfl
theorem ct_162_97 : am_CT 162 97 = some (.iload 4, 99, 0, 0, 0) := rfl
theorem ct_162_99 : am_CT 162 99 = some (.goto 5, 102, 104, 0, 0) := rfl
theorem ct_162_102 : am_CT 162 102 = some (.iload 5, 104, 0, 0, 0) := rfl
theorem ct_162_104 : am_CT 162 104 = some (.ireturn, 105, 0, 0, 0) := rfl
theorem ct_163_0 : am_CT 163 0 = some (.aload 0, 1, 0, 0, 0) := rfl
theorem ct_163_1 : am_CT 163 1 = some (.iload 1, 2, 0, 0, 0) := rfl
theorem ct_163_2 : am_CT 163 2 = some (.invokevirtual 231, 5, 220, 1, 12) := rfl
theorem ct_163_5 : am_CT 163 5 = some (.ifCond .eq 13, 8, 18, 0, 0) := rfl
theorem ct_163_8 : am_CT 163 8 = some (.aload 0, 9, 0, 0, 0) := rfl
theorem ct_163_9 : am_CT 163 9 = some (.iload 2, 10, 0, 0, 0) := rfl
theorem ct_163_10 : am_CT 163 10 = some (.bipush 0, 11, 0, 0, 0) := rfl
theorem ct_163_11 : am_CT 163 11 = some (.bipush 1, 12, 0, 0, 0) := rfl
theorem ct_163_12 : am_CT 163 12 = some (.invokevirtual 227, 15, 219, 3, 12) := rfl
theorem ct_163_15 : am_CT 163 15 = some (.ifCond .ne 5, 18, 20, 0, 0) := rfl
theorem ct_163_18 : am_CT 163 18 = some (.bipush (-1), 19, 0, 0, 0) := rfl
theorem ct_163_19 : am_CT 163 19 = some (.ireturn, 20, 0, 0, 0) := rfl
theorem ct_163_20 : am_CT 163 20 = some (.aload 0, 21, 0, 0, 0) := rfl
theorem ct_163_21 : am_CT 163 21 = some (.getfield 35, 24, 8, 12, 2) := rfl
theorem ct_163_24 : am_CT 163 24 = some (.bipush 0, 25, 0, 0, 0) := rfl
theorem ct_163_25 : am_CT 163 25 = some (.iaload, 26, 0, 0, 0) := rfl
theorem ct_163_26 : am_CT 163 26 = some (.istore 3, 27, 0, 0, 0) := rfl
theorem ct_163_27 : am_CT 163 27 = some (.aload 0, 28, 0, 0, 0) := rfl
theorem ct_163_28 : am_CT 163 28 = some (.getfield 35, 31, 8, 12, 2) := rfl
theorem ct_163_31 : am_CT 163 31 = some (.bipush 1, 32, 0, 0, 0) := rfl
theorem ct_163_32 : am_CT 163 32 = some (.iaload, 33, 0, 0, 0) := rfl
theorem ct_163_33 : am_CT 163 33 = some (.istore 4, 35, 0, 0, 0) := rfl
theorem ct_163_35 : am_CT 163 35 = some (.bipush 0, 36, 0, 0, 0) := rfl
theorem ct_163_36 : am_CT 163 36 = some (.istore 5, 38, 0, 0, 0) := rfl
theorem ct_163_38 : am_CT 163 38 = some (.bipush (-1), 39, 0, 0, 0) := rfl
theorem ct_163_39 : am_CT 163 39 = some (.istore 6, 41, 0, 0, 0) := rfl
theorem ct_163_41 : am_CT 163 41 = some (.bipush 0, 42, 0, 0, 0) := rfl
theorem ct_163_42 : am_CT 163 42 = some (.istore 7, 44, 0, 0, 0) := rfl
theorem ct_163_44 : am_CT 163 44 = some (.iload 7, 46, 0, 0, 0) := rfl
theorem ct_163_46 : am_CT 163 46 = some (.bipush 100, 48, 0, 0, 0) := rfl
theorem ct_163_48 : am_CT 163 48 = some (.if_icmp .ge 60, 51, 108, 0, 0) := rfl
theorem ct_163_51 : am_CT 163 51 = some (.aload 0, 52, 0, 0, 0) := rfl
theorem ct_163_52 : am_CT 163 52 = some (.getfield 35, 55, 8, 12, 2) := rfl
theorem ct_163_55 : am_CT 163 55 = some (.bipush 0, 56, 0, 0, 0) := rfl
theorem ct_163_56 : am_CT 163 56 = some (.iload 7, 58, 0, 0, 0) := rfl
theorem ct_163_58 : am_CT 163 58 = some (.bipush 10, 60, 0, 0, 0) := rfl
theorem ct_163_60 : am_CT 163 60 = some (.idiv, 61, 0, 0, 0) := rfl
theorem ct_163_61 : am_CT 163 61 = some (.iastore, 62, 0, 0, 0) := rfl
theorem ct_163_62 : am_CT 163 62 = some (.aload 0, 63, 0, 0, 0) := rfl
theorem ct_163_63 : am_CT 163 63 = some (.getfield 35, 66, 8, 12, 2) := rfl
theorem ct_163_66 : am_CT 163 66 = some (.bipush 1, 67, 0, 0, 0) := rfl
theorem ct_163_67 : am_CT 163 67 = some (.iload 7, 69, 0, 0, 0) := rfl
theorem ct_163_69 : am_CT 163 69 = some (.bipush 10, 71, 0, 0, 0) := rfl
theorem ct_163_71 : am_CT 163 71 = some (.irem, 72, 0, 0, 0) := rfl
theorem ct_163_72 : am_CT 163 72 = some (.iastore, 73, 0, 0, 0) := rfl
theorem ct_163_73 : am_CT 163 73 = some (.aload 0, 74, 0, 0, 0) := rfl
theorem ct_163_74 : am_CT 163 74 = some (.iload 1, 75, 0, 0, 0) := rfl
theorem ct_163_75 : am_CT 163 75 = some (.aload 0, 76, 0, 0, 0) := rfl
theorem ct_163_76 : am_CT 163 76 = some (.getfield 13, 79, 1, 12, 0) := rfl
theorem ct_163_79 : am_CT 163 79 = some (.invokevirtual 331, 82, 260, 2, 12) := rfl
theorem ct_163_82 : am_CT 163 82 = some (.istore 8, 84, 0, 0, 0) := rfl
theorem ct_163_84 : am_CT 163 84 = some (.iload 8, 86, 0, 0, 0) := rfl
theorem ct_163_86 : am_CT 163 86 = some (.iload 6, 88, 0, 0, 0) := rfl
theorem ct_163_88 : am_CT 163 88 = some (.if_icmp .gt 6, 91, 94, 0, 0) := rfl
theorem ct_163_91 : am_CT 163 91 = some (.goto 11, 94, 102, 0, 0) := rfl
theorem ct_163_94 : am_CT 163 94 = some (.iload 7, 96, 0, 0, 0) := rfl
theorem ct_163_96 : am_CT 163 96 = some (.istore 5, 98, 0, 0, 0) := rfl
theorem ct_163_98 : am_CT 163 98 = some (.iload 8, 100, 0, 0, 0) := rfl
theorem ct_163_100 : am_CT 163 100 = some (.istore 6, 102, 0, 0, 0) := rfl
theorem ct_163_102 : am_CT 163 102 = some (.iinc 7 1, 105, 0, 0, 0) := rfl
theorem ct_163_105 : am_CT 163 105 = some (.goto (-61), 108, 44, 0, 0) := rfl
theorem ct_163_108 : am_CT 163 108 = some (.aload 0, 109, 0, 0, 0) := rfl
theorem ct_163_109 : am_CT 163 109 = some (.getfield 35, 112, 8, 12, 2) := rfl
theorem ct_163_112 : am_CT 163 112 = some (.bipush 0, 113, 0, 0, 0) := rfl
theorem ct_163_113 : am_CT 163 113 = some (.iload 3, 114, 0, 0, 0) := rfl
theorem ct_163_114 : am_CT 163 114 = some (.iastore, 115, 0, 0, 0) := rfl
theorem ct_163_115 : am_CT 163 115 = some (.aload 0, 116, 0, 0, 0) := rfl
theorem ct_163_116 : am_CT 163 116 = some (.getfield 35, 119, 8, 12, 2) := rfl
theorem ct_163_119 : am_CT 163 119 = some (.bipush 1, 120, 0, 0, 0) := rfl
theorem ct_163_120 : am_CT 163 120 = some (.iload 4, 122, 0, 0, 0) := rfl
theorem ct_163_122 : am_CT 163 122 = some (.iastore, 123, 0, 0, 0) := rfl
theorem ct_163_123 : am_CT 163 123 = some (.iload 2, 124, 0, 0, 0) := rfl
theorem ct_163_124 : am_CT 163 124 = some (.ifCond .ne 8, 127, 132, 0, 0) := rfl
theorem ct_163_127 : am_CT 163 127 = some (.iload 5, 129, 0, 0, 0) := rfl
theorem ct_163_129 : am_CT 163 129 = some (.goto 5, 132, 134, 0, 0) := rfl
theorem ct_163_132 : am_CT 163 132 = some (.iload 6, 134, 0, 0, 0) := rfl
theorem ct_163_134 : am_CT 163 134 = some (.ireturn, 135, 0, 0, 0) := rfl
theorem ct_164_0 : am_CT 164 0 = some (.aload 0, 1, 0, 0, 0) := rfl
theorem ct_164_1 : am_CT 164 1 = some (.iload 1, 2, 0, 0, 0) := rfl
theorem ct_164_2 : am_CT 164 2 = some (.invokevirtual 231, 5, 220, 1, 12) := rfl
theorem ct_164_5 : am_CT 164 5 = some (.ifCond .eq 13, 8, 18, 0, 0) := rfl
theorem ct_164_8 : am_CT 164 8 = some (.aload 0, 9, 0, 0, 0) := rfl
theorem ct_164_9 : am_CT 164 9 = some (.iload 2, 10, 0, 0, 0) := rfl
theorem ct_164_10 : am_CT 164 10 = some (.bipush 0, 11, 0, 0, 0) := rfl
theorem ct_164_11 : am_CT 164 11 = some (.bipush 1, 12, 0, 0, 0) := rfl
theorem ct_164_12 : am_CT 164 12 = some (.invokevirtual 227, 15, 219, 3, 12) := rfl
theorem ct_164_15 : am_CT 164 15 = some (.ifCond .ne 5, 18, 20, 0, 0) := rfl
theorem ct_164_18 : am_CT 164 18 = some (.bipush (-1), 19, 0, 0, 0) := rfl
theorem ct_164_19 : am_CT 164 19 = some (.ireturn, 20, 0, 0, 0) := rfl
theorem ct_164_20 : am_CT 164 20 = some (.bipush 0, 21, 0, 0, 0) := rfl
theorem ct_164_21 : am_CT 164 21 = some (.istore 3, 22, 0, 0, 0) := rfl
theorem ct_164_22 : am_CT 164 22 = some (.bipush (-1), 23, 0, 0, 0) := rfl
theorem ct_164_23 : am_CT 164 23 = some (.istore 4, 25, 0, 0, 0) := rfl
theorem ct_164_25 : am_CT 164 25 = some (.bipush 0, 26, 0, 0, 0) := rfl
theorem ct_164_26 : am_CT 164 26 = some (.istore 5, 28, 0, 0, 0) := rfl
theorem ct_164_28 : am_CT 164 28 = some (.iload 5, 30, 0, 0, 0) := rfl
theorem ct_164_30 : am_CT 164 30 = some (.bipush 24, 32, 0, 0, 0) := rfl
theorem ct_164_32 : am_CT 164 32 = some (.if_icmp .ge 40, 35, 72, 0, 0) := rfl
theorem ct_164_35 : am_CT 164 35 = some (.aload 0, 36, 0, 0, 0) := rfl
theorem ct_164_36 : am_CT 164 36 = some (.iload 1, 37, 0, 0, 0) := rfl
theorem ct_164_37 : am_CT 164 37 = some (.aload 0, 38, 0, 0, 0) := rfl
theorem ct_164_38 : am_CT 164 38 = some (.getfield 13, 41, 1, 12, 0) := rfl
theorem ct_164_41 : am_CT 164 41 = some (.iload 5, 43, 0, 0, 0) := rfl
theorem ct_164_43 : am_CT 164 43 = some (.iadd, 44, 0, 0, 0) := rfl
theorem ct_164_44 : am_CT 164 44 = some (.invokevirtual 331, 47, 260, 2, 12) := rfl
theorem ct_164_47 : am_CT 164 47 = some (.istore 6, 49, 0, 0, 0) := rfl
theorem ct_164_49 : am_CT 164 49 = some (.iload 6, 51, 0, 0, 0) := rfl
theorem ct_164_51 : am_CT 164 51 = some (.iload 4, 53, 0, 0, 0) := rfl
theorem ct_164_53 : am_CT 164 53 = some (.if_icmp .gt 6, 56, 59, 0, 0) := rfl
theorem ct_164_56 : am_CT 164 56 = some (.goto 10, 59, 66, 0, 0) := rfl
theorem ct_164_59 : am_CT 164 59 = some (.iload 5, 61, 0, 0, 0) := rfl
theorem ct_164_61 : am_CT 164 61 = some (.istore 3, 62, 0, 0, 0) := rfl
theorem ct_164_62 : am_CT 164 62 = some (.iload 6, 64, 0, 0, 0) := rfl
theorem ct_164_64 : am_CT 164 64 = some (.istore 4, 66, 0, 0, 0) := rfl
theorem ct_164_66 : am_CT 164 66 = some (.iinc 5 1, 69, 0, 0, 0) := rfl
theorem ct_164_69 : am_CT 164 69 = some (.goto (-41), 72, 28, 0, 0) := rfl
theorem ct_164_72 : am_CT 164 72 = some (.iload 2, 73, 0, 0, 0) := rfl
theorem ct_164_73 : am_CT 164 73 = some (.ifCond .ne 7, 76, 80, 0, 0) := rfl
theorem ct_164_76 : am_CT 164 76 = some (.iload 3, 77, 0, 0, 0) := rfl
theorem ct_164_77 : am_CT 164 77 = some (.goto 5, 80, 82, 0, 0) := rfl
theorem ct_164_80 : am_CT 164 80 = some (.iload 4, 82, 0, 0, 0) := rfl
theorem ct_164_82 : am_CT 164 82 = some (.ireturn, 83, 0, 0, 0) := rfl
theorem ct_165_0 : am_CT 165 0 = some (.bipush 0, 1, 0, 0, 0) := rfl
theorem ct_165_1 : am_CT 165 1 = some (.istore 2, 2, 0, 0, 0) := rfl
theorem ct_165_2 : am_CT 165 2 = some (.iload 2, 3, 0, 0, 0) := rfl
theorem ct_165_3 : am_CT 165 3 = some (.bipush 5, 4, 0, 0, 0) := rfl
theorem ct_165_4 : am_CT 165 4 = some (.if_icmp .ge 16, 7, 20, 0, 0) := rfl
theorem ct_165_7 : am_CT 165 7 = some (.aload 0, 8, 0, 0, 0) := rfl
theorem ct_165_8 : am_CT 165 8 = some (.getfield 124, 11, 37, 12, 2) := rfl
theorem ct_165_11 : am_CT 165 11 = some (.iload 2, 12, 0, 0, 0) := rfl
theorem ct_165_12 : am_CT 165 12 = some (.bipush 0, 13, 0, 0, 0) := rfl
theorem ct_165_13 : am_CT 165 13 = some (.iastore, 14, 0, 0, 0) := rfl
theorem ct_165_14 : am_CT 165 14 = some (.iinc 2 1, 17, 0, 0, 0) := rfl
theorem ct_165_17 : am_CT 165 17 = some (.goto (-15), 20, 2, 0, 0) := rfl
theorem ct_165_20 : am_CT 165 20 = some (.aload 0, 21, 0, 0, 0) := rfl
theorem ct_165_21 : am_CT 165 21 = some (.bipush 0, 22, 0, 0, 0) := rfl
theorem ct_165_22 : am_CT 165 22 = some (.putfield 127, 25, 38, 12, 0) := rfl
theorem ct_165_25 : am_CT 165 25 = some (.aload 0, 26, 0, 0, 0) := rfl
theorem ct_165_26 : am_CT 165 26 = some (.aload 0, 27, 0, 0, 0) := rfl
theorem ct_165_27 : am_CT 165 27 = some (.getfield 13, 30, 1, 12, 0) := rfl
theorem ct_165_30 : am_CT 165 30 = some (.putfield 130, 33, 39, 12, 0) := rfl
theorem ct_165_33 : am_CT 165 33 = some (.bipush 0, 34, 0, 0, 0) := rfl
theorem ct_165_34 : am_CT 165 34 = some (.istore 2, 35, 0, 0, 0) := rfl
theorem ct_165_35 : am_CT 165 35 = some (.iload 2, 36, 0, 0, 0) := rfl
theorem ct_165_36 : am_CT 165 36 = some (.iload 1, 37, 0, 0, 0) := rfl
theorem ct_165_37 : am_CT 165 37 = some (.if_icmp .ge 89, 40, 126, 0, 0) := rfl
theorem ct_165_40 : am_CT 165 40 = some (.iload 2, 41, 0, 0, 0) := rfl
theorem ct_165_41 : am_CT 165 41 = some (.aload 0, 42, 0, 0, 0) := rfl
theorem ct_165_42 : am_CT 165 42 = some (.getfield 35, 45, 8, 12, 2) := rfl
theorem ct_165_45 : am_CT 165 45 = some (.bipush 3, 46, 0, 0, 0) := rfl
theorem ct_165_46 : am_CT 165 46 = some (.iaload, 47, 0, 0, 0) := rfl
theorem ct_165_47 : am_CT 165 47 = some (.if_icmp .ge 79, 50, 126, 0, 0) := rfl
theorem ct_165_50 : am_CT 165 50 = some (.aload 0, 51, 0, 0, 0) := rfl
theorem ct_165_51 : am_CT 165 51 = some (.getfield 7, 54, 0, 12, 0) := rfl
theorem ct_165_54 : am_CT 165 54 = some (.ifCond .le 72, 57, 126, 0, 0) := rfl
theorem ct_165_57 : am_CT 165 57 = some (.iload 2, 58, 0, 0, 0) := rfl
theorem ct_165_58 : am_CT 165 58 = some (.aload 0, 59, 0, 0, 0) := rfl
theorem ct_165_59 : am_CT 165 59 = some (.getfield 7, 62, 0, 12, 0) := rfl
theorem ct_165_62 : am_CT 165 62 = some (.irem, 63, 0, 0, 0) := rfl
theorem ct_165_63 : am_CT 165 63 = some (.istore 3, 64, 0, 0, 0) := rfl
theorem ct_165_64 : am_CT 165 64 = some (.aload 0, 65, 0, 0, 0) := rfl
theorem ct_165_65 : am_CT 165 65 = some (.iload 3, 66, 0, 0, 0) := rfl
theorem ct_165_66 : am_CT 165 66 = some (.aload 0, 67, 0, 0, 0) := rfl
theorem ct_165_67 : am_CT 165 67 = some (.getfield 130, 70, 39, 12, 0) := rfl
theorem ct_165_70 : am_CT 165 70 = some (.invokevirtual 323, 73, 257, 2, 12) := rfl
theorem ct_165_73 : am_CT 165 73 = some (.aload 0, 74, 0, 0, 0) := rfl
theorem ct_165_74 : am_CT 165 74 = some (.getfield 124, 77, 37, 12, 2) := rfl
theorem ct_165_77 : am_CT 165 77 = some (.iload 3, 78, 0, 0, 0) := rfl
theorem ct_165_78 : am_CT 165 78 = some (.dup2, 79, 0, 0, 0) := rfl
theorem ct_165_79 : am_CT 165 79 = some (.iaload, 80, 0, 0, 0) := rfl
theorem ct_165_80 : am_CT 165 80 = some (.aload 0, 81, 0, 0, 0) := rfl
theorem ct_165_81 : am_CT 165 81 = some (.getfield 108, 84, 32, 12, 0) := rfl
theorem ct_165_84 : am_CT 165 84 = some (.iadd, 85, 0, 0, 0) := rfl
theorem ct_165_85 : am_CT 165 85 = some (.iastore, 86, 0, 0, 0) := rfl
theorem ct_165_86 : am_CT 165 86 = some (.aload 0, 87, 0, 0, 0) := rfl
theorem ct_165_87 : am_CT 165 87 = some (.dup, 88, 0, 0, 0) := rfl
theorem ct_165_88 : am_CT 165 88 = some (.getfield 127, 91, 38, 12, 0) := rfl
theorem ct_165_91 : am_CT 165 91 = some (.aload 0, 92, 0, 0, 0) := rfl
theorem ct_165_92 : am_CT 165 92 = some (.getfield 114, 95, 34, 12, 1) := rfl
theorem ct_165_95 : am_CT 165 95 = some (.ifCond .eq 7, 98, 102, 0, 0) := rfl
theorem ct_165_98 : am_CT 165 98 = some (.bipush 1, 99, 0, 0, 0) := rfl
theorem ct_165_99 : am_CT 165 99 = some (.goto 4, 102, 103, 0, 0) := rfl
theorem ct_165_102 : am_CT 165 102 = some (.bipush 0, 103, 0, 0, 0) := rfl
theorem ct_165_103 : am_CT 165 103 = some (.iadd, 104, 0, 0, 0) := rfl
theorem ct_165_104 : am_CT 165 104 = some (.putfield 127, 107, 38, 12, 0) := rfl
theorem ct_165_107 : am_CT 165 107 = some (.aload 0, 108, 0, 0, 0) := rfl
theorem ct_165_108 : am_CT 165 108 = some (.dup, 109, 0, 0, 0) := rfl
theorem ct_165_109 : am_CT 165 109 = some (.getfield 130, 112, 39, 12, 0) := rfl
theorem ct_165_112 : am_CT 165 112 = some (.aload 0, 113, 0, 0, 0) := rfl
theorem ct_165_113 : am_CT 165 113 = some (.getfield 111, 116, 33, 12, 0) := rfl
theorem ct_165_116 : am_CT 165 116 = some (.iadd, 117, 0, 0, 0) := rfl
theorem ct_165_117 : am_CT 165 117 = some (.putfield 130, 120, 39, 12, 0) := rfl
theorem ct_165_120 : am_CT 165 120 = some (.iinc 2 1, 123, 0, 0, 0) := rfl
theorem ct_165_123 : am_CT 165 123 = some (.goto (-88), 126, 35, 0, 0) := rfl
theorem ct_165_126 : am_CT 165 126 = some (.return_, 127, 0, 0, 0) := rfl
theorem ct_166_0 : am_CT 166 0 = some (.aload 0, 1, 0, 0, 0) := rfl
theorem ct_166_1 : am_CT 166 1 = some (.iload 2, 2, 0, 0, 0) := rfl
theorem ct_166_2 : am_CT 166 2 = some (.bipush 0, 3, 0, 0, 0) := rfl
theorem ct_166_3 : am_CT 166 3 = some (.aload 0, 4, 0, 0, 0) := rfl
theorem ct_166_4 : am_CT 166 4 = some (.getfield 7, 7, 0, 12, 0) := rfl
theorem ct_166_7 : am_CT 166 7 = some (.bipush 1, 8, 0, 0, 0) := rfl
theorem ct_166_8 : am_CT 166 8 = some (.isub, 9, 0, 0, 0) := rfl
theorem ct_166_9 : am_CT 166 9 = some (.invokevirtual 227, 12, 219, 3, 12) := rfl
theorem ct_166_12 : am_CT 166 12 = some (.ifCond .ne 17, 15, 29, 0, 0) := rfl
theorem ct_166_15 : am_CT 166 15 = some (.aload 0, 16, 0, 0, 0) := rfl
theorem ct_166_16 : am_CT 166 16 = some (.iload 2, 17, 0, 0, 0) := rfl
theorem ct_166_17 : am_CT 166 17 = some (.bipush 10, 19, 0, 0, 0) := rfl
theorem ct_166_19 : am_CT 166 19 = some (.bipush 11, 21, 0, 0, 0) := rfl
theorem ct_166_21 : am_CT 166 21 = some (.invokevirtual 227, 24, 219, 3, 12) := rfl
theorem ct_166_24 : am_CT 166 24 = some (.ifCond .ne 5, 27, 29, 0, 0) := rfl
theorem ct_166_27 : am_CT 166 27 = some (.bipush (-1), 28, 0, 0, 0) := rfl
theorem ct_166_28 : am_CT 166 28 = some (.ireturn, 29, 0, 0, 0) := rfl
theorem ct_166_29 : am_CT 166 29 = some (.aload 0, 30, 0, 0, 0) := rfl
theorem ct_166_30 : am_CT 166 30 = some (.iload 1, 31, 0, 0, 0) := rfl
theorem ct_166_31 : am_CT 166 31 = some (.bipush 0, 32, 0, 0, 0) := rfl
theorem ct_166_32 : am_CT 166 32 = some (.bipush 20, 34, 0, 0, 0) := rfl
theorem ct_166_34 : am_CT 166 34 = some (.invokevirtual 227, 37, 219, 3, 12) := rfl
theorem ct_166_37 : am_CT 166 37 = some (.ifCond .ne 6, 40, 43, 0, 0) := rfl
theorem ct_166_40 : am_CT 166 40 = some (.bipush (-2), 42, 0, 0, 0) := rfl
theorem ct_166_42 : am_CT 166 42 = some (.ireturn, 43, 0, 0, 0) := rfl
theorem ct_166_43 : am_CT 166 43 = some (.aload 0, 44, 0, 0, 0) := rfl
theorem ct_166_44 : am_CT 166 44 = some (.iload 1, 45, 0, 0, 0) := rfl
theorem ct_166_45 : am_CT 166 45 = some (.invokevirtual 334, 48, 265, 1, 12) := rfl
theorem ct_166_48 : am_CT 166 48 = some (.iload 2, 49, 0, 0, 0) := rfl
theorem ct_166_49 : am_CT 166 49 = some (.bipush 10, 51, 0, 0, 0) := rfl
theorem ct_166_51 : am_CT 166 51 = some (.if_icmp .ne 10, 54, 61, 0, 0) := rfl
theorem ct_166_54 : am_CT 166 54 = some (.aload 0, 55, 0, 0, 0) := rfl
theorem ct_166_55 : am_CT 166 55 = some (.getfield 127, 58, 38, 12, 0) := rfl
theorem ct_166_58 : am_CT 166 58 = some (.goto 22, 61, 80, 0, 0) := rfl
theorem ct_166_61 : am_CT 166 61 = some (.iload 2, 62, 0, 0, 0) := rfl
theorem ct_166_62 : am_CT 166 62 = some (.bipush 11, 64, 0, 0, 0) := rfl
theorem ct_166_64 : am_CT 166 64 = some (.if_icmp .ne 10, 67, 74, 0, 0) := rfl
theorem ct_166_67 : am_CT 166 67 = some (.aload 0, 68, 0, 0, 0) := rfl
theorem ct_166_68 : am_CT 166 68 = some (.getfield 130, 71, 39, 12, 0) := rfl
theorem ct_166_71 : am_CT 166 71 = some (.goto 9, 74, 80, 0, 0) := rfl
theorem ct_166_74 : am_CT 166 74 = some (.aload 0, 75, 0, 0, 0) := rfl
theorem ct_166_75 : am_CT 166 75 = some (.getfield 124, 78, 37, 12, 2) := rfl
theorem ct_166_78 : am_CT 166 78 = some (.iload 2, 79, 0, 0, 0) := rfl
theorem ct_166_79 : am_CT 166 79 = some (.iaload, 80, 0, 0, 0) := rfl
theorem ct_166_80 : am_CT 166 80 = some (.ireturn, 81, 0, 0, 0) := rfl
theorem ct_167_0 : am_CT 167 0 = some (.aload 0, 1, 0, 0, 0) := rfl
theorem ct_167_1 : am_CT 167 1 = some (.iload 1, 2, 0, 0, 0) := rfl
theorem ct_167_2 : am_CT 167 2 = some (.bipush 0, 3, 0, 0, 0) := rfl
theorem ct_167_3 : am_CT 167 3 = some (.bipush 20, 5, 0, 0, 0) := rfl
theorem ct_167_5 : am_CT 167 5 = some (.invokevirtual 227, 8, 219, 3, 12) := rfl
theorem ct_167_8 : am_CT 167 8 = some (.ifCond .ne 6, 11, 14, 0, 0) := rfl
theorem ct_167_11 : am_CT 167 11 = some (.bipush (-2), 13, 0, 0, 0) := rfl
theorem ct_167_13 : am_CT 167 13 = some (.ireturn, 14, 0, 0, 0) := rfl
theorem ct_167_14 : am_CT 167 14 = some (.aload 0, 15, 0, 0, 0) := rfl
theorem ct_167_15 : am_CT 167 15 = some (.iload 1, 16, 0, 0, 0) := rfl
theorem ct_167_16 : am_CT 167 16 = some (.invokevirtual 334, 19, 265, 1, 12) := rfl
theorem ct_167_19 : am_CT 167 19 = some (.bipush (-5), 21, 0, 0, 0) := rfl
theorem ct_167_21 : am_CT 167 21 = some (.istore 2, 22, 0, 0, 0) := rfl
theorem ct_167_22 : am_CT 167 22 = some (.bipush 0, 23, 0, 0, 0) := rfl
theorem ct_167_23 : am_CT 167 23 = some (.istore 3, 24, 0, 0, 0) := rfl
theorem ct_167_24 : am_CT 167 24 = some (.iload 3, 25, 0, 0, 0) := rfl
theorem ct_167_25 : am_CT 167 25 = some (.aload 0, 26, 0, 0, 0) := rfl
theorem ct_167_26 : am_CT 167 26 = some (.getfield 7, 29, 0, 12, 0) := rfl
theorem ct_167_29 : am_CT 167 29 = some (.if_icmp .ge 30, 32, 59, 0, 0) := rfl
theorem ct_167_32 : am_CT 167 32 = some (.iload 2, 33, 0, 0, 0) := rfl
theorem ct_167_33 : am_CT 167 33 = some (.ifCond .lt 18, 36, 51, 0, 0) := rfl
theorem ct_167_36 : am_CT 167 36 = some (.aload 0, 37, 0, 0, 0) := rfl
theorem ct_167_37 : am_CT 167 37 = some (.getfield 124, 40, 37, 12, 2) := rfl
theorem ct_167_40 : am_CT 167 40 = some (.iload 3, 41, 0, 0, 0) := rfl
theorem ct_167_41 : am_CT 167 41 = some (.iaload, 42, 0, 0, 0) := rfl
theorem ct_167_42 : am_CT 167 42 = some (.aload 0, 43, 0, 0, 0) := rfl
theorem ct_167_43 : am_CT 167 43 = some (.getfield 124, 46, 37, 12, 2) := rfl
theorem ct_167_46 : am_CT 167 46 = some (.iload 2, 47, 0, 0, 0) := rfl
theorem ct_167_47 : am_CT 167 47 = some (.iaload, 48, 0, 0, 0) := rfl
theorem ct_167_48 : am_CT 167 48 = some (.if_icmp .le 5, 51, 53, 0, 0) := rfl
theorem ct_167_51 : am_CT 167 51 = some (.iload 3, 52, 0, 0, 0) := rfl
theorem ct_167_52 : am_CT 167 52 = some (.istore 2, 53, 0, 0, 0) := rfl
theorem ct_167_53 : am_CT 167 53 = some (.iinc 3 1, 56, 0, 0, 0) := rfl
theorem ct_167_56 : am_CT 167 56 = some (.goto (-32), 59, 24, 0, 0) := rfl
theorem ct_167_59 : am_CT 167 59 = some (.iload 2, 60, 0, 0, 0) := rfl
theorem ct_167_60 : am_CT 167 60 = some (.ireturn, 61, 0, 0, 0) := rfl
theorem ct_168_0 : am_CT 168 0 = some (.aload 0, 1, 0, 0, 0) := rfl
theorem ct_168_1 : am_CT 168 1 = some (.iload 1, 2, 0, 0, 0) := rfl
theorem ct_168_2 : am_CT 168 2 = some (.invokevirtual 231, 5, 220, 1, 12) := rfl
theorem ct_168_5 : am_CT 168 5 = some (.ifCond .eq 13, 8, 18, 0, 0) := rfl
theorem ct_168_8 : am_CT 168 8 = some (.aload 0, 9, 0, 0, 0) := rfl
theorem ct_168_9 : am_CT 168 9 = some (.iload 2, 10, 0, 0, 0) := rfl
theorem ct_168_10 : am_CT 168 10 = some (.bipush 0, 11, 0, 0, 0) := rfl
theorem ct_168_11 : am_CT 168 11 = some (.bipush 1, 12, 0, 0, 0) := rfl
theorem ct_168_12 : am_CT 168 12 = some (.invokevirtual 227, 15, 219, 3, 12) := rfl
theorem ct_168_15 : am_CT 168 15 = some (.ifCond .ne 5, 18, 20, 0, 0) := rfl
theorem ct_168_18 : am_CT 168 18 = some (.bipush (-1), 19, 0, 0, 0) := rfl
theorem ct_168_19 : am_CT 168 19 = some (.ireturn, 20, 0, 0, 0) := rfl
theorem ct_168_20 : am_CT 168 20 = some (.bipush (-5), 22, 0, 0, 0) := rfl
theorem ct_168_22 : am_CT 168 22 = some (.istore 3, 23, 0, 0, 0) := rfl
theorem ct_168_23 : am_CT 168 23 = some (.bipush 0, 24, 0, 0, 0) := rfl
theorem ct_168_24 : am_CT 168 24 = some (.istore 4, 26, 0, 0, 0) := rfl
theorem ct_168_26 : am_CT 168 26 = some (.bipush 0, 27, 0, 0, 0) := rfl
theorem ct_168_27 : am_CT 168 27 = some (.istore 5, 29, 0, 0, 0) := rfl
theorem ct_168_29 : am_CT 168 29 = some (.iload 5, 31, 0, 0, 0) := rfl
theorem ct_168_31 : am_CT 168 31 = some (.bipush 12, 33, 0, 0, 0) := rfl
theorem ct_168_33 : am_CT 168 33 = some (.if_icmp .ge 42, 36, 75, 0, 0) := rfl
theorem ct_168_36 : am_CT 168 36 = some (.aload 0, 37, 0, 0, 0) := rfl
theorem ct_168_37 : am_CT 168 37 = some (.iload 1, 38, 0, 0, 0) := rfl
theorem ct_168_38 : am_CT 168 38 = some (.aload 0, 39, 0, 0, 0) := rfl
theorem ct_168_39 : am_CT 168 39 = some (.getfield 13, 42, 1, 12, 0) := rfl
theorem ct_168_42 : am_CT 168 42 = some (.iload 5, 44, 0, 0, 0) := rfl
theorem ct_168_44 : am_CT 168 44 = some (.iadd, 45, 0, 0, 0) := rfl
theorem ct_168_45 : am_CT 168 45 = some (.invokevirtual 323, 48, 257, 2, 12) := rfl
theorem ct_168_48 : am_CT 168 48 = some (.aload 0, 49, 0, 0, 0) := rfl
theorem ct_168_49 : am_CT 168 49 = some (.getfield 105, 52, 31, 12, 0) := rfl
theorem ct_168_52 : am_CT 168 52 = some (.iload 4, 54, 0, 0, 0) := rfl
theorem ct_168_54 : am_CT 168 54 = some (.if_icmp .gt 6, 57, 60, 0, 0) := rfl
theorem ct_168_57 : am_CT 168 57 = some (.goto 12, 60, 69, 0, 0) := rfl
theorem ct_168_60 : am_CT 168 60 = some (.iload 5, 62, 0, 0, 0) := rfl
theorem ct_168_62 : am_CT 168 62 = some (.istore 3, 63, 0, 0, 0) := rfl
theorem ct_168_63 : am_CT 168 63 = some (.aload 0, 64, 0, 0, 0) := rfl
theorem ct_168_64 : am_CT 168 64 = some (.getfield 105, 67, 31, 12, 0) := rfl
theorem ct_168_67 : am_CT 168 67 = some (.istore 4, 69, 0, 0, 0) := rfl
theorem ct_168_69 : am_CT 168 69 = some (.iinc 5 1, 72, 0, 0, 0) := rfl
theorem ct_168_72 : am_CT 168 72 = some (.goto (-43), 75, 29, 0, 0) := rfl
theorem ct_168_75 : am_CT 168 75 = some (.iload 2, 76, 0, 0, 0) := rfl
theorem ct_168_76 : am_CT 168 76 = some (.ifCond .ne 8, 79, 84, 0, 0) := rfl
theorem ct_168_79 : am_CT 168 79 = some (.iload 4, 81, 0, 0, 0) := rfl
theorem ct_168_81 : am_CT 168 81 = some (.goto 4, 84, 85, 0, 0) := rfl
theorem ct_168_84 : am_CT 168 84 = some (.iload 3, 85, 0, 0, 0) := rfl
theorem ct_168_85 : am_CT 168 85 = some (.ireturn, 86, 0, 0, 0) := rfl
theorem ct_169_0 : am_CT 169 0 = some (.iload 1, 1, 0, 0, 0) := rfl
theorem ct_169_1 : am_CT 169 1 = some (.bipush (-1), 2, 0, 0, 0) := rfl
theorem ct_169_2 : am_CT 169 2 = some (.if_icmp .ne 10, 5, 12, 0, 0) := rfl
theorem ct_169_5 : am_CT 169 5 = some (.aload 0, 6, 0, 0, 0) := rfl
theorem ct_169_6 : am_CT 169 6 = some (.bipush 0, 7, 0, 0, 0) := rfl
theorem ct_169_7 : am_CT 169 7 = some (.putfield 133, 10, 40, 12, 0) := rfl
theorem ct_169_10 : am_CT 169 10 = some (.bipush 0, 11, 0, 0, 0) := rfl
theorem ct_169_11 : am_CT 169 11 = some (.ireturn, 12, 0, 0, 0) := rfl
theorem ct_169_12 : am_CT 169 12 = some (.aload 0, 13, 0, 0, 0) := rfl
theorem ct_169_13 : am_CT 169 13 = some (.iload 1, 14, 0, 0, 0) := rfl
theorem ct_169_14 : am_CT 169 14 = some (.invokevirtual 231, 17, 220, 1, 12) := rfl
theorem ct_169_17 : am_CT 169 17 = some (.ifCond .ne 5, 20, 22, 0, 0) := rfl
theorem ct_169_20 : am_CT 169 20 = some (.bipush (-1), 21, 0, 0, 0) := rfl
theorem ct_169_21 : am_CT 169 21 = some (.ireturn, 22, 0, 0, 0) := rfl
theorem ct_169_22 : am_CT 169 22 = some (.aload 0, 23, 0, 0, 0) := rfl
theorem ct_169_23 : am_CT 169 23 = some (.iload 2, 24, 0, 0, 0) := rfl
theorem ct_169_24 : am_CT 169 24 = some (.bipush 0, 25, 0, 0, 0) := rfl
theorem ct_169_25 : am_CT 169 25 = some (.bipush 30, 27, 0, 0, 0) := rfl
theorem ct_169_27 : am_CT 169 27 = some (.invokevirtual 227, 30, 219, 3, 12) := rfl
theorem ct_169_30 : am_CT 169 30 = some (.ifCond .eq 14, 33, 44, 0, 0) := rfl
theorem ct_169_33 : am_CT 169 33 = some (.aload 0, 34, 0, 0, 0) := rfl
theorem ct_169_34 : am_CT 169 34 = some (.iload 3, 35, 0, 0, 0) := rfl
theorem ct_169_35 : am_CT 169 35 = some (.bipush 0, 36, 0, 0, 0) := rfl
theorem ct_169_36 : am_CT 169 36 = some (.bipush 99, 38, 0, 0, 0) := rfl
theorem ct_169_38 : am_CT 169 38 = some (.invokevirtual 227, 41, 219, 3, 12) := rfl
theorem ct_169_41 : am_CT 169 41 = some (.ifCond .ne 6, 44, 47, 0, 0) := rfl
theorem ct_169_44 : am_CT 169 44 = some (.bipush (-2), 46, 0, 0, 0) := rfl
theorem ct_169_46 : am_CT 169 46 = some (.ireturn, 47, 0, 0, 0) := rfl
theorem ct_169_47 : am_CT 169 47 = some (.aload 0, 48, 0, 0, 0) := rfl
theorem ct_169_48 : am_CT 169 48 = some (.getfield 133, 51, 40, 12, 0) := rfl
theorem ct_169_51 : am_CT 169 51 = some (.bipush 6, 53, 0, 0, 0) := rfl
theorem ct_169_53 : am_CT 169 53 = some (.if_icmp .ne 6, 56, 59, 0, 0) := rfl
theorem ct_169_56 : am_CT 169 56 = some (.bipush (-4), 58, 0, 0, 0) := rfl
theorem ct_169_58 : am_CT 169 58 = some (.ireturn, 59, 0, 0, 0) := rfl
theorem ct_169_59 : am_CT 169 59 = some (.aload 0, 60, 0, 0, 0) := rfl
theorem ct_169_60 : am_CT 169 60 = some (.getfield 136, 63, 41, 12, 2) := rfl
theorem ct_169_63 : am_CT 169 63 = some (.aload 0, 64, 0, 0, 0) := rfl
theorem ct_169_64 : am_CT 169 64 = some (.getfield 133, 67, 40, 12, 0) := rfl
theorem ct_169_67 : am_CT 169 67 = some (.iload 1, 68, 0, 0, 0) := rfl
theorem ct_169_68 : am_CT 169 68 = some (.iastore, 69, 0, 0, 0) := rfl
theorem ct_169_69 : am_CT 169 69 = some (.aload 0, 70, 0, 0, 0) := rfl
theorem ct_169_70 : am_CT 169 70 = some (.getfield 139, 73, 42, 12, 2) := rfl
theorem ct_169_73 : am_CT 169 73 = some (.aload 0, 74, 0, 0, 0) := rfl
theorem ct_169_74 : am_CT 169 74 = some (.getfield 133, 77, 40, 12, 0) := rfl
theorem ct_169_77 : am_CT 169 77 = some (.iload 2, 78, 0, 0, 0) := rfl
theorem ct_169_78 : am_CT 169 78 = some (.iastore, 79, 0, 0, 0) := rfl
theorem ct_169_79 : am_CT 169 79 = some (.aload 0, 80, 0, 0, 0) := rfl
theorem ct_169_80 : am_CT 169 80 = some (.getfield 142, 83, 43, 12, 2) := rfl
theorem ct_169_83 : am_CT 169 83 = some (.aload 0, 84, 0, 0, 0) := rfl
theorem ct_169_84 : am_CT 169 84 = some (.getfield 133, 87, 40, 12, 0) := rfl
theorem ct_169_87 : am_CT 169 87 = some (.iload 3, 88, 0, 0, 0) := rfl
theorem ct_169_88 : am_CT 169 88 = some (.iastore, 89, 0, 0, 0) := rfl
theorem ct_169_89 : am_CT 169 89 = some (.aload 0, 90, 0, 0, 0) := rfl
theorem ct_169_90 : am_CT 169 90 = some (.dup, 91, 0, 0, 0) := rfl
theorem ct_169_91 : am_CT 169 91 = some (.getfield 133, 94, 40, 12, 0) := rfl
theorem ct_169_94 : am_CT 169 94 = some (.bipush 1, 95, 0, 0, 0) := rfl
theorem ct_169_95 : am_CT 169 95 = some (.iadd, 96, 0, 0, 0) := rfl
theorem ct_169_96 : am_CT 169 96 = some (.putfield 133, 99, 40, 12, 0) := rfl
theorem ct_169_99 : am_CT 169 99 = some (.aload 0, 100, 0, 0, 0) := rfl
theorem ct_169_100 : am_CT 169 100 = some (.getfield 133, 103, 40, 12, 0) := rfl
theorem ct_169_103 : am_CT 169 103 = some (.ireturn, 104, 0, 0, 0) := rfl
theorem ct_170_0 : am_CT 170 0 = some (.aload 0, 1, 0, 0, 0) := rfl
theorem ct_170_1 : am_CT 170 1 = some (.aload 0, 2, 0, 0, 0) := rfl
theorem ct_170_2 : am_CT 170 2 = some (.getfield 136, 5, 41, 12, 2) := rfl
theorem ct_170_5 : am_CT 170 5 = some (.iload 1, 6, 0, 0, 0) := rfl
theorem ct_170_6 : am_CT 170 6 = some (.iaload, 7, 0, 0, 0) := rfl
theorem ct_170_7 : am_CT 170 7 = some (.aload 0, 8, 0, 0, 0) := rfl
theorem ct_170_8 : am_CT 170 8 = some (.getfield 13, 11, 1, 12, 0) := rfl
theorem ct_170_11 : am_CT 170 11 = some (.aload 0, 12, 0, 0, 0) := rfl
theorem ct_170_12 : am_CT 170 12 = some (.getfield 139, 15, 42, 12, 2) := rfl
theorem ct_170_15 : am_CT 170 15 = some (.iload 1, 16, 0, 0, 0) := rfl
theorem ct_170_16 : am_CT 170 16 = some (.iaload, 17, 0, 0, 0) := rfl
theorem ct_170_17 : am_CT 170 17 = some (.iadd, 18, 0, 0, 0) := rfl
theorem ct_170_18 : am_CT 170 18 = some (.invokevirtual 323, 21, 257, 2, 12) := rfl
theorem ct_170_21 : am_CT 170 21 = some (.aload 0, 22, 0, 0, 0) := rfl
theorem ct_170_22 : am_CT 170 22 = some (.getfield 102, 25, 30, 12, 0) := rfl
theorem ct_170_25 : am_CT 170 25 = some (.aload 0, 26, 0, 0, 0) := rfl
theorem ct_170_26 : am_CT 170 26 = some (.getfield 142, 29, 43, 12, 2) := rfl
theorem ct_170_29 : am_CT 170 29 = some (.iload 1, 30, 0, 0, 0) := rfl
theorem ct_170_30 : am_CT 170 30 = some (.iaload, 31, 0, 0, 0) := rfl
theorem ct_170_31 : am_CT 170 31 = some (.if_icmp .ne 7, 34, 38, 0, 0) := rfl
theorem ct_170_34 : am_CT 170 34 = some (.bipush 1, 35, 0, 0, 0) := rfl
theorem ct_170_35 : am_CT 170 35 = some (.goto 4, 38, 39, 0, 0) := rfl
theorem ct_170_38 : am_CT 170 38 = some (.bipush 0, 39, 0, 0, 0) := rfl
theorem ct_170_39 : am_CT 170 39 = some (.ireturn, 40, 1, 0, 0) := rfl
theorem ct_171_0 : am_CT 171 0 = some (.aload 0, 1, 0, 0, 0) := rfl
theorem ct_171_1 : am_CT 171 1 = some (.getfield 35, 4, 8, 12, 2) := rfl
theorem ct_171_4 : am_CT 171 4 = some (.bipush 0, 5, 0, 0, 0) := rfl
theorem ct_171_5 : am_CT 171 5 = some (.iaload, 6, 0, 0, 0) := rfl
theorem ct_171_6 : am_CT 171 6 = some (.istore 1, 7, 0, 0, 0) := rfl
theorem ct_171_7 : am_CT 171 7 = some (.bipush 0, 8, 0, 0, 0) := rfl
theorem ct_171_8 : am_CT 171 8 = some (.istore 2, 9, 0, 0, 0) := rfl
theorem ct_171_9 : am_CT 171 9 = some (.bipush 0, 10, 0, 0, 0) := rfl
theorem ct_171_10 : am_CT 171 10 = some (.istore 3, 11, 0, 0, 0) := rfl
theorem ct_171_11 : am_CT 171 11 = some (.iload 3, 12, 0, 0, 0) := rfl
theorem ct_171_12 : am_CT 171 12 = some (.bipush 10, 14, 0, 0, 0) := rfl
theorem ct_171_14 : am_CT 171 14 = some (.if_icmp .ge 65, 17, 79, 0, 0) := rfl
theorem ct_171_17 : am_CT 171 17 = some (.aload 0, 18, 0, 0, 0) := rfl
theorem ct_171_18 : am_CT 171 18 = some (.getfield 35, 21, 8, 12, 2) := rfl
theorem ct_171_21 : am_CT 171 21 = some (.bipush 0, 22, 0, 0, 0) := rfl
theorem ct_171_22 : am_CT 171 22 = some (.iload 3, 23, 0, 0, 0) := rfl
theorem ct_171_23 : am_CT 171 23 = some (.iastore, 24, 0, 0, 0) := rfl
theorem ct_171_24 : am_CT 171 24 = some (.bipush 1, 25, 0, 0, 0) := rfl
theorem ct_171_25 : am_CT 171 25 = some (.istore 4, 27, 0, 0, 0) := rfl
theorem ct_171_27 : am_CT 171 27 = some (.bipush 0, 28, 0, 0, 0) := rfl
theorem ct_171_28 : am_CT 171 28 = some (.istore 5, 30, 0, 0, 0) := rfl
theorem ct_171_30 : am_CT 171 30 = some (.iload 5, 32, 0, 0, 0) := rfl
theorem ct_171_32 : am_CT 171 32 = some (.aload 0, 33, 0, 0, 0) := rfl
theorem ct_171_33 : am_CT 171 33 = some (.getfield 133, 36, 40, 12, 0) := rfl
theorem ct_171_36 : am_CT 171 36 = some (.if_icmp .ge 22, 39, 58, 0, 0) := rfl
theorem ct_171_39 : am_CT 171 39 = some (.iload 4, 41, 0, 0, 0) := rfl
theorem ct_171_41 : am_CT 171 41 = some (.ifCond .eq 17, 44, 58, 0, 0) := rfl
theorem ct_171_44 : am_CT 171 44 = some (.aload 0, 45, 0, 0, 0) := rfl
theorem ct_171_45 : am_CT 171 45 = some (.iload 5, 47, 0, 0, 0) := rfl
theorem ct_171_47 : am_CT 171 47 = some (.invokevirtual 337, 50, 270, 1, 12) := rfl
theorem ct_171_50 : am_CT 171 50 = some (.istore 4, 52, 0, 0, 0) := rfl
theorem ct_171_52 : am_CT 171 52 = some (.iinc 5 1, 55, 0, 0, 0) := rfl
theorem ct_171_55 : am_CT 171 55 = some (.goto (-25), 58, 30, 0, 0) := rfl
theorem ct_171_58 : am_CT 171 58 = some (.iload 2, 59, 0, 0, 0) := rfl
theorem ct_171_59 : am_CT 171 59 = some (.iload 4, 61, 0, 0, 0) := rfl
theorem ct_171_61 : am_CT 171 61 = some (.ifCond .eq 9, 64, 70, 0, 0) := rfl
theorem ct_171_64 : am_CT 171 64 = some (.bipush 1, 65, 0, 0, 0) := rfl
theorem ct_171_65 : am_CT 171 65 = some (.iload 3, 66, 0, 0, 0) := rfl
theorem ct_171_66 : am_CT 171 66 = some (.ishl, 67, 0, 0, 0) := rfl
theorem ct_171_67 : am_CT 171 67 = some (.goto 4, 70, 71, 0, 0) := rfl
theorem ct_171_70 : am_CT 171 70 = some (.bipush 0, 71, 0, 0, 0) := rfl
theorem ct_171_71 : am_CT 171 71 = some (.ior, 72, 0, 0, 0) := rfl
theorem ct_171_72 : am_CT 171 72 = some (.istore 2, 73, 0, 0, 0) := rfl
theorem ct_171_73 : am_CT 171 73 = some (.iinc 3 1, 76, 0, 0, 0) := rfl
theorem ct_171_76 : am_CT 171 76 = some (.goto (-65), 79, 11, 0, 0) := rfl
theorem ct_171_79 : am_CT 171 79 = some (.aload 0, 80, 0, 0, 0) := rfl
theorem ct_171_80 : am_CT 171 80 = some (.getfield 35, 83, 8, 12, 2) := rfl
theorem ct_171_83 : am_CT 171 83 = some (.bipush 0, 84, 0, 0, 0) := rfl
theorem ct_171_84 : am_CT 171 84 = some (.iload 1, 85, 0, 0, 0) := rfl
theorem ct_171_85 : am_CT 171 85 = some (.iastore, 86, 0, 0, 0) := rfl
theorem ct_171_86 : am_CT 171 86 = some (.iload 2, 87, 0, 0, 0) := rfl
theorem ct_171_87 : am_CT 171 87 = some (.ireturn, 88, 0, 0, 0) := rfl
theorem ct_172_0 : am_CT 172 0 = some (.aload 0, 1, 0, 0, 0) := rfl
theorem ct_172_1 : am_CT 172 1 = some (.iload 1, 2, 0, 0, 0) := rfl
theorem ct_172_2 : am_CT 172 2 = some (.invokevirtual 231, 5, 220, 1, 12) := rfl
theorem ct_172_5 : am_CT 172 5 = some (.ifCond .ne 7, 8, 12, 0, 0) := rfl
theorem ct_172_8 : am_CT 172 8 = some (.bipush (-1000001), 11, 340, 2, 0) := rfl
theorem ct_172_11 : am_CT 172 11 = some (.ireturn, 12, 0, 0, 0) := rfl
theorem ct_172_12 : am_CT 172 12 = some (.aload 0, 13, 0, 0, 0) := rfl
theorem ct_172_13 : am_CT 172 13 = some (.bipush 1, 14, 0, 0, 0) := rfl
theorem ct_172_14 : am_CT 172 14 = some (.putfield 118, 17, 35, 12, 1) := rfl
theorem ct_172_17 : am_CT 172 17 = some (.aload 0, 18, 0, 0, 0) := rfl
theorem ct_172_18 : am_CT 172 18 = some (.iload 1, 19, 0, 0, 0) := rfl
theorem ct_172_19 : am_CT 172 19 = some (.aload 0, 20, 0, 0, 0) := rfl
theorem ct_172_20 : am_CT 172 20 = some (.getfield 13, 23, 1, 12, 0) := rfl
theorem ct_172_23 : am_CT 172 23 = some (.invokevirtual 331, 26, 260, 2, 12) := rfl
theorem ct_172_26 : am_CT 172 26 = some (.istore 2, 27, 0, 0, 0) := rfl
theorem ct_172_27 : am_CT 172 27 = some (.aload 0, 28, 0, 0, 0) := rfl
theorem ct_172_28 : am_CT 172 28 = some (.bipush 0, 29, 0, 0, 0) := rfl
theorem ct_172_29 : am_CT 172 29 = some (.putfield 118, 32, 35, 12, 1) := rfl
theorem ct_172_32 : am_CT 172 32 = some (.iload 2, 33, 0, 0, 0) := rfl
theorem ct_172_33 : am_CT 172 33 = some (.aload 0, 34, 0, 0, 0) := rfl
theorem ct_172_34 : am_CT 172 34 = some (.iload 1, 35, 0, 0, 0) := rfl
theorem ct_172_35 : am_CT 172 35 = some (.aload 0, 36, 0, 0, 0) := rfl
theorem ct_172_36 : am_CT 172 36 = some (.getfield 13, 39, 1, 12, 0) := rfl
theorem ct_172_39 : am_CT 172 39 = some (.invokevirtual 331, 42, 260, 2, 12) := rfl
theorem ct_172_42 : am_CT 172 42 = some (.isub, 43, 0, 0, 0) := rfl
theorem ct_172_43 : am_CT 172 43 = some (.ireturn, 44, 0, 0, 0) := rfl
theorem ct_173_0 : am_CT 173 0 = some (.lload 1, 1, 0, 0, 0) := rfl
theorem ct_173_1 : am_CT 173 1 = some (.lstore 5, 3, 0, 0, 0) := rfl
theorem ct_173_3 : am_CT 173 3 = some (.lload 3, 4, 0, 0, 0) := rfl
theorem ct_173_4 : am_CT 173 4 = some (.lstore 7, 6, 0, 0, 0) := rfl
theorem ct_173_6 : am_CT 173 6 = some (.lload 7, 8, 0, 0, 0) := rfl
theorem ct_173_8 : am_CT 173 8 = some (.sipush 0, 9, 0, 0, 0) := rfl
theorem ct_173_9 : am_CT 173 9 = some (.lcmp, 10, 0, 0, 0) := rfl
theorem ct_173_10 : am_CT 173 10 = some (.ifCond .eq 21, 13, 31, 0, 0) := rfl
theorem ct_173_13 : am_CT 173 13 = some (.lload 5, 15, 0, 0, 0) := rfl
theorem ct_173_15 : am_CT 173 15 = some (.lload 7, 17, 0, 0, 0) := rfl
theorem ct_173_17 : am_CT 173 17 = some (.lrem, 18, 0, 0, 0) := rfl
theorem ct_173_18 : am_CT 173 18 = some (.lstore 9, 20, 0, 0, 0) := rfl
theorem ct_173_20 : am_CT 173 20 = some (.lload 7, 22, 0, 0, 0) := rfl
theorem ct_173_22 : am_CT 173 22 = some (.lstore 5, 24, 0, 0, 0) := rfl
theorem ct_173_24 : am_CT 173 24 = some (.lload 9, 26, 0, 0, 0) := rfl
theorem ct_173_26 : am_CT 173 26 = some (.lstore 7, 28, 0, 0, 0) := rfl
theorem ct_173_28 : am_CT 173 28 = some (.goto (-22), 31, 6, 0, 0) := rfl
theorem ct_173_31 : am_CT 173 31 = some (.lload 5, 33, 0, 0, 0) := rfl
theorem ct_173_33 : am_CT 173 33 = some (.lreturn, 34, 0, 0, 0) := rfl
theorem ct_174_0 : am_CT 174 0 = some (.aload 0, 1, 0, 0, 0) := rfl
theorem ct_174_1 : am_CT 174 1 = some (.lload 1, 2, 0, 0, 0) := rfl
theorem ct_174_2 : am_CT 174 2 = some (.lload 3, 3, 0, 0, 0) := rfl
theorem ct_174_3 : am_CT 174 3 = some (.invokevirtual 341, 6, 273, 2, 12) := rfl
theorem ct_174_6 : am_CT 174 6 = some (.lstore 6, 8, 0, 0, 0) := rfl
theorem ct_174_8 : am_CT 174 8 = some (.iload 5, 10, 0, 0, 0) := rfl
theorem ct_174_10 : am_CT 174 10 = some (.ifCond .ne 10, 13, 20, 0, 0) := rfl
theorem ct_174_13 : am_CT 174 13 = some (.lload 1, 14, 0, 0, 0) := rfl
theorem ct_174_14 : am_CT 174 14 = some (.lload 6, 16, 0, 0, 0) := rfl
theorem ct_174_16 : am_CT 174 16 = some (.ldiv, 17, 0, 0, 0) := rfl
theorem ct_174_17 : am_CT 174 17 = some (.goto 7, 20, 24, 0, 0) := rfl
theorem ct_174_20 : am_CT 174 20 = some (.lload 3, 21, 0, 0, 0) := rfl
theorem ct_174_21 : am_CT 174 21 = some (.lload 6, 23, 0, 0, 0) := rfl
theorem ct_174_23 : am_CT 174 23 = some (.ldiv, 24, 0, 0, 0) := rfl
theorem ct_174_24 : am_CT 174 24 = some (.lreturn, 25, 0, 0, 0) := rfl
theorem ct_175_0 : am_CT 175 0 = some (.aload 0, 1, 0, 0, 0) := rfl
theorem ct_175_1 : am_CT 175 1 = some (.iload 1, 2, 0, 0, 0) := rfl
theorem ct_175_2 : am_CT 175 2 = some (.invokevirtual 231, 5, 220, 1, 12) := rfl
theorem ct_175_5 : am_CT 175 5 = some (.ifCond .eq 13, 8, 18, 0, 0) := rfl
theorem ct_175_8 : am_CT 175 8 = some (.aload 0, 9, 0, 0, 0) := rfl
theorem ct_175_9 : am_CT 175 9 = some (.iload 2, 10, 0, 0, 0) := rfl
theorem ct_175_10 : am_CT 175 10 = some (.bipush 0, 11, 0, 0, 0) := rfl
theorem ct_175_11 : am_CT 175 11 = some (.bipush 1, 12, 0, 0, 0) := rfl
theorem ct_175_12 : am_CT 175 12 = some (.invokevirtual 227, 15, 219, 3, 12) := rfl
theorem ct_175_15 : am_CT 175 15 = some (.ifCond .ne 7, 18, 22, 0, 0) := rfl
theorem ct_175_18 : am_CT 175 18 = some (.sipush (-9223372036854775808), 21, 345, 1, 0) := rfl
theorem ct_175_21 : am_CT 175 21 = some (.lreturn, 22, 0, 0, 0) := rfl
theorem ct_175_22 : am_CT 175 22 = some (.bipush 0, 23, 0, 0, 0) := rfl
theorem ct_175_23 : am_CT 175 23 = some (.istore 3, 24, 0, 0, 0) := rfl
theorem ct_175_24 : am_CT 175 24 = some (.bipush 0, 25, 0, 0, 0) := rfl
theorem ct_175_25 : am_CT 175 25 = some (.istore 4, 27, 0, 0, 0) := rfl
theorem ct_175_27 : am_CT 175 27 = some (.iload 4, 29, 0, 0, 0) := rfl
theorem ct_175_29 : am_CT 175 29 = some (.bipush 10, 31, 0, 0, 0) := rfl
theorem ct_175_31 : am_CT 175 31 = some (.if_icmp .ge 39, 34, 70, 0, 0) := rfl
theorem ct_175_34 : am_CT 175 34 = some (.aload 0, 35, 0, 0, 0) := rfl
theorem ct_175_35 : am_CT 175 35 = some (.iload 4, 37, 0, 0, 0) := rfl
theorem ct_175_37 : am_CT 175 37 = some (.putfield 121, 40, 36, 12, 0) := rfl
theorem ct_175_40 : am_CT 175 40 = some (.aload 0, 41, 0, 0, 0) := rfl
theorem ct_175_41 : am_CT 175 41 = some (.iload 1, 42, 0, 0, 0) := rfl
theorem ct_175_42 : am_CT 175 42 = some (.aload 0, 43, 0, 0, 0) := rfl
theorem ct_175_43 : am_CT 175 43 = some (.getfield 13, 46, 1, 12, 0) := rfl
theorem ct_175_46 : am_CT 175 46 = some (.invokevirtual 323, 49, 257, 2, 12) := rfl
theorem ct_175_49 : am_CT 175 49 = some (.iload 3, 50, 0, 0, 0) := rfl
theorem ct_175_50 : am_CT 175 50 = some (.aload 0, 51, 0, 0, 0) := rfl
theorem ct_175_51 : am_CT 175 51 = some (.getfield 114, 54, 34, 12, 1) := rfl
theorem ct_175_54 : am_CT 175 54 = some (.ifCond .eq 7, 57, 61, 0, 0) := rfl
theorem ct_175_57 : am_CT 175 57 = some (.bipush 1, 58, 0, 0, 0) := rfl
theorem ct_175_58 : am_CT 175 58 = some (.goto 4, 61, 62, 0, 0) := rfl
theorem ct_175_61 : am_CT 175 61 = some (.bipush 0, 62, 0, 0, 0) := rfl
theorem ct_175_62 : am_CT 175 62 = some (.iadd, 63, 0, 0, 0) := rfl
theorem ct_175_63 : am_CT 175 63 = some (.istore 3, 64, 0, 0, 0) := rfl
theorem ct_175_64 : am_CT 175 64 = some (.iinc 4 1, 67, 0, 0, 0) := rfl
theorem ct_175_67 : am_CT 175 67 = some (.goto (-40), 70, 27, 0, 0) := rfl
theorem ct_175_70 : am_CT 175 70 = some (.aload 0, 71, 0, 0, 0) := rfl
theorem ct_175_71 : am_CT 175 71 = some (.bipush 0, 72, 0, 0, 0) := rfl
theorem ct_175_72 : am_CT 175 72 = some (.putfield 121, 75, 36, 12, 0) := rfl
theorem ct_175_75 : am_CT 175 75 = some (.aload 0, 76, 0, 0, 0) := rfl
theorem ct_175_76 : am_CT 175 76 = some (.iload 3, 77, 0, 0, 0) := rfl
theorem ct_175_77 : am_CT 175 77 = some (.i2l, 78, 0, 0, 0) := rfl
theorem ct_175_78 : am_CT 175 78 = some (.sipush 10, 81, 347, 1, 0) := rfl
theorem ct_175_81 : am_CT 175 81 = some (.iload 2, 82, 0, 0, 0) := rfl
theorem ct_175_82 : am_CT 175 82 = some (.invokevirtual 349, 85, 274, 3, 12) := rfl
theorem ct_175_85 : am_CT 175 85 = some (.lreturn, 86, 0, 0, 0) := rfl
theorem ct_176_0 : am_CT 176 0 = some (.aload 0, 1, 0, 0, 0) := rfl
theorem ct_176_1 : am_CT 176 1 = some (.iload 1, 2, 0, 0, 0) := rfl
theorem ct_176_2 : am_CT 176 2 = some (.invokevirtual 231, 5, 220, 1, 12) := rfl
theorem ct_176_5 : am_CT 176 5 = some (.ifCond .eq 13, 8, 18, 0, 0) := rfl
theorem ct_176_8 : am_CT 176 8 = some (.aload 0, 9, 0, 0, 0) := rfl
theorem ct_176_9 : am_CT 176 9 = some (.iload 2, 10, 0, 0, 0) := rfl
theorem ct_176_10 : am_CT 176 10 = some (.bipush 0, 11, 0, 0, 0) := rfl
theorem ct_176_11 : am_CT 176 11 = some (.bipush 1, 12, 0, 0, 0) := rfl
theorem ct_176_12 : am_CT 176 12 = some (.invokevirtual 227, 15, 219, 3, 12) := rfl
theorem ct_176_15 : am_CT 176 15 = some (.ifCond .ne 7, 18, 22, 0, 0) := rfl
theorem ct_176_18 : am_CT 176 18 = some (.sipush (-9223372036854775808), 21, 345, 1, 0) := rfl
theorem ct_176_21 : am_CT 176 21 = some (.lreturn, 22, 0, 0, 0) := rfl
theorem ct_176_22 : am_CT 176 22 = some (.sipush 0, 23, 0, 0, 0) := rfl
theorem ct_176_23 : am_CT 176 23 = some (.lstore 3, 24, 0, 0, 0) := rfl
theorem ct_176_24 : am_CT 176 24 = some (.bipush 0, 25, 0, 0, 0) := rfl
theorem ct_176_25 : am_CT 176 25 = some (.istore 5, 27, 0, 0, 0) := rfl
theorem ct_176_27 : am_CT 176 27 = some (.iload 5, 29, 0, 0, 0) := rfl
theorem ct_176_29 : am_CT 176 29 = some (.bipush 12, 31, 0, 0, 0) := rfl
theorem ct_176_31 : am_CT 176 31 = some (.if_icmp .ge 25, 34, 56, 0, 0) := rfl
theorem ct_176_34 : am_CT 176 34 = some (.lload 3, 35, 0, 0, 0) := rfl
theorem ct_176_35 : am_CT 176 35 = some (.aload 0, 36, 0, 0, 0) := rfl
theorem ct_176_36 : am_CT 176 36 = some (.iload 1, 37, 0, 0, 0) := rfl
theorem ct_176_37 : am_CT 176 37 = some (.aload 0, 38, 0, 0, 0) := rfl
theorem ct_176_38 : am_CT 176 38 = some (.getfield 13, 41, 1, 12, 0) := rfl
theorem ct_176_41 : am_CT 176 41 = some (.iload 5, 43, 0, 0, 0) := rfl
theorem ct_176_43 : am_CT 176 43 = some (.iadd, 44, 0, 0, 0) := rfl
theorem ct_176_44 : am_CT 176 44 = some (.invokevirtual 331, 47, 260, 2, 12) := rfl
theorem ct_176_47 : am_CT 176 47 = some (.i2l, 48, 0, 0, 0) := rfl
theorem ct_176_48 : am_CT 176 48 = some (.ladd, 49, 0, 0, 0) := rfl
theorem ct_176_49 : am_CT 176 49 = some (.lstore 3, 50, 0, 0, 0) := rfl
theorem ct_176_50 : am_CT 176 50 = some (.iinc 5 1, 53, 0, 0, 0) := rfl
theorem ct_176_53 : am_CT 176 53 = some (.goto (-26), 56, 27, 0, 0) := rfl
theorem ct_176_56 : am_CT 176 56 = some (.aload 0, 57, 0, 0, 0) := rfl
theorem ct_176_57 : am_CT 176 57 = some (.lload 3, 58, 0, 0, 0) := rfl
theorem ct_176_58 : am_CT 176 58 = some (.sipush 12, 61, 353, 1, 0) := rfl
theorem ct_176_61 : am_CT 176 61 = some (.iload 2, 62, 0, 0, 0) := rfl
theorem ct_176_62 : am_CT 176 62 = some (.invokevirtual 349, 65, 274, 3, 12) := rfl
theorem ct_176_65 : am_CT 176 65 = some (.lreturn, 66, 0, 0, 0) := rfl
theorem ct_177_0 : am_CT 177 0 = some (.iload 1, 1, 0, 0, 0) := rfl
theorem ct_177_1 : am_CT 177 1 = some (.bipush (-1), 2, 0, 0, 0) := rfl
theorem ct_177_2 : am_CT 177 2 = some (.if_icmp .ne 10, 5, 12, 0, 0) := rfl
theorem ct_177_5 : am_CT 177 5 = some (.aload 0, 6, 0, 0, 0) := rfl
theorem ct_177_6 : am_CT 177 6 = some (.bipush 0, 7, 0, 0, 0) := rfl
theorem ct_177_7 : am_CT 177 7 = some (.putfield 145, 10, 44, 12, 0) := rfl
theorem ct_177_10 : am_CT 177 10 = some (.bipush 0, 11, 0, 0, 0) := rfl
theorem ct_177_11 : am_CT 177 11 = some (.ireturn, 12, 0, 0, 0) := rfl
theorem ct_177_12 : am_CT 177 12 = some (.aload 0, 13, 0, 0, 0) := rfl
theorem ct_177_13 : am_CT 177 13 = some (.iload 1, 14, 0, 0, 0) := rfl
theorem ct_177_14 : am_CT 177 14 = some (.invokevirtual 231, 17, 220, 1, 12) := rfl
theorem ct_177_17 : am_CT 177 17 = some (.ifCond .ne 5, 20, 22, 0, 0) := rfl
theorem ct_177_20 : am_CT 177 20 = some (.bipush (-1), 21, 0, 0, 0) := rfl
theorem ct_177_21 : am_CT 177 21 = some (.ireturn, 22, 0, 0, 0) := rfl
theorem ct_177_22 : am_CT 177 22 = some (.aload 0, 23, 0, 0, 0) := rfl
theorem ct_177_23 : am_CT 177 23 = some (.getfield 145, 26, 44, 12, 0) := rfl
theorem ct_177_26 : am_CT 177 26 = some (.bipush 12, 28, 0, 0, 0) := rfl
theorem ct_177_28 : am_CT 177 28 = some (.if_icmp .ne 6, 31, 34, 0, 0) := rfl
theorem ct_177_31 : am_CT 177 31 = some (.bipush (-4), 33, 0, 0, 0) := rfl
theorem ct_177_33 : am_CT 177 33 = some (.ireturn, 34, 0, 0, 0) := rfl
theorem ct_177_34 : am_CT 177 34 = some (.aload 0, 35, 0, 0, 0) := rfl
theorem ct_177_35 : am_CT 177 35 = some (.getfield 148, 38, 45, 12, 2) := rfl
theorem ct_177_38 : am_CT 177 38 = some (.aload 0, 39, 0, 0, 0) := rfl
theorem ct_177_39 : am_CT 177 39 = some (.getfield 145, 42, 44, 12, 0) := rfl
theorem ct_177_42 : am_CT 177 42 = some (.iload 1, 43, 0, 0, 0) := rfl
theorem ct_177_43 : am_CT 177 43 = some (.iastore, 44, 0, 0, 0) := rfl
theorem ct_177_44 : am_CT 177 44 = some (.aload 0, 45, 0, 0, 0) := rfl
theorem ct_177_45 : am_CT 177 45 = some (.getfield 151, 48, 46, 12, 2) := rfl
theorem ct_177_48 : am_CT 177 48 = some (.aload 0, 49, 0, 0, 0) := rfl
theorem ct_177_49 : am_CT 177 49 = some (.getfield 145, 52, 44, 12, 0) := rfl
theorem ct_177_52 : am_CT 177 52 = some (.iload 2, 53, 0, 0, 0) := rfl
theorem ct_177_53 : am_CT 177 53 = some (.bastore, 54, 0, 0, 0) := rfl
theorem ct_177_54 : am_CT 177 54 = some (.aload 0, 55, 0, 0, 0) := rfl
theorem ct_177_55 : am_CT 177 55 = some (.dup, 56, 0, 0, 0) := rfl
theorem ct_177_56 : am_CT 177 56 = some (.getfield 145, 59, 44, 12, 0) := rfl
theorem ct_177_59 : am_CT 177 59 = some (.bipush 1, 60, 0, 0, 0) := rfl
theorem ct_177_60 : am_CT 177 60 = some (.iadd, 61, 0, 0, 0) := rfl
theorem ct_177_61 : am_CT 177 61 = some (.putfield 145, 64, 44, 12, 0) := rfl
theorem ct_177_64 : am_CT 177 64 = some (.aload 0, 65, 0, 0, 0) := rfl
theorem ct_177_65 : am_CT 177 65 = some (.getfield 145, 68, 44, 12, 0) := rfl
theorem ct_177_68 : am_CT 177 68 = some (.ireturn, 69, 0, 0, 0) := rfl
theorem ct_178_0 : am_CT 178 0 = some (.aload 0, 1, 0, 0, 0) := rfl
theorem ct_178_1 : am_CT 178 1 = some (.getfield 13, 4, 1, 12, 0) := rfl
theorem ct_178_4 : am_CT 178 4 = some (.istore 1, 5, 0, 0, 0) := rfl
theorem ct_178_5 : am_CT 178 5 = some (.bipush 0, 6, 0, 0, 0) := rfl
theorem ct_178_6 : am_CT 178 6 = some (.istore 2, 7, 0, 0, 0) := rfl
theorem ct_178_7 : am_CT 178 7 = some (.iload 2, 8, 0, 0, 0) := rfl
theorem ct_178_8 : am_CT 178 8 = some (.aload 0, 9, 0, 0, 0) := rfl
theorem ct_178_9 : am_CT 178 9 = some (.getfield 145, 12, 44, 12, 0) := rfl
theorem ct_178_12 : am_CT 178 12 = some (.if_icmp .ge 54, 15, 66, 0, 0) := rfl
theorem ct_178_15 : am_CT 178 15 = some (.iload 2, 16, 0, 0, 0) := rfl
theorem ct_178_16 : am_CT 178 16 = some (.aload 0, 17, 0, 0, 0) := rfl
theorem ct_178_17 : am_CT 178 17 = some (.getfield 35, 20, 8, 12, 2) := rfl
theorem ct_178_20 : am_CT 178 20 = some (.bipush 3, 21, 0, 0, 0) := rfl
theorem ct_178_21 : am_CT 178 21 = some (.iaload, 22, 0, 0, 0) := rfl
theorem ct_178_22 : am_CT 178 22 = some (.if_icmp .lt 5, 25, 27, 0, 0) := rfl
theorem ct_178_25 : am_CT 178 25 = some (.iload 2, 26, 0, 0, 0) := rfl
theorem ct_178_26 : am_CT 178 26 = some (.ireturn, 27, 0, 0, 0) := rfl
theorem ct_178_27 : am_CT 178 27 = some (.aload 0, 28, 0, 0, 0) := rfl
theorem ct_178_28 : am_CT 178 28 = some (.aload 0, 29, 0, 0, 0) := rfl
theorem ct_178_29 : am_CT 178 29 = some (.getfield 148, 32, 45, 12, 2) := rfl
theorem ct_178_32 : am_CT 178 32 = some (.iload 2, 33, 0, 0, 0) := rfl
theorem ct_178_33 : am_CT 178 33 = some (.iaload, 34, 0, 0, 0) := rfl
theorem ct_178_34 : am_CT 178 34 = some (.iload 1, 35, 0, 0, 0) := rfl
theorem ct_178_35 : am_CT 178 35 = some (.invokevirtual 323, 38, 257, 2, 12) := rfl
theorem ct_178_38 : am_CT 178 38 = some (.aload 0, 39, 0, 0, 0) := rfl
theorem ct_178_39 : am_CT 178 39 = some (.getfield 114, 42, 34, 12, 1) := rfl
theorem ct_178_42 : am_CT 178 42 = some (.aload 0, 43, 0, 0, 0) := rfl
theorem ct_178_43 : am_CT 178 43 = some (.getfield 151, 46, 46, 12, 2) := rfl
theorem ct_178_46 : am_CT 178 46 = some (.iload 2, 47, 0, 0, 0) := rfl
theorem ct_178_47 : am_CT 178 47 = some (.baload, 48, 0, 0, 0) := rfl
theorem ct_178_48 : am_CT 178 48 = some (.if_icmp .eq 5, 51, 53, 0, 0) := rfl
theorem ct_178_51 : am_CT 178 51 = some (.iload 2, 52, 0, 0, 0) := rfl
theorem ct_178_52 : am_CT 178 52 = some (.ireturn, 53, 0, 0, 0) := rfl
theorem ct_178_53 : am_CT 178 53 = some (.iload 1, 54, 0, 0, 0) := rfl
theorem ct_178_54 : am_CT 178 54 = some (.aload 0, 55, 0, 0, 0) := rfl
theorem ct_178_55 : am_CT 178 55 = some (.getfield 111, 58, 33, 12, 0) := rfl
theorem ct_178_58 : am_CT 178 58 = some (.iadd, 59, 0, 0, 0) := rfl
theorem ct_178_59 : am_CT 178 59 = some (.istore 1, 60, 0, 0, 0) := rfl
theorem ct_178_60 : am_CT 178 60 = some (.iinc 2 1, 63, 0, 0, 0) := rfl
theorem ct_178_63 : am_CT 178 63 = some (.goto (-56), 66, 7, 0, 0) := rfl
theorem ct_178_66 : am_CT 178 66 = some (.bipush (-5), 68, 0, 0, 0) := rfl
theorem ct_178_68 : am_CT 178 68 = some (.ireturn, 69, 0, 0, 0) := rfl
theorem ct_179_0 : am_CT 179 0 = some (.aload 0, 1, 0, 0, 0) := rfl
theorem ct_179_1 : am_CT 179 1 = some (.iload 1, 2, 0, 0, 0) := rfl
theorem ct_179_2 : am_CT 179 2 = some (.invokevirtual 355, 5, 294, 1, 12) := rfl
theorem ct_179_5 : am_CT 179 5 = some (.ifCond .ne 5, 8, 10, 0, 0) := rfl
theorem ct_179_8 : am_CT 179 8 = some (.bipush (-1), 9, 0, 0, 0) := rfl
theorem ct_179_9 : am_CT 179 9 = some (.ireturn, 10, 0, 0, 0) := rfl
theorem ct_179_10 : am_CT 179 10 = some (.aload 0, 11, 0, 0, 0) := rfl
theorem ct_179_11 : am_CT 179 11 = some (.getfield 214, 14, 67, 12, 2) := rfl
theorem ct_179_14 : am_CT 179 14 = some (.iload 1, 15, 0, 0, 0) := rfl
theorem ct_179_15 : am_CT 179 15 = some (.iaload, 16, 0, 0, 0) := rfl
theorem ct_179_16 : am_CT 179 16 = some (.ifCond .lt 16, 19, 32, 0, 0) := rfl
theorem ct_179_19 : am_CT 179 19 = some (.aload 0, 20, 0, 0, 0) := rfl
theorem ct_179_20 : am_CT 179 20 = some (.getfield 214, 23, 67, 12, 2) := rfl
theorem ct_179_23 : am_CT 179 23 = some (.iload 1, 24, 0, 0, 0) := rfl
theorem ct_179_24 : am_CT 179 24 = some (.iaload, 25, 0, 0, 0) := rfl
theorem ct_179_25 : am_CT 179 25 = some (.bipush 3, 26, 0, 0, 0) := rfl
theorem ct_179_26 : am_CT 179 26 = some (.if_icmp .eq 6, 29, 32, 0, 0) := rfl
theorem ct_179_29 : am_CT 179 29 = some (.bipush (-12), 31, 0, 0, 0) := rfl
theorem ct_179_31 : am_CT 179 31 = some (.ireturn, 32, 0, 0, 0) := rfl
theorem ct_179_32 : am_CT 179 32 = some (.bipush 0, 33, 0, 0, 0) := rfl
theorem ct_179_33 : am_CT 179 33 = some (.istore 3, 34, 0, 0, 0) := rfl
theorem ct_179_34 : am_CT 179 34 = some (.iload 3, 35, 0, 0, 0) := rfl
theorem ct_179_35 : am_CT 179 35 = some (.aload 0, 36, 0, 0, 0) := rfl
theorem ct_179_36 : am_CT 179 36 = some (.getfield 7, 39, 0, 12, 0) := rfl
theorem ct_179_39 : am_CT 179 39 = some (.if_icmp .ge 67, 42, 106, 0, 0) := rfl
theorem ct_179_42 : am_CT 179 42 = some (.aload 0, 43, 0, 0, 0) := rfl
theorem ct_179_43 : am_CT 179 43 = some (.getfield 214, 46, 67, 12, 2) := rfl
theorem ct_179_46 : am_CT 179 46 = some (.iload 1, 47, 0, 0, 0) := rfl
theorem ct_179_47 : am_CT 179 47 = some (.iaload, 48, 0, 0, 0) := rfl
theorem ct_179_48 : am_CT 179 48 = some (.ifCond .lt 21, 51, 69, 0, 0) := rfl
theorem ct_179_51 : am_CT 179 51 = some (.iload 2, 52, 0, 0, 0) := rfl
theorem ct_179_52 : am_CT 179 52 = some (.ifCond .lt 17, 55, 69, 0, 0) := rfl
theorem ct_179_55 : am_CT 179 55 = some (.iload 2, 56, 0, 0, 0) := rfl
theorem ct_179_56 : am_CT 179 56 = some (.aload 0, 57, 0, 0, 0) := rfl
theorem ct_179_57 : am_CT 179 57 = some (.getfield 217, 60, 68, 12, 2) := rfl
theorem ct_179_60 : am_CT 179 60 = some (.iload 1, 61, 0, 0, 0) := rfl
theorem ct_179_61 : am_CT 179 61 = some (.iaload, 62, 0, 0, 0) := rfl
theorem ct_179_62 : am_CT 179 62 = some (.iload 3, 63, 0, 0, 0) := rfl
theorem ct_179_63 : am_CT 179 63 = some (.isub, 64, 0, 0, 0) := rfl
theorem ct_179_64 : am_CT 179 64 = some (.bipush 1, 65, 0, 0, 0) := rfl
theorem ct_179_65 : am_CT 179 65 = some (.isub, 66, 0, 0, 0) := rfl
theorem ct_179_66 : am_CT 179 66 = some (.if_icmp .le 8, 69, 74, 0, 0) := rfl
theorem ct_179_69 : am_CT 179 69 = some (.bipush 100, 71, 0, 0, 0) := rfl
theorem ct_179_71 : am_CT 179 71 = some (.iload 3, 72, 0, 0, 0) := rfl
theorem ct_179_72 : am_CT 179 72 = some (.iadd, 73, 0, 0, 0) := rfl
theorem ct_179_73 : am_CT 179 73 = some (.ireturn, 74, 0, 0, 0) := rfl
theorem ct_179_74 : am_CT 179 74 = some (.aload 0, 75, 0, 0, 0) := rfl
theorem ct_179_75 : am_CT 179 75 = some (.getfield 220, 78, 69, 12, 2) := rfl
theorem ct_179_78 : am_CT 179 78 = some (.bipush 60, 80, 0, 0, 0) := rfl
theorem ct_179_80 : am_CT 179 80 = some (.iload 1, 81, 0, 0, 0) := rfl
theorem ct_179_81 : am_CT 179 81 = some (.imul, 82, 0, 0, 0) := rfl
theorem ct_179_82 : am_CT 179 82 = some (.iload 2, 83, 0, 0, 0) := rfl
theorem ct_179_83 : am_CT 179 83 = some (.iadd, 84, 0, 0, 0) := rfl
theorem ct_179_84 : am_CT 179 84 = some (.iload 3, 85, 0, 0, 0) := rfl
theorem ct_179_85 : am_CT 179 85 = some (.iadd, 86, 0, 0, 0) := rfl
theorem ct_179_86 : am_CT 179 86 = some (.laload, 87, 0, 0, 0) := rfl
theorem ct_179_87 : am_CT 179 87 = some (.aload 0, 88, 0, 0, 0) := rfl
theorem ct_179_88 : am_CT 179 88 = some (.getfield 29, 91, 6, 12, 2) := rfl
theorem ct_179_91 : am_CT 179 91 = some (.iload 3, 92, 0, 0, 0) := rfl
theorem ct_179_92 : am_CT 179 92 = some (.iaload, 93, 0, 0, 0) := rfl
theorem ct_179_93 : am_CT 179 93 = some (.i2l, 94, 0, 0, 0) := rfl
theorem ct_179_94 : am_CT 179 94 = some (.lcmp, 95, 0, 0, 0) := rfl
theorem ct_179_95 : am_CT 179 95 = some (.ifCond .eq 5, 98, 100, 0, 0) := rfl
theorem ct_179_98 : am_CT 179 98 = some (.iload 3, 99, 0, 0, 0) := rfl
theorem ct_179_99 : am_CT 179 99 = some (.ireturn, 100, 0, 0, 0) := rfl
theorem ct_179_100 : am_CT 179 100 = some (.iinc 3 1, 103, 0, 0, 0) := rfl
theorem ct_179_103 : am_CT 179 103 = some (.goto (-69), 106, 34, 0, 0) := rfl
theorem ct_179_106 : am_CT 179 106 = some (.bipush (-5), 108, 0, 0, 0) := rfl
theorem ct_179_108 : am_CT 179 108 = some (.ireturn, 109, 0, 0, 0) := rfl
theorem ct_180_0 : am_CT 180 0 = some (.aload 0, 1, 0, 0, 0) := rfl
theorem ct_180_1 : am_CT 180 1 = some (.bipush 1, 2, 0, 0, 0) := rfl
theorem ct_180_2 : am_CT 180 2 = some (.putfield 154, 5, 47, 12, 1) := rfl
theorem ct_180_5 : am_CT 180 5 = some (.aload 0, 6, 0, 0, 0) := rfl
theorem ct_180_6 : am_CT 180 6 = some (.aload 0, 7, 0, 0, 0) := rfl
theorem ct_180_7 : am_CT 180 7 = some (.getfield 41, 10, 10, 12, 0) := rfl
theorem ct_180_10 : am_CT 180 10 = some (.putfield 157, 13, 48, 12, 0) := rfl
theorem ct_180_13 : am_CT 180 13 = some (.aload 0, 14, 0, 0, 0) := rfl
theorem ct_180_14 : am_CT 180 14 = some (.aload 0, 15, 0, 0, 0) := rfl
theorem ct_180_15 : am_CT 180 15 = some (.getfield 7, 18, 0, 12, 0) := rfl
theorem ct_180_18 : am_CT 180 18 = some (.putfield 160, 21, 49, 12, 0) := rfl
theorem ct_180_21 : am_CT 180 21 = some (.aload 0, 22, 0, 0, 0) := rfl
theorem ct_180_22 : am_CT 180 22 = some (.aload 0, 23, 0, 0, 0) := rfl
theorem ct_180_23 : am_CT 180 23 = some (.getfield 13, 26, 1, 12, 0) := rfl
theorem ct_180_26 : am_CT 180 26 = some (.putfield 163, 29, 50, 12, 0) := rfl
theorem ct_180_29 : am_CT 180 29 = some (.aload 0, 30, 0, 0, 0) := rfl
theorem ct_180_30 : am_CT 180 30 = some (.aload 0, 31, 0, 0, 0) := rfl
theorem ct_180_31 : am_CT 180 31 = some (.getfield 133, 34, 40, 12, 0) := rfl
theorem ct_180_34 : am_CT 180 34 = some (.putfield 166, 37, 51, 12, 0) := rfl
theorem ct_180_37 : am_CT 180 37 = some (.aload 0, 38, 0, 0, 0) := rfl
theorem ct_180_38 : am_CT 180 38 = some (.aload 0, 39, 0, 0, 0) := rfl
theorem ct_180_39 : am_CT 180 39 = some (.getfield 145, 42, 44, 12, 0) := rfl
theorem ct_180_42 : am_CT 180 42 = some (.putfield 169, 45, 52, 12, 0) := rfl
theorem ct_180_45 : am_CT 180 45 = some (.bipush 0, 46, 0, 0, 0) := rfl
theorem ct_180_46 : am_CT 180 46 = some (.istore 1, 47, 0, 0, 0) := rfl
theorem ct_180_47 : am_CT 180 47 = some (.iload 1, 48, 0, 0, 0) := rfl
theorem ct_180_48 : am_CT 180 48 = some (.bipush 5, 49, 0, 0, 0) := rfl
theorem ct_180_49 : am_CT 180 49 = some (.if_icmp .ge 69, 52, 118, 0, 0) := rfl
theorem ct_180_52 : am_CT 180 52 = some (.aload 0, 53, 0, 0, 0) := rfl
theorem ct_180_53 : am_CT 180 53 = some (.getfield 172, 56, 53, 12, 2) := rfl
theorem ct_180_56 : am_CT 180 56 = some (.iload 1, 57, 0, 0, 0) := rfl
theorem ct_180_57 : am_CT 180 57 = some (.aload 0, 58, 0, 0, 0) := rfl
theorem ct_180_58 : am_CT 180 58 = some (.getfield 16, 61, 2, 12, 2) := rfl
theorem ct_180_61 : am_CT 180 61 = some (.iload 1, 62, 0, 0, 0) := rfl
theorem ct_180_62 : am_CT 180 62 = some (.iaload, 63, 0, 0, 0) := rfl
theorem ct_180_63 : am_CT 180 63 = some (.iastore, 64, 0, 0, 0) := rfl
theorem ct_180_64 : am_CT 180 64 = some (.aload 0, 65, 0, 0, 0) := rfl
theorem ct_180_65 : am_CT 180 65 = some (.getfield 175, 68, 54, 12, 2) := rfl
theorem ct_180_68 : am_CT 180 68 = some (.iload 1, 69, 0, 0, 0) := rfl
theorem ct_180_69 : am_CT 180 69 = some (.aload 0, 70, 0, 0, 0) := rfl
theorem ct_180_70 : am_CT 180 70 = some (.getfield 20, 73, 3, 12, 2) := rfl
theorem ct_180_73 : am_CT 180 73 = some (.iload 1, 74, 0, 0, 0) := rfl
theorem ct_180_74 : am_CT 180 74 = some (.iaload, 75, 0, 0, 0) := rfl
theorem ct_180_75 : am_CT 180 75 = some (.iastore, 76, 0, 0, 0) := rfl
theorem ct_180_76 : am_CT 180 76 = some (.aload 0, 77, 0, 0, 0) := rfl
theorem ct_180_77 : am_CT 180 77 = some (.getfield 178, 80, 55, 12, 2) := rfl
theorem ct_180_80 : am_CT 180 80 = some (.iload 1, 81, 0, 0, 0) := rfl
theorem ct_180_81 : am_CT 180 81 = some (.aload 0, 82, 0, 0, 0) := rfl
theorem ct_180_82 : am_CT 180 82 = some (.getfield 23, 85, 4, 12, 2) := rfl
theorem ct_180_85 : am_CT 180 85 = some (.iload 1, 86, 0, 0, 0) := rfl
theorem ct_180_86 : am_CT 180 86 = some (.iaload, 87, 0, 0, 0) := rfl
theorem ct_180_87 : am_CT 180 87 = some (.iastore, 88, 0, 0, 0) := rfl
theorem ct_180_88 : am_CT 180 88 = some (.aload 0, 89, 0, 0, 0) := rfl
theorem ct_180_89 : am_CT 180 89 = some (.getfield 181, 92, 56, 12, 2) := rfl
theorem ct_180_92 : am_CT 180 92 = some (.iload 1, 93, 0, 0, 0) := rfl
theorem ct_180_93 : am_CT 180 93 = some (.aload 0, 94, 0, 0, 0) := rfl
theorem ct_180_94 : am_CT 180 94 = some (.getfield 26, 97, 5, 12, 2) := rfl
theorem ct_180_97 : am_CT 180 97 = some (.iload 1, 98, 0, 0, 0) := rfl
theorem ct_180_98 : am_CT 180 98 = some (.iaload, 99, 0, 0, 0) := rfl
theorem ct_180_99 : am_CT 180 99 = some (.iastore, 100, 0, 0, 0) := rfl
theorem ct_180_100 : am_CT 180 100 = some (.aload 0, 101, 0, 0, 0) := rfl
theorem ct_180_101 : am_CT 180 101 = some (.getfield 184, 104, 57, 12, 2) := rfl
theorem ct_180_104 : am_CT 180 104 = some (.iload 1, 105, 0, 0, 0) := rfl
theorem ct_180_105 : am_CT 180 105 = some (.aload 0, 106, 0, 0, 0) := rfl
theorem ct_180_106 : am_CT 180 106 = some (.getfield 29, 109, 6, 12, 2) := rfl
theorem ct_180_109 : am_CT 180 109 = some (.iload 1, 110, 0, 0, 0) := rfl
theorem ct_180_110 : am_CT 180 110 = some (.iaload, 111, 0, 0, 0) := rfl
theorem ct_180_111 : am_CT 180 111 = some (.iastore, 112, 0, 0, 0) := rfl
theorem ct_180_112 : am_CT 180 112 = some (.iinc 1 1, 115, 0, 0, 0) := rfl
theorem ct_180_115 : am_CT 180 115 = some (.goto (-68), 118, 47, 0, 0) := rfl
theorem ct_180_118 : am_CT 180 118 = some (.bipush 0, 119, 0, 0, 0) := rfl
theorem ct_180_119 : am_CT 180 119 = some (.istore 1, 120, 0, 0, 0) := rfl
theorem ct_180_120 : am_CT 180 120 = some (.iload 1, 121, 0, 0, 0) := rfl
theorem ct_180_121 : am_CT 180 121 = some (.bipush 20, 123, 0, 0, 0) := rfl
theorem ct_180_123 : am_CT 180 123 = some (.if_icmp .ge 21, 126, 144, 0, 0) := rfl
theorem ct_180_126 : am_CT 180 126 = some (.aload 0, 127, 0, 0, 0) := rfl
theorem ct_180_127 : am_CT 180 127 = some (.getfield 187, 130, 58, 12, 2) := rfl
theorem ct_180_130 : am_CT 180 130 = some (.iload 1, 131, 0, 0, 0) := rfl
theorem ct_180_131 : am_CT 180 131 = some (.aload 0, 132, 0, 0, 0) := rfl
theorem ct_180_132 : am_CT 180 132 = some (.getfield 32, 135, 7, 12, 2) := rfl
theorem ct_180_135 : am_CT 180 135 = some (.iload 1, 136, 0, 0, 0) := rfl
theorem ct_180_136 : am_CT 180 136 = some (.iaload, 137, 0, 0, 0) := rfl
theorem ct_180_137 : am_CT 180 137 = some (.iastore, 138, 0, 0, 0) := rfl
theorem ct_180_138 : am_CT 180 138 = some (.iinc 1 1, 141, 0, 0, 0) := rfl
theorem ct_180_141 : am_CT 180 141 = some (.goto (-21), 144, 120, 0, 0) := rfl
theorem ct_180_144 : am_CT 180 144 = some (.bipush 0, 145, 0, 0, 0) := rfl
theorem ct_180_145 : am_CT 180 145 = some (.istore 1, 146, 0, 0, 0) := rfl
theorem ct_180_146 : am_CT 180 146 = some (.iload 1, 147, 0, 0, 0) := rfl
theorem ct_180_147 : am_CT 180 147 = some (.bipush 4, 148, 0, 0, 0) := rfl
theorem ct_180_148 : am_CT 180 148 = some (.if_icmp .ge 21, 151, 169, 0, 0) := rfl
theorem ct_180_151 : am_CT 180 151 = some (.aload 0, 152, 0, 0, 0) := rfl
theorem ct_180_152 : am_CT 180 152 = some (.getfield 190, 155, 59, 12, 2) := rfl
theorem ct_180_155 : am_CT 180 155 = some (.iload 1, 156, 0, 0, 0) := rfl
theorem ct_180_156 : am_CT 180 156 = some (.aload 0, 157, 0, 0, 0) := rfl
theorem ct_180_157 : am_CT 180 157 = some (.getfield 35, 160, 8, 12, 2) := rfl
theorem ct_180_160 : am_CT 180 160 = some (.iload 1, 161, 0, 0, 0) := rfl
theorem ct_180_161 : am_CT 180 161 = some (.iaload, 162, 0, 0, 0) := rfl
theorem ct_180_162 : am_CT 180 162 = some (.iastore, 163, 0, 0, 0) := rfl
theorem ct_180_163 : am_CT 180 163 = some (.iinc 1 1, 166, 0, 0, 0) := rfl
theorem ct_180_166 : am_CT 180 166 = some (.goto (-20), 169, 146, 0, 0) := rfl
theorem ct_180_169 : am_CT 180 169 = some (.bipush 0, 170, 0, 0, 0) := rfl
theorem ct_180_170 : am_CT 180 170 = some (.istore 1, 171, 0, 0, 0) := rfl
theorem ct_180_171 : am_CT 180 171 = some (.iload 1, 172, 0, 0, 0) := rfl
theorem ct_180_172 : am_CT 180 172 = some (.bipush 6, 174, 0, 0, 0) := rfl
theorem ct_180_174 : am_CT 180 174 = some (.if_icmp .ge 45, 177, 219, 0, 0) := rfl
theorem ct_180_177 : am_CT 180 177 = some (.aload 0, 178, 0, 0, 0) := rfl
theorem ct_180_178 : am_CT 180 178 = some (.getfield 193, 181, 60, 12, 2) := rfl
theorem ct_180_181 : am_CT 180 181 = some (.iload 1, 182, 0, 0, 0) := rfl
theorem ct_180_182 : am_CT 180 182 = some (.aload 0, 183, 0, 0, 0) := rfl
theorem ct_180_183 : am_CT 180 183 = some (.getfield 136, 186, 41, 12, 2) := rfl
theorem ct_180_186 : am_CT 180 186 = some (.iload 1, 187, 0, 0, 0) := rfl
theorem ct_180_187 : am_CT 180 187 = some (.iaload, 188, 0, 0, 0) := rfl
theorem ct_180_188 : am_CT 180 188 = some (.iastore, 189, 0, 0, 0) := rfl
theorem ct_180_189 : am_CT 180 189 = some (.aload 0, 190, 0, 0, 0) := rfl
theorem ct_180_190 : am_CT 180 190 = some (.getfield 196, 193, 61, 12, 2) := rfl
theorem ct_180_193 : am_CT 180 193 = some (.iload 1, 194, 0, 0, 0) := rfl
theorem ct_180_194 : am_CT 180 194 = some (.aload 0, 195, 0, 0, 0) := rfl
theorem ct_180_195 : am_CT 180 195 = some (.getfield 139, 198, 42, 12, 2) := rfl
theorem ct_180_198 : am_CT 180 198 = some (.iload 1, 199, 0, 0, 0) := rfl
theorem ct_180_199 : am_CT 180 199 = some (.iaload, 200, 0, 0, 0) := rfl
theorem ct_180_200 : am_CT 180 200 = some (.iastore, 201, 0, 0, 0) := rfl
theorem ct_180_201 : am_CT 180 201 = some (.aload 0, 202, 0, 0, 0) := rfl
theorem ct_180_202 : am_CT 180 202 = some (.getfield 199, 205, 62, 12, 2) := rfl
theorem ct_180_205 : am_CT 180 205 = some (.iload 1, 206, 0, 0, 0) := rfl
theorem ct_180_206 : am_CT 180 206 = some (.aload 0, 207, 0, 0, 0) := rfl
theorem ct_180_207 : am_CT 180 207 = some (.getfield 142, 210, 43, 12, 2) := rfl
theorem ct_180_210 : am_CT 180 210 = some (.iload 1, 211, 0, 0, 0) := rfl
theorem ct_180_211 : am_CT 180 211 = some (.iaload, 212, 0, 0, 0) := rfl
theorem ct_180_212 : am_CT 180 212 = some (.iastore, 213, 0, 0, 0) := rfl
theorem ct_180_213 : am_CT 180 213 = some (.iinc 1 1, 216, 0, 0, 0) := rfl
theorem ct_180_216 : am_CT 180 216 = some (.goto (-45), 219, 171, 0, 0) := rfl
theorem ct_180_219 : am_CT 180 219 = some (.bipush 0, 220, 0, 0, 0) := rfl
theorem ct_180_220 : am_CT 180 220 = some (.istore 1, 221, 0, 0, 0) := rfl
theorem ct_180_221 : am_CT 180 221 = some (.iload 1, 222, 0, 0, 0) := rfl
theorem ct_180_222 : am_CT 180 222 = some (.bipush 12, 224, 0, 0, 0) := rfl
theorem ct_180_224 : am_CT 180 224 = some (.if_icmp .ge 33, 227, 257, 0, 0) := rfl
theorem ct_180_227 : am_CT 180 227 = some (.aload 0, 228, 0, 0, 0) := rfl
theorem ct_180_228 : am_CT 180 228 = some (.getfield 202, 231, 63, 12, 2) := rfl
theorem ct_180_231 : am_CT 180 231 = some (.iload 1, 232, 0, 0, 0) := rfl
theorem ct_180_232 : am_CT 180 232 = some (.aload 0, 233, 0, 0, 0) := rfl
theorem ct_180_233 : am_CT 180 233 = some (.getfield 148, 236, 45, 12, 2) := rfl
theorem ct_180_236 : am_CT 180 236 = some (.iload 1, 237, 0, 0, 0) := rfl
theorem ct_180_237 : am_CT 180 237 = some (.iaload, 238, 0, 0, 0) := rfl
theorem ct_180_238 : am_CT 180 238 = some (.iastore, 239, 0, 0, 0) := rfl
theorem ct_180_239 : am_CT 180 239 = some (.aload 0, 240, 0, 0, 0) := rfl
theorem ct_180_240 : am_CT 180 240 = some (.getfield 205, 243, 64, 12, 2) := rfl
theorem ct_180_243 : am_CT 180 243 = some (.iload 1, 244, 0, 0, 0) := rfl
theorem ct_180_244 : am_CT 180 244 = some (.aload 0, 245, 0, 0, 0) := rfl
theorem ct_180_245 : am_CT 180 245 = some (.getfield 151, 248, 46, 12, 2) := rfl
theorem ct_180_248 : am_CT 180 248 = some (.iload 1, 249, 0, 0, 0) := rfl
theorem ct_180_249 : am_CT 180 249 = some (.baload, 250, 0, 0, 0) := rfl
theorem ct_180_250 : am_CT 180 250 = some (.bastore, 251, 0, 0, 0) := rfl
theorem ct_180_251 : am_CT 180 251 = some (.iinc 1 1, 254, 0, 0, 0) := rfl
theorem ct_180_254 : am_CT 180 254 = some (.goto (-33), 257, 221, 0, 0) := rfl
theorem ct_180_257 : am_CT 180 257 = some (.aload 0, 258, 0, 0, 0) := rfl
theorem ct_180_258 : am_CT 180 258 = some (.getfield 7, 261, 0, 12, 0) := rfl
theorem ct_180_261 : am_CT 180 261 = some (.ireturn, 262, 0, 0, 0) := rfl
theorem ct_181_0 : am_CT 181 0 = some (.aload 0, 1, 0, 0, 0) := rfl
theorem ct_181_1 : am_CT 181 1 = some (.getfield 154, 4, 47, 12, 1) := rfl
theorem ct_181_4 : am_CT 181 4 = some (.ifCond .ne 6, 7, 10, 0, 0) := rfl
theorem ct_181_7 : am_CT 181 7 = some (.bipush (-3), 9, 0, 0, 0) := rfl
theorem ct_181_9 : am_CT 181 9 = some (.ireturn, 10, 0, 0, 0) := rfl
theorem ct_181_10 : am_CT 181 10 = some (.aload 0, 11, 0, 0, 0) := rfl
theorem ct_181_11 : am_CT 181 11 = some (.aload 0, 12, 0, 0, 0) := rfl
theorem ct_181_12 : am_CT 181 12 = some (.getfield 157, 15, 48, 12, 0) := rfl
theorem ct_181_15 : am_CT 181 15 = some (.putfield 41, 18, 10, 12, 0) := rfl
theorem ct_181_18 : am_CT 181 18 = some (.aload 0, 19, 0, 0, 0) := rfl
theorem ct_181_19 : am_CT 181 19 = some (.aload 0, 20, 0, 0, 0) := rfl
theorem ct_181_20 : am_CT 181 20 = some (.getfield 160, 23, 49, 12, 0) := rfl
theorem ct_181_23 : am_CT 181 23 = some (.putfield 7, 26, 0, 12, 0) := rfl
theorem ct_181_26 : am_CT 181 26 = some (.aload 0, 27, 0, 0, 0) := rfl
theorem ct_181_27 : am_CT 181 27 = some (.aload 0, 28, 0, 0, 0) := rfl
theorem ct_181_28 : am_CT 181 28 = some (.getfield 163, 31, 50, 12, 0) := rfl
theorem ct_181_31 : am_CT 181 31 = some (.putfield 13, 34, 1, 12, 0) := rfl
theorem ct_181_34 : am_CT 181 34 = some (.aload 0, 35, 0, 0, 0) := rfl
theorem ct_181_35 : am_CT 181 35 = some (.aload 0, 36, 0, 0, 0) := rfl
theorem ct_181_36 : am_CT 181 36 = some (.getfield 166, 39, 51, 12, 0) := rfl
theorem ct_181_39 : am_CT 181 39 = some (.putfield 133, 42, 40, 12, 0) := rfl
theorem ct_181_42 : am_CT 181 42 = some (.aload 0, 43, 0, 0, 0) := rfl
theorem ct_181_43 : am_CT 181 43 = some (.aload 0, 44, 0, 0, 0) := rfl
theorem ct_181_44 : am_CT 181 44 = some (.getfield 169, 47, 52, 12, 0) := rfl
theorem ct_181_47 : am_CT 181 47 = some (.putfield 145, 50, 44, 12, 0) := rfl
theorem ct_181_50 : am_CT 181 50 = some (.bipush 0, 51, 0, 0, 0) := rfl
theorem ct_181_51 : am_CT 181 51 = some (.istore 1, 52, 0, 0, 0) := rfl
theorem ct_181_52 : am_CT 181 52 = some (.iload 1, 53, 0, 0, 0) := rfl
theorem ct_181_53 : am_CT 181 53 = some (.bipush 5, 54, 0, 0, 0) := rfl
theorem ct_181_54 : am_CT 181 54 = some (.if_icmp .ge 69, 57, 123, 0, 0) := rfl
theorem ct_181_57 : am_CT 181 57 = some (.aload 0, 58, 0, 0, 0) := rfl
theorem ct_181_58 : am_CT 181 58 = some (.getfield 16, 61, 2, 12, 2) := rfl
theorem ct_181_61 : am_CT 181 61 = some (.iload 1, 62, 0, 0, 0) := rfl
theorem ct_181_62 : am_CT 181 62 = some (.aload 0, 63, 0, 0, 0) := rfl
theorem ct_181_63 : am_CT 181 63 = some (.getfield 172, 66, 53, 12, 2) := rfl
theorem ct_181_66 : am_CT 181 66 = some (.iload 1, 67, 0, 0, 0) := rfl
theorem ct_181_67 : am_CT 181 67 = some (.iaload, 68, 0, 0, 0) := rfl
theorem ct_181_68 : am_CT 181 68 = some (.iastore, 69, 0, 0, 0) := rfl
theorem ct_181_69 : am_CT 181 69 = some (.aload 0, 70, 0, 0, 0) := rfl
theorem ct_181_70 : am_CT 181 70 = some (.getfield 20, 73, 3, 12, 2) := rfl
theorem ct_181_73 : am_CT 181 73 = some (.iload 1, 74, 0, 0, 0) := rfl
theorem ct_181_74 : am_CT 181 74 = some (.aload 0, 75, 0, 0, 0) := rfl
theorem ct_181_75 : am_CT 181 75 = some (.getfield 175, 78, 54, 12, 2) := rfl
theorem ct_181_78 : am_CT 181 78 = some (.iload 1, 79, 0, 0, 0) := rfl
theorem ct_181_79 : am_CT 181 79 = some (.iaload, 80, 0, 0, 0) := rfl
theorem ct_181_80 : am_CT 181 80 = some (.iastore, 81, 0, 0, 0) := rfl
theorem ct_181_81 : am_CT 181 81 = some (.aload 0, 82, 0, 0, 0) := rfl
theorem ct_181_82 : am_CT 181 82 = some (.getfield 23, 85, 4, 12, 2) := rfl
theorem ct_181_85 : am_CT 181 85 = some (.iload 1, 86, 0, 0, 0) := rfl
theorem ct_181_86 : am_CT 181 86 = some (.aload 0, 87, 0, 0, 0) := rfl
theorem ct_181_87 : am_CT 181 87 = some (.getfield 178, 90, 55, 12, 2) := rfl
theorem ct_181_90 : am_CT 181 90 = some (.iload 1, 91, 0, 0, 0) := rfl
theorem ct_181_91 : am_CT 181 91 = some (.iaload, 92, 0, 0, 0) := rfl
theorem ct_181_92 : am_CT 181 92 = some (.iastore, 93, 0, 0, 0) := rfl
theorem ct_181_93 : am_CT 181 93 = some (.aload 0, 94, 0, 0, 0) := rfl
theorem ct_181_94 : am_CT 181 94 = some (.getfield 26, 97, 5, 12, 2) := rfl
theorem ct_181_97 : am_CT 181 97 = some (.iload 1, 98, 0, 0, 0) := rfl
theorem ct_181_98 : am_CT 181 98 = some (.aload 0, 99, 0, 0, 0) := rfl
theorem ct_181_99 : am_CT 181 99 = some (.getfield 181, 102, 56, 12, 2) := rfl
theorem ct_181_102 : am_CT 181 102 = some (.iload 1, 103, 0, 0, 0) := rfl
theorem ct_181_103 : am_CT 181 103 = some (.iaload, 104, 0, 0, 0) := rfl
theorem ct_181_104 : am_CT 181 104 = some (.iastore, 105, 0, 0, 0) := rfl
theorem ct_181_105 : am_CT 181 105 = some (.aload 0, 106, 0, 0, 0) := rfl
theorem ct_181_106 : am_CT 181 106 = some (.getfield 29, 109, 6, 12, 2) := rfl
theorem ct_181_109 : am_CT 181 109 = some (.iload 1, 110, 0, 0, 0) := rfl
theorem ct_181_110 : am_CT 181 110 = some (.aload 0, 111, 0, 0, 0) := rfl
theorem ct_181_111 : am_CT 181 111 = some (.getfield 184, 114, 57, 12, 2) := rfl
theorem ct_181_114 : am_CT 181 114 = some (.iload 1, 115, 0, 0, 0) := rfl
theorem ct_181_115 : am_CT 181 115 = some (.iaload, 116, 0, 0, 0) := rfl
theorem ct_181_116 : am_CT 181 116 = some (.iastore, 117, 0, 0, 0) := rfl
theorem ct_181_117 : am_CT 181 117 = some (.iinc 1 1, 120, 0, 0, 0) := rfl
theorem ct_181_120 : am_CT 181 120 = some (.goto (-68), 123, 52, 0, 0) := rfl
theorem ct_181_123 : am_CT 181 123 = some (.bipush 0, 124, 0, 0, 0) := rfl
theorem ct_181_124 : am_CT 181 124 = some (.istore 1, 125, 0, 0, 0) := rfl
theorem ct_181_125 : am_CT 181 125 = some (.iload 1, 126, 0, 0, 0) := rfl
theorem ct_181_126 : am_CT 181 126 = some (.bipush 20, 128, 0, 0, 0) := rfl
theorem ct_181_128 : am_CT 181 128 = some (.if_icmp .ge 21, 131, 149, 0, 0) := rfl
theorem ct_181_131 : am_CT 181 131 = some (.aload 0, 132, 0, 0, 0) := rfl
theorem ct_181_132 : am_CT 181 132 = some (.getfield 32, 135, 7, 12, 2) := rfl
theorem ct_181_135 : am_CT 181 135 = some (.iload 1, 136, 0, 0, 0) := rfl
theorem ct_181_136 : am_CT 181 136 = some (.aload 0, 137, 0, 0, 0) := rfl
theorem ct_181_137 : am_CT 181 137 = some (.getfield 187, 140, 58, 12, 2) := rfl
theorem ct_181_140 : am_CT 181 140 = some (.iload 1, 141, 0, 0, 0) := rfl
theorem ct_181_141 : am_CT 181 141 = some (.iaload, 142, 0, 0, 0) := rfl
theorem ct_181_142 : am_CT 181 142 = some (.iastore, 143, 0, 0, 0) := rfl
theorem ct_181_143 : am_CT 181 143 = some (.iinc 1 1, 146, 0, 0, 0) := rfl
theorem ct_181_146 : am_CT 181 146 = some (.goto (-21), 149, 125, 0, 0) := rfl
theorem ct_181_149 : am_CT 181 149 = some (.bipush 0, 150, 0, 0, 0) := rfl
theorem ct_181_150 : am_CT 181 150 = some (.istore 1, 151, 0, 0, 0) := rfl
theorem ct_181_151 : am_CT 181 151 = some (.iload 1, 152, 0, 0, 0) := rfl
theorem ct_181_152 : am_CT 181 152 = some (.bipush 4, 153, 0, 0, 0) := rfl
theorem ct_181_153 : am_CT 181 153 = some (.if_icmp .ge 21, 156, 174, 0, 0) := rfl
theorem ct_181_156 : am_CT 181 156 = some (.aload 0, 157, 0, 0, 0) := rfl
theorem ct_181_157 : am_CT 181 157 = some (.getfield 35, 160, 8, 12, 2) := rfl
theorem ct_181_160 : am_CT 181 160 = some (.iload 1, 161, 0, 0, 0) := rfl
theorem ct_181_161 : am_CT 181 161 = some (.aload 0, 162, 0, 0, 0) := rfl
theorem ct_181_162 : am_CT 181 162 = some (.getfield 190, 165, 59, 12, 2) := rfl
theorem ct_181_165 : am_CT 181 165 = some (.iload 1, 166, 0, 0, 0) := rfl
theorem ct_181_166 : am_CT 181 166 = some (.iaload, 167, 0, 0, 0) := rfl
theorem ct_181_167 : am_CT 181 167 = some (.iastore, 168, 0, 0, 0) := rfl
theorem ct_181_168 : am_CT 181 168 = some (.iinc 1 1, 171, 0, 0, 0) := rfl
theorem ct_181_171 : am_CT 181 171 = some (.goto (-20), 174, 151, 0, 0) := rfl
theorem ct_181_174 : am_CT 181 174 = some (.bipush 0, 175, 0, 0, 0) := rfl
theorem ct_181_175 : am_CT 181 175 = some (.istore 1, 176, 0, 0, 0) := rfl
theorem ct_181_176 : am_CT 181 176 = some (.iload 1, 177, 0, 0, 0) := rfl
theorem ct_181_177 : am_CT 181 177 = some (.bipush 6, 179, 0, 0, 0) := rfl
theorem ct_181_179 : am_CT 181 179 = some (.if_icmp .ge 45, 182, 224, 0, 0) := rfl
theorem ct_181_182 : am_CT 181 182 = some (.aload 0, 183, 0, 0, 0) := rfl
theorem ct_181_183 : am_CT 181 183 = some (.getfield 136, 186, 41, 12, 2) := rfl
theorem ct_181_186 : am_CT 181 186 = some (.iload 1, 187, 0, 0, 0) := rfl
theorem ct_181_187 : am_CT 181 187 = some (.aload 0, 188, 0, 0, 0) := rfl
theorem ct_181_188 : am_CT 181 188 = some (.getfield 193, 191, 60, 12, 2) := rfl
theorem ct_181_191 : am_CT 181 191 = some (.iload 1, 192, 0, 0, 0) := rfl
theorem ct_181_192 : am_CT 181 192 = some (.iaload, 193, 0, 0, 0) := rfl
theorem ct_181_193 : am_CT 181 193 = some (.iastore, 194, 0, 0, 0) := rfl
theorem ct_181_194 : am_CT 181 194 = some (.aload 0, 195, 0, 0, 0) := rfl
theorem ct_181_195 : am_CT 181 195 = some (.getfield 139, 198, 42, 12, 2) := rfl
theorem ct_181_198 : am_CT 181 198 = some (.iload 1, 199, 0, 0, 0) := rfl
theorem ct_181_199 : am_CT 181 199 = some (.aload 0, 200, 0, 0, 0) := rfl
theorem ct_181_200 : am_CT 181 200 = some (.getfield 196, 203, 61, 12, 2) := rfl
theorem ct_181_203 : am_CT 181 203 = some (.iload 1, 204, 0, 0, 0) := rfl
theorem ct_181_204 : am_CT 181 204 = some (.iaload, 205, 0, 0, 0) := rfl
theorem ct_181_205 : am_CT 181 205 = some (.iastore, 206, 0, 0, 0) := rfl
theorem ct_181_206 : am_CT 181 206 = some (.aload 0, 207, 0, 0, 0) := rfl
theorem ct_181_207 : am_CT 181 207 = some (.getfield 142, 210, 43, 12, 2) := rfl
theorem ct_181_210 : am_CT 181 210 = some (.iload 1, 211, 0, 0, 0) := rfl
theorem ct_181_211 : am_CT 181 211 = some (.aload 0, 212, 0, 0, 0) := rfl
theorem ct_181_212 : am_CT 181 212 = some (.getfield 199, 215, 62, 12, 2) := rfl
theorem ct_181_215 : am_CT 181 215 = some (.iload 1, 216, 0, 0, 0) := rfl
theorem ct_181_216 : am_CT 181 216 = some (.iaload, 217, 0, 0, 0) := rfl
theorem ct_181_217 : am_CT 181 217 = some (.iastore, 218, 0, 0, 0) := rfl
theorem ct_181_218 : am_CT 181 218 = some (.iinc 1 1, 221, 0, 0, 0) := rfl
theorem ct_181_221 : am_CT 181 221 = some (.goto (-45), 224, 176, 0, 0) := rfl
theorem ct_181_224 : am_CT 181 224 = some (.bipush 0, 225, 0, 0, 0) := rfl
theorem ct_181_225 : am_CT 181 225 = some (.istore 1, 226, 0, 0, 0) := rfl
theorem ct_181_226 : am_CT 181 226 = some (.iload 1, 227, 0, 0, 0) := rfl
theorem ct_181_227 : am_CT 181 227 = some (.bipush 12, 229, 0, 0, 0) := rfl
theorem ct_181_229 : am_CT 181 229 = some (.if_icmp .ge 33, 232, 262, 0, 0) := rfl
theorem ct_181_232 : am_CT 181 232 = some (.aload 0, 233, 0, 0, 0) := rfl
theorem ct_181_233 : am_CT 181 233 = some (.getfield 148, 236, 45, 12, 2) := rfl
theorem ct_181_236 : am_CT 181 236 = some (.iload 1, 237, 0, 0, 0) := rfl
theorem ct_181_237 : am_CT 181 237 = some (.aload 0, 238, 0, 0, 0) := rfl
theorem ct_181_238 : am_CT 181 238 = some (.getfield 202, 241, 63, 12, 2) := rfl
theorem ct_181_241 : am_CT 181 241 = some (.iload 1, 242, 0, 0, 0) := rfl
theorem ct_181_242 : am_CT 181 242 = some (.iaload, 243, 0, 0, 0) := rfl
theorem ct_181_243 : am_CT 181 243 = some (.iastore, 244, 0, 0, 0) := rfl
theorem ct_181_244 : am_CT 181 244 = some (.aload 0, 245, 0, 0, 0) := rfl
theorem ct_181_245 : am_CT 181 245 = some (.getfield 151, 248, 46, 12, 2) := rfl
theorem ct_181_248 : am_CT 181 248 = some (.iload 1, 249, 0, 0, 0) := rfl
theorem ct_181_249 : am_CT 181 249 = some (.aload 0, 250, 0, 0, 0) := rfl
theorem ct_181_250 : am_CT 181 250 = some (.getfield 205, 253, 64, 12, 2) := rfl
theorem ct_181_253 : am_CT 181 253 = some (.iload 1, 254, 0, 0, 0) := rfl
theorem ct_181_254 : am_CT 181 254 = some (.baload, 255, 0, 0, 0) := rfl
theorem ct_181_255 : am_CT 181 255 = some (.bastore, 256, 0, 0, 0) := rfl
theorem ct_181_256 : am_CT 181 256 = some (.iinc 1 1, 259, 0, 0, 0) := rfl
theorem ct_181_259 : am_CT 181 259 = some (.goto (-33), 262, 226, 0, 0) := rfl
theorem ct_181_262 : am_CT 181 262 = some (.aload 0, 263, 0, 0, 0) := rfl
theorem ct_181_263 : am_CT 181 263 = some (.getfield 7, 266, 0, 12, 0) := rfl
theorem ct_181_266 : am_CT 181 266 = some (.ireturn, 267, 0, 0, 0) := rfl
theorem ct_182_0 : am_CT 182 0 = some (.aload 0, 1, 0, 0, 0) := rfl
theorem ct_182_1 : am_CT 182 1 = some (.getfield 208, 4, 65, 12, 0) := rfl
theorem ct_182_4 : am_CT 182 4 = some (.bipush 20, 6, 0, 0, 0) := rfl
theorem ct_182_6 : am_CT 182 6 = some (.if_icmp .ge 13, 9, 19, 0, 0) := rfl
theorem ct_182_9 : am_CT 182 9 = some (.aload 0, 10, 0, 0, 0) := rfl
theorem ct_182_10 : am_CT 182 10 = some (.getfield 211, 13, 66, 12, 2) := rfl
theorem ct_182_13 : am_CT 182 13 = some (.aload 0, 14, 0, 0, 0) := rfl
theorem ct_182_14 : am_CT 182 14 = some (.getfield 208, 17, 65, 12, 0) := rfl
theorem ct_182_17 : am_CT 182 17 = some (.iload 1, 18, 0, 0, 0) := rfl
theorem ct_182_18 : am_CT 182 18 = some (.iastore, 19, 0, 0, 0) := rfl
theorem ct_182_19 : am_CT 182 19 = some (.aload 0, 20, 0, 0, 0) := rfl
theorem ct_182_20 : am_CT 182 20 = some (.dup, 21, 0, 0, 0) := rfl
theorem ct_182_21 : am_CT 182 21 = some (.getfield 208, 24, 65, 12, 0) := rfl
theorem ct_182_24 : am_CT 182 24 = some (.bipush 1, 25, 0, 0, 0) := rfl
theorem ct_182_25 : am_CT 182 25 = some (.iadd, 26, 0, 0, 0) := rfl
theorem ct_182_26 : am_CT 182 26 = some (.putfield 208, 29, 65, 12, 0) := rfl
theorem ct_182_29 : am_CT 182 29 = some (.return_, 30, 0, 0, 0) := rfl
theorem ct_183_0 : am_CT 183 0 = some (.aload 0, 1, 0, 0, 0) := rfl
theorem ct_183_1 : am_CT 183 1 = some (.bipush 10, 3, 0, 0, 0) := rfl
theorem ct_183_3 : am_CT 183 3 = some (.invokevirtual 358, 6, 282, 1, 12) := rfl
theorem ct_183_6 : am_CT 183 6 = some (.iload 2, 7, 0, 0, 0) := rfl
theorem ct_183_7 : am_CT 183 7 = some (.iload 1, 8, 0, 0, 0) := rfl
theorem ct_183_8 : am_CT 183 8 = some (.iadd, 9, 0, 0, 0) := rfl
theorem ct_183_9 : am_CT 183 9 = some (.ireturn, 10, 0, 0, 0) := rfl
theorem ct_184_0 : am_CT 184 0 = some (.aload 0, 1, 0, 0, 0) := rfl
theorem ct_184_1 : am_CT 184 1 = some (.getfield 16, 4, 2, 12, 2) := rfl
theorem ct_184_4 : am_CT 184 4 = some (.iload 1, 5, 0, 0, 0) := rfl
theorem ct_184_5 : am_CT 184 5 = some (.iaload, 6, 0, 0, 0) := rfl
theorem ct_184_6 : am_CT 184 6 = some (.tableswitch 83 2 6 #[34, 83, 49, 34, 63], 40, 0, 0, 0) := rfl
theorem ct_184_40 : am_CT 184 40 = some (.aload 0, 41, 0, 0, 0) := rfl
theorem ct_184_41 : am_CT 184 41 = some (.bipush 30, 43, 0, 0, 0) := rfl
theorem ct_184_43 : am_CT 184 43 = some (.invokevirtual 358, 46, 282, 1, 12) := rfl
theorem ct_184_46 : am_CT 184 46 = some (.aload 0, 47, 0, 0, 0) := rfl
theorem ct_184_47 : am_CT 184 47 = some (.iload 1, 48, 0, 0, 0) := rfl
theorem ct_184_48 : am_CT 184 48 = some (.iload 2, 49, 0, 0, 0) := rfl
theorem ct_184_49 : am_CT 184 49 = some (.bipush 3, 50, 0, 0, 0) := rfl
theorem ct_184_50 : am_CT 184 50 = some (.imul, 51, 0, 0, 0) := rfl
theorem ct_184_51 : am_CT 184 51 = some (.invokevirtual 361, 54, 283, 2, 12) := rfl
theorem ct_184_54 : am_CT 184 54 = some (.ireturn, 55, 0, 0, 0) := rfl
theorem ct_184_55 : am_CT 184 55 = some (.aload 0, 56, 0, 0, 0) := rfl
theorem ct_184_56 : am_CT 184 56 = some (.bipush 50, 58, 0, 0, 0) := rfl
theorem ct_184_58 : am_CT 184 58 = some (.invokevirtual 358, 61, 282, 1, 12) := rfl
theorem ct_184_61 : am_CT 184 61 = some (.aload 0, 62, 0, 0, 0) := rfl
theorem ct_184_62 : am_CT 184 62 = some (.iload 1, 63, 0, 0, 0) := rfl
theorem ct_184_63 : am_CT 184 63 = some (.iload 2, 64, 0, 0, 0) := rfl
theorem ct_184_64 : am_CT 184 64 = some (.invokevirtual 361, 67, 283, 2, 12) := rfl
theorem ct_184_67 : am_CT 184 67 = some (.ineg, 68, 0, 0, 0) := rfl
theorem ct_184_68 : am_CT 184 68 = some (.ireturn, 69, 0, 0, 0) := rfl
theorem ct_184_69 : am_CT 184 69 = some (.aload 0, 70, 0, 0, 0) := rfl
theorem ct_184_70 : am_CT 184 70 = some (.bipush 71, 72, 0, 0, 0) := rfl
theorem ct_184_72 : am_CT 184 72 = some (.invokevirtual 358, 75, 282, 1, 12) := rfl
theorem ct_184_75 : am_CT 184 75 = some (.aload 0, 76, 0, 0, 0) := rfl
theorem ct_184_76 : am_CT 184 76 = some (.iload 1, 77, 0, 0, 0) := rfl
theorem ct_184_77 : am_CT 184 77 = some (.iload 2, 78, 0, 0, 0) := rfl
theorem ct_184_78 : am_CT 184 78 = some (.invokevirtual 361, 81, 283, 2, 12) := rfl
theorem ct_184_81 : am_CT 184 81 = some (.aload 0, 82, 0, 0, 0) := rfl
theorem ct_184_82 : am_CT 184 82 = some (.getfield 20, 85, 3, 12, 2) := rfl
theorem ct_184_85 : am_CT 184 85 = some (.iload 1, 86, 0, 0, 0) := rfl
theorem ct_184_86 : am_CT 184 86 = some (.iaload, 87, 0, 0, 0) := rfl
theorem ct_184_87 : am_CT 184 87 = some (.ixor, 88, 0, 0, 0) := rfl
theorem ct_184_88 : am_CT 184 88 = some (.ireturn, 89, 0, 0, 0) := rfl
theorem ct_184_89 : am_CT 184 89 = some (.aload 0, 90, 0, 0, 0) := rfl
theorem ct_184_90 : am_CT 184 90 = some (.iload 1, 91, 0, 0, 0) := rfl
theorem ct_184_91 : am_CT 184 91 = some (.iload 2, 92, 0, 0, 0) := rfl
theorem ct_184_92 : am_CT 184 92 = some (.invokevirtual 361, 95, 283, 2, 12) := rfl
theorem ct_184_95 : am_CT 184 95 = some (.ireturn, 96, 0, 0, 0) := rfl
theorem ct_185_0 : am_CT 185 0 = some (.aload 0, 1, 0, 0, 0) := rfl
theorem ct_185_1 : am_CT 185 1 = some (.bipush 11, 3, 0, 0, 0) := rfl
theorem ct_185_3 : am_CT 185 3 = some (.invokevirtual 358, 6, 282, 1, 12) := rfl
theorem ct_185_6 : am_CT 185 6 = some (.aload 0, 7, 0, 0, 0) := rfl
theorem ct_185_7 : am_CT 185 7 = some (.iload 1, 8, 0, 0, 0) := rfl
theorem ct_185_8 : am_CT 185 8 = some (.iload 2, 9, 0, 0, 0) := rfl
theorem ct_185_9 : am_CT 185 9 = some (.invokevirtual 364, 12, 284, 2, 12) := rfl
theorem ct_185_12 : am_CT 185 12 = some (.aload 0, 13, 0, 0, 0) := rfl
theorem ct_185_13 : am_CT 185 13 = some (.getfield 20, 16, 3, 12, 2) := rfl
theorem ct_185_16 : am_CT 185 16 = some (.iload 1, 17, 0, 0, 0) := rfl
theorem ct_185_17 : am_CT 185 17 = some (.iaload, 18, 0, 0, 0) := rfl
theorem ct_185_18 : am_CT 185 18 = some (.isub, 19, 0, 0, 0) := rfl
theorem ct_185_19 : am_CT 185 19 = some (.ireturn, 20, 0, 0, 0) := rfl
theorem ct_186_0 : am_CT 186 0 = some (.aload 0, 1, 0, 0, 0) := rfl
theorem ct_186_1 : am_CT 186 1 = some (.bipush 20, 3, 0, 0, 0) := rfl
theorem ct_186_3 : am_CT 186 3 = some (.invokevirtual 358, 6, 282, 1, 12) := rfl
theorem ct_186_6 : am_CT 186 6 = some (.aload 0, 7, 0, 0, 0) := rfl
theorem ct_186_7 : am_CT 186 7 = some (.iload 1, 8, 0, 0, 0) := rfl
theorem ct_186_8 : am_CT 186 8 = some (.iload 2, 9, 0, 0, 0) := rfl
theorem ct_186_9 : am_CT 186 9 = some (.invokevirtual 367, 12, 285, 2, 12) := rfl
theorem ct_186_12 : am_CT 186 12 = some (.bipush 6, 14, 0, 0, 0) := rfl
theorem ct_186_14 : am_CT 186 14 = some (.ixor, 15, 0, 0, 0) := rfl
theorem ct_186_15 : am_CT 186 15 = some (.ireturn, 16, 0, 0, 0) := rfl
theorem ct_187_0 : am_CT 187 0 = some (.aload 0, 1, 0, 0, 0) := rfl
theorem ct_187_1 : am_CT 187 1 = some (.getfield 16, 4, 2, 12, 2) := rfl
theorem ct_187_4 : am_CT 187 4 = some (.iload 1, 5, 0, 0, 0) := rfl
theorem ct_187_5 : am_CT 187 5 = some (.iaload, 6, 0, 0, 0) := rfl
theorem ct_187_6 : am_CT 187 6 = some (.lookupswitch 78 #[(1, 34), (4, 41), (6, 56)], 40, 0, 0, 0) := rfl
theorem ct_187_40 : am_CT 187 40 = some (.aload 0, 41, 0, 0, 0) := rfl
theorem ct_187_41 : am_CT 187 41 = some (.iload 1, 42, 0, 0, 0) := rfl
theorem ct_187_42 : am_CT 187 42 = some (.iload 2, 43, 0, 0, 0) := rfl
theorem ct_187_43 : am_CT 187 43 = some (.invokevirtual 370, 46, 286, 2, 12) := rfl
theorem ct_187_46 : am_CT 187 46 = some (.ireturn, 47, 0, 0, 0) := rfl
theorem ct_187_47 : am_CT 187 47 = some (.aload 0, 48, 0, 0, 0) := rfl
theorem ct_187_48 : am_CT 187 48 = some (.bipush 51, 50, 0, 0, 0) := rfl
theorem ct_187_50 : am_CT 187 50 = some (.invokevirtual 358, 53, 282, 1, 12) := rfl
theorem ct_187_53 : am_CT 187 53 = some (.aload 0, 54, 0, 0, 0) := rfl
theorem ct_187_54 : am_CT 187 54 = some (.iload 1, 55, 0, 0, 0) := rfl
theorem ct_187_55 : am_CT 187 55 = some (.iload 2, 56, 0, 0, 0) := rfl
theorem ct_187_56 : am_CT 187 56 = some (.bipush 1, 57, 0, 0, 0) := rfl
theorem ct_187_57 : am_CT 187 57 = some (.iadd, 58, 0, 0, 0) := rfl
theorem ct_187_58 : am_CT 187 58 = some (.invokevirtual 370, 61, 286, 2, 12) := rfl
theorem ct_187_61 : am_CT 187 61 = some (.ireturn, 62, 0, 0, 0) := rfl
theorem ct_187_62 : am_CT 187 62 = some (.aload 0, 63, 0, 0, 0) := rfl
theorem ct_187_63 : am_CT 187 63 = some (.bipush 70, 65, 0, 0, 0) := rfl
theorem ct_187_65 : am_CT 187 65 = some (.invokevirtual 358, 68, 282, 1, 12) := rfl
theorem ct_187_68 : am_CT 187 68 = some (.aload 0, 69, 0, 0, 0) := rfl
theorem ct_187_69 : am_CT 187 69 = some (.iload 1, 70, 0, 0, 0) := rfl
theorem ct_187_70 : am_CT 187 70 = some (.iload 2, 71, 0, 0, 0) := rfl
theorem ct_187_71 : am_CT 187 71 = some (.invokevirtual 367, 74, 285, 2, 12) := rfl
theorem ct_187_74 : am_CT 187 74 = some (.istore 3, 75, 0, 0, 0) := rfl
theorem ct_187_75 : am_CT 187 75 = some (.iload 3, 76, 0, 0, 0) := rfl
theorem ct_187_76 : am_CT 187 76 = some (.aload 0, 77, 0, 0, 0) := rfl
theorem ct_187_77 : am_CT 187 77 = some (.iload 1, 78, 0, 0, 0) := rfl
theorem ct_187_78 : am_CT 187 78 = some (.bipush 2, 79, 0, 0, 0) := rfl
theorem ct_187_79 : am_CT 187 79 = some (.invokevirtual 361, 82, 283, 2, 12) := rfl
theorem ct_187_82 : am_CT 187 82 = some (.iadd, 83, 0, 0, 0) := rfl
theorem ct_187_83 : am_CT 187 83 = some (.ireturn, 84, 0, 0, 0) := rfl
theorem ct_187_84 : am_CT 187 84 = some (.aload 0, 85, 0, 0, 0) := rfl
theorem ct_187_85 : am_CT 187 85 = some (.iload 1, 86, 0, 0, 0) := rfl
theorem ct_187_86 : am_CT 187 86 = some (.iload 2, 87, 0, 0, 0) := rfl
theorem ct_187_87 : am_CT 187 87 = some (.invokevirtual 367, 90, 285, 2, 12) := rfl
theorem ct_187_90 : am_CT 187 90 = some (.ireturn, 91, 0, 0, 0) := rfl
theorem ct_188_0 : am_CT 188 0 = some (.aload 0, 1, 0, 0, 0) := rfl
theorem ct_188_1 : am_CT 188 1 = some (.bipush 12, 3, 0, 0, 0) := rfl
theorem ct_188_3 : am_CT 188 3 = some (.invokevirtual 358, 6, 282, 1, 12) := rfl
theorem ct_188_6 : am_CT 188 6 = some (.aload 0, 7, 0, 0, 0) := rfl
theorem ct_188_7 : am_CT 188 7 = some (.iload 1, 8, 0, 0, 0) := rfl
theorem ct_188_8 : am_CT 188 8 = some (.iload 2, 9, 0, 0, 0) := rfl
theorem ct_188_9 : am_CT 188 9 = some (.invokevirtual 373, 12, 287, 2, 12) := rfl
theorem ct_188_12 : am_CT 188 12 = some (.bipush 2, 13, 0, 0, 0) := rfl
theorem ct_188_13 : am_CT 188 13 = some (.imul, 14, 0, 0, 0) := rfl
theorem ct_188_14 : am_CT 188 14 = some (.ireturn, 15, 0, 0, 0) := rfl
theorem ct_189_0 : am_CT 189 0 = some (.aload 0, 1, 0, 0, 0) := rfl
theorem ct_189_1 : am_CT 189 1 = some (.getfield 16, 4, 2, 12, 2) := rfl
theorem ct_189_4 : am_CT 189 4 = some (.iload 1, 5, 0, 0, 0) := rfl
theorem ct_189_5 : am_CT 189 5 = some (.iaload, 6, 0, 0, 0) := rfl
theorem ct_189_6 : am_CT 189 6 = some (.tableswitch 67 3 6 #[30, 67, 52, 30], 36, 0, 0, 0) := rfl
theorem ct_189_36 : am_CT 189 36 = some (.aload 0, 37, 0, 0, 0) := rfl
theorem ct_189_37 : am_CT 189 37 = some (.bipush 40, 39, 0, 0, 0) := rfl
theorem ct_189_39 : am_CT 189 39 = some (.invokevirtual 358, 42, 282, 1, 12) := rfl
theorem ct_189_42 : am_CT 189 42 = some (.aload 0, 43, 0, 0, 0) := rfl
theorem ct_189_43 : am_CT 189 43 = some (.iload 1, 44, 0, 0, 0) := rfl
theorem ct_189_44 : am_CT 189 44 = some (.iload 2, 45, 0, 0, 0) := rfl
theorem ct_189_45 : am_CT 189 45 = some (.invokevirtual 376, 48, 288, 2, 12) := rfl
theorem ct_189_48 : am_CT 189 48 = some (.istore 3, 49, 0, 0, 0) := rfl
theorem ct_189_49 : am_CT 189 49 = some (.iload 3, 50, 0, 0, 0) := rfl
theorem ct_189_50 : am_CT 189 50 = some (.aload 0, 51, 0, 0, 0) := rfl
theorem ct_189_51 : am_CT 189 51 = some (.iload 1, 52, 0, 0, 0) := rfl
theorem ct_189_52 : am_CT 189 52 = some (.bipush 1, 53, 0, 0, 0) := rfl
theorem ct_189_53 : am_CT 189 53 = some (.invokevirtual 373, 56, 287, 2, 12) := rfl
theorem ct_189_56 : am_CT 189 56 = some (.iadd, 57, 0, 0, 0) := rfl
theorem ct_189_57 : am_CT 189 57 = some (.ireturn, 58, 0, 0, 0) := rfl
theorem ct_189_58 : am_CT 189 58 = some (.aload 0, 59, 0, 0, 0) := rfl
theorem ct_189_59 : am_CT 189 59 = some (.bipush 60, 61, 0, 0, 0) := rfl
theorem ct_189_61 : am_CT 189 61 = some (.invokevirtual 358, 64, 282, 1, 12) := rfl
theorem ct_189_64 : am_CT 189 64 = some (.aload 0, 65, 0, 0, 0) := rfl
theorem ct_189_65 : am_CT 189 65 = some (.iload 1, 66, 0, 0, 0) := rfl
theorem ct_189_66 : am_CT 189 66 = some (.iload 2, 67, 0, 0, 0) := rfl
theorem ct_189_67 : am_CT 189 67 = some (.iload 1, 68, 0, 0, 0) := rfl
theorem ct_189_68 : am_CT 189 68 = some (.isub, 69, 0, 0, 0) := rfl
theorem ct_189_69 : am_CT 189 69 = some (.invokevirtual 376, 72, 288, 2, 12) := rfl
theorem ct_189_72 : am_CT 189 72 = some (.ireturn, 73, 0, 0, 0) := rfl
theorem ct_189_73 : am_CT 189 73 = some (.aload 0, 74, 0, 0, 0) := rfl
theorem ct_189_74 : am_CT 189 74 = some (.iload 1, 75, 0, 0, 0) := rfl
theorem ct_189_75 : am_CT 189 75 = some (.iload 2, 76, 0, 0, 0) := rfl
theorem ct_189_76 : am_CT 189 76 = some (.invokevirtual 376, 79, 288, 2, 12) := rfl
theorem ct_189_79 : am_CT 189 79 = some (.ireturn, 80, 0, 0, 0) := rfl
theorem ct_190_0 : am_CT 190 0 = some (.aload 0, 1, 0, 0, 0) := rfl
theorem ct_190_1 : am_CT 190 1 = some (.bipush 0, 2, 0, 0, 0) := rfl
theorem ct_190_2 : am_CT 190 2 = some (.putfield 208, 5, 65, 12, 0) := rfl
theorem ct_190_5 : am_CT 190 5 = some (.aload 0, 6, 0, 0, 0) := rfl
theorem ct_190_6 : am_CT 190 6 = some (.iload 1, 7, 0, 0, 0) := rfl
theorem ct_190_7 : am_CT 190 7 = some (.invokevirtual 231, 10, 220, 1, 12) := rfl
theorem ct_190_10 : am_CT 190 10 = some (.ifCond .eq 13, 13, 23, 0, 0) := rfl
theorem ct_190_13 : am_CT 190 13 = some (.aload 0, 14, 0, 0, 0) := rfl
theorem ct_190_14 : am_CT 190 14 = some (.iload 2, 15, 0, 0, 0) := rfl
theorem ct_190_15 : am_CT 190 15 = some (.bipush 0, 16, 0, 0, 0) := rfl
theorem ct_190_16 : am_CT 190 16 = some (.bipush 2, 17, 0, 0, 0) := rfl
theorem ct_190_17 : am_CT 190 17 = some (.invokevirtual 227, 20, 219, 3, 12) := rfl
theorem ct_190_20 : am_CT 190 20 = some (.ifCond .ne 5, 23, 25, 0, 0) := rfl
theorem ct_190_23 : am_CT 190 23 = some (.bipush 0, 24, 0, 0, 0) := rfl
theorem ct_190_24 : am_CT 190 24 = some (.ireturn, 25, 0, 0, 0) := rfl
theorem ct_190_25 : am_CT 190 25 = some (.iload 2, 26, 0, 0, 0) := rfl
theorem ct_190_26 : am_CT 190 26 = some (.ifCond .ne 12, 29, 38, 0, 0) := rfl
theorem ct_190_29 : am_CT 190 29 = some (.aload 0, 30, 0, 0, 0) := rfl
theorem ct_190_30 : am_CT 190 30 = some (.iload 1, 31, 0, 0, 0) := rfl
theorem ct_190_31 : am_CT 190 31 = some (.iload 3, 32, 0, 0, 0) := rfl
theorem ct_190_32 : am_CT 190 32 = some (.invokevirtual 364, 35, 284, 2, 12) := rfl
theorem ct_190_35 : am_CT 190 35 = some (.goto 23, 38, 58, 0, 0) := rfl
theorem ct_190_38 : am_CT 190 38 = some (.iload 2, 39, 0, 0, 0) := rfl
theorem ct_190_39 : am_CT 190 39 = some (.bipush 1, 40, 0, 0, 0) := rfl
theorem ct_190_40 : am_CT 190 40 = some (.if_icmp .ne 12, 43, 52, 0, 0) := rfl
theorem ct_190_43 : am_CT 190 43 = some (.aload 0, 44, 0, 0, 0) := rfl
theorem ct_190_44 : am_CT 190 44 = some (.iload 1, 45, 0, 0, 0) := rfl
theorem ct_190_45 : am_CT 190 45 = some (.iload 3, 46, 0, 0, 0) := rfl
theorem ct_190_46 : am_CT 190 46 = some (.invokevirtual 373, 49, 287, 2, 12) := rfl
theorem ct_190_49 : am_CT 190 49 = some (.goto 9, 52, 58, 0, 0) := rfl
theorem ct_190_52 : am_CT 190 52 = some (.aload 0, 53, 0, 0, 0) := rfl
theorem ct_190_53 : am_CT 190 53 = some (.iload 1, 54, 0, 0, 0) := rfl
theorem ct_190_54 : am_CT 190 54 = some (.iload 3, 55, 0, 0, 0) := rfl
theorem ct_190_55 : am_CT 190 55 = some (.invokevirtual 379, 58, 289, 2, 12) := rfl
theorem ct_190_58 : am_CT 190 58 = some (.ireturn, 59, 0, 0, 0) := rfl
theorem ct_191_0 : am_CT 191 0 = some (.aload 0, 1, 0, 0, 0) := rfl
theorem ct_191_1 : am_CT 191 1 = some (.iload 1, 2, 0, 0, 0) := rfl
theorem ct_191_2 : am_CT 191 2 = some (.bipush 0, 3, 0, 0, 0) := rfl
theorem ct_191_3 : am_CT 191 3 = some (.bipush 19, 5, 0, 0, 0) := rfl
theorem ct_191_5 : am_CT 191 5 = some (.invokevirtual 227, 8, 219, 3, 12) := rfl
theorem ct_191_8 : am_CT 191 8 = some (.ifCond .eq 20, 11, 28, 0, 0) := rfl
theorem ct_191_11 : am_CT 191 11 = some (.iload 1, 12, 0, 0, 0) := rfl
theorem ct_191_12 : am_CT 191 12 = some (.aload 0, 13, 0, 0, 0) := rfl
theorem ct_191_13 : am_CT 191 13 = some (.getfield 208, 16, 65, 12, 0) := rfl
theorem ct_191_16 : am_CT 191 16 = some (.if_icmp .ge 12, 19, 28, 0, 0) := rfl
theorem ct_191_19 : am_CT 191 19 = some (.aload 0, 20, 0, 0, 0) := rfl
theorem ct_191_20 : am_CT 191 20 = some (.getfield 211, 23, 66, 12, 2) := rfl
theorem ct_191_23 : am_CT 191 23 = some (.iload 1, 24, 0, 0, 0) := rfl
theorem ct_191_24 : am_CT 191 24 = some (.iaload, 25, 0, 0, 0) := rfl
theorem ct_191_25 : am_CT 191 25 = some (.goto 4, 28, 29, 0, 0) := rfl
theorem ct_191_28 : am_CT 191 28 = some (.bipush (-1), 29, 0, 0, 0) := rfl
theorem ct_191_29 : am_CT 191 29 = some (.ireturn, 30, 0, 0, 0) := rfl
theorem ct_192_0 : am_CT 192 0 = some (.aload 0, 1, 0, 0, 0) := rfl
theorem ct_192_1 : am_CT 192 1 = some (.iload 2, 2, 0, 0, 0) := rfl
theorem ct_192_2 : am_CT 192 2 = some (.bipush 0, 3, 0, 0, 0) := rfl
theorem ct_192_3 : am_CT 192 3 = some (.bipush 6, 5, 0, 0, 0) := rfl
theorem ct_192_5 : am_CT 192 5 = some (.invokevirtual 227, 8, 219, 3, 12) := rfl
theorem ct_192_8 : am_CT 192 8 = some (.ifCond .ne 6, 11, 14, 0, 0) := rfl
theorem ct_192_11 : am_CT 192 11 = some (.bipush (-2), 13, 0, 0, 0) := rfl
theorem ct_192_13 : am_CT 192 13 = some (.ireturn, 14, 0, 0, 0) := rfl
theorem ct_192_14 : am_CT 192 14 = some (.aload 0, 15, 0, 0, 0) := rfl
theorem ct_192_15 : am_CT 192 15 = some (.iload 1, 16, 0, 0, 0) := rfl
theorem ct_192_16 : am_CT 192 16 = some (.invokevirtual 231, 19, 220, 1, 12) := rfl
theorem ct_192_19 : am_CT 192 19 = some (.ifCond .ne 6, 22, 25, 0, 0) := rfl
theorem ct_192_22 : am_CT 192 22 = some (.bipush (-11), 24, 0, 0, 0) := rfl
theorem ct_192_24 : am_CT 192 24 = some (.ireturn, 25, 0, 0, 0) := rfl
theorem ct_192_25 : am_CT 192 25 = some (.aload 0, 26, 0, 0, 0) := rfl
theorem ct_192_26 : am_CT 192 26 = some (.getfield 16, 29, 2, 12, 2) := rfl
theorem ct_192_29 : am_CT 192 29 = some (.iload 1, 30, 0, 0, 0) := rfl
theorem ct_192_30 : am_CT 192 30 = some (.iaload, 31, 0, 0, 0) := rfl
theorem ct_192_31 : am_CT 192 31 = some (.istore 3, 32, 0, 0, 0) := rfl
theorem ct_192_32 : am_CT 192 32 = some (.iload 2, 33, 0, 0, 0) := rfl
theorem ct_192_33 : am_CT 192 33 = some (.ifCond .eq 39, 36, 72, 0, 0) := rfl
theorem ct_192_36 : am_CT 192 36 = some (.iload 3, 37, 0, 0, 0) := rfl
theorem ct_192_37 : am_CT 192 37 = some (.iload 2, 38, 0, 0, 0) := rfl
theorem ct_192_38 : am_CT 192 38 = some (.if_icmp .eq 34, 41, 72, 0, 0) := rfl
theorem ct_192_41 : am_CT 192 41 = some (.iload 2, 42, 0, 0, 0) := rfl
theorem ct_192_42 : am_CT 192 42 = some (.bipush 1, 43, 0, 0, 0) := rfl
theorem ct_192_43 : am_CT 192 43 = some (.if_icmp .ne 8, 46, 51, 0, 0) := rfl
theorem ct_192_46 : am_CT 192 46 = some (.iload 3, 47, 0, 0, 0) := rfl
theorem ct_192_47 : am_CT 192 47 = some (.bipush 4, 48, 0, 0, 0) := rfl
theorem ct_192_48 : am_CT 192 48 = some (.if_icmp .eq 24, 51, 72, 0, 0) := rfl
theorem ct_192_51 : am_CT 192 51 = some (.iload 2, 52, 0, 0, 0) := rfl
theorem ct_192_52 : am_CT 192 52 = some (.bipush 2, 53, 0, 0, 0) := rfl
theorem ct_192_53 : am_CT 192 53 = some (.if_icmp .ne 8, 56, 61, 0, 0) := rfl
theorem ct_192_56 : am_CT 192 56 = some (.iload 3, 57, 0, 0, 0) := rfl
theorem ct_192_57 : am_CT 192 57 = some (.bipush 5, 58, 0, 0, 0) := rfl
theorem ct_192_58 : am_CT 192 58 = some (.if_icmp .eq 14, 61, 72, 0, 0) := rfl
theorem ct_192_61 : am_CT 192 61 = some (.iload 2, 62, 0, 0, 0) := rfl
theorem ct_192_62 : am_CT 192 62 = some (.bipush 3, 63, 0, 0, 0) := rfl
theorem ct_192_63 : am_CT 192 63 = some (.if_icmp .ne 13, 66, 76, 0, 0) := rfl
theorem ct_192_66 : am_CT 192 66 = some (.iload 3, 67, 0, 0, 0) := rfl
theorem ct_192_67 : am_CT 192 67 = some (.bipush 6, 69, 0, 0, 0) := rfl
theorem ct_192_69 : am_CT 192 69 = some (.if_icmp .ne 7, 72, 76, 0, 0) := rfl
theorem ct_192_72 : am_CT 192 72 = some (.iload 3, 73, 0, 0, 0) := rfl
theorem ct_192_73 : am_CT 192 73 = some (.goto 5, 76, 78, 0, 0) := rfl
theorem ct_192_76 : am_CT 192 76 = some (.bipush (-12), 78, 0, 0, 0) := rfl
theorem ct_192_78 : am_CT 192 78 = some (.ireturn, 79, 0, 0, 0) := rfl
theorem ct_193_0 : am_CT 193 0 = some (.iload 1, 1, 0, 0, 0) := rfl
theorem ct_193_1 : am_CT 193 1 = some (.tableswitch 69 0 5 #[39, 44, 49, 54, 59, 64], 40, 0, 0, 0) := rfl
theorem ct_193_40 : am_CT 193 40 = some (.aload 0, 41, 0, 0, 0) := rfl
theorem ct_193_41 : am_CT 193 41 = some (.getfield 7, 44, 0, 12, 0) := rfl
theorem ct_193_44 : am_CT 193 44 = some (.ireturn, 45, 0, 0, 0) := rfl
theorem ct_193_45 : am_CT 193 45 = some (.aload 0, 46, 0, 0, 0) := rfl
theorem ct_193_46 : am_CT 193 46 = some (.getfield 38, 49, 9, 12, 0) := rfl
theorem ct_193_49 : am_CT 193 49 = some (.ireturn, 50, 0, 0, 0) := rfl
theorem ct_193_50 : am_CT 193 50 = some (.aload 0, 51, 0, 0, 0) := rfl
theorem ct_193_51 : am_CT 193 51 = some (.getfield 133, 54, 40, 12, 0) := rfl
theorem ct_193_54 : am_CT 193 54 = some (.ireturn, 55, 0, 0, 0) := rfl
theorem ct_193_55 : am_CT 193 55 = some (.aload 0, 56, 0, 0, 0) := rfl
theorem ct_193_56 : am_CT 193 56 = some (.getfield 145, 59, 44, 12, 0) := rfl
theorem ct_193_59 : am_CT 193 59 = some (.ireturn, 60, 0, 0, 0) := rfl
theorem ct_193_60 : am_CT 193 60 = some (.aload 0, 61, 0, 0, 0) := rfl
theorem ct_193_61 : am_CT 193 61 = some (.getfield 44, 64, 11, 12, 0) := rfl
theorem ct_193_64 : am_CT 193 64 = some (.ireturn, 65, 0, 0, 0) := rfl
theorem ct_193_65 : am_CT 193 65 = some (.aload 0, 66, 0, 0, 0) := rfl
theorem ct_193_66 : am_CT 193 66 = some (.getfield 208, 69, 65, 12, 0) := rfl
theorem ct_193_69 : am_CT 193 69 = some (.ireturn, 70, 0, 0, 0) := rfl
theorem ct_193_70 : am_CT 193 70 = some (.bipush (-2), 72, 0, 0, 0) := rfl
theorem ct_193_72 : am_CT 193 72 = some (.ireturn, 73, 0, 0, 0) := rfl
theorem ct_194_0 : am_CT 194 0 = some (.aload 0, 1, 0, 0, 0) := rfl
theorem ct_194_1 : am_CT 194 1 = some (.iload 1, 2, 0, 0, 0) := rfl
theorem ct_194_2 : am_CT 194 2 = some (.bipush 0, 3, 0, 0, 0) := rfl
theorem ct_194_3 : am_CT 194 3 = some (.bipush 5, 4, 0, 0, 0) := rfl
theorem ct_194_4 : am_CT 194 4 = some (.invokevirtual 227, 7, 219, 3, 12) := rfl
theorem ct_194_7 : am_CT 194 7 = some (.ireturn, 8, 1, 0, 0) := rfl
theorem ct_195_0 : am_CT 195 0 = some (.aload 0, 1, 0, 0, 0) := rfl
theorem ct_195_1 : am_CT 195 1 = some (.iload 1, 2, 0, 0, 0) := rfl
theorem ct_195_2 : am_CT 195 2 = some (.invokevirtual 355, 5, 294, 1, 12) := rfl
theorem ct_195_5 : am_CT 195 5 = some (.ifCond .ne 5, 8, 10, 0, 0) := rfl
theorem ct_195_8 : am_CT 195 8 = some (.bipush (-1), 9, 0, 0, 0) := rfl
theorem ct_195_9 : am_CT 195 9 = some (.ireturn, 10, 0, 0, 0) := rfl
theorem ct_195_10 : am_CT 195 10 = some (.aload 0, 11, 0, 0, 0) := rfl
theorem ct_195_11 : am_CT 195 11 = some (.iload 2, 12, 0, 0, 0) := rfl
theorem ct_195_12 : am_CT 195 12 = some (.bipush (-1), 13, 0, 0, 0) := rfl
theorem ct_195_13 : am_CT 195 13 = some (.bipush 4, 14, 0, 0, 0) := rfl
theorem ct_195_14 : am_CT 195 14 = some (.invokevirtual 227, 17, 219, 3, 12) := rfl
theorem ct_195_17 : am_CT 195 17 = some (.ifCond .eq 13, 20, 30, 0, 0) := rfl
theorem ct_195_20 : am_CT 195 20 = some (.iload 2, 21, 0, 0, 0) := rfl
theorem ct_195_21 : am_CT 195 21 = some (.ifCond .lt 12, 24, 33, 0, 0) := rfl
theorem ct_195_24 : am_CT 195 24 = some (.iload 3, 25, 0, 0, 0) := rfl
theorem ct_195_25 : am_CT 195 25 = some (.bipush 60, 27, 0, 0, 0) := rfl
theorem ct_195_27 : am_CT 195 27 = some (.if_icmp .le 6, 30, 33, 0, 0) := rfl
theorem ct_195_30 : am_CT 195 30 = some (.bipush (-2), 32, 0, 0, 0) := rfl
theorem ct_195_32 : am_CT 195 32 = some (.ireturn, 33, 0, 0, 0) := rfl
theorem ct_195_33 : am_CT 195 33 = some (.iload 2, 34, 0, 0, 0) := rfl
theorem ct_195_34 : am_CT 195 34 = some (.ifCond .lt 10, 37, 44, 0, 0) := rfl
theorem ct_195_37 : am_CT 195 37 = some (.iload 3, 38, 0, 0, 0) := rfl
theorem ct_195_38 : am_CT 195 38 = some (.ifCond .ge 6, 41, 44, 0, 0) := rfl
theorem ct_195_41 : am_CT 195 41 = some (.bipush (-14), 43, 0, 0, 0) := rfl
theorem ct_195_43 : am_CT 195 43 = some (.ireturn, 44, 0, 0, 0) := rfl
theorem ct_195_44 : am_CT 195 44 = some (.aload 0, 45, 0, 0, 0) := rfl
theorem ct_195_45 : am_CT 195 45 = some (.getfield 214, 48, 67, 12, 2) := rfl
theorem ct_195_48 : am_CT 195 48 = some (.iload 1, 49, 0, 0, 0) := rfl
theorem ct_195_49 : am_CT 195 49 = some (.iload 2, 50, 0, 0, 0) := rfl
theorem ct_195_50 : am_CT 195 50 = some (.iastore, 51, 0, 0, 0) := rfl
theorem ct_195_51 : am_CT 195 51 = some (.aload 0, 52, 0, 0, 0) := rfl
theorem ct_195_52 : am_CT 195 52 = some (.getfield 217, 55, 68, 12, 2) := rfl
theorem ct_195_55 : am_CT 195 55 = some (.iload 1, 56, 0, 0, 0) := rfl
theorem ct_195_56 : am_CT 195 56 = some (.iload 2, 57, 0, 0, 0) := rfl
theorem ct_195_57 : am_CT 195 57 = some (.ifCond .ge 7, 60, 64, 0, 0) := rfl
theorem ct_195_60 : am_CT 195 60 = some (.bipush 0, 61, 0, 0, 0) := rfl
theorem ct_195_61 : am_CT 195 61 = some (.goto 4, 64, 65, 0, 0) := rfl
theorem ct_195_64 : am_CT 195 64 = some (.iload 3, 65, 0, 0, 0) := rfl
theorem ct_195_65 : am_CT 195 65 = some (.iastore, 66, 0, 0, 0) := rfl
theorem ct_195_66 : am_CT 195 66 = some (.bipush 0, 67, 0, 0, 0) := rfl
theorem ct_195_67 : am_CT 195 67 = some (.istore 4, 69, 0, 0, 0) := rfl
theorem ct_195_69 : am_CT 195 69 = some (.iload 4, 71, 0, 0, 0) := rfl
theorem ct_195_71 : am_CT 195 71 = some (.bipush 60, 73, 0, 0, 0) := rfl
theorem ct_195_73 : am_CT 195 73 = some (.if_icmp .ge 22, 76, 95, 0, 0) := rfl
theorem ct_195_76 : am_CT 195 76 = some (.aload 0, 77, 0, 0, 0) := rfl
theorem ct_195_77 : am_CT 195 77 = some (.getfield 220, 80, 69, 12, 2) := rfl
theorem ct_195_80 : am_CT 195 80 = some (.bipush 60, 82, 0, 0, 0) := rfl
theorem ct_195_82 : am_CT 195 82 = some (.iload 1, 83, 0, 0, 0) := rfl
theorem ct_195_83 : am_CT 195 83 = some (.imul, 84, 0, 0, 0) := rfl
theorem ct_195_84 : am_CT 195 84 = some (.iload 4, 86, 0, 0, 0) := rfl
theorem ct_195_86 : am_CT 195 86 = some (.iadd, 87, 0, 0, 0) := rfl
theorem ct_195_87 : am_CT 195 87 = some (.sipush 0, 88, 0, 0, 0) := rfl
theorem ct_195_88 : am_CT 195 88 = some (.lastore, 89, 0, 0, 0) := rfl
theorem ct_195_89 : am_CT 195 89 = some (.iinc 4 1, 92, 0, 0, 0) := rfl
theorem ct_195_92 : am_CT 195 92 = some (.goto (-23), 95, 69, 0, 0) := rfl
theorem ct_195_95 : am_CT 195 95 = some (.bipush 1, 96, 0, 0, 0) := rfl
theorem ct_195_96 : am_CT 195 96 = some (.ireturn, 97, 0, 0, 0) := rfl
theorem ct_196_0 : am_CT 196 0 = some (.iload 1, 1, 0, 0, 0) := rfl
theorem ct_196_1 : am_CT 196 1 = some (.ifCond .ne 10, 4, 11, 0, 0) := rfl
theorem ct_196_4 : am_CT 196 4 = some (.lload 2, 5, 0, 0, 0) := rfl
theorem ct_196_5 : am_CT 196 5 = some (.l2i, 6, 0, 0, 0) := rfl
theorem ct_196_6 : am_CT 196 6 = some (.i2b, 7, 0, 0, 0) := rfl
theorem ct_196_7 : am_CT 196 7 = some (.i2l, 8, 0, 0, 0) := rfl
theorem ct_196_8 : am_CT 196 8 = some (.goto 46, 11, 54, 0, 0) := rfl
theorem ct_196_11 : am_CT 196 11 = some (.iload 1, 12, 0, 0, 0) := rfl
theorem ct_196_12 : am_CT 196 12 = some (.bipush 1, 13, 0, 0, 0) := rfl
theorem ct_196_13 : am_CT 196 13 = some (.if_icmp .ne 10, 16, 23, 0, 0) := rfl
theorem ct_196_16 : am_CT 196 16 = some (.lload 2, 17, 0, 0, 0) := rfl
theorem ct_196_17 : am_CT 196 17 = some (.l2i, 18, 0, 0, 0) := rfl
theorem ct_196_18 : am_CT 196 18 = some (.i2s, 19, 0, 0, 0) := rfl
theorem ct_196_19 : am_CT 196 19 = some (.i2l, 20, 0, 0, 0) := rfl
theorem ct_196_20 : am_CT 196 20 = some (.goto 34, 23, 54, 0, 0) := rfl
theorem ct_196_23 : am_CT 196 23 = some (.iload 1, 24, 0, 0, 0) := rfl
theorem ct_196_24 : am_CT 196 24 = some (.bipush 2, 25, 0, 0, 0) := rfl
theorem ct_196_25 : am_CT 196 25 = some (.if_icmp .ne 9, 28, 34, 0, 0) := rfl
theorem ct_196_28 : am_CT 196 28 = some (.lload 2, 29, 0, 0, 0) := rfl
theorem ct_196_29 : am_CT 196 29 = some (.l2i, 30, 0, 0, 0) := rfl
theorem ct_196_30 : am_CT 196 30 = some (.i2l, 31, 0, 0, 0) := rfl
theorem ct_196_31 : am_CT 196 31 = some (.goto 23, 34, 54, 0, 0) := rfl
theorem ct_196_34 : am_CT 196 34 = some (.iload 1, 35, 0, 0, 0) := rfl
theorem ct_196_35 : am_CT 196 35 = some (.bipush 4, 36, 0, 0, 0) := rfl
theorem ct_196_36 : am_CT 196 36 = some (.if_icmp .ne 17, 39, 53, 0, 0) := rfl
theorem ct_196_39 : am_CT 196 39 = some (.lload 2, 40, 0, 0, 0) := rfl
theorem ct_196_40 : am_CT 196 40 = some (.sipush 0, 41, 0, 0, 0) := rfl
theorem ct_196_41 : am_CT 196 41 = some (.lcmp, 42, 0, 0, 0) := rfl
theorem ct_196_42 : am_CT 196 42 = some (.ifCond .eq 7, 45, 49, 0, 0) := rfl
theorem ct_196_45 : am_CT 196 45 = some (.sipush 1, 46, 0, 0, 0) := rfl
theorem ct_196_46 : am_CT 196 46 = some (.goto 8, 49, 54, 0, 0) := rfl
theorem ct_196_49 : am_CT 196 49 = some (.sipush 0, 50, 0, 0, 0) := rfl
theorem ct_196_50 : am_CT 196 50 = some (.goto 4, 53, 54, 0, 0) := rfl
theorem ct_196_53 : am_CT 196 53 = some (.lload 2, 54, 0, 0, 0) := rfl
theorem ct_196_54 : am_CT 196 54 = some (.lreturn, 55, 0, 0, 0) := rfl
theorem ct_197_0 : am_CT 197 0 = some (.aload 0, 1, 0, 0, 0) := rfl
theorem ct_197_1 : am_CT 197 1 = some (.iload 1, 2, 0, 0, 0) := rfl
theorem ct_197_2 : am_CT 197 2 = some (.invokevirtual 355, 5, 294, 1, 12) := rfl
theorem ct_197_5 : am_CT 197 5 = some (.ifCond .ne 5, 8, 10, 0, 0) := rfl
theorem ct_197_8 : am_CT 197 8 = some (.bipush (-1), 9, 0, 0, 0) := rfl
theorem ct_197_9 : am_CT 197 9 = some (.ireturn, 10, 0, 0, 0) := rfl
theorem ct_197_10 : am_CT 197 10 = some (.aload 0, 11, 0, 0, 0) := rfl
theorem ct_197_11 : am_CT 197 11 = some (.getfield 214, 14, 67, 12, 2) := rfl
theorem ct_197_14 : am_CT 197 14 = some (.iload 1, 15, 0, 0, 0) := rfl
theorem ct_197_15 : am_CT 197 15 = some (.iaload, 16, 0, 0, 0) := rfl
theorem ct_197_16 : am_CT 197 16 = some (.ifCond .ge 6, 19, 22, 0, 0) := rfl
theorem ct_197_19 : am_CT 197 19 = some (.bipush (-11), 21, 0, 0, 0) := rfl
theorem ct_197_21 : am_CT 197 21 = some (.ireturn, 22, 0, 0, 0) := rfl
theorem ct_197_22 : am_CT 197 22 = some (.aload 0, 23, 0, 0, 0) := rfl
theorem ct_197_23 : am_CT 197 23 = some (.iload 2, 24, 0, 0, 0) := rfl
theorem ct_197_24 : am_CT 197 24 = some (.bipush 0, 25, 0, 0, 0) := rfl
theorem ct_197_25 : am_CT 197 25 = some (.aload 0, 26, 0, 0, 0) := rfl
theorem ct_197_26 : am_CT 197 26 = some (.getfield 217, 29, 68, 12, 2) := rfl
theorem ct_197_29 : am_CT 197 29 = some (.iload 1, 30, 0, 0, 0) := rfl
theorem ct_197_30 : am_CT 197 30 = some (.iaload, 31, 0, 0, 0) := rfl
theorem ct_197_31 : am_CT 197 31 = some (.bipush 1, 32, 0, 0, 0) := rfl
theorem ct_197_32 : am_CT 197 32 = some (.isub, 33, 0, 0, 0) := rfl
theorem ct_197_33 : am_CT 197 33 = some (.invokevirtual 227, 36, 219, 3, 12) := rfl
theorem ct_197_36 : am_CT 197 36 = some (.ifCond .ne 6, 39, 42, 0, 0) := rfl
theorem ct_197_39 : am_CT 197 39 = some (.bipush (-13), 41, 0, 0, 0) := rfl
theorem ct_197_41 : am_CT 197 41 = some (.ireturn, 42, 0, 0, 0) := rfl
theorem ct_197_42 : am_CT 197 42 = some (.aload 0, 43, 0, 0, 0) := rfl
theorem ct_197_43 : am_CT 197 43 = some (.getfield 220, 46, 69, 12, 2) := rfl
theorem ct_197_46 : am_CT 197 46 = some (.bipush 60, 48, 0, 0, 0) := rfl
theorem ct_197_48 : am_CT 197 48 = some (.iload 1, 49, 0, 0, 0) := rfl
theorem ct_197_49 : am_CT 197 49 = some (.imul, 50, 0, 0, 0) := rfl
theorem ct_197_50 : am_CT 197 50 = some (.iload 2, 51, 0, 0, 0) := rfl
theorem ct_197_51 : am_CT 197 51 = some (.iadd, 52, 0, 0, 0) := rfl
theorem ct_197_52 : am_CT 197 52 = some (.aload 0, 53, 0, 0, 0) := rfl
theorem ct_197_53 : am_CT 197 53 = some (.aload 0, 54, 0, 0, 0) := rfl
theorem ct_197_54 : am_CT 197 54 = some (.getfield 214, 57, 67, 12, 2) := rfl
theorem ct_197_57 : am_CT 197 57 = some (.iload 1, 58, 0, 0, 0) := rfl
theorem ct_197_58 : am_CT 197 58 = some (.iaload, 59, 0, 0, 0) := rfl
theorem ct_197_59 : am_CT 197 59 = some (.lload 3, 60, 0, 0, 0) := rfl
theorem ct_197_60 : am_CT 197 60 = some (.invokevirtual 382, 63, 296, 2, 12) := rfl
theorem ct_197_63 : am_CT 197 63 = some (.lastore, 64, 0, 0, 0) := rfl
theorem ct_197_64 : am_CT 197 64 = some (.bipush 1, 65, 0, 0, 0) := rfl
theorem ct_197_65 : am_CT 197 65 = some (.ireturn, 66, 0, 0, 0) := rfl
theorem ct_198_0 : am_CT 198 0 = some (.aload 0, 1, 0, 0, 0) := rfl
theorem ct_198_1 : am_CT 198 1 = some (.iload 1, 2, 0, 0, 0) := rfl
theorem ct_198_2 : am_CT 198 2 = some (.invokevirtual 355, 5, 294, 1, 12) := rfl
theorem ct_198_5 : am_CT 198 5 = some (.ifCond .eq 29, 8, 34, 0, 0) := rfl
theorem ct_198_8 : am_CT 198 8 = some (.aload 0, 9, 0, 0, 0) := rfl
theorem ct_198_9 : am_CT 198 9 = some (.getfield 214, 12, 67, 12, 2) := rfl
theorem ct_198_12 : am_CT 198 12 = some (.iload 1, 13, 0, 0, 0) := rfl
theorem ct_198_13 : am_CT 198 13 = some (.iaload, 14, 0, 0, 0) := rfl
theorem ct_198_14 : am_CT 198 14 = some (.ifCond .lt 20, 17, 34, 0, 0) := rfl
theorem ct_198_17 : am_CT 198 17 = some (.aload 0, 18, 0, 0, 0) := rfl
theorem ct_198_18 : am_CT 198 18 = some (.iload 2, 19, 0, 0, 0) := rfl
theorem ct_198_19 : am_CT 198 19 = some (.bipush 0, 20, 0, 0, 0) := rfl
theorem ct_198_20 : am_CT 198 20 = some (.aload 0, 21, 0, 0, 0) := rfl
theorem ct_198_21 : am_CT 198 21 = some (.getfield 217, 24, 68, 12, 2) := rfl
theorem ct_198_24 : am_CT 198 24 = some (.iload 1, 25, 0, 0, 0) := rfl
theorem ct_198_25 : am_CT 198 25 = some (.iaload, 26, 0, 0, 0) := rfl
theorem ct_198_26 : am_CT 198 26 = some (.bipush 1, 27, 0, 0, 0) := rfl
theorem ct_198_27 : am_CT 198 27 = some (.isub, 28, 0, 0, 0) := rfl
theorem ct_198_28 : am_CT 198 28 = some (.invokevirtual 227, 31, 219, 3, 12) := rfl
theorem ct_198_31 : am_CT 198 31 = some (.ifCond .ne 9, 34, 40, 0, 0) := rfl
theorem ct_198_34 : am_CT 198 34 = some (.sipush (-9223372036854775808), 37, 345, 1, 0) := rfl
theorem ct_198_37 : am_CT 198 37 = some (.goto 14, 40, 51, 0, 0) := rfl
theorem ct_198_40 : am_CT 198 40 = some (.aload 0, 41, 0, 0, 0) := rfl
theorem ct_198_41 : am_CT 198 41 = some (.getfield 220, 44, 69, 12, 2) := rfl
theorem ct_198_44 : am_CT 198 44 = some (.bipush 60, 46, 0, 0, 0) := rfl
theorem ct_198_46 : am_CT 198 46 = some (.iload 1, 47, 0, 0, 0) := rfl
theorem ct_198_47 : am_CT 198 47 = some (.imul, 48, 0, 0, 0) := rfl
theorem ct_198_48 : am_CT 198 48 = some (.iload 2, 49, 0, 0, 0) := rfl
theorem ct_198_49 : am_CT 198 49 = some (.iadd, 50, 0, 0, 0) := rfl
theorem ct_198_50 : am_CT 198 50 = some (.laload, 51, 0, 0, 0) := rfl
theorem ct_198_51 : am_CT 198 51 = some (.lreturn, 52, 0, 0, 0) := rfl
theorem ct_199_0 : am_CT 199 0 = some (.aload 0, 1, 0, 0, 0) := rfl
theorem ct_199_1 : am_CT 199 1 = some (.iload 1, 2, 0, 0, 0) := rfl
theorem ct_199_2 : am_CT 199 2 = some (.invokevirtual 355, 5, 294, 1, 12) := rfl
theorem ct_199_5 : am_CT 199 5 = some (.ifCond .eq 11, 8, 16, 0, 0) := rfl
theorem ct_199_8 : am_CT 199 8 = some (.aload 0, 9, 0, 0, 0) := rfl
theorem ct_199_9 : am_CT 199 9 = some (.iload 3, 10, 0, 0, 0) := rfl
theorem ct_199_10 : am_CT 199 10 = some (.invokevirtual 355, 13, 294, 1, 12) := rfl
theorem ct_199_13 : am_CT 199 13 = some (.ifCond .ne 5, 16, 18, 0, 0) := rfl
theorem ct_199_16 : am_CT 199 16 = some (.bipush (-1), 17, 0, 0, 0) := rfl
theorem ct_199_17 : am_CT 199 17 = some (.ireturn, 18, 0, 0, 0) := rfl
theorem ct_199_18 : am_CT 199 18 = some (.aload 0, 19, 0, 0, 0) := rfl
theorem ct_199_19 : am_CT 199 19 = some (.getfield 214, 22, 67, 12, 2) := rfl
theorem ct_199_22 : am_CT 199 22 = some (.iload 1, 23, 0, 0, 0) := rfl
theorem ct_199_23 : am_CT 199 23 = some (.iaload, 24, 0, 0, 0) := rfl
theorem ct_199_24 : am_CT 199 24 = some (.ifCond .lt 12, 27, 36, 0, 0) := rfl
theorem ct_199_27 : am_CT 199 27 = some (.aload 0, 28, 0, 0, 0) := rfl
theorem ct_199_28 : am_CT 199 28 = some (.getfield 214, 31, 67, 12, 2) := rfl
theorem ct_199_31 : am_CT 199 31 = some (.iload 3, 32, 0, 0, 0) := rfl
theorem ct_199_32 : am_CT 199 32 = some (.iaload, 33, 0, 0, 0) := rfl
theorem ct_199_33 : am_CT 199 33 = some (.ifCond .ge 6, 36, 39, 0, 0) := rfl
theorem ct_199_36 : am_CT 199 36 = some (.bipush (-11), 38, 0, 0, 0) := rfl
theorem ct_199_38 : am_CT 199 38 = some (.ireturn, 39, 0, 0, 0) := rfl
theorem ct_199_39 : am_CT 199 39 = some (.aload 0, 40, 0, 0, 0) := rfl
theorem ct_199_40 : am_CT 199 40 = some (.getfield 214, 43, 67, 12, 2) := rfl
theorem ct_199_43 : am_CT 199 43 = some (.iload 1, 44, 0, 0, 0) := rfl
theorem ct_199_44 : am_CT 199 44 = some (.iaload, 45, 0, 0, 0) := rfl
theorem ct_199_45 : am_CT 199 45 = some (.aload 0, 46, 0, 0, 0) := rfl
theorem ct_199_46 : am_CT 199 46 = some (.getfield 214, 49, 67, 12, 2) := rfl
theorem ct_199_49 : am_CT 199 49 = some (.iload 3, 50, 0, 0, 0) := rfl
theorem ct_199_50 : am_CT 199 50 = some (.iaload, 51, 0, 0, 0) := rfl
theorem ct_199_51 : am_CT 199 51 = some (.if_icmp .eq 6, 54, 57, 0, 0) := rfl
theorem ct_199_54 : am_CT 199 54 = some (.bipush (-12), 56, 0, 0, 0) := rfl
theorem ct_199_56 : am_CT 199 56 = some (.ireturn, 57, 0, 0, 0) := rfl
theorem ct_199_57 : am_CT 199 57 = some (.iload 5, 59, 0, 0, 0) := rfl
theorem ct_199_59 : am_CT 199 59 = some (.ifCond .lt 39, 62, 98, 0, 0) := rfl
theorem ct_199_62 : am_CT 199 62 = some (.iload 2, 63, 0, 0, 0) := rfl
theorem ct_199_63 : am_CT 199 63 = some (.ifCond .lt 35, 66, 98, 0, 0) := rfl
theorem ct_199_66 : am_CT 199 66 = some (.iload 4, 68, 0, 0, 0) := rfl
theorem ct_199_68 : am_CT 199 68 = some (.ifCond .lt 30, 71, 98, 0, 0) := rfl
theorem ct_199_71 : am_CT 199 71 = some (.iload 2, 72, 0, 0, 0) := rfl
theorem ct_199_72 : am_CT 199 72 = some (.aload 0, 73, 0, 0, 0) := rfl
theorem ct_199_73 : am_CT 199 73 = some (.getfield 217, 76, 68, 12, 2) := rfl
theorem ct_199_76 : am_CT 199 76 = some (.iload 1, 77, 0, 0, 0) := rfl
theorem ct_199_77 : am_CT 199 77 = some (.iaload, 78, 0, 0, 0) := rfl
theorem ct_199_78 : am_CT 199 78 = some (.iload 5, 80, 0, 0, 0) := rfl
theorem ct_199_80 : am_CT 199 80 = some (.isub, 81, 0, 0, 0) := rfl
theorem ct_199_81 : am_CT 199 81 = some (.if_icmp .gt 17, 84, 98, 0, 0) := rfl
theorem ct_199_84 : am_CT 199 84 = some (.iload 4, 86, 0, 0, 0) := rfl
theorem ct_199_86 : am_CT 199 86 = some (.aload 0, 87, 0, 0, 0) := rfl
theorem ct_199_87 : am_CT 199 87 = some (.getfield 217, 90, 68, 12, 2) := rfl
theorem ct_199_90 : am_CT 199 90 = some (.iload 3, 91, 0, 0, 0) := rfl
theorem ct_199_91 : am_CT 199 91 = some (.iaload, 92, 0, 0, 0) := rfl
theorem ct_199_92 : am_CT 199 92 = some (.iload 5, 94, 0, 0, 0) := rfl
theorem ct_199_94 : am_CT 199 94 = some (.isub, 95, 0, 0, 0) := rfl
theorem ct_199_95 : am_CT 199 95 = some (.if_icmp .le 6, 98, 101, 0, 0) := rfl
theorem ct_199_98 : am_CT 199 98 = some (.bipush (-13), 100, 0, 0, 0) := rfl
theorem ct_199_100 : am_CT 199 100 = some (.ireturn, 101, 0, 0, 0) := rfl
theorem ct_199_101 : am_CT 199 101 = some (.bipush 0, 102, 0, 0, 0) := rfl
theorem ct_199_102 : am_CT 199 102 = some (.istore 6, 104, 0, 0, 0) := rfl
theorem ct_199_104 : am_CT 199 104 = some (.iload 6, 106, 0, 0, 0) := rfl
theorem ct_199_106 : am_CT 199 106 = some (.iload 5, 108, 0, 0, 0) := rfl
theorem ct_199_108 : am_CT 199 108 = some (.if_icmp .ge 30, 111, 138, 0, 0) := rfl
theorem ct_199_111 : am_CT 199 111 = some (.aload 0, 112, 0, 0, 0) := rfl
theorem ct_199_112 : am_CT 199 112 = some (.getfield 224, 115, 70, 12, 2) := rfl
theorem ct_199_115 : am_CT 199 115 = some (.iload 6, 117, 0, 0, 0) := rfl
theorem ct_199_117 : am_CT 199 117 = some (.aload 0, 118, 0, 0, 0) := rfl
theorem ct_199_118 : am_CT 199 118 = some (.getfield 220, 121, 69, 12, 2) := rfl
theorem ct_199_121 : am_CT 199 121 = some (.bipush 60, 123, 0, 0, 0) := rfl
theorem ct_199_123 : am_CT 199 123 = some (.iload 1, 124, 0, 0, 0) := rfl
theorem ct_199_124 : am_CT 199 124 = some (.imul, 125, 0, 0, 0) := rfl
theorem ct_199_125 : am_CT 199 125 = some (.iload 2, 126, 0, 0, 0) := rfl
theorem ct_199_126 : am_CT 199 126 = some (.iadd, 127, 0, 0, 0) := rfl
theorem ct_199_127 : am_CT 199 127 = some (.iload 6, 129, 0, 0, 0) := rfl
theorem ct_199_129 : am_CT 199 129 = some (.iadd, 130, 0, 0, 0) := rfl
theorem ct_199_130 : am_CT 199 130 = some (.laload, 131, 0, 0, 0) := rfl
theorem ct_199_131 : am_CT 199 131 = some (.lastore, 132, 0, 0, 0) := rfl
theorem ct_199_132 : am_CT 199 132 = some (.iinc 6 1, 135, 0, 0, 0) := rfl
theorem ct_199_135 : am_CT 199 135 = some (.goto (-31), 138, 104, 0, 0) := rfl
theorem ct_199_138 : am_CT 199 138 = some (.bipush 0, 139, 0, 0, 0) := rfl
theorem ct_199_139 : am_CT 199 139 = some (.istore 6, 141, 0, 0, 0) := rfl
theorem ct_199_141 : am_CT 199 141 = some (.iload 6, 143, 0, 0, 0) := rfl
theorem ct_199_143 : am_CT 199 143 = some (.iload 5, 145, 0, 0, 0) := rfl
theorem ct_199_145 : am_CT 199 145 = some (.if_icmp .ge 31, 148, 176, 0, 0) := rfl
theorem ct_199_148 : am_CT 199 148 = some (.aload 0, 149, 0, 0, 0) := rfl
theorem ct_199_149 : am_CT 199 149 = some (.getfield 220, 152, 69, 12, 2) := rfl
theorem ct_199_152 : am_CT 199 152 = some (.bipush 60, 154, 0, 0, 0) := rfl
theorem ct_199_154 : am_CT 199 154 = some (.iload 3, 155, 0, 0, 0) := rfl
theorem ct_199_155 : am_CT 199 155 = some (.imul, 156, 0, 0, 0) := rfl
theorem ct_199_156 : am_CT 199 156 = some (.iload 4, 158, 0, 0, 0) := rfl
theorem ct_199_158 : am_CT 199 158 = some (.iadd, 159, 0, 0, 0) := rfl
theorem ct_199_159 : am_CT 199 159 = some (.iload 6, 161, 0, 0, 0) := rfl
theorem ct_199_161 : am_CT 199 161 = some (.iadd, 162, 0, 0, 0) := rfl
theorem ct_199_162 : am_CT 199 162 = some (.aload 0, 163, 0, 0, 0) := rfl
theorem ct_199_163 : am_CT 199 163 = some (.getfield 224, 166, 70, 12, 2) := rfl
theorem ct_199_166 : am_CT 199 166 = some (.iload 6, 168, 0, 0, 0) := rfl
theorem ct_199_168 : am_CT 199 168 = some (.laload, 169, 0, 0, 0) := rfl
theorem ct_199_169 : am_CT 199 169 = some (.lastore, 170, 0, 0, 0) := rfl
theorem ct_199_170 : am_CT 199 170 = some (.iinc 6 1, 173, 0, 0, 0) := rfl
theorem ct_199_173 : am_CT 199 173 = some (.goto (-32), 176, 141, 0, 0) := rfl
theorem ct_199_176 : am_CT 199 176 = some (.iload 5, 178, 0, 0, 0) := rfl
theorem ct_199_178 : am_CT 199 178 = some (.ireturn, 179, 0, 0, 0) := rfl
theorem ct_200_0 : am_CT 200 0 = some (.iload 0, 1, 0, 0, 0) := rfl
theorem ct_200_1 : am_CT 200 1 = some (.ifCond .ge 8, 4, 9, 0, 0) := rfl
theorem ct_200_4 : am_CT 200 4 = some (.iload 0, 5, 0, 0, 0) := rfl
theorem ct_200_5 : am_CT 200 5 = some (.ineg, 6, 0, 0, 0) := rfl
theorem ct_200_6 : am_CT 200 6 = some (.goto 4, 9, 10, 0, 0) := rfl
theorem ct_200_9 : am_CT 200 9 = some (.iload 0, 10, 0, 0, 0) := rfl
theorem ct_200_10 : am_CT 200 10 = some (.ireturn, 11, 0, 0, 0) := rfl
theorem ct_201_0 : am_CT 201 0 = some (.iload 0, 1, 0, 0, 0) := rfl
theorem ct_201_1 : am_CT 201 1 = some (.iload 1, 2, 0, 0, 0) := rfl
theorem ct_201_2 : am_CT 201 2 = some (.if_icmp .lt 7, 5, 9, 0, 0) := rfl
theorem ct_201_5 : am_CT 201 5 = some (.iload 0, 6, 0, 0, 0) := rfl
theorem ct_201_6 : am_CT 201 6 = some (.goto 4, 9, 10, 0, 0) := rfl
theorem ct_201_9 : am_CT 201 9 = some (.iload 1, 10, 0, 0, 0) := rfl
theorem ct_201_10 : am_CT 201 10 = some (.ireturn, 11, 0, 0, 0) := rfl
theorem ct_202_0 : am_CT 202 0 = some (.iload 0, 1, 0, 0, 0) := rfl
theorem ct_202_1 : am_CT 202 1 = some (.iload 1, 2, 0, 0, 0) := rfl
theorem ct_202_2 : am_CT 202 2 = some (.if_icmp .gt 7, 5, 9, 0, 0) := rfl
theorem ct_202_5 : am_CT 202 5 = some (.iload 0, 6, 0, 0, 0) := rfl
theorem ct_202_6 : am_CT 202 6 = some (.goto 4, 9, 10, 0, 0) := rfl
theorem ct_202_9 : am_CT 202 9 = some (.iload 1, 10, 0, 0, 0) := rfl
theorem ct_202_10 : am_CT 202 10 = some (.ireturn, 11, 0, 0, 0) := rfl
theorem ct_203_0 : am_CT 203 0 = some (.iload 0, 1, 0, 0, 0) := rfl
theorem ct_203_1 : am_CT 203 1 = some (.iload 1, 2, 0, 0, 0) := rfl
theorem ct_203_2 : am_CT 203 2 = some (.irem, 3, 0, 0, 0) := rfl
theorem ct_203_3 : am_CT 203 3 = some (.istore 2, 4, 0, 0, 0) := rfl
theorem ct_203_4 : am_CT 203 4 = some (.iload 0, 5, 0, 0, 0) := rfl
theorem ct_203_5 : am_CT 203 5 = some (.iload 1, 6, 0, 0, 0) := rfl
theorem ct_203_6 : am_CT 203 6 = some (.ixor, 7, 0, 0, 0) := rfl
theorem ct_203_7 : am_CT 203 7 = some (.ifCond .ge 11, 10, 18, 0, 0) := rfl
theorem ct_203_10 : am_CT 203 10 = some (.iload 2, 11, 0, 0, 0) := rfl
theorem ct_203_11 : am_CT 203 11 = some (.ifCond .eq 7, 14, 18, 0, 0) := rfl
theorem ct_203_14 : am_CT 203 14 = some (.iload 2, 15, 0, 0, 0) := rfl
theorem ct_203_15 : am_CT 203 15 = some (.iload 1, 16, 0, 0, 0) := rfl
theorem ct_203_16 : am_CT 203 16 = some (.iadd, 17, 0, 0, 0) := rfl
theorem ct_203_17 : am_CT 203 17 = some (.ireturn, 18, 0, 0, 0) := rfl
theorem ct_203_18 : am_CT 203 18 = some (.iload 2, 19, 0, 0, 0) := rfl
theorem ct_203_19 : am_CT 203 19 = some (.ireturn, 20, 0, 0, 0) := rfl
theorem ct_204_0 : am_CT 204 0 = some (.aload 0, 1, 0, 0, 0) := rfl
theorem ct_204_1 : am_CT 204 1 = some (.getfield 9, 4, 0, 13, 2) := rfl
theorem ct_204_4 : am_CT 204 4 = some (.arraylength, 5, 0, 0, 0) := rfl
theorem ct_204_5 : am_CT 204 5 = some (.aload 0, 6, 0, 0, 0) := rfl
theorem ct_204_6 : am_CT 204 6 = some (.invokevirtual 335, 9, 305, 0, 13) := rfl
theorem ct_204_9 : am_CT 204 9 = some (.ishr, 10, 0, 0, 0) := rfl
theorem ct_204_10 : am_CT 204 10 = some (.ireturn, 11, 0, 0, 0) := rfl
theorem ct_205_0 : am_CT 205 0 = some (.getstatic 38, 3, 0, 0, 0) := rfl
theorem ct_205_3 : am_CT 205 3 = some (.ifCond .eq 10, 6, 13, 0, 0) := rfl
theorem ct_205_6 : am_CT 205 6 = some (.aload 0, 7, 0, 0, 0) := rfl
theorem ct_205_7 : am_CT 205 7 = some (.getfield 15, 10, 1, 13, 0) := rfl
theorem ct_205_10 : am_CT 205 10 = some (.goto 4, 13, 14, 0, 0) := rfl
theorem ct_205_13 : am_CT 205 13 = some (.bipush 1, 14, 0, 0, 0) := rfl
theorem ct_205_14 : am_CT 205 14 = some (.ireturn, 15, 2, 0, 0) := rfl
theorem ct_206_0 : am_CT 206 0 = some (.aload 0, 1, 0, 0, 0) := rfl
theorem ct_206_1 : am_CT 206 1 = some (.invokevirtual 492, 4, 307, 0, 13) := rfl
theorem ct_206_4 : am_CT 206 4 = some (.ifCond .eq 12, 7, 16, 0, 0) := rfl
theorem ct_206_7 : am_CT 206 7 = some (.aload 0, 8, 0, 0, 0) := rfl
theorem ct_206_8 : am_CT 206 8 = some (.getfield 9, 11, 0, 13, 2) := rfl
theorem ct_206_11 : am_CT 206 11 = some (.iload 1, 12, 0, 0, 0) := rfl
theorem ct_206_12 : am_CT 206 12 = some (.invokestatic 495, 15, 208, 2, 0) := rfl
theorem ct_206_15 : am_CT 206 15 = some (.ireturn, 16, 3, 0, 0) := rfl
theorem ct_206_16 : am_CT 206 16 = some (.aload 0, 17, 0, 0, 0) := rfl
theorem ct_206_17 : am_CT 206 17 = some (.getfield 9, 20, 0, 13, 2) := rfl
theorem ct_206_20 : am_CT 206 20 = some (.iload 1, 21, 0, 0, 0) := rfl
theorem ct_206_21 : am_CT 206 21 = some (.nop, 24, 0, 0, 0) := rfl
theorem ct_206_24 : am_CT 206 24 = some (.ireturn, 25, 3, 0, 0) := rfl
theorem ct_207_0 : am_CT 207 0 = some (.getstatic 38, 3, 0, 0, 0) := rfl
theorem ct_207_3 : am_CT 207 3 = some (.ifCond .eq 14, 6, 17, 0, 0) := rfl
theorem ct_207_6 : am_CT 207 6 = some (.aload 0, 7, 0, 0, 0) := rfl
theorem ct_207_7 : am_CT 207 7 = some (.getfield 15, 10, 1, 13, 0) := rfl
theorem ct_207_10 : am_CT 207 10 = some (.ifCond .ne 7, 13, 17, 0, 0) := rfl
theorem ct_207_13 : am_CT 207 13 = some (.bipush 1, 14, 0, 0, 0) := rfl
theorem ct_207_14 : am_CT 207 14 = some (.goto 4, 17, 18, 0, 0) := rfl
theorem ct_207_17 : am_CT 207 17 = some (.bipush 0, 18, 0, 0, 0) := rfl
theorem ct_207_18 : am_CT 207 18 = some (.ireturn, 19, 1, 0, 0) := rfl
theorem ct_208_0 : am_CT 208 0 = some (.iload 1, 1, 0, 0, 0) := rfl
theorem ct_208_1 : am_CT 208 1 = some (.aload 0, 2, 0, 0, 0) := rfl
theorem ct_208_2 : am_CT 208 2 = some (.arraylength, 3, 0, 0, 0) := rfl
theorem ct_208_3 : am_CT 208 3 = some (.invokestatic 9, 6, 209, 2, 0) := rfl
theorem ct_208_6 : am_CT 208 6 = some (.aload 0, 7, 0, 0, 0) := rfl
theorem ct_208_7 : am_CT 208 7 = some (.iload 1, 8, 0, 0, 0) := rfl
theorem ct_208_8 : am_CT 208 8 = some (.baload, 9, 0, 0, 0) := rfl
theorem ct_208_9 : am_CT 208 9 = some (.bipush 255, 12, 0, 0, 0) := rfl
theorem ct_208_12 : am_CT 208 12 = some (.iand, 13, 0, 0, 0) := rfl
theorem ct_208_13 : am_CT 208 13 = some (.i2c, 14, 0, 0, 0) := rfl
theorem ct_208_14 : am_CT 208 14 = some (.ireturn, 15, 3, 0, 0) := rfl
theorem ct_209_0 : am_CT 209 0 = some (.iload 0, 1, 0, 0, 0) := rfl
theorem ct_209_1 : am_CT 209 1 = some (.iload 1, 2, 0, 0, 0) := rfl
theorem ct_209_2 : am_CT 209 2 = some (.getstatic 1053, 5, 1, 0, 0) := rfl
theorem ct_209_5 : am_CT 209 5 = some (.invokestatic 1059, 8, 210, 3, 0) := rfl
theorem ct_209_8 : am_CT 209 8 = some (.pop, 9, 0, 0, 0) := rfl
theorem ct_209_9 : am_CT 209 9 = some (.return_, 10, 0, 0, 0) := rfl
theorem ct_210_0 : am_CT 210 0 = some (.iload 0, 1, 0, 0, 0) := rfl
theorem ct_210_1 : am_CT 210 1 = some (.ifCond .lt 8, 4, 9, 0, 0) := rfl
theorem ct_210_4 : am_CT 210 4 = some (.iload 0, 5, 0, 0, 0) := rfl
theorem ct_210_5 : am_CT 210 5 = some (.iload 1, 6, 0, 0, 0) := rfl
theorem ct_210_6 : am_CT 210 6 = some (.if_icmp .lt 10, 9, 16, 0, 0) := rfl
theorem ct_210_9 : am_CT 210 9 = some (.aload 2, 10, 0, 0, 0) := rfl
theorem ct_210_10 : am_CT 210 10 = some (.iload 0, 11, 0, 0, 0) := rfl
theorem ct_210_11 : am_CT 210 11 = some (.iload 1, 12, 0, 0, 0) := rfl
theorem ct_210_12 : am_CT 210 12 = some (.nop, 15, 0, 0, 0) := rfl
theorem ct_210_15 : am_CT 210 15 = some (.nop, 16, 0, 0, 0) := rfl
theorem ct_210_16 : am_CT 210 16 = some (.iload 0, 17, 0, 0, 0) := rfl
theorem ct_210_17 : am_CT 210 17 = some (.ireturn, 18, 0, 0, 0) := rfl
theorem ct_211_0 : am_CT 211 0 = some (.new 7, 3, 11, 0, 0) := rfl
theorem ct_211_3 : am_CT 211 3 = some (.dup, 4, 0, 0, 0) := rfl
theorem ct_211_4 : am_CT 211 4 = some (.invokespecial 9, 7, 66, 0, 0) := rfl
theorem ct_211_7 : am_CT 211 7 = some (.astore 1, 8, 0, 0, 0) := rfl
theorem ct_211_8 : am_CT 211 8 = some (.new 10, 11, 12, 0, 0) := rfl
theorem ct_211_11 : am_CT 211 11 = some (.dup, 12, 0, 0, 0) := rfl
theorem ct_211_12 : am_CT 211 12 = some (.invokespecial 12, 15, 118, 0, 0) := rfl
theorem ct_211_15 : am_CT 211 15 = some (.astore 2, 16, 0, 0, 0) := rfl
theorem ct_211_16 : am_CT 211 16 = some (.bipush 0, 17, 0, 0, 0) := rfl
theorem ct_211_17 : am_CT 211 17 = some (.istore 3, 18, 0, 0, 0) := rfl
theorem ct_211_18 : am_CT 211 18 = some (.iload 3, 19, 0, 0, 0) := rfl
theorem ct_211_19 : am_CT 211 19 = some (.aload 0, 20, 0, 0, 0) := rfl
theorem ct_211_20 : am_CT 211 20 = some (.arraylength, 21, 0, 0, 0) := rfl
theorem ct_211_21 : am_CT 211 21 = some (.bipush 6, 23, 0, 0, 0) := rfl
theorem ct_211_23 : am_CT 211 23 = some (.isub, 24, 0, 0, 0) := rfl
theorem ct_211_24 : am_CT 211 24 = some (.if_icmp .gt 1341, 27, 1365, 0, 0) := rfl
theorem ct_211_27 : am_CT 211 27 = some (.aload 0, 28, 0, 0, 0) := rfl
theorem ct_211_28 : am_CT 211 28 = some (.iload 3, 29, 0, 0, 0) := rfl
theorem ct_211_29 : am_CT 211 29 = some (.iaload, 30, 0, 0, 0) := rfl
theorem ct_211_30 : am_CT 211 30 = some (.bipush 63, 32, 0, 0, 0) := rfl
theorem ct_211_32 : am_CT 211 32 = some (.iand, 33, 0, 0, 0) := rfl
theorem ct_211_33 : am_CT 211 33 = some (.tableswitch 1326 0 35 #[159, 212, 245, 288, 321, 364, 387, 400, 423, 446, 469, 502, 535, 568, 601, 634, 667, 690, 723, 766, 779, 802, 836, 870, 919, 932, 965, 978, 991, 1034, 1057, 1090, 1113, 1156, 1229, 1263], 192, 0, 0, 0) := rfl
theorem ct_211_192 : am_CT 211 192 = some (.aload 1, 193, 0, 0, 0) := rfl
theorem ct_211_193 : am_CT 211 193 = some (.aload 0, 194, 0, 0, 0) := rfl
theorem ct_211_194 : am_CT 211 194 = some (.iload 3, 195, 0, 0, 0) := rfl
theorem ct_211_195 : am_CT 211 195 = some (.bipush 1, 196, 0, 0, 0) := rfl
theorem ct_211_196 : am_CT 211 196 = some (.iadd, 197, 0, 0, 0) := rfl
theorem ct_211_197 : am_CT 211 197 = some (.iaload, 198, 0, 0, 0) := rfl
theorem ct_211_198 : am_CT 211 198 = some (.aload 0, 199, 0, 0, 0) := rfl
theorem ct_211_199 : am_CT 211 199 = some (.iload 3, 200, 0, 0, 0) := rfl
theorem ct_211_200 : am_CT 211 200 = some (.bipush 2, 201, 0, 0, 0) := rfl
theorem ct_211_201 : am_CT 211 201 = some (.iadd, 202, 0, 0, 0) := rfl
theorem ct_211_202 : am_CT 211 202 = some (.iaload, 203, 0, 0, 0) := rfl
theorem ct_211_203 : am_CT 211 203 = some (.aload 0, 204, 0, 0, 0) := rfl
theorem ct_211_204 : am_CT 211 204 = some (.iload 3, 205, 0, 0, 0) := rfl
theorem ct_211_205 : am_CT 211 205 = some (.bipush 3, 206, 0, 0, 0) := rfl
theorem ct_211_206 : am_CT 211 206 = some (.iadd, 207, 0, 0, 0) := rfl
theorem ct_211_207 : am_CT 211 207 = some (.iaload, 208, 0, 0, 0) := rfl
theorem ct_211_208 : am_CT 211 208 = some (.aload 0, 209, 0, 0, 0) := rfl
theorem ct_211_209 : am_CT 211 209 = some (.iload 3, 210, 0, 0, 0) := rfl
theorem ct_211_210 : am_CT 211 210 = some (.bipush 4, 211, 0, 0, 0) := rfl
theorem ct_211_211 : am_CT 211 211 = some (.iadd, 212, 0, 0, 0) := rfl
theorem ct_211_212 : am_CT 211 212 = some (.iaload, 213, 0, 0, 0) := rfl
theorem ct_211_213 : am_CT 211 213 = some (.invokevirtual 13, 216, 167, 4, 11) := rfl
theorem ct_211_216 : am_CT 211 216 = some (.aload 2, 217, 0, 0, 0) := rfl
theorem ct_211_217 : am_CT 211 217 = some (.aload 0, 218, 0, 0, 0) := rfl
theorem ct_211_218 : am_CT 211 218 = some (.iload 3, 219, 0, 0, 0) := rfl
theorem ct_211_219 : am_CT 211 219 = some (.bipush 1, 220, 0, 0, 0) := rfl
theorem ct_211_220 : am_CT 211 220 = some (.iadd, 221, 0, 0, 0) := rfl
theorem ct_211_221 : am_CT 211 221 = some (.iaload, 222, 0, 0, 0) := rfl
theorem ct_211_222 : am_CT 211 222 = some (.aload 0, 223, 0, 0, 0) := rfl
theorem ct_211_223 : am_CT 211 223 = some (.iload 3, 224, 0, 0, 0) := rfl
theorem ct_211_224 : am_CT 211 224 = some (.bipush 2, 225, 0, 0, 0) := rfl
theorem ct_211_225 : am_CT 211 225 = some (.iadd, 226, 0, 0, 0) := rfl
theorem ct_211_226 : am_CT 211 226 = some (.iaload, 227, 0, 0, 0) := rfl
theorem ct_211_227 : am_CT 211 227 = some (.aload 0, 228, 0, 0, 0) := rfl
theorem ct_211_228 : am_CT 211 228 = some (.iload 3, 229, 0, 0, 0) := rfl
theorem ct_211_229 : am_CT 211 229 = some (.bipush 3, 230, 0, 0, 0) := rfl
theorem ct_211_230 : am_CT 211 230 = some (.iadd, 231, 0, 0, 0) := rfl
theorem ct_211_231 : am_CT 211 231 = some (.iaload, 232, 0, 0, 0) := rfl
theorem ct_211_232 : am_CT 211 232 = some (.aload 0, 233, 0, 0, 0) := rfl
theorem ct_211_233 : am_CT 211 233 = some (.iload 3, 234, 0, 0, 0) := rfl
theorem ct_211_234 : am_CT 211 234 = some (.bipush 4, 235, 0, 0, 0) := rfl
theorem ct_211_235 : am_CT 211 235 = some (.iadd, 236, 0, 0, 0) := rfl
theorem ct_211_236 : am_CT 211 236 = some (.iaload, 237, 0, 0, 0) := rfl
theorem ct_211_237 : am_CT 211 237 = some (.invokevirtual 17, 240, 221, 4, 12) := rfl
theorem ct_211_240 : am_CT 211 240 = some (.if_icmp .eq 1119, 243, 1359, 0, 0) := rfl
theorem ct_211_243 : am_CT 211 243 = some (.bipush 0, 244, 0, 0, 0) := rfl
theorem ct_211_244 : am_CT 211 244 = some (.ireturn, 245, 1, 0, 0) := rfl
theorem ct_211_245 : am_CT 211 245 = some (.aload 1, 246, 0, 0, 0) := rfl
theorem ct_211_246 : am_CT 211 246 = some (.aload 0, 247, 0, 0, 0) := rfl
theorem ct_211_247 : am_CT 211 247 = some (.iload 3, 248, 0, 0, 0) := rfl
theorem ct_211_248 : am_CT 211 248 = some (.bipush 1, 249, 0, 0, 0) := rfl
theorem ct_211_249 : am_CT 211 249 = some (.iadd, 250, 0, 0, 0) := rfl
theorem ct_211_250 : am_CT 211 250 = some (.iaload, 251, 0, 0, 0) := rfl
theorem ct_211_251 : am_CT 211 251 = some (.aload 0, 252, 0, 0, 0) := rfl
theorem ct_211_252 : am_CT 211 252 = some (.iload 3, 253, 0, 0, 0) := rfl
theorem ct_211_253 : am_CT 211 253 = some (.bipush 2, 254, 0, 0, 0) := rfl
theorem ct_211_254 : am_CT 211 254 = some (.iadd, 255, 0, 0, 0) := rfl
theorem ct_211_255 : am_CT 211 255 = some (.iaload, 256, 0, 0, 0) := rfl
theorem ct_211_256 : am_CT 211 256 = some (.invokevirtual 18, 259, 168, 2, 11) := rfl
theorem ct_211_259 : am_CT 211 259 = some (.aload 2, 260, 0, 0, 0) := rfl
theorem ct_211_260 : am_CT 211 260 = some (.aload 0, 261, 0, 0, 0) := rfl
theorem ct_211_261 : am_CT 211 261 = some (.iload 3, 262, 0, 0, 0) := rfl
theorem ct_211_262 : am_CT 211 262 = some (.bipush 1, 263, 0, 0, 0) := rfl
theorem ct_211_263 : am_CT 211 263 = some (.iadd, 264, 0, 0, 0) := rfl
theorem ct_211_264 : am_CT 211 264 = some (.iaload, 265, 0, 0, 0) := rfl
theorem ct_211_265 : am_CT 211 265 = some (.aload 0, 266, 0, 0, 0) := rfl
theorem ct_211_266 : am_CT 211 266 = some (.iload 3, 267, 0, 0, 0) := rfl
theorem ct_211_267 : am_CT 211 267 = some (.bipush 2, 268, 0, 0, 0) := rfl
theorem ct_211_268 : am_CT 211 268 = some (.iadd, 269, 0, 0, 0) := rfl
theorem ct_211_269 : am_CT 211 269 = some (.iaload, 270, 0, 0, 0) := rfl
theorem ct_211_270 : am_CT 211 270 = some (.invokevirtual 22, 273, 222, 2, 12) := rfl
theorem ct_211_273 : am_CT 211 273 = some (.if_icmp .eq 1086, 276, 1359, 0, 0) := rfl
theorem ct_211_276 : am_CT 211 276 = some (.bipush 0, 277, 0, 0, 0) := rfl
theorem ct_211_277 : am_CT 211 277 = some (.ireturn, 278, 1, 0, 0) := rfl
theorem ct_211_278 : am_CT 211 278 = some (.aload 1, 279, 0, 0, 0) := rfl
theorem ct_211_279 : am_CT 211 279 = some (.aload 0, 280, 0, 0, 0) := rfl
theorem ct_211_280 : am_CT 211 280 = some (.iload 3, 281, 0, 0, 0) := rfl
theorem ct_211_281 : am_CT 211 281 = some (.bipush 1, 282, 0, 0, 0) := rfl
theorem ct_211_282 : am_CT 211 282 = some (.iadd, 283, 0, 0, 0) := rfl
theorem ct_211_283 : am_CT 211 283 = some (.iaload, 284, 0, 0, 0) := rfl
theorem ct_211_284 : am_CT 211 284 = some (.aload 0, 285, 0, 0, 0) := rfl
theorem ct_211_285 : am_CT 211 285 = some (.iload 3, 286, 0, 0, 0) := rfl
theorem ct_211_286 : am_CT 211 286 = some (.bipush 2, 287, 0, 0, 0) := rfl
theorem ct_211_287 : am_CT 211 287 = some (.iadd, 288, 0, 0, 0) := rfl
theorem ct_211_288 : am_CT 211 288 = some (.iaload, 289, 0, 0, 0) := rfl
theorem ct_211_289 : am_CT 211 289 = some (.aload 0, 290, 0, 0, 0) := rfl
theorem ct_211_290 : am_CT 211 290 = some (.iload 3, 291, 0, 0, 0) := rfl
theorem ct_211_291 : am_CT 211 291 = some (.bipush 3, 292, 0, 0, 0) := rfl
theorem ct_211_292 : am_CT 211 292 = some (.iadd, 293, 0, 0, 0) := rfl
theorem ct_211_293 : am_CT 211 293 = some (.iaload, 294, 0, 0, 0) := rfl
theorem ct_211_294 : am_CT 211 294 = some (.invokevirtual 23, 297, 169, 3, 11) := rfl
theorem ct_211_297 : am_CT 211 297 = some (.aload 2, 298, 0, 0, 0) := rfl
theorem ct_211_298 : am_CT 211 298 = some (.aload 0, 299, 0, 0, 0) := rfl
theorem ct_211_299 : am_CT 211 299 = some (.iload 3, 300, 0, 0, 0) := rfl
theorem ct_211_300 : am_CT 211 300 = some (.bipush 1, 301, 0, 0, 0) := rfl
theorem ct_211_301 : am_CT 211 301 = some (.iadd, 302, 0, 0, 0) := rfl
theorem ct_211_302 : am_CT 211 302 = some (.iaload, 303, 0, 0, 0) := rfl
theorem ct_211_303 : am_CT 211 303 = some (.aload 0, 304, 0, 0, 0) := rfl
theorem ct_211_304 : am_CT 211 304 = some (.iload 3, 305, 0, 0, 0) := rfl
theorem ct_211_305 : am_CT 211 305 = some (.bipush 2, 306, 0, 0, 0) := rfl
theorem ct_211_306 : am_CT 211 306 = some (.iadd, 307, 0, 0, 0) := rfl
theorem ct_211_307 : am_CT 211 307 = some (.iaload, 308, 0, 0, 0) := rfl
theorem ct_211_308 : am_CT 211 308 = some (.aload 0, 309, 0, 0, 0) := rfl
theorem ct_211_309 : am_CT 211 309 = some (.iload 3, 310, 0, 0, 0) := rfl
theorem ct_211_310 : am_CT 211 310 = some (.bipush 3, 311, 0, 0, 0) := rfl
theorem ct_211_311 : am_CT 211 311 = some (.iadd, 312, 0, 0, 0) := rfl
theorem ct_211_312 : am_CT 211 312 = some (.iaload, 313, 0, 0, 0) := rfl
theorem ct_211_313 : am_CT 211 313 = some (.invokevirtual 27, 316, 223, 3, 12) := rfl
theorem ct_211_316 : am_CT 211 316 = some (.if_icmp .eq 1043, 319, 1359, 0, 0) := rfl
theorem ct_211_319 : am_CT 211 319 = some (.bipush 0, 320, 0, 0, 0) := rfl
theorem ct_211_320 : am_CT 211 320 = some (.ireturn, 321, 1, 0, 0) := rfl
theorem ct_211_321 : am_CT 211 321 = some (.aload 1, 322, 0, 0, 0) := rfl
theorem ct_211_322 : am_CT 211 322 = some (.aload 0, 323, 0, 0, 0) := rfl
theorem ct_211_323 : am_CT 211 323 = some (.iload 3, 324, 0, 0, 0) := rfl
theorem ct_211_324 : am_CT 211 324 = some (.bipush 1, 325, 0, 0, 0) := rfl
theorem ct_211_325 : am_CT 211 325 = some (.iadd, 326, 0, 0, 0) := rfl
theorem ct_211_326 : am_CT 211 326 = some (.iaload, 327, 0, 0, 0) := rfl
theorem ct_211_327 : am_CT 211 327 = some (.aload 0, 328, 0, 0, 0) := rfl
theorem ct_211_328 : am_CT 211 328 = some (.iload 3, 329, 0, 0, 0) := rfl
theorem ct_211_329 : am_CT 211 329 = some (.bipush 2, 330, 0, 0, 0) := rfl
theorem ct_211_330 : am_CT 211 330 = some (.iadd, 331, 0, 0, 0) := rfl
theorem ct_211_331 : am_CT 211 331 = some (.iaload, 332, 0, 0, 0) := rfl
theorem ct_211_332 : am_CT 211 332 = some (.invokevirtual 28, 335, 170, 2, 11) := rfl
theorem ct_211_335 : am_CT 211 335 = some (.aload 2, 336, 0, 0, 0) := rfl
theorem ct_211_336 : am_CT 211 336 = some (.aload 0, 337, 0, 0, 0) := rfl
theorem ct_211_337 : am_CT 211 337 = some (.iload 3, 338, 0, 0, 0) := rfl
theorem ct_211_338 : am_CT 211 338 = some (.bipush 1, 339, 0, 0, 0) := rfl
theorem ct_211_339 : am_CT 211 339 = some (.iadd, 340, 0, 0, 0) := rfl
theorem ct_211_340 : am_CT 211 340 = some (.iaload, 341, 0, 0, 0) := rfl
theorem ct_211_341 : am_CT 211 341 = some (.aload 0, 342, 0, 0, 0) := rfl
theorem ct_211_342 : am_CT 211 342 = some (.iload 3, 343, 0, 0, 0) := rfl
theorem ct_211_343 : am_CT 211 343 = some (.bipush 2, 344, 0, 0, 0) := rfl
theorem ct_211_344 : am_CT 211 344 = some (.iadd, 345, 0, 0, 0) := rfl
theorem ct_211_345 : am_CT 211 345 = some (.iaload, 346, 0, 0, 0) := rfl
theorem ct_211_346 : am_CT 211 346 = some (.invokevirtual 31, 349, 224, 2, 12) := rfl
theorem ct_211_349 : am_CT 211 349 = some (.if_icmp .eq 1010, 352, 1359, 0, 0) := rfl
theorem ct_211_352 : am_CT 211 352 = some (.bipush 0, 353, 0, 0, 0) := rfl
theorem ct_211_353 : am_CT 211 353 = some (.ireturn, 354, 1, 0, 0) := rfl
theorem ct_211_354 : am_CT 211 354 = some (.aload 1, 355, 0, 0, 0) := rfl
theorem ct_211_355 : am_CT 211 355 = some (.aload 0, 356, 0, 0, 0) := rfl
theorem ct_211_356 : am_CT 211 356 = some (.iload 3, 357, 0, 0, 0) := rfl
theorem ct_211_357 : am_CT 211 357 = some (.bipush 1, 358, 0, 0, 0) := rfl
theorem ct_211_358 : am_CT 211 358 = some (.iadd, 359, 0, 0, 0) := rfl
theorem ct_211_359 : am_CT 211 359 = some (.iaload, 360, 0, 0, 0) := rfl
theorem ct_211_360 : am_CT 211 360 = some (.aload 0, 361, 0, 0, 0) := rfl
theorem ct_211_361 : am_CT 211 361 = some (.iload 3, 362, 0, 0, 0) := rfl
theorem ct_211_362 : am_CT 211 362 = some (.bipush 2, 363, 0, 0, 0) := rfl
theorem ct_211_363 : am_CT 211 363 = some (.iadd, 364, 0, 0, 0) := rfl
theorem ct_211_364 : am_CT 211 364 = some (.iaload, 365, 0, 0, 0) := rfl
theorem ct_211_365 : am_CT 211 365 = some (.aload 0, 366, 0, 0, 0) := rfl
theorem ct_211_366 : am_CT 211 366 = some (.iload 3, 367, 0, 0, 0) := rfl
theorem ct_211_367 : am_CT 211 367 = some (.bipush 3, 368, 0, 0, 0) := rfl
theorem ct_211_368 : am_CT 211 368 = some (.iadd, 369, 0, 0, 0) := rfl
theorem ct_211_369 : am_CT 211 369 = some (.iaload, 370, 0, 0, 0) := rfl
theorem ct_211_370 : am_CT 211 370 = some (.invokevirtual 32, 373, 171, 3, 11) := rfl
theorem ct_211_373 : am_CT 211 373 = some (.aload 2, 374, 0, 0, 0) := rfl
theorem ct_211_374 : am_CT 211 374 = some (.aload 0, 375, 0, 0, 0) := rfl
theorem ct_211_375 : am_CT 211 375 = some (.iload 3, 376, 0, 0, 0) := rfl
theorem ct_211_376 : am_CT 211 376 = some (.bipush 1, 377, 0, 0, 0) := rfl
theorem ct_211_377 : am_CT 211 377 = some (.iadd, 378, 0, 0, 0) := rfl
theorem ct_211_378 : am_CT 211 378 = some (.iaload, 379, 0, 0, 0) := rfl
theorem ct_211_379 : am_CT 211 379 = some (.aload 0, 380, 0, 0, 0) := rfl
theorem ct_211_380 : am_CT 211 380 = some (.iload 3, 381, 0, 0, 0) := rfl
theorem ct_211_381 : am_CT 211 381 = some (.bipush 2, 382, 0, 0, 0) := rfl
theorem ct_211_382 : am_CT 211 382 = some (.iadd, 383, 0, 0, 0) := rfl
theorem ct_211_383 : am_CT 211 383 = some (.iaload, 384, 0, 0, 0) := rfl
theorem ct_211_384 : am_CT 211 384 = some (.aload 0, 385, 0, 0, 0) := rfl
theorem ct_211_385 : am_CT 211 385 = some (.iload 3, 386, 0, 0, 0) := rfl
theorem ct_211_386 : am_CT 211 386 = some (.bipush 3, 387, 0, 0, 0) := rfl
theorem ct_211_387 : am_CT 211 387 = some (.iadd, 388, 0, 0, 0) := rfl
theorem ct_211_388 : am_CT 211 388 = some (.iaload, 389, 0, 0, 0) := rfl
theorem ct_211_389 : am_CT 211 389 = some (.invokevirtual 35, 392, 225, 3, 12) := rfl
theorem ct_211_392 : am_CT 211 392 = some (.if_icmp .eq 967, 395, 1359, 0, 0) := rfl
theorem ct_211_395 : am_CT 211 395 = some (.bipush 0, 396, 0, 0, 0) := rfl
theorem ct_211_396 : am_CT 211 396 = some (.ireturn, 397, 1, 0, 0) := rfl
theorem ct_211_397 : am_CT 211 397 = some (.aload 1, 398, 0, 0, 0) := rfl
theorem ct_211_398 : am_CT 211 398 = some (.aload 0, 399, 0, 0, 0) := rfl
theorem ct_211_399 : am_CT 211 399 = some (.iload 3, 400, 0, 0, 0) := rfl
theorem ct_211_400 : am_CT 211 400 = some (.bipush 1, 401, 0, 0, 0) := rfl
theorem ct_211_401 : am_CT 211 401 = some (.iadd, 402, 0, 0, 0) := rfl
theorem ct_211_402 : am_CT 211 402 = some (.iaload, 403, 0, 0, 0) := rfl
theorem ct_211_403 : am_CT 211 403 = some (.invokevirtual 36, 406, 172, 1, 11) := rfl
theorem ct_211_406 : am_CT 211 406 = some (.aload 2, 407, 0, 0, 0) := rfl
theorem ct_211_407 : am_CT 211 407 = some (.aload 0, 408, 0, 0, 0) := rfl
theorem ct_211_408 : am_CT 211 408 = some (.iload 3, 409, 0, 0, 0) := rfl
theorem ct_211_409 : am_CT 211 409 = some (.bipush 1, 410, 0, 0, 0) := rfl
theorem ct_211_410 : am_CT 211 410 = some (.iadd, 411, 0, 0, 0) := rfl
theorem ct_211_411 : am_CT 211 411 = some (.iaload, 412, 0, 0, 0) := rfl
theorem ct_211_412 : am_CT 211 412 = some (.invokevirtual 40, 415, 226, 1, 12) := rfl
theorem ct_211_415 : am_CT 211 415 = some (.if_icmp .eq 944, 418, 1359, 0, 0) := rfl
theorem ct_211_418 : am_CT 211 418 = some (.bipush 0, 419, 0, 0, 0) := rfl
theorem ct_211_419 : am_CT 211 419 = some (.ireturn, 420, 1, 0, 0) := rfl
theorem ct_211_420 : am_CT 211 420 = some (.aload 1, 421, 0, 0, 0) := rfl
theorem ct_211_421 : am_CT 211 421 = some (.invokevirtual 41, 424, 173, 0, 11) := rfl
theorem ct_211_424 : am_CT 211 424 = some (.aload 2, 425, 0, 0, 0) := rfl
theorem ct_211_425 : am_CT 211 425 = some (.invokevirtual 45, 428, 241, 0, 12) := rfl
theorem ct_211_428 : am_CT 211 428 = some (.if_icmp .eq 931, 431, 1359, 0, 0) := rfl
theorem ct_211_431 : am_CT 211 431 = some (.bipush 0, 432, 0, 0, 0) := rfl
theorem ct_211_432 : am_CT 211 432 = some (.ireturn, 433, 1, 0, 0) := rfl
theorem ct_211_433 : am_CT 211 433 = some (.aload 1, 434, 0, 0, 0) := rfl
theorem ct_211_434 : am_CT 211 434 = some (.aload 0, 435, 0, 0, 0) := rfl
theorem ct_211_435 : am_CT 211 435 = some (.iload 3, 436, 0, 0, 0) := rfl
theorem ct_211_436 : am_CT 211 436 = some (.bipush 1, 437, 0, 0, 0) := rfl
theorem ct_211_437 : am_CT 211 437 = some (.iadd, 438, 0, 0, 0) := rfl
theorem ct_211_438 : am_CT 211 438 = some (.iaload, 439, 0, 0, 0) := rfl
theorem ct_211_439 : am_CT 211 439 = some (.invokevirtual 46, 442, 174, 1, 11) := rfl
theorem ct_211_442 : am_CT 211 442 = some (.aload 2, 443, 0, 0, 0) := rfl
theorem ct_211_443 : am_CT 211 443 = some (.aload 0, 444, 0, 0, 0) := rfl
theorem ct_211_444 : am_CT 211 444 = some (.iload 3, 445, 0, 0, 0) := rfl
theorem ct_211_445 : am_CT 211 445 = some (.bipush 1, 446, 0, 0, 0) := rfl
theorem ct_211_446 : am_CT 211 446 = some (.iadd, 447, 0, 0, 0) := rfl
theorem ct_211_447 : am_CT 211 447 = some (.iaload, 448, 0, 0, 0) := rfl
theorem ct_211_448 : am_CT 211 448 = some (.invokevirtual 49, 451, 251, 1, 12) := rfl
theorem ct_211_451 : am_CT 211 451 = some (.if_icmp .eq 908, 454, 1359, 0, 0) := rfl
theorem ct_211_454 : am_CT 211 454 = some (.bipush 0, 455, 0, 0, 0) := rfl
theorem ct_211_455 : am_CT 211 455 = some (.ireturn, 456, 1, 0, 0) := rfl
theorem ct_211_456 : am_CT 211 456 = some (.aload 1, 457, 0, 0, 0) := rfl
theorem ct_211_457 : am_CT 211 457 = some (.aload 0, 458, 0, 0, 0) := rfl
theorem ct_211_458 : am_CT 211 458 = some (.iload 3, 459, 0, 0, 0) := rfl
theorem ct_211_459 : am_CT 211 459 = some (.bipush 1, 460, 0, 0, 0) := rfl
theorem ct_211_460 : am_CT 211 460 = some (.iadd, 461, 0, 0, 0) := rfl
theorem ct_211_461 : am_CT 211 461 = some (.iaload, 462, 0, 0, 0) := rfl
theorem ct_211_462 : am_CT 211 462 = some (.invokevirtual 50, 465, 175, 1, 11) := rfl
theorem ct_211_465 : am_CT 211 465 = some (.aload 2, 466, 0, 0, 0) := rfl
theorem ct_211_466 : am_CT 211 466 = some (.aload 0, 467, 0, 0, 0) := rfl
theorem ct_211_467 : am_CT 211 467 = some (.iload 3, 468, 0, 0, 0) := rfl
theorem ct_211_468 : am_CT 211 468 = some (.bipush 1, 469, 0, 0, 0) := rfl
theorem ct_211_469 : am_CT 211 469 = some (.iadd, 470, 0, 0, 0) := rfl
theorem ct_211_470 : am_CT 211 470 = some (.iaload, 471, 0, 0, 0) := rfl
theorem ct_211_471 : am_CT 211 471 = some (.invokevirtual 53, 474, 252, 1, 12) := rfl
theorem ct_211_474 : am_CT 211 474 = some (.if_icmp .eq 885, 477, 1359, 0, 0) := rfl
theorem ct_211_477 : am_CT 211 477 = some (.bipush 0, 478, 0, 0, 0) := rfl
theorem ct_211_478 : am_CT 211 478 = some (.ireturn, 479, 1, 0, 0) := rfl
theorem ct_211_479 : am_CT 211 479 = some (.aload 1, 480, 0, 0, 0) := rfl
theorem ct_211_480 : am_CT 211 480 = some (.aload 0, 481, 0, 0, 0) := rfl
theorem ct_211_481 : am_CT 211 481 = some (.iload 3, 482, 0, 0, 0) := rfl
theorem ct_211_482 : am_CT 211 482 = some (.bipush 1, 483, 0, 0, 0) := rfl
theorem ct_211_483 : am_CT 211 483 = some (.iadd, 484, 0, 0, 0) := rfl
theorem ct_211_484 : am_CT 211 484 = some (.iaload, 485, 0, 0, 0) := rfl
theorem ct_211_485 : am_CT 211 485 = some (.invokevirtual 54, 488, 176, 1, 11) := rfl
theorem ct_211_488 : am_CT 211 488 = some (.aload 2, 489, 0, 0, 0) := rfl
theorem ct_211_489 : am_CT 211 489 = some (.aload 0, 490, 0, 0, 0) := rfl
theorem ct_211_490 : am_CT 211 490 = some (.iload 3, 491, 0, 0, 0) := rfl
theorem ct_211_491 : am_CT 211 491 = some (.bipush 1, 492, 0, 0, 0) := rfl
theorem ct_211_492 : am_CT 211 492 = some (.iadd, 493, 0, 0, 0) := rfl
theorem ct_211_493 : am_CT 211 493 = some (.iaload, 494, 0, 0, 0) := rfl
theorem ct_211_494 : am_CT 211 494 = some (.invokevirtual 57, 497, 258, 1, 12) := rfl
theorem ct_211_497 : am_CT 211 497 = some (.if_icmp .eq 862, 500, 1359, 0, 0) := rfl
theorem ct_211_500 : am_CT 211 500 = some (.bipush 0, 501, 0, 0, 0) := rfl
theorem ct_211_501 : am_CT 211 501 = some (.ireturn, 502, 1, 0, 0) := rfl
theorem ct_211_502 : am_CT 211 502 = some (.aload 1, 503, 0, 0, 0) := rfl
theorem ct_211_503 : am_CT 211 503 = some (.aload 0, 504, 0, 0, 0) := rfl
theorem ct_211_504 : am_CT 211 504 = some (.iload 3, 505, 0, 0, 0) := rfl
theorem ct_211_505 : am_CT 211 505 = some (.bipush 1, 506, 0, 0, 0) := rfl
theorem ct_211_506 : am_CT 211 506 = some (.iadd, 507, 0, 0, 0) := rfl
theorem ct_211_507 : am_CT 211 507 = some (.iaload, 508, 0, 0, 0) := rfl
theorem ct_211_508 : am_CT 211 508 = some (.aload 0, 509, 0, 0, 0) := rfl
theorem ct_211_509 : am_CT 211 509 = some (.iload 3, 510, 0, 0, 0) := rfl
theorem ct_211_510 : am_CT 211 510 = some (.bipush 2, 511, 0, 0, 0) := rfl
theorem ct_211_511 : am_CT 211 511 = some (.iadd, 512, 0, 0, 0) := rfl
theorem ct_211_512 : am_CT 211 512 = some (.iaload, 513, 0, 0, 0) := rfl
theorem ct_211_513 : am_CT 211 513 = some (.invokevirtual 58, 516, 177, 2, 11) := rfl
theorem ct_211_516 : am_CT 211 516 = some (.aload 2, 517, 0, 0, 0) := rfl
theorem ct_211_517 : am_CT 211 517 = some (.aload 0, 518, 0, 0, 0) := rfl
theorem ct_211_518 : am_CT 211 518 = some (.iload 3, 519, 0, 0, 0) := rfl
theorem ct_211_519 : am_CT 211 519 = some (.bipush 1, 520, 0, 0, 0) := rfl
theorem ct_211_520 : am_CT 211 520 = some (.iadd, 521, 0, 0, 0) := rfl
theorem ct_211_521 : am_CT 211 521 = some (.iaload, 522, 0, 0, 0) := rfl
theorem ct_211_522 : am_CT 211 522 = some (.aload 0, 523, 0, 0, 0) := rfl
theorem ct_211_523 : am_CT 211 523 = some (.iload 3, 524, 0, 0, 0) := rfl
theorem ct_211_524 : am_CT 211 524 = some (.bipush 2, 525, 0, 0, 0) := rfl
theorem ct_211_525 : am_CT 211 525 = some (.iadd, 526, 0, 0, 0) := rfl
theorem ct_211_526 : am_CT 211 526 = some (.iaload, 527, 0, 0, 0) := rfl
theorem ct_211_527 : am_CT 211 527 = some (.invokevirtual 61, 530, 259, 2, 12) := rfl
theorem ct_211_530 : am_CT 211 530 = some (.if_icmp .eq 829, 533, 1359, 0, 0) := rfl
theorem ct_211_533 : am_CT 211 533 = some (.bipush 0, 534, 0, 0, 0) := rfl
theorem ct_211_534 : am_CT 211 534 = some (.ireturn, 535, 1, 0, 0) := rfl
theorem ct_211_535 : am_CT 211 535 = some (.aload 1, 536, 0, 0, 0) := rfl
theorem ct_211_536 : am_CT 211 536 = some (.aload 0, 537, 0, 0, 0) := rfl
theorem ct_211_537 : am_CT 211 537 = some (.iload 3, 538, 0, 0, 0) := rfl
theorem ct_211_538 : am_CT 211 538 = some (.bipush 1, 539, 0, 0, 0) := rfl
theorem ct_211_539 : am_CT 211 539 = some (.iadd, 540, 0, 0, 0) := rfl
theorem ct_211_540 : am_CT 211 540 = some (.iaload, 541, 0, 0, 0) := rfl
theorem ct_211_541 : am_CT 211 541 = some (.aload 0, 542, 0, 0, 0) := rfl
theorem ct_211_542 : am_CT 211 542 = some (.iload 3, 543, 0, 0, 0) := rfl
theorem ct_211_543 : am_CT 211 543 = some (.bipush 2, 544, 0, 0, 0) := rfl
theorem ct_211_544 : am_CT 211 544 = some (.iadd, 545, 0, 0, 0) := rfl
theorem ct_211_545 : am_CT 211 545 = some (.iaload, 546, 0, 0, 0) := rfl
theorem ct_211_546 : am_CT 211 546 = some (.invokevirtual 62, 549, 178, 2, 11) := rfl
theorem ct_211_549 : am_CT 211 549 = some (.aload 2, 550, 0, 0, 0) := rfl
theorem ct_211_550 : am_CT 211 550 = some (.aload 0, 551, 0, 0, 0) := rfl
theorem ct_211_551 : am_CT 211 551 = some (.iload 3, 552, 0, 0, 0) := rfl
theorem ct_211_552 : am_CT 211 552 = some (.bipush 1, 553, 0, 0, 0) := rfl
theorem ct_211_553 : am_CT 211 553 = some (.iadd, 554, 0, 0, 0) := rfl
theorem ct_211_554 : am_CT 211 554 = some (.iaload, 555, 0, 0, 0) := rfl
theorem ct_211_555 : am_CT 211 555 = some (.aload 0, 556, 0, 0, 0) := rfl
theorem ct_211_556 : am_CT 211 556 = some (.iload 3, 557, 0, 0, 0) := rfl
theorem ct_211_557 : am_CT 211 557 = some (.bipush 2, 558, 0, 0, 0) := rfl
theorem ct_211_558 : am_CT 211 558 = some (.iadd, 559, 0, 0, 0) := rfl
theorem ct_211_559 : am_CT 211 559 = some (.iaload, 560, 0, 0, 0) := rfl
theorem ct_211_560 : am_CT 211 560 = some (.invokevirtual 65, 563, 261, 2, 12) := rfl
theorem ct_211_563 : am_CT 211 563 = some (.if_icmp .eq 796, 566, 1359, 0, 0) := rfl
theorem ct_211_566 : am_CT 211 566 = some (.bipush 0, 567, 0, 0, 0) := rfl
theorem ct_211_567 : am_CT 211 567 = some (.ireturn, 568, 1, 0, 0) := rfl
theorem ct_211_568 : am_CT 211 568 = some (.aload 1, 569, 0, 0, 0) := rfl
theorem ct_211_569 : am_CT 211 569 = some (.aload 0, 570, 0, 0, 0) := rfl
theorem ct_211_570 : am_CT 211 570 = some (.iload 3, 571, 0, 0, 0) := rfl
theorem ct_211_571 : am_CT 211 571 = some (.bipush 1, 572, 0, 0, 0) := rfl
theorem ct_211_572 : am_CT 211 572 = some (.iadd, 573, 0, 0, 0) := rfl
theorem ct_211_573 : am_CT 211 573 = some (.iaload, 574, 0, 0, 0) := rfl
theorem ct_211_574 : am_CT 211 574 = some (.aload 0, 575, 0, 0, 0) := rfl
theorem ct_211_575 : am_CT 211 575 = some (.iload 3, 576, 0, 0, 0) := rfl
theorem ct_211_576 : am_CT 211 576 = some (.bipush 2, 577, 0, 0, 0) := rfl
theorem ct_211_577 : am_CT 211 577 = some (.iadd, 578, 0, 0, 0) := rfl
theorem ct_211_578 : am_CT 211 578 = some (.iaload, 579, 0, 0, 0) := rfl
theorem ct_211_579 : am_CT 211 579 = some (.invokevirtual 66, 582, 179, 2, 11) := rfl
theorem ct_211_582 : am_CT 211 582 = some (.aload 2, 583, 0, 0, 0) := rfl
theorem ct_211_583 : am_CT 211 583 = some (.aload 0, 584, 0, 0, 0) := rfl
theorem ct_211_584 : am_CT 211 584 = some (.iload 3, 585, 0, 0, 0) := rfl
theorem ct_211_585 : am_CT 211 585 = some (.bipush 1, 586, 0, 0, 0) := rfl
theorem ct_211_586 : am_CT 211 586 = some (.iadd, 587, 0, 0, 0) := rfl
theorem ct_211_587 : am_CT 211 587 = some (.iaload, 588, 0, 0, 0) := rfl
theorem ct_211_588 : am_CT 211 588 = some (.aload 0, 589, 0, 0, 0) := rfl
theorem ct_211_589 : am_CT 211 589 = some (.iload 3, 590, 0, 0, 0) := rfl
theorem ct_211_590 : am_CT 211 590 = some (.bipush 2, 591, 0, 0, 0) := rfl
theorem ct_211_591 : am_CT 211 591 = some (.iadd, 592, 0, 0, 0) := rfl
theorem ct_211_592 : am_CT 211 592 = some (.iaload, 593, 0, 0, 0) := rfl
theorem ct_211_593 : am_CT 211 593 = some (.invokevirtual 69, 596, 262, 2, 12) := rfl
theorem ct_211_596 : am_CT 211 596 = some (.if_icmp .eq 763, 599, 1359, 0, 0) := rfl
theorem ct_211_599 : am_CT 211 599 = some (.bipush 0, 600, 0, 0, 0) := rfl
theorem ct_211_600 : am_CT 211 600 = some (.ireturn, 601, 1, 0, 0) := rfl
theorem ct_211_601 : am_CT 211 601 = some (.aload 1, 602, 0, 0, 0) := rfl
theorem ct_211_602 : am_CT 211 602 = some (.aload 0, 603, 0, 0, 0) := rfl
theorem ct_211_603 : am_CT 211 603 = some (.iload 3, 604, 0, 0, 0) := rfl
theorem ct_211_604 : am_CT 211 604 = some (.bipush 1, 605, 0, 0, 0) := rfl
theorem ct_211_605 : am_CT 211 605 = some (.iadd, 606, 0, 0, 0) := rfl
theorem ct_211_606 : am_CT 211 606 = some (.iaload, 607, 0, 0, 0) := rfl
theorem ct_211_607 : am_CT 211 607 = some (.aload 0, 608, 0, 0, 0) := rfl
theorem ct_211_608 : am_CT 211 608 = some (.iload 3, 609, 0, 0, 0) := rfl
theorem ct_211_609 : am_CT 211 609 = some (.bipush 2, 610, 0, 0, 0) := rfl
theorem ct_211_610 : am_CT 211 610 = some (.iadd, 611, 0, 0, 0) := rfl
theorem ct_211_611 : am_CT 211 611 = some (.iaload, 612, 0, 0, 0) := rfl
theorem ct_211_612 : am_CT 211 612 = some (.invokevirtual 70, 615, 180, 2, 11) := rfl
theorem ct_211_615 : am_CT 211 615 = some (.aload 2, 616, 0, 0, 0) := rfl
theorem ct_211_616 : am_CT 211 616 = some (.aload 0, 617, 0, 0, 0) := rfl
theorem ct_211_617 : am_CT 211 617 = some (.iload 3, 618, 0, 0, 0) := rfl
theorem ct_211_618 : am_CT 211 618 = some (.bipush 1, 619, 0, 0, 0) := rfl
theorem ct_211_619 : am_CT 211 619 = some (.iadd, 620, 0, 0, 0) := rfl
theorem ct_211_620 : am_CT 211 620 = some (.iaload, 621, 0, 0, 0) := rfl
theorem ct_211_621 : am_CT 211 621 = some (.aload 0, 622, 0, 0, 0) := rfl
theorem ct_211_622 : am_CT 211 622 = some (.iload 3, 623, 0, 0, 0) := rfl
theorem ct_211_623 : am_CT 211 623 = some (.bipush 2, 624, 0, 0, 0) := rfl
theorem ct_211_624 : am_CT 211 624 = some (.iadd, 625, 0, 0, 0) := rfl
theorem ct_211_625 : am_CT 211 625 = some (.iaload, 626, 0, 0, 0) := rfl
theorem ct_211_626 : am_CT 211 626 = some (.invokevirtual 73, 629, 263, 2, 12) := rfl
theorem ct_211_629 : am_CT 211 629 = some (.if_icmp .eq 730, 632, 1359, 0, 0) := rfl
theorem ct_211_632 : am_CT 211 632 = some (.bipush 0, 633, 0, 0, 0) := rfl
theorem ct_211_633 : am_CT 211 633 = some (.ireturn, 634, 1, 0, 0) := rfl
theorem ct_211_634 : am_CT 211 634 = some (.aload 1, 635, 0, 0, 0) := rfl
theorem ct_211_635 : am_CT 211 635 = some (.aload 0, 636, 0, 0, 0) := rfl
theorem ct_211_636 : am_CT 211 636 = some (.iload 3, 637, 0, 0, 0) := rfl
theorem ct_211_637 : am_CT 211 637 = some (.bipush 1, 638, 0, 0, 0) := rfl
theorem ct_211_638 : am_CT 211 638 = some (.iadd, 639, 0, 0, 0) := rfl
theorem ct_211_639 : am_CT 211 639 = some (.iaload, 640, 0, 0, 0) := rfl
theorem ct_211_640 : am_CT 211 640 = some (.aload 0, 641, 0, 0, 0) := rfl
theorem ct_211_641 : am_CT 211 641 = some (.iload 3, 642, 0, 0, 0) := rfl
theorem ct_211_642 : am_CT 211 642 = some (.bipush 2, 643, 0, 0, 0) := rfl
theorem ct_211_643 : am_CT 211 643 = some (.iadd, 644, 0, 0, 0) := rfl
theorem ct_211_644 : am_CT 211 644 = some (.iaload, 645, 0, 0, 0) := rfl
theorem ct_211_645 : am_CT 211 645 = some (.invokevirtual 74, 648, 181, 2, 11) := rfl
theorem ct_211_648 : am_CT 211 648 = some (.aload 2, 649, 0, 0, 0) := rfl
theorem ct_211_649 : am_CT 211 649 = some (.aload 0, 650, 0, 0, 0) := rfl
theorem ct_211_650 : am_CT 211 650 = some (.iload 3, 651, 0, 0, 0) := rfl
theorem ct_211_651 : am_CT 211 651 = some (.bipush 1, 652, 0, 0, 0) := rfl
theorem ct_211_652 : am_CT 211 652 = some (.iadd, 653, 0, 0, 0) := rfl
theorem ct_211_653 : am_CT 211 653 = some (.iaload, 654, 0, 0, 0) := rfl
theorem ct_211_654 : am_CT 211 654 = some (.aload 0, 655, 0, 0, 0) := rfl
theorem ct_211_655 : am_CT 211 655 = some (.iload 3, 656, 0, 0, 0) := rfl
theorem ct_211_656 : am_CT 211 656 = some (.bipush 2, 657, 0, 0, 0) := rfl
theorem ct_211_657 : am_CT 211 657 = some (.iadd, 658, 0, 0, 0) := rfl
theorem ct_211_658 : am_CT 211 658 = some (.iaload, 659, 0, 0, 0) := rfl
theorem ct_211_659 : am_CT 211 659 = some (.invokevirtual 77, 662, 264, 2, 12) := rfl
theorem ct_211_662 : am_CT 211 662 = some (.if_icmp .eq 697, 665, 1359, 0, 0) := rfl
theorem ct_211_665 : am_CT 211 665 = some (.bipush 0, 666, 0, 0, 0) := rfl
theorem ct_211_666 : am_CT 211 666 = some (.ireturn, 667, 1, 0, 0) := rfl
theorem ct_211_667 : am_CT 211 667 = some (.aload 1, 668, 0, 0, 0) := rfl
theorem ct_211_668 : am_CT 211 668 = some (.aload 0, 669, 0, 0, 0) := rfl
theorem ct_211_669 : am_CT 211 669 = some (.iload 3, 670, 0, 0, 0) := rfl
theorem ct_211_670 : am_CT 211 670 = some (.bipush 1, 671, 0, 0, 0) := rfl
theorem ct_211_671 : am_CT 211 671 = some (.iadd, 672, 0, 0, 0) := rfl
theorem ct_211_672 : am_CT 211 672 = some (.iaload, 673, 0, 0, 0) := rfl
theorem ct_211_673 : am_CT 211 673 = some (.aload 0, 674, 0, 0, 0) := rfl
theorem ct_211_674 : am_CT 211 674 = some (.iload 3, 675, 0, 0, 0) := rfl
theorem ct_211_675 : am_CT 211 675 = some (.bipush 2, 676, 0, 0, 0) := rfl
theorem ct_211_676 : am_CT 211 676 = some (.iadd, 677, 0, 0, 0) := rfl
theorem ct_211_677 : am_CT 211 677 = some (.iaload, 678, 0, 0, 0) := rfl
theorem ct_211_678 : am_CT 211 678 = some (.invokevirtual 78, 681, 182, 2, 11) := rfl
theorem ct_211_681 : am_CT 211 681 = some (.aload 2, 682, 0, 0, 0) := rfl
theorem ct_211_682 : am_CT 211 682 = some (.aload 0, 683, 0, 0, 0) := rfl
theorem ct_211_683 : am_CT 211 683 = some (.iload 3, 684, 0, 0, 0) := rfl
theorem ct_211_684 : am_CT 211 684 = some (.bipush 1, 685, 0, 0, 0) := rfl
theorem ct_211_685 : am_CT 211 685 = some (.iadd, 686, 0, 0, 0) := rfl
theorem ct_211_686 : am_CT 211 686 = some (.iaload, 687, 0, 0, 0) := rfl
theorem ct_211_687 : am_CT 211 687 = some (.aload 0, 688, 0, 0, 0) := rfl
theorem ct_211_688 : am_CT 211 688 = some (.iload 3, 689, 0, 0, 0) := rfl
theorem ct_211_689 : am_CT 211 689 = some (.bipush 2, 690, 0, 0, 0) := rfl
theorem ct_211_690 : am_CT 211 690 = some (.iadd, 691, 0, 0, 0) := rfl
theorem ct_211_691 : am_CT 211 691 = some (.iaload, 692, 0, 0, 0) := rfl
theorem ct_211_692 : am_CT 211 692 = some (.invokevirtual 81, 695, 266, 2, 12) := rfl
theorem ct_211_695 : am_CT 211 695 = some (.if_icmp .eq 664, 698, 1359, 0, 0) := rfl
theorem ct_211_698 : am_CT 211 698 = some (.bipush 0, 699, 0, 0, 0) := rfl
theorem ct_211_699 : am_CT 211 699 = some (.ireturn, 700, 1, 0, 0) := rfl
theorem ct_211_700 : am_CT 211 700 = some (.aload 1, 701, 0, 0, 0) := rfl
theorem ct_211_701 : am_CT 211 701 = some (.aload 0, 702, 0, 0, 0) := rfl
theorem ct_211_702 : am_CT 211 702 = some (.iload 3, 703, 0, 0, 0) := rfl
theorem ct_211_703 : am_CT 211 703 = some (.bipush 1, 704, 0, 0, 0) := rfl
theorem ct_211_704 : am_CT 211 704 = some (.iadd, 705, 0, 0, 0) := rfl
theorem ct_211_705 : am_CT 211 705 = some (.iaload, 706, 0, 0, 0) := rfl
theorem ct_211_706 : am_CT 211 706 = some (.invokevirtual 82, 709, 183, 1, 11) := rfl
theorem ct_211_709 : am_CT 211 709 = some (.aload 2, 710, 0, 0, 0) := rfl
theorem ct_211_710 : am_CT 211 710 = some (.aload 0, 711, 0, 0, 0) := rfl
theorem ct_211_711 : am_CT 211 711 = some (.iload 3, 712, 0, 0, 0) := rfl
theorem ct_211_712 : am_CT 211 712 = some (.bipush 1, 713, 0, 0, 0) := rfl
theorem ct_211_713 : am_CT 211 713 = some (.iadd, 714, 0, 0, 0) := rfl
theorem ct_211_714 : am_CT 211 714 = some (.iaload, 715, 0, 0, 0) := rfl
theorem ct_211_715 : am_CT 211 715 = some (.invokevirtual 85, 718, 267, 1, 12) := rfl
theorem ct_211_718 : am_CT 211 718 = some (.if_icmp .eq 641, 721, 1359, 0, 0) := rfl
theorem ct_211_721 : am_CT 211 721 = some (.bipush 0, 722, 0, 0, 0) := rfl
theorem ct_211_722 : am_CT 211 722 = some (.ireturn, 723, 1, 0, 0) := rfl
theorem ct_211_723 : am_CT 211 723 = some (.aload 1, 724, 0, 0, 0) := rfl
theorem ct_211_724 : am_CT 211 724 = some (.aload 0, 725, 0, 0, 0) := rfl
theorem ct_211_725 : am_CT 211 725 = some (.iload 3, 726, 0, 0, 0) := rfl
theorem ct_211_726 : am_CT 211 726 = some (.bipush 1, 727, 0, 0, 0) := rfl
theorem ct_211_727 : am_CT 211 727 = some (.iadd, 728, 0, 0, 0) := rfl
theorem ct_211_728 : am_CT 211 728 = some (.iaload, 729, 0, 0, 0) := rfl
theorem ct_211_729 : am_CT 211 729 = some (.aload 0, 730, 0, 0, 0) := rfl
theorem ct_211_730 : am_CT 211 730 = some (.iload 3, 731, 0, 0, 0) := rfl
theorem ct_211_731 : am_CT 211 731 = some (.bipush 2, 732, 0, 0, 0) := rfl
theorem ct_211_732 : am_CT 211 732 = some (.iadd, 733, 0, 0, 0) := rfl
theorem ct_211_733 : am_CT 211 733 = some (.iaload, 734, 0, 0, 0) := rfl
theorem ct_211_734 : am_CT 211 734 = some (.invokevirtual 86, 737, 184, 2, 11) := rfl
theorem ct_211_737 : am_CT 211 737 = some (.aload 2, 738, 0, 0, 0) := rfl
theorem ct_211_738 : am_CT 211 738 = some (.aload 0, 739, 0, 0, 0) := rfl
theorem ct_211_739 : am_CT 211 739 = some (.iload 3, 740, 0, 0, 0) := rfl
theorem ct_211_740 : am_CT 211 740 = some (.bipush 1, 741, 0, 0, 0) := rfl
theorem ct_211_741 : am_CT 211 741 = some (.iadd, 742, 0, 0, 0) := rfl
theorem ct_211_742 : am_CT 211 742 = some (.iaload, 743, 0, 0, 0) := rfl
theorem ct_211_743 : am_CT 211 743 = some (.aload 0, 744, 0, 0, 0) := rfl
theorem ct_211_744 : am_CT 211 744 = some (.iload 3, 745, 0, 0, 0) := rfl
theorem ct_211_745 : am_CT 211 745 = some (.bipush 2, 746, 0, 0, 0) := rfl
theorem ct_211_746 : am_CT 211 746 = some (.iadd, 747, 0, 0, 0) := rfl
theorem ct_211_747 : am_CT 211 747 = some (.iaload, 748, 0, 0, 0) := rfl
theorem ct_211_748 : am_CT 211 748 = some (.invokevirtual 89, 751, 268, 2, 12) := rfl
theorem ct_211_751 : am_CT 211 751 = some (.if_icmp .eq 608, 754, 1359, 0, 0) := rfl
theorem ct_211_754 : am_CT 211 754 = some (.bipush 0, 755, 0, 0, 0) := rfl
theorem ct_211_755 : am_CT 211 755 = some (.ireturn, 756, 1, 0, 0) := rfl
theorem ct_211_756 : am_CT 211 756 = some (.aload 1, 757, 0, 0, 0) := rfl
theorem ct_211_757 : am_CT 211 757 = some (.aload 0, 758, 0, 0, 0) := rfl
theorem ct_211_758 : am_CT 211 758 = some (.iload 3, 759, 0, 0, 0) := rfl
theorem ct_211_759 : am_CT 211 759 = some (.bipush 1, 760, 0, 0, 0) := rfl
theorem ct_211_760 : am_CT 211 760 = some (.iadd, 761, 0, 0, 0) := rfl
theorem ct_211_761 : am_CT 211 761 = some (.iaload, 762, 0, 0, 0) := rfl
theorem ct_211_762 : am_CT 211 762 = some (.aload 0, 763, 0, 0, 0) := rfl
theorem ct_211_763 : am_CT 211 763 = some (.iload 3, 764, 0, 0, 0) := rfl
theorem ct_211_764 : am_CT 211 764 = some (.bipush 2, 765, 0, 0, 0) := rfl
theorem ct_211_765 : am_CT 211 765 = some (.iadd, 766, 0, 0, 0) := rfl
theorem ct_211_766 : am_CT 211 766 = some (.iaload, 767, 0, 0, 0) := rfl
theorem ct_211_767 : am_CT 211 767 = some (.aload 0, 768, 0, 0, 0) := rfl
theorem ct_211_768 : am_CT 211 768 = some (.iload 3, 769, 0, 0, 0) := rfl
theorem ct_211_769 : am_CT 211 769 = some (.bipush 3, 770, 0, 0, 0) := rfl
theorem ct_211_770 : am_CT 211 770 = some (.iadd, 771, 0, 0, 0) := rfl
theorem ct_211_771 : am_CT 211 771 = some (.iaload, 772, 0, 0, 0) := rfl
theorem ct_211_772 : am_CT 211 772 = some (.invokevirtual 90, 775, 185, 3, 11) := rfl
theorem ct_211_775 : am_CT 211 775 = some (.aload 2, 776, 0, 0, 0) := rfl
theorem ct_211_776 : am_CT 211 776 = some (.aload 0, 777, 0, 0, 0) := rfl
theorem ct_211_777 : am_CT 211 777 = some (.iload 3, 778, 0, 0, 0) := rfl
theorem ct_211_778 : am_CT 211 778 = some (.bipush 1, 779, 0, 0, 0) := rfl
theorem ct_211_779 : am_CT 211 779 = some (.iadd, 780, 0, 0, 0) := rfl
theorem ct_211_780 : am_CT 211 780 = some (.iaload, 781, 0, 0, 0) := rfl
theorem ct_211_781 : am_CT 211 781 = some (.aload 0, 782, 0, 0, 0) := rfl
theorem ct_211_782 : am_CT 211 782 = some (.iload 3, 783, 0, 0, 0) := rfl
theorem ct_211_783 : am_CT 211 783 = some (.bipush 2, 784, 0, 0, 0) := rfl
theorem ct_211_784 : am_CT 211 784 = some (.iadd, 785, 0, 0, 0) := rfl
theorem ct_211_785 : am_CT 211 785 = some (.iaload, 786, 0, 0, 0) := rfl
theorem ct_211_786 : am_CT 211 786 = some (.aload 0, 787, 0, 0, 0) := rfl
theorem ct_211_787 : am_CT 211 787 = some (.iload 3, 788, 0, 0, 0) := rfl
theorem ct_211_788 : am_CT 211 788 = some (.bipush 3, 789, 0, 0, 0) := rfl
theorem ct_211_789 : am_CT 211 789 = some (.iadd, 790, 0, 0, 0) := rfl
theorem ct_211_790 : am_CT 211 790 = some (.iaload, 791, 0, 0, 0) := rfl
theorem ct_211_791 : am_CT 211 791 = some (.invokevirtual 93, 794, 269, 3, 12) := rfl
theorem ct_211_794 : am_CT 211 794 = some (.if_icmp .eq 565, 797, 1359, 0, 0) := rfl
theorem ct_211_797 : am_CT 211 797 = some (.bipush 0, 798, 0, 0, 0) := rfl
theorem ct_211_798 : am_CT 211 798 = some (.ireturn, 799, 1, 0, 0) := rfl
theorem ct_211_799 : am_CT 211 799 = some (.aload 1, 800, 0, 0, 0) := rfl
theorem ct_211_800 : am_CT 211 800 = some (.invokevirtual 94, 803, 186, 0, 11) := rfl
theorem ct_211_803 : am_CT 211 803 = some (.aload 2, 804, 0, 0, 0) := rfl
theorem ct_211_804 : am_CT 211 804 = some (.invokevirtual 97, 807, 271, 0, 12) := rfl
theorem ct_211_807 : am_CT 211 807 = some (.if_icmp .eq 552, 810, 1359, 0, 0) := rfl
theorem ct_211_810 : am_CT 211 810 = some (.bipush 0, 811, 0, 0, 0) := rfl
theorem ct_211_811 : am_CT 211 811 = some (.ireturn, 812, 1, 0, 0) := rfl
theorem ct_211_812 : am_CT 211 812 = some (.aload 1, 813, 0, 0, 0) := rfl
theorem ct_211_813 : am_CT 211 813 = some (.aload 0, 814, 0, 0, 0) := rfl
theorem ct_211_814 : am_CT 211 814 = some (.iload 3, 815, 0, 0, 0) := rfl
theorem ct_211_815 : am_CT 211 815 = some (.bipush 1, 816, 0, 0, 0) := rfl
theorem ct_211_816 : am_CT 211 816 = some (.iadd, 817, 0, 0, 0) := rfl
theorem ct_211_817 : am_CT 211 817 = some (.iaload, 818, 0, 0, 0) := rfl
theorem ct_211_818 : am_CT 211 818 = some (.invokevirtual 98, 821, 187, 1, 11) := rfl
theorem ct_211_821 : am_CT 211 821 = some (.aload 2, 822, 0, 0, 0) := rfl
theorem ct_211_822 : am_CT 211 822 = some (.aload 0, 823, 0, 0, 0) := rfl
theorem ct_211_823 : am_CT 211 823 = some (.iload 3, 824, 0, 0, 0) := rfl
theorem ct_211_824 : am_CT 211 824 = some (.bipush 1, 825, 0, 0, 0) := rfl
theorem ct_211_825 : am_CT 211 825 = some (.iadd, 826, 0, 0, 0) := rfl
theorem ct_211_826 : am_CT 211 826 = some (.iaload, 827, 0, 0, 0) := rfl
theorem ct_211_827 : am_CT 211 827 = some (.invokevirtual 101, 830, 272, 1, 12) := rfl
theorem ct_211_830 : am_CT 211 830 = some (.if_icmp .eq 529, 833, 1359, 0, 0) := rfl
theorem ct_211_833 : am_CT 211 833 = some (.bipush 0, 834, 0, 0, 0) := rfl
theorem ct_211_834 : am_CT 211 834 = some (.ireturn, 835, 1, 0, 0) := rfl
theorem ct_211_835 : am_CT 211 835 = some (.aload 1, 836, 0, 0, 0) := rfl
theorem ct_211_836 : am_CT 211 836 = some (.aload 0, 837, 0, 0, 0) := rfl
theorem ct_211_837 : am_CT 211 837 = some (.iload 3, 838, 0, 0, 0) := rfl
theorem ct_211_838 : am_CT 211 838 = some (.bipush 1, 839, 0, 0, 0) := rfl
theorem ct_211_839 : am_CT 211 839 = some (.iadd, 840, 0, 0, 0) := rfl
theorem ct_211_840 : am_CT 211 840 = some (.iaload, 841, 0, 0, 0) := rfl
theorem ct_211_841 : am_CT 211 841 = some (.aload 0, 842, 0, 0, 0) := rfl
theorem ct_211_842 : am_CT 211 842 = some (.iload 3, 843, 0, 0, 0) := rfl
theorem ct_211_843 : am_CT 211 843 = some (.bipush 2, 844, 0, 0, 0) := rfl
theorem ct_211_844 : am_CT 211 844 = some (.iadd, 845, 0, 0, 0) := rfl
theorem ct_211_845 : am_CT 211 845 = some (.iaload, 846, 0, 0, 0) := rfl
theorem ct_211_846 : am_CT 211 846 = some (.invokevirtual 102, 849, 188, 2, 11) := rfl
theorem ct_211_849 : am_CT 211 849 = some (.aload 2, 850, 0, 0, 0) := rfl
theorem ct_211_850 : am_CT 211 850 = some (.aload 0, 851, 0, 0, 0) := rfl
theorem ct_211_851 : am_CT 211 851 = some (.iload 3, 852, 0, 0, 0) := rfl
theorem ct_211_852 : am_CT 211 852 = some (.bipush 1, 853, 0, 0, 0) := rfl
theorem ct_211_853 : am_CT 211 853 = some (.iadd, 854, 0, 0, 0) := rfl
theorem ct_211_854 : am_CT 211 854 = some (.iaload, 855, 0, 0, 0) := rfl
theorem ct_211_855 : am_CT 211 855 = some (.aload 0, 856, 0, 0, 0) := rfl
theorem ct_211_856 : am_CT 211 856 = some (.iload 3, 857, 0, 0, 0) := rfl
theorem ct_211_857 : am_CT 211 857 = some (.bipush 2, 858, 0, 0, 0) := rfl
theorem ct_211_858 : am_CT 211 858 = some (.iadd, 859, 0, 0, 0) := rfl
theorem ct_211_859 : am_CT 211 859 = some (.iaload, 860, 0, 0, 0) := rfl
theorem ct_211_860 : am_CT 211 860 = some (.invokevirtual 106, 863, 275, 2, 12) := rfl
theorem ct_211_863 : am_CT 211 863 = some (.lcmp, 864, 0, 0, 0) := rfl
theorem ct_211_864 : am_CT 211 864 = some (.ifCond .eq 495, 867, 1359, 0, 0) := rfl
theorem ct_211_867 : am_CT 211 867 = some (.bipush 0, 868, 0, 0, 0) := rfl
theorem ct_211_868 : am_CT 211 868 = some (.ireturn, 869, 1, 0, 0) := rfl
theorem ct_211_869 : am_CT 211 869 = some (.aload 1, 870, 0, 0, 0) := rfl
theorem ct_211_870 : am_CT 211 870 = some (.aload 0, 871, 0, 0, 0) := rfl
theorem ct_211_871 : am_CT 211 871 = some (.iload 3, 872, 0, 0, 0) := rfl
theorem ct_211_872 : am_CT 211 872 = some (.bipush 1, 873, 0, 0, 0) := rfl
theorem ct_211_873 : am_CT 211 873 = some (.iadd, 874, 0, 0, 0) := rfl
theorem ct_211_874 : am_CT 211 874 = some (.iaload, 875, 0, 0, 0) := rfl
theorem ct_211_875 : am_CT 211 875 = some (.aload 0, 876, 0, 0, 0) := rfl
theorem ct_211_876 : am_CT 211 876 = some (.iload 3, 877, 0, 0, 0) := rfl
theorem ct_211_877 : am_CT 211 877 = some (.bipush 2, 878, 0, 0, 0) := rfl
theorem ct_211_878 : am_CT 211 878 = some (.iadd, 879, 0, 0, 0) := rfl
theorem ct_211_879 : am_CT 211 879 = some (.iaload, 880, 0, 0, 0) := rfl
theorem ct_211_880 : am_CT 211 880 = some (.invokevirtual 107, 883, 189, 2, 11) := rfl
theorem ct_211_883 : am_CT 211 883 = some (.aload 2, 884, 0, 0, 0) := rfl
theorem ct_211_884 : am_CT 211 884 = some (.aload 0, 885, 0, 0, 0) := rfl
theorem ct_211_885 : am_CT 211 885 = some (.iload 3, 886, 0, 0, 0) := rfl
theorem ct_211_886 : am_CT 211 886 = some (.bipush 1, 887, 0, 0, 0) := rfl
theorem ct_211_887 : am_CT 211 887 = some (.iadd, 888, 0, 0, 0) := rfl
theorem ct_211_888 : am_CT 211 888 = some (.iaload, 889, 0, 0, 0) := rfl
theorem ct_211_889 : am_CT 211 889 = some (.aload 0, 890, 0, 0, 0) := rfl
theorem ct_211_890 : am_CT 211 890 = some (.iload 3, 891, 0, 0, 0) := rfl
theorem ct_211_891 : am_CT 211 891 = some (.bipush 2, 892, 0, 0, 0) := rfl
theorem ct_211_892 : am_CT 211 892 = some (.iadd, 893, 0, 0, 0) := rfl
theorem ct_211_893 : am_CT 211 893 = some (.iaload, 894, 0, 0, 0) := rfl
theorem ct_211_894 : am_CT 211 894 = some (.invokevirtual 110, 897, 276, 2, 12) := rfl
theorem ct_211_897 : am_CT 211 897 = some (.lcmp, 898, 0, 0, 0) := rfl
theorem ct_211_898 : am_CT 211 898 = some (.ifCond .eq 461, 901, 1359, 0, 0) := rfl
theorem ct_211_901 : am_CT 211 901 = some (.bipush 0, 902, 0, 0, 0) := rfl
theorem ct_211_902 : am_CT 211 902 = some (.ireturn, 903, 1, 0, 0) := rfl
theorem ct_211_903 : am_CT 211 903 = some (.aload 1, 904, 0, 0, 0) := rfl
theorem ct_211_904 : am_CT 211 904 = some (.aload 0, 905, 0, 0, 0) := rfl
theorem ct_211_905 : am_CT 211 905 = some (.iload 3, 906, 0, 0, 0) := rfl
theorem ct_211_906 : am_CT 211 906 = some (.bipush 1, 907, 0, 0, 0) := rfl
theorem ct_211_907 : am_CT 211 907 = some (.iadd, 908, 0, 0, 0) := rfl
theorem ct_211_908 : am_CT 211 908 = some (.iaload, 909, 0, 0, 0) := rfl
theorem ct_211_909 : am_CT 211 909 = some (.aload 0, 910, 0, 0, 0) := rfl
theorem ct_211_910 : am_CT 211 910 = some (.iload 3, 911, 0, 0, 0) := rfl
theorem ct_211_911 : am_CT 211 911 = some (.bipush 2, 912, 0, 0, 0) := rfl
theorem ct_211_912 : am_CT 211 912 = some (.iadd, 913, 0, 0, 0) := rfl
theorem ct_211_913 : am_CT 211 913 = some (.iaload, 914, 0, 0, 0) := rfl
theorem ct_211_914 : am_CT 211 914 = some (.ifCond .eq 7, 917, 921, 0, 0) := rfl
theorem ct_211_917 : am_CT 211 917 = some (.bipush 1, 918, 0, 0, 0) := rfl
theorem ct_211_918 : am_CT 211 918 = some (.goto 4, 921, 922, 0, 0) := rfl
theorem ct_211_921 : am_CT 211 921 = some (.bipush 0, 922, 0, 0, 0) := rfl
theorem ct_211_922 : am_CT 211 922 = some (.invokevirtual 111, 925, 190, 2, 11) := rfl
theorem ct_211_925 : am_CT 211 925 = some (.aload 2, 926, 0, 0, 0) := rfl
theorem ct_211_926 : am_CT 211 926 = some (.aload 0, 927, 0, 0, 0) := rfl
theorem ct_211_927 : am_CT 211 927 = some (.iload 3, 928, 0, 0, 0) := rfl
theorem ct_211_928 : am_CT 211 928 = some (.bipush 1, 929, 0, 0, 0) := rfl
theorem ct_211_929 : am_CT 211 929 = some (.iadd, 930, 0, 0, 0) := rfl
theorem ct_211_930 : am_CT 211 930 = some (.iaload, 931, 0, 0, 0) := rfl
theorem ct_211_931 : am_CT 211 931 = some (.aload 0, 932, 0, 0, 0) := rfl
theorem ct_211_932 : am_CT 211 932 = some (.iload 3, 933, 0, 0, 0) := rfl
theorem ct_211_933 : am_CT 211 933 = some (.bipush 2, 934, 0, 0, 0) := rfl
theorem ct_211_934 : am_CT 211 934 = some (.iadd, 935, 0, 0, 0) := rfl
theorem ct_211_935 : am_CT 211 935 = some (.iaload, 936, 0, 0, 0) := rfl
theorem ct_211_936 : am_CT 211 936 = some (.ifCond .eq 7, 939, 943, 0, 0) := rfl
theorem ct_211_939 : am_CT 211 939 = some (.bipush 1, 940, 0, 0, 0) := rfl
theorem ct_211_940 : am_CT 211 940 = some (.goto 4, 943, 944, 0, 0) := rfl
theorem ct_211_943 : am_CT 211 943 = some (.bipush 0, 944, 0, 0, 0) := rfl
theorem ct_211_944 : am_CT 211 944 = some (.invokevirtual 115, 947, 277, 2, 12) := rfl
theorem ct_211_947 : am_CT 211 947 = some (.if_icmp .eq 412, 950, 1359, 0, 0) := rfl
theorem ct_211_950 : am_CT 211 950 = some (.bipush 0, 951, 0, 0, 0) := rfl
theorem ct_211_951 : am_CT 211 951 = some (.ireturn, 952, 1, 0, 0) := rfl
theorem ct_211_952 : am_CT 211 952 = some (.aload 1, 953, 0, 0, 0) := rfl
theorem ct_211_953 : am_CT 211 953 = some (.invokevirtual 116, 956, 191, 0, 11) := rfl
theorem ct_211_956 : am_CT 211 956 = some (.aload 2, 957, 0, 0, 0) := rfl
theorem ct_211_957 : am_CT 211 957 = some (.invokevirtual 119, 960, 278, 0, 12) := rfl
theorem ct_211_960 : am_CT 211 960 = some (.if_icmp .eq 399, 963, 1359, 0, 0) := rfl
theorem ct_211_963 : am_CT 211 963 = some (.bipush 0, 964, 0, 0, 0) := rfl
theorem ct_211_964 : am_CT 211 964 = some (.ireturn, 965, 1, 0, 0) := rfl
theorem ct_211_965 : am_CT 211 965 = some (.aload 1, 966, 0, 0, 0) := rfl
theorem ct_211_966 : am_CT 211 966 = some (.aload 0, 967, 0, 0, 0) := rfl
theorem ct_211_967 : am_CT 211 967 = some (.iload 3, 968, 0, 0, 0) := rfl
theorem ct_211_968 : am_CT 211 968 = some (.bipush 1, 969, 0, 0, 0) := rfl
theorem ct_211_969 : am_CT 211 969 = some (.iadd, 970, 0, 0, 0) := rfl
theorem ct_211_970 : am_CT 211 970 = some (.iaload, 971, 0, 0, 0) := rfl
theorem ct_211_971 : am_CT 211 971 = some (.aload 0, 972, 0, 0, 0) := rfl
theorem ct_211_972 : am_CT 211 972 = some (.iload 3, 973, 0, 0, 0) := rfl
theorem ct_211_973 : am_CT 211 973 = some (.bipush 2, 974, 0, 0, 0) := rfl
theorem ct_211_974 : am_CT 211 974 = some (.iadd, 975, 0, 0, 0) := rfl
theorem ct_211_975 : am_CT 211 975 = some (.iaload, 976, 0, 0, 0) := rfl
theorem ct_211_976 : am_CT 211 976 = some (.invokevirtual 120, 979, 192, 2, 11) := rfl
theorem ct_211_979 : am_CT 211 979 = some (.aload 2, 980, 0, 0, 0) := rfl
theorem ct_211_980 : am_CT 211 980 = some (.aload 0, 981, 0, 0, 0) := rfl
theorem ct_211_981 : am_CT 211 981 = some (.iload 3, 982, 0, 0, 0) := rfl
theorem ct_211_982 : am_CT 211 982 = some (.bipush 1, 983, 0, 0, 0) := rfl
theorem ct_211_983 : am_CT 211 983 = some (.iadd, 984, 0, 0, 0) := rfl
theorem ct_211_984 : am_CT 211 984 = some (.iaload, 985, 0, 0, 0) := rfl
theorem ct_211_985 : am_CT 211 985 = some (.aload 0, 986, 0, 0, 0) := rfl
theorem ct_211_986 : am_CT 211 986 = some (.iload 3, 987, 0, 0, 0) := rfl
theorem ct_211_987 : am_CT 211 987 = some (.bipush 2, 988, 0, 0, 0) := rfl
theorem ct_211_988 : am_CT 211 988 = some (.iadd, 989, 0, 0, 0) := rfl
theorem ct_211_989 : am_CT 211 989 = some (.iaload, 990, 0, 0, 0) := rfl
theorem ct_211_990 : am_CT 211 990 = some (.invokevirtual 123, 993, 279, 2, 12) := rfl
theorem ct_211_993 : am_CT 211 993 = some (.if_icmp .eq 366, 996, 1359, 0, 0) := rfl
theorem ct_211_996 : am_CT 211 996 = some (.bipush 0, 997, 0, 0, 0) := rfl
theorem ct_211_997 : am_CT 211 997 = some (.ireturn, 998, 1, 0, 0) := rfl
theorem ct_211_998 : am_CT 211 998 = some (.aload 1, 999, 0, 0, 0) := rfl
theorem ct_211_999 : am_CT 211 999 = some (.invokevirtual 124, 1002, 193, 0, 11) := rfl
theorem ct_211_1002 : am_CT 211 1002 = some (.aload 2, 1003, 0, 0, 0) := rfl
theorem ct_211_1003 : am_CT 211 1003 = some (.invokevirtual 127, 1006, 280, 0, 12) := rfl
theorem ct_211_1006 : am_CT 211 1006 = some (.if_icmp .eq 353, 1009, 1359, 0, 0) := rfl
theorem ct_211_1009 : am_CT 211 1009 = some (.bipush 0, 1010, 0, 0, 0) := rfl
theorem ct_211_1010 : am_CT 211 1010 = some (.ireturn, 1011, 1, 0, 0) := rfl
theorem ct_211_1011 : am_CT 211 1011 = some (.aload 1, 1012, 0, 0, 0) := rfl
theorem ct_211_1012 : am_CT 211 1012 = some (.invokevirtual 128, 1015, 194, 0, 11) := rfl
theorem ct_211_1015 : am_CT 211 1015 = some (.aload 2, 1016, 0, 0, 0) := rfl
theorem ct_211_1016 : am_CT 211 1016 = some (.invokevirtual 131, 1019, 281, 0, 12) := rfl
theorem ct_211_1019 : am_CT 211 1019 = some (.if_icmp .eq 340, 1022, 1359, 0, 0) := rfl
theorem ct_211_1022 : am_CT 211 1022 = some (.bipush 0, 1023, 0, 0, 0) := rfl
theorem ct_211_1023 : am_CT 211 1023 = some (.ireturn, 1024, 1, 0, 0) := rfl
theorem ct_211_1024 : am_CT 211 1024 = some (.aload 1, 1025, 0, 0, 0) := rfl
theorem ct_211_1025 : am_CT 211 1025 = some (.aload 0, 1026, 0, 0, 0) := rfl
theorem ct_211_1026 : am_CT 211 1026 = some (.iload 3, 1027, 0, 0, 0) := rfl
theorem ct_211_1027 : am_CT 211 1027 = some (.bipush 1, 1028, 0, 0, 0) := rfl
theorem ct_211_1028 : am_CT 211 1028 = some (.iadd, 1029, 0, 0, 0) := rfl
theorem ct_211_1029 : am_CT 211 1029 = some (.iaload, 1030, 0, 0, 0) := rfl
theorem ct_211_1030 : am_CT 211 1030 = some (.aload 0, 1031, 0, 0, 0) := rfl
theorem ct_211_1031 : am_CT 211 1031 = some (.iload 3, 1032, 0, 0, 0) := rfl
theorem ct_211_1032 : am_CT 211 1032 = some (.bipush 2, 1033, 0, 0, 0) := rfl
theorem ct_211_1033 : am_CT 211 1033 = some (.iadd, 1034, 0, 0, 0) := rfl
theorem ct_211_1034 : am_CT 211 1034 = some (.iaload, 1035, 0, 0, 0) := rfl
theorem ct_211_1035 : am_CT 211 1035 = some (.aload 0, 1036, 0, 0, 0) := rfl
theorem ct_211_1036 : am_CT 211 1036 = some (.iload 3, 1037, 0, 0, 0) := rfl
theorem ct_211_1037 : am_CT 211 1037 = some (.bipush 3, 1038, 0, 0, 0) := rfl
theorem ct_211_1038 : am_CT 211 1038 = some (.iadd, 1039, 0, 0, 0) := rfl
theorem ct_211_1039 : am_CT 211 1039 = some (.iaload, 1040, 0, 0, 0) := rfl
theorem ct_211_1040 : am_CT 211 1040 = some (.invokevirtual 132, 1043, 195, 3, 11) := rfl
theorem ct_211_1043 : am_CT 211 1043 = some (.aload 2, 1044, 0, 0, 0) := rfl
theorem ct_211_1044 : am_CT 211 1044 = some (.aload 0, 1045, 0, 0, 0) := rfl
theorem ct_211_1045 : am_CT 211 1045 = some (.iload 3, 1046, 0, 0, 0) := rfl
theorem ct_211_1046 : am_CT 211 1046 = some (.bipush 1, 1047, 0, 0, 0) := rfl
theorem ct_211_1047 : am_CT 211 1047 = some (.iadd, 1048, 0, 0, 0) := rfl
theorem ct_211_1048 : am_CT 211 1048 = some (.iaload, 1049, 0, 0, 0) := rfl
theorem ct_211_1049 : am_CT 211 1049 = some (.aload 0, 1050, 0, 0, 0) := rfl
theorem ct_211_1050 : am_CT 211 1050 = some (.iload 3, 1051, 0, 0, 0) := rfl
theorem ct_211_1051 : am_CT 211 1051 = some (.bipush 2, 1052, 0, 0, 0) := rfl
theorem ct_211_1052 : am_CT 211 1052 = some (.iadd, 1053, 0, 0, 0) := rfl
theorem ct_211_1053 : am_CT 211 1053 = some (.iaload, 1054, 0, 0, 0) := rfl
theorem ct_211_1054 : am_CT 211 1054 = some (.aload 0, 1055, 0, 0, 0) := rfl
theorem ct_211_1055 : am_CT 211 1055 = some (.iload 3, 1056, 0, 0, 0) := rfl
theorem ct_211_1056 : am_CT 211 1056 = some (.bipush 3, 1057, 0, 0, 0) := rfl
theorem ct_211_1057 : am_CT 211 1057 = some (.iadd, 1058, 0, 0, 0) := rfl
theorem ct_211_1058 : am_CT 211 1058 = some (.iaload, 1059, 0, 0, 0) := rfl
theorem ct_211_1059 : am_CT 211 1059 = some (.invokevirtual 135, 1062, 290, 3, 12) := rfl
theorem ct_211_1062 : am_CT 211 1062 = some (.if_icmp .eq 297, 1065, 1359, 0, 0) := rfl
theorem ct_211_1065 : am_CT 211 1065 = some (.bipush 0, 1066, 0, 0, 0) := rfl
theorem ct_211_1066 : am_CT 211 1066 = some (.ireturn, 1067, 1, 0, 0) := rfl
theorem ct_211_1067 : am_CT 211 1067 = some (.aload 1, 1068, 0, 0, 0) := rfl
theorem ct_211_1068 : am_CT 211 1068 = some (.aload 0, 1069, 0, 0, 0) := rfl
theorem ct_211_1069 : am_CT 211 1069 = some (.iload 3, 1070, 0, 0, 0) := rfl
theorem ct_211_1070 : am_CT 211 1070 = some (.bipush 1, 1071, 0, 0, 0) := rfl
theorem ct_211_1071 : am_CT 211 1071 = some (.iadd, 1072, 0, 0, 0) := rfl
theorem ct_211_1072 : am_CT 211 1072 = some (.iaload, 1073, 0, 0, 0) := rfl
theorem ct_211_1073 : am_CT 211 1073 = some (.invokevirtual 136, 1076, 196, 1, 11) := rfl
theorem ct_211_1076 : am_CT 211 1076 = some (.aload 2, 1077, 0, 0, 0) := rfl
theorem ct_211_1077 : am_CT 211 1077 = some (.aload 0, 1078, 0, 0, 0) := rfl
theorem ct_211_1078 : am_CT 211 1078 = some (.iload 3, 1079, 0, 0, 0) := rfl
theorem ct_211_1079 : am_CT 211 1079 = some (.bipush 1, 1080, 0, 0, 0) := rfl
theorem ct_211_1080 : am_CT 211 1080 = some (.iadd, 1081, 0, 0, 0) := rfl
theorem ct_211_1081 : am_CT 211 1081 = some (.iaload, 1082, 0, 0, 0) := rfl
theorem ct_211_1082 : am_CT 211 1082 = some (.invokevirtual 139, 1085, 291, 1, 12) := rfl
theorem ct_211_1085 : am_CT 211 1085 = some (.if_icmp .eq 274, 1088, 1359, 0, 0) := rfl
theorem ct_211_1088 : am_CT 211 1088 = some (.bipush 0, 1089, 0, 0, 0) := rfl
theorem ct_211_1089 : am_CT 211 1089 = some (.ireturn, 1090, 1, 0, 0) := rfl
theorem ct_211_1090 : am_CT 211 1090 = some (.aload 1, 1091, 0, 0, 0) := rfl
theorem ct_211_1091 : am_CT 211 1091 = some (.aload 0, 1092, 0, 0, 0) := rfl
theorem ct_211_1092 : am_CT 211 1092 = some (.iload 3, 1093, 0, 0, 0) := rfl
theorem ct_211_1093 : am_CT 211 1093 = some (.bipush 1, 1094, 0, 0, 0) := rfl
theorem ct_211_1094 : am_CT 211 1094 = some (.iadd, 1095, 0, 0, 0) := rfl
theorem ct_211_1095 : am_CT 211 1095 = some (.iaload, 1096, 0, 0, 0) := rfl
theorem ct_211_1096 : am_CT 211 1096 = some (.aload 0, 1097, 0, 0, 0) := rfl
theorem ct_211_1097 : am_CT 211 1097 = some (.iload 3, 1098, 0, 0, 0) := rfl
theorem ct_211_1098 : am_CT 211 1098 = some (.bipush 2, 1099, 0, 0, 0) := rfl
theorem ct_211_1099 : am_CT 211 1099 = some (.iadd, 1100, 0, 0, 0) := rfl
theorem ct_211_1100 : am_CT 211 1100 = some (.iaload, 1101, 0, 0, 0) := rfl
theorem ct_211_1101 : am_CT 211 1101 = some (.invokevirtual 140, 1104, 197, 2, 11) := rfl
theorem ct_211_1104 : am_CT 211 1104 = some (.aload 2, 1105, 0, 0, 0) := rfl
theorem ct_211_1105 : am_CT 211 1105 = some (.aload 0, 1106, 0, 0, 0) := rfl
theorem ct_211_1106 : am_CT 211 1106 = some (.iload 3, 1107, 0, 0, 0) := rfl
theorem ct_211_1107 : am_CT 211 1107 = some (.bipush 1, 1108, 0, 0, 0) := rfl
theorem ct_211_1108 : am_CT 211 1108 = some (.iadd, 1109, 0, 0, 0) := rfl
theorem ct_211_1109 : am_CT 211 1109 = some (.iaload, 1110, 0, 0, 0) := rfl
theorem ct_211_1110 : am_CT 211 1110 = some (.aload 0, 1111, 0, 0, 0) := rfl
theorem ct_211_1111 : am_CT 211 1111 = some (.iload 3, 1112, 0, 0, 0) := rfl
theorem ct_211_1112 : am_CT 211 1112 = some (.bipush 2, 1113, 0, 0, 0) := rfl
theorem ct_211_1113 : am_CT 211 1113 = some (.iadd, 1114, 0, 0, 0) := rfl
theorem ct_211_1114 : am_CT 211 1114 = some (.iaload, 1115, 0, 0, 0) := rfl
theorem ct_211_1115 : am_CT 211 1115 = some (.invokevirtual 143, 1118, 292, 2, 12) := rfl
theorem ct_211_1118 : am_CT 211 1118 = some (.if_icmp .eq 241, 1121, 1359, 0, 0) := rfl
theorem ct_211_1121 : am_CT 211 1121 = some (.bipush 0, 1122, 0, 0, 0) := rfl
theorem ct_211_1122 : am_CT 211 1122 = some (.ireturn, 1123, 1, 0, 0) := rfl
theorem ct_211_1123 : am_CT 211 1123 = some (.aload 1, 1124, 0, 0, 0) := rfl
theorem ct_211_1124 : am_CT 211 1124 = some (.aload 0, 1125, 0, 0, 0) := rfl
theorem ct_211_1125 : am_CT 211 1125 = some (.iload 3, 1126, 0, 0, 0) := rfl
theorem ct_211_1126 : am_CT 211 1126 = some (.bipush 1, 1127, 0, 0, 0) := rfl
theorem ct_211_1127 : am_CT 211 1127 = some (.iadd, 1128, 0, 0, 0) := rfl
theorem ct_211_1128 : am_CT 211 1128 = some (.iaload, 1129, 0, 0, 0) := rfl
theorem ct_211_1129 : am_CT 211 1129 = some (.invokevirtual 144, 1132, 198, 1, 11) := rfl
theorem ct_211_1132 : am_CT 211 1132 = some (.aload 2, 1133, 0, 0, 0) := rfl
theorem ct_211_1133 : am_CT 211 1133 = some (.aload 0, 1134, 0, 0, 0) := rfl
theorem ct_211_1134 : am_CT 211 1134 = some (.iload 3, 1135, 0, 0, 0) := rfl
theorem ct_211_1135 : am_CT 211 1135 = some (.bipush 1, 1136, 0, 0, 0) := rfl
theorem ct_211_1136 : am_CT 211 1136 = some (.iadd, 1137, 0, 0, 0) := rfl
theorem ct_211_1137 : am_CT 211 1137 = some (.iaload, 1138, 0, 0, 0) := rfl
theorem ct_211_1138 : am_CT 211 1138 = some (.invokevirtual 147, 1141, 293, 1, 12) := rfl
theorem ct_211_1141 : am_CT 211 1141 = some (.if_icmp .eq 218, 1144, 1359, 0, 0) := rfl
theorem ct_211_1144 : am_CT 211 1144 = some (.bipush 0, 1145, 0, 0, 0) := rfl
theorem ct_211_1145 : am_CT 211 1145 = some (.ireturn, 1146, 1, 0, 0) := rfl
theorem ct_211_1146 : am_CT 211 1146 = some (.aload 1, 1147, 0, 0, 0) := rfl
theorem ct_211_1147 : am_CT 211 1147 = some (.aload 0, 1148, 0, 0, 0) := rfl
theorem ct_211_1148 : am_CT 211 1148 = some (.iload 3, 1149, 0, 0, 0) := rfl
theorem ct_211_1149 : am_CT 211 1149 = some (.bipush 1, 1150, 0, 0, 0) := rfl
theorem ct_211_1150 : am_CT 211 1150 = some (.iadd, 1151, 0, 0, 0) := rfl
theorem ct_211_1151 : am_CT 211 1151 = some (.iaload, 1152, 0, 0, 0) := rfl
theorem ct_211_1152 : am_CT 211 1152 = some (.aload 0, 1153, 0, 0, 0) := rfl
theorem ct_211_1153 : am_CT 211 1153 = some (.iload 3, 1154, 0, 0, 0) := rfl
theorem ct_211_1154 : am_CT 211 1154 = some (.bipush 2, 1155, 0, 0, 0) := rfl
theorem ct_211_1155 : am_CT 211 1155 = some (.iadd, 1156, 0, 0, 0) := rfl
theorem ct_211_1156 : am_CT 211 1156 = some (.iaload, 1157, 0, 0, 0) := rfl
theorem ct_211_1157 : am_CT 211 1157 = some (.aload 0, 1158, 0, 0, 0) := rfl
theorem ct_211_1158 : am_CT 211 1158 = some (.iload 3, 1159, 0, 0, 0) := rfl
theorem ct_211_1159 : am_CT 211 1159 = some (.bipush 3, 1160, 0, 0, 0) := rfl
theorem ct_211_1160 : am_CT 211 1160 = some (.iadd, 1161, 0, 0, 0) := rfl
theorem ct_211_1161 : am_CT 211 1161 = some (.iaload, 1162, 0, 0, 0) := rfl
theorem ct_211_1162 : am_CT 211 1162 = some (.invokevirtual 148, 1165, 199, 3, 11) := rfl
theorem ct_211_1165 : am_CT 211 1165 = some (.aload 2, 1166, 0, 0, 0) := rfl
theorem ct_211_1166 : am_CT 211 1166 = some (.aload 0, 1167, 0, 0, 0) := rfl
theorem ct_211_1167 : am_CT 211 1167 = some (.iload 3, 1168, 0, 0, 0) := rfl
theorem ct_211_1168 : am_CT 211 1168 = some (.bipush 1, 1169, 0, 0, 0) := rfl
theorem ct_211_1169 : am_CT 211 1169 = some (.iadd, 1170, 0, 0, 0) := rfl
theorem ct_211_1170 : am_CT 211 1170 = some (.iaload, 1171, 0, 0, 0) := rfl
theorem ct_211_1171 : am_CT 211 1171 = some (.aload 0, 1172, 0, 0, 0) := rfl
theorem ct_211_1172 : am_CT 211 1172 = some (.iload 3, 1173, 0, 0, 0) := rfl
theorem ct_211_1173 : am_CT 211 1173 = some (.bipush 2, 1174, 0, 0, 0) := rfl
theorem ct_211_1174 : am_CT 211 1174 = some (.iadd, 1175, 0, 0, 0) := rfl
theorem ct_211_1175 : am_CT 211 1175 = some (.iaload, 1176, 0, 0, 0) := rfl
theorem ct_211_1176 : am_CT 211 1176 = some (.aload 0, 1177, 0, 0, 0) := rfl
theorem ct_211_1177 : am_CT 211 1177 = some (.iload 3, 1178, 0, 0, 0) := rfl
theorem ct_211_1178 : am_CT 211 1178 = some (.bipush 3, 1179, 0, 0, 0) := rfl
theorem ct_211_1179 : am_CT 211 1179 = some (.iadd, 1180, 0, 0, 0) := rfl
theorem ct_211_1180 : am_CT 211 1180 = some (.iaload, 1181, 0, 0, 0) := rfl
theorem ct_211_1181 : am_CT 211 1181 = some (.invokevirtual 151, 1184, 295, 3, 12) := rfl
theorem ct_211_1184 : am_CT 211 1184 = some (.if_icmp .eq 175, 1187, 1359, 0, 0) := rfl
theorem ct_211_1187 : am_CT 211 1187 = some (.bipush 0, 1188, 0, 0, 0) := rfl
theorem ct_211_1188 : am_CT 211 1188 = some (.ireturn, 1189, 1, 0, 0) := rfl
theorem ct_211_1189 : am_CT 211 1189 = some (.aload 1, 1190, 0, 0, 0) := rfl
theorem ct_211_1190 : am_CT 211 1190 = some (.aload 0, 1191, 0, 0, 0) := rfl
theorem ct_211_1191 : am_CT 211 1191 = some (.iload 3, 1192, 0, 0, 0) := rfl
theorem ct_211_1192 : am_CT 211 1192 = some (.bipush 1, 1193, 0, 0, 0) := rfl
theorem ct_211_1193 : am_CT 211 1193 = some (.iadd, 1194, 0, 0, 0) := rfl
theorem ct_211_1194 : am_CT 211 1194 = some (.iaload, 1195, 0, 0, 0) := rfl
theorem ct_211_1195 : am_CT 211 1195 = some (.aload 0, 1196, 0, 0, 0) := rfl
theorem ct_211_1196 : am_CT 211 1196 = some (.iload 3, 1197, 0, 0, 0) := rfl
theorem ct_211_1197 : am_CT 211 1197 = some (.bipush 2, 1198, 0, 0, 0) := rfl
theorem ct_211_1198 : am_CT 211 1198 = some (.iadd, 1199, 0, 0, 0) := rfl
theorem ct_211_1199 : am_CT 211 1199 = some (.iaload, 1200, 0, 0, 0) := rfl
theorem ct_211_1200 : am_CT 211 1200 = some (.aload 0, 1201, 0, 0, 0) := rfl
theorem ct_211_1201 : am_CT 211 1201 = some (.iload 3, 1202, 0, 0, 0) := rfl
theorem ct_211_1202 : am_CT 211 1202 = some (.bipush 3, 1203, 0, 0, 0) := rfl
theorem ct_211_1203 : am_CT 211 1203 = some (.iadd, 1204, 0, 0, 0) := rfl
theorem ct_211_1204 : am_CT 211 1204 = some (.iaload, 1205, 0, 0, 0) := rfl
theorem ct_211_1205 : am_CT 211 1205 = some (.i2l, 1206, 0, 0, 0) := rfl
theorem ct_211_1206 : am_CT 211 1206 = some (.bipush 32, 1208, 0, 0, 0) := rfl
theorem ct_211_1208 : am_CT 211 1208 = some (.lshl, 1209, 0, 0, 0) := rfl
theorem ct_211_1209 : am_CT 211 1209 = some (.aload 0, 1210, 0, 0, 0) := rfl
theorem ct_211_1210 : am_CT 211 1210 = some (.iload 3, 1211, 0, 0, 0) := rfl
theorem ct_211_1211 : am_CT 211 1211 = some (.bipush 4, 1212, 0, 0, 0) := rfl
theorem ct_211_1212 : am_CT 211 1212 = some (.iadd, 1213, 0, 0, 0) := rfl
theorem ct_211_1213 : am_CT 211 1213 = some (.iaload, 1214, 0, 0, 0) := rfl
theorem ct_211_1214 : am_CT 211 1214 = some (.i2l, 1215, 0, 0, 0) := rfl
theorem ct_211_1215 : am_CT 211 1215 = some (.sipush 4294967295, 1218, 152, 1, 0) := rfl
theorem ct_211_1218 : am_CT 211 1218 = some (.land, 1219, 0, 0, 0) := rfl
theorem ct_211_1219 : am_CT 211 1219 = some (.lor, 1220, 0, 0, 0) := rfl
theorem ct_211_1220 : am_CT 211 1220 = some (.invokevirtual 154, 1223, 200, 3, 11) := rfl
theorem ct_211_1223 : am_CT 211 1223 = some (.aload 2, 1224, 0, 0, 0) := rfl
theorem ct_211_1224 : am_CT 211 1224 = some (.aload 0, 1225, 0, 0, 0) := rfl
theorem ct_211_1225 : am_CT 211 1225 = some (.iload 3, 1226, 0, 0, 0) := rfl
theorem ct_211_1226 : am_CT 211 1226 = some (.bipush 1, 1227, 0, 0, 0) := rfl
theorem ct_211_1227 : am_CT 211 1227 = some (.iadd, 1228, 0, 0, 0) := rfl
theorem ct_211_1228 : am_CT 211 1228 = some (.iaload, 1229, 0, 0, 0) := rfl
theorem ct_211_1229 : am_CT 211 1229 = some (.aload 0, 1230, 0, 0, 0) := rfl
theorem ct_211_1230 : am_CT 211 1230 = some (.iload 3, 1231, 0, 0, 0) := rfl
theorem ct_211_1231 : am_CT 211 1231 = some (.bipush 2, 1232, 0, 0, 0) := rfl
theorem ct_211_1232 : am_CT 211 1232 = some (.iadd, 1233, 0, 0, 0) := rfl
theorem ct_211_1233 : am_CT 211 1233 = some (.iaload, 1234, 0, 0, 0) := rfl
theorem ct_211_1234 : am_CT 211 1234 = some (.aload 0, 1235, 0, 0, 0) := rfl
theorem ct_211_1235 : am_CT 211 1235 = some (.iload 3, 1236, 0, 0, 0) := rfl
theorem ct_211_1236 : am_CT 211 1236 = some (.bipush 3, 1237, 0, 0, 0) := rfl
theorem ct_211_1237 : am_CT 211 1237 = some (.iadd, 1238, 0, 0, 0) := rfl
theorem ct_211_1238 : am_CT 211 1238 = some (.iaload, 1239, 0, 0, 0) := rfl
theorem ct_211_1239 : am_CT 211 1239 = some (.i2l, 1240, 0, 0, 0) := rfl
theorem ct_211_1240 : am_CT 211 1240 = some (.bipush 32, 1242, 0, 0, 0) := rfl
theorem ct_211_1242 : am_CT 211 1242 = some (.lshl, 1243, 0, 0, 0) := rfl
theorem ct_211_1243 : am_CT 211 1243 = some (.aload 0, 1244, 0, 0, 0) := rfl
theorem ct_211_1244 : am_CT 211 1244 = some (.iload 3, 1245, 0, 0, 0) := rfl
theorem ct_211_1245 : am_CT 211 1245 = some (.bipush 4, 1246, 0, 0, 0) := rfl
theorem ct_211_1246 : am_CT 211 1246 = some (.iadd, 1247, 0, 0, 0) := rfl
theorem ct_211_1247 : am_CT 211 1247 = some (.iaload, 1248, 0, 0, 0) := rfl
theorem ct_211_1248 : am_CT 211 1248 = some (.i2l, 1249, 0, 0, 0) := rfl
theorem ct_211_1249 : am_CT 211 1249 = some (.sipush 4294967295, 1252, 152, 1, 0) := rfl
theorem ct_211_1252 : am_CT 211 1252 = some (.land, 1253, 0, 0, 0) := rfl
theorem ct_211_1253 : am_CT 211 1253 = some (.lor, 1254, 0, 0, 0) := rfl
theorem ct_211_1254 : am_CT 211 1254 = some (.invokevirtual 158, 1257, 297, 3, 12) := rfl
theorem ct_211_1257 : am_CT 211 1257 = some (.if_icmp .eq 102, 1260, 1359, 0, 0) := rfl
theorem ct_211_1260 : am_CT 211 1260 = some (.bipush 0, 1261, 0, 0, 0) := rfl
theorem ct_211_1261 : am_CT 211 1261 = some (.ireturn, 1262, 1, 0, 0) := rfl
theorem ct_211_1262 : am_CT 211 1262 = some (.aload 1, 1263, 0, 0, 0) := rfl
theorem ct_211_1263 : am_CT 211 1263 = some (.aload 0, 1264, 0, 0, 0) := rfl
theorem ct_211_1264 : am_CT 211 1264 = some (.iload 3, 1265, 0, 0, 0) := rfl
theorem ct_211_1265 : am_CT 211 1265 = some (.bipush 1, 1266, 0, 0, 0) := rfl
theorem ct_211_1266 : am_CT 211 1266 = some (.iadd, 1267, 0, 0, 0) := rfl
theorem ct_211_1267 : am_CT 211 1267 = some (.iaload, 1268, 0, 0, 0) := rfl
theorem ct_211_1268 : am_CT 211 1268 = some (.aload 0, 1269, 0, 0, 0) := rfl
theorem ct_211_1269 : am_CT 211 1269 = some (.iload 3, 1270, 0, 0, 0) := rfl
theorem ct_211_1270 : am_CT 211 1270 = some (.bipush 2, 1271, 0, 0, 0) := rfl
theorem ct_211_1271 : am_CT 211 1271 = some (.iadd, 1272, 0, 0, 0) := rfl
theorem ct_211_1272 : am_CT 211 1272 = some (.iaload, 1273, 0, 0, 0) := rfl
theorem ct_211_1273 : am_CT 211 1273 = some (.invokevirtual 159, 1276, 201, 2, 11) := rfl
theorem ct_211_1276 : am_CT 211 1276 = some (.aload 2, 1277, 0, 0, 0) := rfl
theorem ct_211_1277 : am_CT 211 1277 = some (.aload 0, 1278, 0, 0, 0) := rfl
theorem ct_211_1278 : am_CT 211 1278 = some (.iload 3, 1279, 0, 0, 0) := rfl
theorem ct_211_1279 : am_CT 211 1279 = some (.bipush 1, 1280, 0, 0, 0) := rfl
theorem ct_211_1280 : am_CT 211 1280 = some (.iadd, 1281, 0, 0, 0) := rfl
theorem ct_211_1281 : am_CT 211 1281 = some (.iaload, 1282, 0, 0, 0) := rfl
theorem ct_211_1282 : am_CT 211 1282 = some (.aload 0, 1283, 0, 0, 0) := rfl
theorem ct_211_1283 : am_CT 211 1283 = some (.iload 3, 1284, 0, 0, 0) := rfl
theorem ct_211_1284 : am_CT 211 1284 = some (.bipush 2, 1285, 0, 0, 0) := rfl
theorem ct_211_1285 : am_CT 211 1285 = some (.iadd, 1286, 0, 0, 0) := rfl
theorem ct_211_1286 : am_CT 211 1286 = some (.iaload, 1287, 0, 0, 0) := rfl
theorem ct_211_1287 : am_CT 211 1287 = some (.invokevirtual 162, 1290, 298, 2, 12) := rfl
theorem ct_211_1290 : am_CT 211 1290 = some (.lcmp, 1291, 0, 0, 0) := rfl
theorem ct_211_1291 : am_CT 211 1291 = some (.ifCond .eq 68, 1294, 1359, 0, 0) := rfl
theorem ct_211_1294 : am_CT 211 1294 = some (.bipush 0, 1295, 0, 0, 0) := rfl
theorem ct_211_1295 : am_CT 211 1295 = some (.ireturn, 1296, 1, 0, 0) := rfl
theorem ct_211_1296 : am_CT 211 1296 = some (.aload 1, 1297, 0, 0, 0) := rfl
theorem ct_211_1297 : am_CT 211 1297 = some (.aload 0, 1298, 0, 0, 0) := rfl
theorem ct_211_1298 : am_CT 211 1298 = some (.iload 3, 1299, 0, 0, 0) := rfl
theorem ct_211_1299 : am_CT 211 1299 = some (.bipush 1, 1300, 0, 0, 0) := rfl
theorem ct_211_1300 : am_CT 211 1300 = some (.iadd, 1301, 0, 0, 0) := rfl
theorem ct_211_1301 : am_CT 211 1301 = some (.iaload, 1302, 0, 0, 0) := rfl
theorem ct_211_1302 : am_CT 211 1302 = some (.aload 0, 1303, 0, 0, 0) := rfl
theorem ct_211_1303 : am_CT 211 1303 = some (.iload 3, 1304, 0, 0, 0) := rfl
theorem ct_211_1304 : am_CT 211 1304 = some (.bipush 2, 1305, 0, 0, 0) := rfl
theorem ct_211_1305 : am_CT 211 1305 = some (.iadd, 1306, 0, 0, 0) := rfl
theorem ct_211_1306 : am_CT 211 1306 = some (.iaload, 1307, 0, 0, 0) := rfl
theorem ct_211_1307 : am_CT 211 1307 = some (.aload 0, 1308, 0, 0, 0) := rfl
theorem ct_211_1308 : am_CT 211 1308 = some (.iload 3, 1309, 0, 0, 0) := rfl
theorem ct_211_1309 : am_CT 211 1309 = some (.bipush 3, 1310, 0, 0, 0) := rfl
theorem ct_211_1310 : am_CT 211 1310 = some (.iadd, 1311, 0, 0, 0) := rfl
theorem ct_211_1311 : am_CT 211 1311 = some (.iaload, 1312, 0, 0, 0) := rfl
theorem ct_211_1312 : am_CT 211 1312 = some (.aload 0, 1313, 0, 0, 0) := rfl
theorem ct_211_1313 : am_CT 211 1313 = some (.iload 3, 1314, 0, 0, 0) := rfl
theorem ct_211_1314 : am_CT 211 1314 = some (.bipush 4, 1315, 0, 0, 0) := rfl
theorem ct_211_1315 : am_CT 211 1315 = some (.iadd, 1316, 0, 0, 0) := rfl
theorem ct_211_1316 : am_CT 211 1316 = some (.iaload, 1317, 0, 0, 0) := rfl
theorem ct_211_1317 : am_CT 211 1317 = some (.aload 0, 1318, 0, 0, 0) := rfl
theorem ct_211_1318 : am_CT 211 1318 = some (.iload 3, 1319, 0, 0, 0) := rfl
theorem ct_211_1319 : am_CT 211 1319 = some (.bipush 5, 1320, 0, 0, 0) := rfl
theorem ct_211_1320 : am_CT 211 1320 = some (.iadd, 1321, 0, 0, 0) := rfl
theorem ct_211_1321 : am_CT 211 1321 = some (.iaload, 1322, 0, 0, 0) := rfl
theorem ct_211_1322 : am_CT 211 1322 = some (.invokevirtual 163, 1325, 202, 5, 11) := rfl
theorem ct_211_1325 : am_CT 211 1325 = some (.aload 2, 1326, 0, 0, 0) := rfl
theorem ct_211_1326 : am_CT 211 1326 = some (.aload 0, 1327, 0, 0, 0) := rfl
theorem ct_211_1327 : am_CT 211 1327 = some (.iload 3, 1328, 0, 0, 0) := rfl
theorem ct_211_1328 : am_CT 211 1328 = some (.bipush 1, 1329, 0, 0, 0) := rfl
theorem ct_211_1329 : am_CT 211 1329 = some (.iadd, 1330, 0, 0, 0) := rfl
theorem ct_211_1330 : am_CT 211 1330 = some (.iaload, 1331, 0, 0, 0) := rfl
theorem ct_211_1331 : am_CT 211 1331 = some (.aload 0, 1332, 0, 0, 0) := rfl
theorem ct_211_1332 : am_CT 211 1332 = some (.iload 3, 1333, 0, 0, 0) := rfl
theorem ct_211_1333 : am_CT 211 1333 = some (.bipush 2, 1334, 0, 0, 0) := rfl
theorem ct_211_1334 : am_CT 211 1334 = some (.iadd, 1335, 0, 0, 0) := rfl
theorem ct_211_1335 : am_CT 211 1335 = some (.iaload, 1336, 0, 0, 0) := rfl
theorem ct_211_1336 : am_CT 211 1336 = some (.aload 0, 1337, 0, 0, 0) := rfl
theorem ct_211_1337 : am_CT 211 1337 = some (.iload 3, 1338, 0, 0, 0) := rfl
theorem ct_211_1338 : am_CT 211 1338 = some (.bipush 3, 1339, 0, 0, 0) := rfl
theorem ct_211_1339 : am_CT 211 1339 = some (.iadd, 1340, 0, 0, 0) := rfl
theorem ct_211_1340 : am_CT 211 1340 = some (.iaload, 1341, 0, 0, 0) := rfl
theorem ct_211_1341 : am_CT 211 1341 = some (.aload 0, 1342, 0, 0, 0) := rfl
theorem ct_211_1342 : am_CT 211 1342 = some (.iload 3, 1343, 0, 0, 0) := rfl
theorem ct_211_1343 : am_CT 211 1343 = some (.bipush 4, 1344, 0, 0, 0) := rfl
theorem ct_211_1344 : am_CT 211 1344 = some (.iadd, 1345, 0, 0, 0) := rfl
theorem ct_211_1345 : am_CT 211 1345 = some (.iaload, 1346, 0, 0, 0) := rfl
theorem ct_211_1346 : am_CT 211 1346 = some (.aload 0, 1347, 0, 0, 0) := rfl
theorem ct_211_1347 : am_CT 211 1347 = some (.iload 3, 1348, 0, 0, 0) := rfl
theorem ct_211_1348 : am_CT 211 1348 = some (.bipush 5, 1349, 0, 0, 0) := rfl
theorem ct_211_1349 : am_CT 211 1349 = some (.iadd, 1350, 0, 0, 0) := rfl
theorem ct_211_1350 : am_CT 211 1350 = some (.iaload, 1351, 0, 0, 0) := rfl
theorem ct_211_1351 : am_CT 211 1351 = some (.invokevirtual 167, 1354, 299, 5, 12) := rfl
theorem ct_211_1354 : am_CT 211 1354 = some (.if_icmp .eq 5, 1357, 1359, 0, 0) := rfl
theorem ct_211_1357 : am_CT 211 1357 = some (.bipush 0, 1358, 0, 0, 0) := rfl
theorem ct_211_1358 : am_CT 211 1358 = some (.ireturn, 1359, 1, 0, 0) := rfl
theorem ct_211_1359 : am_CT 211 1359 = some (.iinc 3 6, 1362, 0, 0, 0) := rfl
theorem ct_211_1362 : am_CT 211 1362 = some (.goto (-1344), 1365, 18, 0, 0) := rfl
theorem ct_211_1365 : am_CT 211 1365 = some (.bipush 1, 1366, 0, 0, 0) := rfl
theorem ct_211_1366 : am_CT 211 1366 = some (.ireturn, 1367, 1, 0, 0) := rfl
