theorem f0_0 : zft 0 0 = some (.aload_n 0, 1) := by decide +kernel
theorem f0_1 : zft 0 1 = some (.invokespecial 3, 3) := by decide +kernel
theorem f0_4 : zft 0 4 = some (.aload_n 0, 1) := by decide +kernel
theorem f0_5 : zft 0 5 = some (.bipush 7, 2) := by decide +kernel
theorem f0_7 : zft 0 7 = some (.newarray .int, 2) := by decide +kernel
theorem f0_9 : zft 0 9 = some (.putfield 9, 3) := by decide +kernel
theorem f0_12 : zft 0 12 = some (.aload_n 0, 1) := by decide +kernel
theorem f0_13 : zft 0 13 = some (.bipush 21, 2) := by decide +kernel
theorem f0_15 : zft 0 15 = some (.newarray .int, 2) := by decide +kernel
theorem f0_17 : zft 0 17 = some (.putfield 15, 3) := by decide +kernel
theorem f0_20 : zft 0 20 = some (.aload_n 0, 1) := by decide +kernel
theorem f0_21 : zft 0 21 = some (.bipush 7, 2) := by decide +kernel
theorem f0_23 : zft 0 23 = some (.newarray .boolean, 2) := by decide +kernel
theorem f0_25 : zft 0 25 = some (.putfield 18, 3) := by decide +kernel
theorem f0_28 : zft 0 28 = some (.aload_n 0, 1) := by decide +kernel
theorem f0_29 : zft 0 29 = some (.bipush 7, 2) := by decide +kernel
theorem f0_31 : zft 0 31 = some (.newarray .boolean, 2) := by decide +kernel
theorem f0_33 : zft 0 33 = some (.putfield 22, 3) := by decide +kernel
theorem f0_36 : zft 0 36 = some (.return_, 1) := by decide +kernel
theorem o0 : zo 0 = 0 := by decide +kernel
theorem p0 : zp 0 = 0 := by decide +kernel
theorem n0 : zn 0 = 1 := by decide +kernel
theorem v0 : zr 0 = none := by decide +kernel
theorem f1_0 : zft 1 0 = some (.aload_n 0, 1) := by decide +kernel
theorem f1_1 : zft 1 1 = some (.iload_n 1, 1) := by decide +kernel
theorem f1_2 : zft 1 2 = some (.putfield 25, 3) := by decide +kernel
theorem f1_5 : zft 1 5 = some (.aload_n 0, 1) := by decide +kernel
theorem f1_6 : zft 1 6 = some (.iload_n 2, 1) := by decide +kernel
theorem f1_7 : zft 1 7 = some (.putfield 29, 3) := by decide +kernel
theorem f1_10 : zft 1 10 = some (.aload_n 0, 1) := by decide +kernel
theorem f1_11 : zft 1 11 = some (.getfield 9, 3) := by decide +kernel
theorem f1_14 : zft 1 14 = some (.iconst 0, 1) := by decide +kernel
theorem f1_15 : zft 1 15 = some (.iload_n 3, 1) := by decide +kernel
theorem f1_16 : zft 1 16 = some (.iastore, 1) := by decide +kernel
theorem f1_17 : zft 1 17 = some (.aload_n 0, 1) := by decide +kernel
theorem f1_18 : zft 1 18 = some (.iconst 1, 1) := by decide +kernel
theorem f1_19 : zft 1 19 = some (.putfield 32, 3) := by decide +kernel
theorem f1_22 : zft 1 22 = some (.return_, 1) := by decide +kernel
theorem o1 : zo 1 = 0 := by decide +kernel
theorem p1 : zp 1 = 3 := by decide +kernel
theorem n1 : zn 1 = 4 := by decide +kernel
theorem v1 : zr 1 = none := by decide +kernel
theorem f2_0 : zft 2 0 = some (.iload_n 2, 1) := by decide +kernel
theorem f2_1 : zft 2 1 = some (.istore_n 3, 1) := by decide +kernel
theorem f2_2 : zft 2 2 = some (.iload_n 3, 1) := by decide +kernel
theorem f2_3 : zft 2 3 = some (.aload_n 0, 1) := by decide +kernel
theorem f2_4 : zft 2 4 = some (.getfield 32, 3) := by decide +kernel
theorem f2_7 : zft 2 7 = some (.if_icmp .ge 18, 3) := by decide +kernel
theorem f2_10 : zft 2 10 = some (.aload_n 0, 1) := by decide +kernel
theorem f2_11 : zft 2 11 = some (.getfield 9, 3) := by decide +kernel
theorem f2_14 : zft 2 14 = some (.iload_n 3, 1) := by decide +kernel
theorem f2_15 : zft 2 15 = some (.aload_n 1, 1) := by decide +kernel
theorem f2_16 : zft 2 16 = some (.iload_n 3, 1) := by decide +kernel
theorem f2_17 : zft 2 17 = some (.iaload, 1) := by decide +kernel
theorem f2_18 : zft 2 18 = some (.iastore, 1) := by decide +kernel
theorem f2_19 : zft 2 19 = some (.iinc 3 1, 3) := by decide +kernel
theorem f2_22 : zft 2 22 = some (.goto (-20), 3) := by decide +kernel
theorem f2_25 : zft 2 25 = some (.return_, 1) := by decide +kernel
theorem o2 : zo 2 = 0 := by decide +kernel
theorem p2 : zp 2 = 2 := by decide +kernel
theorem n2 : zn 2 = 4 := by decide +kernel
theorem v2 : zr 2 = none := by decide +kernel
theorem f3_0 : zft 3 0 = some (.iconst 0, 1) := by decide +kernel
theorem f3_1 : zft 3 1 = some (.istore_n 2, 1) := by decide +kernel
theorem f3_2 : zft 3 2 = some (.iconst 0, 1) := by decide +kernel
theorem f3_3 : zft 3 3 = some (.istore_n 3, 1) := by decide +kernel
theorem f3_4 : zft 3 4 = some (.iload_n 3, 1) := by decide +kernel
theorem f3_5 : zft 3 5 = some (.iconst 3, 1) := by decide +kernel
theorem f3_6 : zft 3 6 = some (.if_icmp .ge 22, 3) := by decide +kernel
theorem f3_9 : zft 3 9 = some (.iload_n 2, 1) := by decide +kernel
theorem f3_10 : zft 3 10 = some (.aload_n 0, 1) := by decide +kernel
theorem f3_11 : zft 3 11 = some (.getfield 15, 3) := by decide +kernel
theorem f3_14 : zft 3 14 = some (.iload_n 1, 1) := by decide +kernel
theorem f3_15 : zft 3 15 = some (.iconst 3, 1) := by decide +kernel
theorem f3_16 : zft 3 16 = some (.imul, 1) := by decide +kernel
theorem f3_17 : zft 3 17 = some (.iload_n 3, 1) := by decide +kernel
theorem f3_18 : zft 3 18 = some (.iadd, 1) := by decide +kernel
theorem f3_19 : zft 3 19 = some (.iaload, 1) := by decide +kernel
theorem f3_20 : zft 3 20 = some (.iadd, 1) := by decide +kernel
theorem f3_21 : zft 3 21 = some (.istore_n 2, 1) := by decide +kernel
theorem f3_22 : zft 3 22 = some (.iinc 3 1, 3) := by decide +kernel
theorem f3_25 : zft 3 25 = some (.goto (-21), 3) := by decide +kernel
theorem f3_28 : zft 3 28 = some (.iload_n 2, 1) := by decide +kernel
theorem f3_29 : zft 3 29 = some (.ifCond .le 7, 3) := by decide +kernel
theorem f3_32 : zft 3 32 = some (.iconst 1, 1) := by decide +kernel
theorem f3_33 : zft 3 33 = some (.goto 4, 3) := by decide +kernel
theorem f3_36 : zft 3 36 = some (.iconst 0, 1) := by decide +kernel
theorem f3_37 : zft 3 37 = some (.ireturn, 1) := by decide +kernel
theorem o3 : zo 3 = 0 := by decide +kernel
theorem p3 : zp 3 = 1 := by decide +kernel
theorem n3 : zn 3 = 4 := by decide +kernel
theorem v3 : zr 3 = (some .boolean) := by decide +kernel
theorem f4_0 : zft 4 0 = some (.iload_n 1, 1) := by decide +kernel
theorem f4_1 : zft 4 1 = some (.aload_n 0, 1) := by decide +kernel
theorem f4_2 : zft 4 2 = some (.getfield 29, 3) := by decide +kernel
theorem f4_5 : zft 4 5 = some (.isub, 1) := by decide +kernel
theorem f4_6 : zft 4 6 = some (.iconst 0, 1) := by decide +kernel
theorem f4_7 : zft 4 7 = some (.aload_n 0, 1) := by decide +kernel
theorem f4_8 : zft 4 8 = some (.getfield 32, 3) := by decide +kernel
theorem f4_11 : zft 4 11 = some (.iconst 1, 1) := by decide +kernel
theorem f4_12 : zft 4 12 = some (.isub, 1) := by decide +kernel
theorem f4_13 : zft 4 13 = some (.invokestatic 35, 3) := by decide +kernel
theorem f4_16 : zft 4 16 = some (.ireturn, 1) := by decide +kernel
theorem o4 : zo 4 = 0 := by decide +kernel
theorem p4 : zp 4 = 1 := by decide +kernel
theorem n4 : zn 4 = 2 := by decide +kernel
theorem v4 : zr 4 = (some .boolean) := by decide +kernel
theorem f5_0 : zft 5 0 = some (.aload_n 0, 1) := by decide +kernel
theorem f5_1 : zft 5 1 = some (.iload_n 1, 1) := by decide +kernel
theorem f5_2 : zft 5 2 = some (.invokevirtual 39, 3) := by decide +kernel
theorem f5_5 : zft 5 5 = some (.ifCond .eq 20, 3) := by decide +kernel
theorem f5_8 : zft 5 8 = some (.aload_n 0, 1) := by decide +kernel
theorem f5_9 : zft 5 9 = some (.iload_n 1, 1) := by decide +kernel
theorem f5_10 : zft 5 10 = some (.aload_n 0, 1) := by decide +kernel
theorem f5_11 : zft 5 11 = some (.getfield 29, 3) := by decide +kernel
theorem f5_14 : zft 5 14 = some (.isub, 1) := by decide +kernel
theorem f5_15 : zft 5 15 = some (.invokevirtual 43, 3) := by decide +kernel
theorem f5_18 : zft 5 18 = some (.ifCond .eq 7, 3) := by decide +kernel
theorem f5_21 : zft 5 21 = some (.iconst 1, 1) := by decide +kernel
theorem f5_22 : zft 5 22 = some (.goto 4, 3) := by decide +kernel
theorem f5_25 : zft 5 25 = some (.iconst 0, 1) := by decide +kernel
theorem f5_26 : zft 5 26 = some (.ireturn, 1) := by decide +kernel
theorem o5 : zo 5 = 0 := by decide +kernel
theorem p5 : zp 5 = 1 := by decide +kernel
theorem n5 : zn 5 = 2 := by decide +kernel
theorem v5 : zr 5 = (some .boolean) := by decide +kernel
theorem f6_0 : zft 6 0 = some (.aload_n 0, 1) := by decide +kernel
theorem f6_1 : zft 6 1 = some (.iload_n 2, 1) := by decide +kernel
theorem f6_2 : zft 6 2 = some (.invokevirtual 46, 3) := by decide +kernel
theorem f6_5 : zft 6 5 = some (.ifCond .eq 22, 3) := by decide +kernel
theorem f6_8 : zft 6 8 = some (.aload_n 0, 1) := by decide +kernel
theorem f6_9 : zft 6 9 = some (.getfield 9, 3) := by decide +kernel
theorem f6_12 : zft 6 12 = some (.iload_n 2, 1) := by decide +kernel
theorem f6_13 : zft 6 13 = some (.aload_n 0, 1) := by decide +kernel
theorem f6_14 : zft 6 14 = some (.getfield 29, 3) := by decide +kernel
theorem f6_17 : zft 6 17 = some (.isub, 1) := by decide +kernel
theorem f6_18 : zft 6 18 = some (.iaload, 1) := by decide +kernel
theorem f6_19 : zft 6 19 = some (.iload_n 1, 1) := by decide +kernel
theorem f6_20 : zft 6 20 = some (.if_icmp .ne 7, 3) := by decide +kernel
theorem f6_23 : zft 6 23 = some (.iconst 1, 1) := by decide +kernel
theorem f6_24 : zft 6 24 = some (.goto 4, 3) := by decide +kernel
theorem f6_27 : zft 6 27 = some (.iconst 0, 1) := by decide +kernel
theorem f6_28 : zft 6 28 = some (.ireturn, 1) := by decide +kernel
theorem o6 : zo 6 = 0 := by decide +kernel
theorem p6 : zp 6 = 2 := by decide +kernel
theorem n6 : zn 6 = 3 := by decide +kernel
theorem v6 : zr 6 = (some .boolean) := by decide +kernel
theorem f7_0 : zft 7 0 = some (.iload_n 2, 1) := by decide +kernel
theorem f7_1 : zft 7 1 = some (.istore 4, 2) := by decide +kernel
theorem f7_3 : zft 7 3 = some (.iload 4, 2) := by decide +kernel
theorem f7_5 : zft 7 5 = some (.iload_n 3, 1) := by decide +kernel
theorem f7_6 : zft 7 6 = some (.if_icmp .gt 21, 3) := by decide +kernel
theorem f7_9 : zft 7 9 = some (.aload_n 0, 1) := by decide +kernel
theorem f7_10 : zft 7 10 = some (.iload_n 1, 1) := by decide +kernel
theorem f7_11 : zft 7 11 = some (.iload 4, 2) := by decide +kernel
theorem f7_13 : zft 7 13 = some (.invokevirtual 49, 3) := by decide +kernel
theorem f7_16 : zft 7 16 = some (.ifCond .eq 5, 3) := by decide +kernel
theorem f7_19 : zft 7 19 = some (.iconst 1, 1) := by decide +kernel
theorem f7_20 : zft 7 20 = some (.ireturn, 1) := by decide +kernel
theorem f7_21 : zft 7 21 = some (.iinc 4 1, 3) := by decide +kernel
theorem f7_24 : zft 7 24 = some (.goto (-21), 3) := by decide +kernel
theorem f7_27 : zft 7 27 = some (.iconst 0, 1) := by decide +kernel
theorem f7_28 : zft 7 28 = some (.ireturn, 1) := by decide +kernel
theorem o7 : zo 7 = 0 := by decide +kernel
theorem p7 : zp 7 = 3 := by decide +kernel
theorem n7 : zn 7 = 5 := by decide +kernel
theorem v7 : zr 7 = (some .boolean) := by decide +kernel
theorem f8_0 : zft 8 0 = some (.aload_n 0, 1) := by decide +kernel
theorem f8_1 : zft 8 1 = some (.iload_n 1, 1) := by decide +kernel
theorem f8_2 : zft 8 2 = some (.invokevirtual 39, 3) := by decide +kernel
theorem f8_5 : zft 8 5 = some (.ifCond .eq 17, 3) := by decide +kernel
theorem f8_8 : zft 8 8 = some (.aload_n 0, 1) := by decide +kernel
theorem f8_9 : zft 8 9 = some (.getfield 18, 3) := by decide +kernel
theorem f8_12 : zft 8 12 = some (.iload_n 1, 1) := by decide +kernel
theorem f8_13 : zft 8 13 = some (.aload_n 0, 1) := by decide +kernel
theorem f8_14 : zft 8 14 = some (.getfield 29, 3) := by decide +kernel
theorem f8_17 : zft 8 17 = some (.isub, 1) := by decide +kernel
theorem f8_18 : zft 8 18 = some (.baload, 1) := by decide +kernel
theorem f8_19 : zft 8 19 = some (.ifCond .ne 5, 3) := by decide +kernel
theorem f8_22 : zft 8 22 = some (.iconst 0, 1) := by decide +kernel
theorem f8_23 : zft 8 23 = some (.ireturn, 1) := by decide +kernel
theorem f8_24 : zft 8 24 = some (.aload_n 0, 1) := by decide +kernel
theorem f8_25 : zft 8 25 = some (.getfield 22, 3) := by decide +kernel
theorem f8_28 : zft 8 28 = some (.iload_n 1, 1) := by decide +kernel
theorem f8_29 : zft 8 29 = some (.aload_n 0, 1) := by decide +kernel
theorem f8_30 : zft 8 30 = some (.getfield 29, 3) := by decide +kernel
theorem f8_33 : zft 8 33 = some (.isub, 1) := by decide +kernel
theorem f8_34 : zft 8 34 = some (.iconst 1, 1) := by decide +kernel
theorem f8_35 : zft 8 35 = some (.bastore, 1) := by decide +kernel
theorem f8_36 : zft 8 36 = some (.iconst 1, 1) := by decide +kernel
theorem f8_37 : zft 8 37 = some (.ireturn, 1) := by decide +kernel
theorem o8 : zo 8 = 0 := by decide +kernel
theorem p8 : zp 8 = 1 := by decide +kernel
theorem n8 : zn 8 = 2 := by decide +kernel
theorem v8 : zr 8 = (some .boolean) := by decide +kernel
theorem f9_0 : zft 9 0 = some (.aload_n 0, 1) := by decide +kernel
theorem f9_1 : zft 9 1 = some (.iload_n 2, 1) := by decide +kernel
theorem f9_2 : zft 9 2 = some (.invokevirtual 39, 3) := by decide +kernel
theorem f9_5 : zft 9 5 = some (.ifCond .eq 36, 3) := by decide +kernel
theorem f9_8 : zft 9 8 = some (.aload_n 0, 1) := by decide +kernel
theorem f9_9 : zft 9 9 = some (.getfield 22, 3) := by decide +kernel
theorem f9_12 : zft 9 12 = some (.iload_n 2, 1) := by decide +kernel
theorem f9_13 : zft 9 13 = some (.aload_n 0, 1) := by decide +kernel
theorem f9_14 : zft 9 14 = some (.getfield 29, 3) := by decide +kernel
theorem f9_17 : zft 9 17 = some (.isub, 1) := by decide +kernel
theorem f9_18 : zft 9 18 = some (.baload, 1) := by decide +kernel
theorem f9_19 : zft 9 19 = some (.ifCond .eq 22, 3) := by decide +kernel
theorem f9_22 : zft 9 22 = some (.aload_n 0, 1) := by decide +kernel
theorem f9_23 : zft 9 23 = some (.getfield 9, 3) := by decide +kernel
theorem f9_26 : zft 9 26 = some (.iload_n 2, 1) := by decide +kernel
theorem f9_27 : zft 9 27 = some (.aload_n 0, 1) := by decide +kernel
theorem f9_28 : zft 9 28 = some (.getfield 29, 3) := by decide +kernel
theorem f9_31 : zft 9 31 = some (.isub, 1) := by decide +kernel
theorem f9_32 : zft 9 32 = some (.iaload, 1) := by decide +kernel
theorem f9_33 : zft 9 33 = some (.iload_n 1, 1) := by decide +kernel
theorem f9_34 : zft 9 34 = some (.if_icmp .ne 7, 3) := by decide +kernel
theorem f9_37 : zft 9 37 = some (.iconst 1, 1) := by decide +kernel
theorem f9_38 : zft 9 38 = some (.goto 4, 3) := by decide +kernel
theorem f9_41 : zft 9 41 = some (.iconst 0, 1) := by decide +kernel
theorem f9_42 : zft 9 42 = some (.ireturn, 1) := by decide +kernel
theorem o9 : zo 9 = 0 := by decide +kernel
theorem p9 : zp 9 = 2 := by decide +kernel
theorem n9 : zn 9 = 3 := by decide +kernel
theorem v9 : zr 9 = (some .boolean) := by decide +kernel
theorem f10_0 : zft 10 0 = some (.iconst 0, 1) := by decide +kernel
theorem f10_1 : zft 10 1 = some (.istore_n 1, 1) := by decide +kernel
theorem f10_2 : zft 10 2 = some (.iconst 0, 1) := by decide +kernel
theorem f10_3 : zft 10 3 = some (.istore_n 2, 1) := by decide +kernel
theorem f10_4 : zft 10 4 = some (.iload_n 2, 1) := by decide +kernel
theorem f10_5 : zft 10 5 = some (.aload_n 0, 1) := by decide +kernel
theorem f10_6 : zft 10 6 = some (.getfield 32, 3) := by decide +kernel
theorem f10_9 : zft 10 9 = some (.if_icmp .ge 21, 3) := by decide +kernel
theorem f10_12 : zft 10 12 = some (.aload_n 0, 1) := by decide +kernel
theorem f10_13 : zft 10 13 = some (.getfield 22, 3) := by decide +kernel
theorem f10_16 : zft 10 16 = some (.iload_n 2, 1) := by decide +kernel
theorem f10_17 : zft 10 17 = some (.baload, 1) := by decide +kernel
theorem f10_18 : zft 10 18 = some (.ifCond .eq 6, 3) := by decide +kernel
theorem f10_21 : zft 10 21 = some (.iinc 1 1, 3) := by decide +kernel
theorem f10_24 : zft 10 24 = some (.iinc 2 1, 3) := by decide +kernel
theorem f10_27 : zft 10 27 = some (.goto (-23), 3) := by decide +kernel
theorem f10_30 : zft 10 30 = some (.iload_n 1, 1) := by decide +kernel
theorem f10_31 : zft 10 31 = some (.ireturn, 1) := by decide +kernel
theorem o10 : zo 10 = 0 := by decide +kernel
theorem p10 : zp 10 = 0 := by decide +kernel
theorem n10 : zn 10 = 3 := by decide +kernel
theorem v10 : zr 10 = (some .int) := by decide +kernel
theorem f11_0 : zft 11 0 = some (.aload_n 0, 1) := by decide +kernel
theorem f11_1 : zft 11 1 = some (.getfield 53, 3) := by decide +kernel
theorem f11_4 : zft 11 4 = some (.aload_n 1, 1) := by decide +kernel
theorem f11_5 : zft 11 5 = some (.getfield 25, 3) := by decide +kernel
theorem f11_8 : zft 11 8 = some (.imul, 1) := by decide +kernel
theorem f11_9 : zft 11 9 = some (.aload_n 1, 1) := by decide +kernel
theorem f11_10 : zft 11 10 = some (.getfield 53, 3) := by decide +kernel
theorem f11_13 : zft 11 13 = some (.aload_n 0, 1) := by decide +kernel
theorem f11_14 : zft 11 14 = some (.getfield 25, 3) := by decide +kernel
theorem f11_17 : zft 11 17 = some (.imul, 1) := by decide +kernel
theorem f11_18 : zft 11 18 = some (.if_icmp .ge 7, 3) := by decide +kernel
theorem f11_21 : zft 11 21 = some (.iconst 1, 1) := by decide +kernel
theorem f11_22 : zft 11 22 = some (.goto 4, 3) := by decide +kernel
theorem f11_25 : zft 11 25 = some (.iconst 0, 1) := by decide +kernel
theorem f11_26 : zft 11 26 = some (.ireturn, 1) := by decide +kernel
theorem o11 : zo 11 = 0 := by decide +kernel
theorem p11 : zp 11 = 1 := by decide +kernel
theorem n11 : zn 11 = 2 := by decide +kernel
theorem v11 : zr 11 = (some .boolean) := by decide +kernel
theorem f12_0 : zft 12 0 = some (.aload_n 0, 1) := by decide +kernel
theorem f12_1 : zft 12 1 = some (.invokespecial 3, 3) := by decide +kernel
theorem f12_4 : zft 12 4 = some (.aload_n 0, 1) := by decide +kernel
theorem f12_5 : zft 12 5 = some (.bipush 120, 2) := by decide +kernel
theorem f12_7 : zft 12 7 = some (.newarray .int, 2) := by decide +kernel
theorem f12_9 : zft 12 9 = some (.putfield 9, 3) := by decide +kernel
theorem f12_12 : zft 12 12 = some (.aload_n 0, 1) := by decide +kernel
theorem f12_13 : zft 12 13 = some (.bipush 40, 2) := by decide +kernel
theorem f12_15 : zft 12 15 = some (.newarray .boolean, 2) := by decide +kernel
theorem f12_17 : zft 12 17 = some (.putfield 15, 3) := by decide +kernel
theorem f12_20 : zft 12 20 = some (.aload_n 0, 1) := by decide +kernel
theorem f12_21 : zft 12 21 = some (.bipush 12, 2) := by decide +kernel
theorem f12_23 : zft 12 23 = some (.newarray .int, 2) := by decide +kernel
theorem f12_25 : zft 12 25 = some (.putfield 19, 3) := by decide +kernel
theorem f12_28 : zft 12 28 = some (.return_, 1) := by decide +kernel
theorem o12 : zo 12 = 1 := by decide +kernel
theorem p12 : zp 12 = 0 := by decide +kernel
theorem n12 : zn 12 = 1 := by decide +kernel
theorem v12 : zr 12 = none := by decide +kernel
theorem f13_0 : zft 13 0 = some (.iconst 0, 1) := by decide +kernel
theorem f13_1 : zft 13 1 = some (.istore_n 3, 1) := by decide +kernel
theorem f13_2 : zft 13 2 = some (.iload_n 3, 1) := by decide +kernel
theorem f13_3 : zft 13 3 = some (.bipush 40, 2) := by decide +kernel
theorem f13_5 : zft 13 5 = some (.if_icmp .ge 20, 3) := by decide +kernel
theorem f13_8 : zft 13 8 = some (.aload_n 0, 1) := by decide +kernel
theorem f13_9 : zft 13 9 = some (.getfield 9, 3) := by decide +kernel
theorem f13_12 : zft 13 12 = some (.iload_n 3, 1) := by decide +kernel
theorem f13_13 : zft 13 13 = some (.iconst 3, 1) := by decide +kernel
theorem f13_14 : zft 13 14 = some (.imul, 1) := by decide +kernel
theorem f13_15 : zft 13 15 = some (.iload_n 1, 1) := by decide +kernel
theorem f13_16 : zft 13 16 = some (.iadd, 1) := by decide +kernel
theorem f13_17 : zft 13 17 = some (.iload_n 2, 1) := by decide +kernel
theorem f13_18 : zft 13 18 = some (.iastore, 1) := by decide +kernel
theorem f13_19 : zft 13 19 = some (.iinc 3 1, 3) := by decide +kernel
theorem f13_22 : zft 13 22 = some (.goto (-20), 3) := by decide +kernel
theorem f13_25 : zft 13 25 = some (.return_, 1) := by decide +kernel
theorem o13 : zo 13 = 1 := by decide +kernel
theorem p13 : zp 13 = 2 := by decide +kernel
theorem n13 : zn 13 = 4 := by decide +kernel
theorem v13 : zr 13 = none := by decide +kernel
theorem f14_0 : zft 14 0 = some (.iconst 0, 1) := by decide +kernel
theorem f14_1 : zft 14 1 = some (.istore_n 2, 1) := by decide +kernel
theorem f14_2 : zft 14 2 = some (.iconst 0, 1) := by decide +kernel
theorem f14_3 : zft 14 3 = some (.istore_n 3, 1) := by decide +kernel
theorem f14_4 : zft 14 4 = some (.iload_n 3, 1) := by decide +kernel
theorem f14_5 : zft 14 5 = some (.iconst 3, 1) := by decide +kernel
theorem f14_6 : zft 14 6 = some (.if_icmp .ge 22, 3) := by decide +kernel
theorem f14_9 : zft 14 9 = some (.iload_n 2, 1) := by decide +kernel
theorem f14_10 : zft 14 10 = some (.aload_n 0, 1) := by decide +kernel
theorem f14_11 : zft 14 11 = some (.getfield 9, 3) := by decide +kernel
theorem f14_14 : zft 14 14 = some (.iload_n 1, 1) := by decide +kernel
theorem f14_15 : zft 14 15 = some (.iconst 3, 1) := by decide +kernel
theorem f14_16 : zft 14 16 = some (.imul, 1) := by decide +kernel
theorem f14_17 : zft 14 17 = some (.iload_n 3, 1) := by decide +kernel
theorem f14_18 : zft 14 18 = some (.iadd, 1) := by decide +kernel
theorem f14_19 : zft 14 19 = some (.iaload, 1) := by decide +kernel
theorem f14_20 : zft 14 20 = some (.iadd, 1) := by decide +kernel
theorem f14_21 : zft 14 21 = some (.istore_n 2, 1) := by decide +kernel
theorem f14_22 : zft 14 22 = some (.iinc 3 1, 3) := by decide +kernel
theorem f14_25 : zft 14 25 = some (.goto (-21), 3) := by decide +kernel
theorem f14_28 : zft 14 28 = some (.iload_n 2, 1) := by decide +kernel
theorem f14_29 : zft 14 29 = some (.ireturn, 1) := by decide +kernel
theorem o14 : zo 14 = 1 := by decide +kernel
theorem p14 : zp 14 = 1 := by decide +kernel
theorem n14 : zn 14 = 4 := by decide +kernel
theorem v14 : zr 14 = (some .int) := by decide +kernel
theorem f15_0 : zft 15 0 = some (.aload_n 0, 1) := by decide +kernel
theorem f15_1 : zft 15 1 = some (.getfield 15, 3) := by decide +kernel
theorem f15_4 : zft 15 4 = some (.iload_n 1, 1) := by decide +kernel
theorem f15_5 : zft 15 5 = some (.baload, 1) := by decide +kernel
theorem f15_6 : zft 15 6 = some (.ifCond .ne 16, 3) := by decide +kernel
theorem f15_9 : zft 15 9 = some (.aload_n 0, 1) := by decide +kernel
theorem f15_10 : zft 15 10 = some (.iload_n 1, 1) := by decide +kernel
theorem f15_11 : zft 15 11 = some (.invokevirtual 22, 3) := by decide +kernel
theorem f15_14 : zft 15 14 = some (.iload_n 2, 1) := by decide +kernel
theorem f15_15 : zft 15 15 = some (.if_icmp .lt 7, 3) := by decide +kernel
theorem f15_18 : zft 15 18 = some (.iconst 1, 1) := by decide +kernel
theorem f15_19 : zft 15 19 = some (.goto 4, 3) := by decide +kernel
theorem f15_22 : zft 15 22 = some (.iconst 0, 1) := by decide +kernel
theorem f15_23 : zft 15 23 = some (.ireturn, 1) := by decide +kernel
theorem o15 : zo 15 = 1 := by decide +kernel
theorem p15 : zp 15 = 2 := by decide +kernel
theorem n15 : zn 15 = 3 := by decide +kernel
theorem v15 : zr 15 = (some .boolean) := by decide +kernel
theorem f16_0 : zft 16 0 = some (.iload_n 1, 1) := by decide +kernel
theorem f16_1 : zft 16 1 = some (.istore_n 3, 1) := by decide +kernel
theorem f16_2 : zft 16 2 = some (.iload_n 3, 1) := by decide +kernel
theorem f16_3 : zft 16 3 = some (.iload_n 2, 1) := by decide +kernel
theorem f16_4 : zft 16 4 = some (.if_icmp .gt 16, 3) := by decide +kernel
theorem f16_7 : zft 16 7 = some (.aload_n 0, 1) := by decide +kernel
theorem f16_8 : zft 16 8 = some (.getfield 15, 3) := by decide +kernel
theorem f16_11 : zft 16 11 = some (.iload_n 3, 1) := by decide +kernel
theorem f16_12 : zft 16 12 = some (.iconst 1, 1) := by decide +kernel
theorem f16_13 : zft 16 13 = some (.bastore, 1) := by decide +kernel
theorem f16_14 : zft 16 14 = some (.iinc 3 1, 3) := by decide +kernel
theorem f16_17 : zft 16 17 = some (.goto (-15), 3) := by decide +kernel
theorem f16_20 : zft 16 20 = some (.return_, 1) := by decide +kernel
theorem o16 : zo 16 = 1 := by decide +kernel
theorem p16 : zp 16 = 2 := by decide +kernel
theorem n16 : zn 16 = 4 := by decide +kernel
theorem v16 : zr 16 = none := by decide +kernel
theorem f17_0 : zft 17 0 = some (.iconst 0, 1) := by decide +kernel
theorem f17_1 : zft 17 1 = some (.istore_n 3, 1) := by decide +kernel
theorem f17_2 : zft 17 2 = some (.iconst 0, 1) := by decide +kernel
theorem f17_3 : zft 17 3 = some (.istore 4, 2) := by decide +kernel
theorem f17_5 : zft 17 5 = some (.iload 4, 2) := by decide +kernel
theorem f17_7 : zft 17 7 = some (.iconst 3, 1) := by decide +kernel
theorem f17_8 : zft 17 8 = some (.if_icmp .ge 33, 3) := by decide +kernel
theorem f17_11 : zft 17 11 = some (.iload_n 1, 1) := by decide +kernel
theorem f17_12 : zft 17 12 = some (.iload 4, 2) := by decide +kernel
theorem f17_14 : zft 17 14 = some (.ishr, 1) := by decide +kernel
theorem f17_15 : zft 17 15 = some (.iconst 1, 1) := by decide +kernel
theorem f17_16 : zft 17 16 = some (.iand, 1) := by decide +kernel
theorem f17_17 : zft 17 17 = some (.iconst 1, 1) := by decide +kernel
theorem f17_18 : zft 17 18 = some (.if_icmp .ne 17, 3) := by decide +kernel
theorem f17_21 : zft 17 21 = some (.iload_n 3, 1) := by decide +kernel
theorem f17_22 : zft 17 22 = some (.aload_n 0, 1) := by decide +kernel
theorem f17_23 : zft 17 23 = some (.getfield 9, 3) := by decide +kernel
theorem f17_26 : zft 17 26 = some (.iload_n 2, 1) := by decide +kernel
theorem f17_27 : zft 17 27 = some (.iconst 3, 1) := by decide +kernel
theorem f17_28 : zft 17 28 = some (.imul, 1) := by decide +kernel
theorem f17_29 : zft 17 29 = some (.iload 4, 2) := by decide +kernel
theorem f17_31 : zft 17 31 = some (.iadd, 1) := by decide +kernel
theorem f17_32 : zft 17 32 = some (.iaload, 1) := by decide +kernel
theorem f17_33 : zft 17 33 = some (.iadd, 1) := by decide +kernel
theorem f17_34 : zft 17 34 = some (.istore_n 3, 1) := by decide +kernel
theorem f17_35 : zft 17 35 = some (.iinc 4 1, 3) := by decide +kernel
theorem f17_38 : zft 17 38 = some (.goto (-33), 3) := by decide +kernel
theorem f17_41 : zft 17 41 = some (.iload_n 3, 1) := by decide +kernel
theorem f17_42 : zft 17 42 = some (.ireturn, 1) := by decide +kernel
theorem o17 : zo 17 = 1 := by decide +kernel
theorem p17 : zp 17 = 2 := by decide +kernel
theorem n17 : zn 17 = 5 := by decide +kernel
theorem v17 : zr 17 = (some .int) := by decide +kernel
theorem f18_0 : zft 18 0 = some (.iconst 0, 1) := by decide +kernel
theorem f18_1 : zft 18 1 = some (.istore_n 3, 1) := by decide +kernel
theorem f18_2 : zft 18 2 = some (.iload_n 3, 1) := by decide +kernel
theorem f18_3 : zft 18 3 = some (.getstatic 26, 3) := by decide +kernel
theorem f18_6 : zft 18 6 = some (.arraylength, 1) := by decide +kernel
theorem f18_7 : zft 18 7 = some (.if_icmp .ge 29, 3) := by decide +kernel
theorem f18_10 : zft 18 10 = some (.aload_n 0, 1) := by decide +kernel
theorem f18_11 : zft 18 11 = some (.getstatic 26, 3) := by decide +kernel
theorem f18_14 : zft 18 14 = some (.iload_n 3, 1) := by decide +kernel
theorem f18_15 : zft 18 15 = some (.iaload, 1) := by decide +kernel
theorem f18_16 : zft 18 16 = some (.iload_n 1, 1) := by decide +kernel
theorem f18_17 : zft 18 17 = some (.invokevirtual 29, 3) := by decide +kernel
theorem f18_20 : zft 18 20 = some (.iload_n 2, 1) := by decide +kernel
theorem f18_21 : zft 18 21 = some (.if_icmp .lt 9, 3) := by decide +kernel
theorem f18_24 : zft 18 24 = some (.getstatic 26, 3) := by decide +kernel
theorem f18_27 : zft 18 27 = some (.iload_n 3, 1) := by decide +kernel
theorem f18_28 : zft 18 28 = some (.iaload, 1) := by decide +kernel
theorem f18_29 : zft 18 29 = some (.ireturn, 1) := by decide +kernel
theorem f18_30 : zft 18 30 = some (.iinc 3 1, 3) := by decide +kernel
theorem f18_33 : zft 18 33 = some (.goto (-31), 3) := by decide +kernel
theorem f18_36 : zft 18 36 = some (.iconst 0, 1) := by decide +kernel
theorem f18_37 : zft 18 37 = some (.ireturn, 1) := by decide +kernel
theorem o18 : zo 18 = 1 := by decide +kernel
theorem p18 : zp 18 = 2 := by decide +kernel
theorem n18 : zn 18 = 4 := by decide +kernel
theorem v18 : zr 18 = (some .int) := by decide +kernel
theorem f19_0 : zft 19 0 = some (.aload_n 0, 1) := by decide +kernel
theorem f19_1 : zft 19 1 = some (.iload_n 1, 1) := by decide +kernel
theorem f19_2 : zft 19 2 = some (.iload_n 2, 1) := by decide +kernel
theorem f19_3 : zft 19 3 = some (.invokevirtual 33, 3) := by decide +kernel
theorem f19_6 : zft 19 6 = some (.istore 5, 2) := by decide +kernel
theorem f19_8 : zft 19 8 = some (.iload_n 2, 1) := by decide +kernel
theorem f19_9 : zft 19 9 = some (.istore 6, 2) := by decide +kernel
theorem f19_11 : zft 19 11 = some (.iconst 0, 1) := by decide +kernel
theorem f19_12 : zft 19 12 = some (.istore 7, 2) := by decide +kernel
theorem f19_14 : zft 19 14 = some (.iload 7, 2) := by decide +kernel
theorem f19_16 : zft 19 16 = some (.iconst 3, 1) := by decide +kernel
theorem f19_17 : zft 19 17 = some (.if_icmp .ge 74, 3) := by decide +kernel
theorem f19_20 : zft 19 20 = some (.iload 5, 2) := by decide +kernel
theorem f19_22 : zft 19 22 = some (.iload 7, 2) := by decide +kernel
theorem f19_24 : zft 19 24 = some (.ishr, 1) := by decide +kernel
theorem f19_25 : zft 19 25 = some (.iconst 1, 1) := by decide +kernel
theorem f19_26 : zft 19 26 = some (.iand, 1) := by decide +kernel
theorem f19_27 : zft 19 27 = some (.iconst 1, 1) := by decide +kernel
theorem f19_28 : zft 19 28 = some (.if_icmp .ne 22, 3) := by decide +kernel
theorem f19_31 : zft 19 31 = some (.iload 6, 2) := by decide +kernel
theorem f19_33 : zft 19 33 = some (.aload_n 0, 1) := by decide +kernel
theorem f19_34 : zft 19 34 = some (.getfield 9, 3) := by decide +kernel
theorem f19_37 : zft 19 37 = some (.iload_n 1, 1) := by decide +kernel
theorem f19_38 : zft 19 38 = some (.iconst 3, 1) := by decide +kernel
theorem f19_39 : zft 19 39 = some (.imul, 1) := by decide +kernel
theorem f19_40 : zft 19 40 = some (.iload 7, 2) := by decide +kernel
theorem f19_42 : zft 19 42 = some (.iadd, 1) := by decide +kernel
theorem f19_43 : zft 19 43 = some (.iaload, 1) := by decide +kernel
theorem f19_44 : zft 19 44 = some (.invokestatic 36, 3) := by decide +kernel
theorem f19_47 : zft 19 47 = some (.goto 4, 3) := by decide +kernel
theorem f19_50 : zft 19 50 = some (.iconst 0, 1) := by decide +kernel
theorem f19_51 : zft 19 51 = some (.istore 8, 2) := by decide +kernel
theorem f19_53 : zft 19 53 = some (.aload_n 0, 1) := by decide +kernel
theorem f19_54 : zft 19 54 = some (.getfield 9, 3) := by decide +kernel
theorem f19_57 : zft 19 57 = some (.iload_n 1, 1) := by decide +kernel
theorem f19_58 : zft 19 58 = some (.iconst 3, 1) := by decide +kernel
theorem f19_59 : zft 19 59 = some (.imul, 1) := by decide +kernel
theorem f19_60 : zft 19 60 = some (.iload 7, 2) := by decide +kernel
theorem f19_62 : zft 19 62 = some (.iadd, 1) := by decide +kernel
theorem f19_63 : zft 19 63 = some (.dup2, 1) := by decide +kernel
theorem f19_64 : zft 19 64 = some (.iaload, 1) := by decide +kernel
theorem f19_65 : zft 19 65 = some (.iload 8, 2) := by decide +kernel
theorem f19_67 : zft 19 67 = some (.isub, 1) := by decide +kernel
theorem f19_68 : zft 19 68 = some (.iastore, 1) := by decide +kernel
theorem f19_69 : zft 19 69 = some (.aload_n 3, 1) := by decide +kernel
theorem f19_70 : zft 19 70 = some (.iload 4, 2) := by decide +kernel
theorem f19_72 : zft 19 72 = some (.iload 7, 2) := by decide +kernel
theorem f19_74 : zft 19 74 = some (.iadd, 1) := by decide +kernel
theorem f19_75 : zft 19 75 = some (.iload 8, 2) := by decide +kernel
theorem f19_77 : zft 19 77 = some (.iastore, 1) := by decide +kernel
theorem f19_78 : zft 19 78 = some (.iload 6, 2) := by decide +kernel
theorem f19_80 : zft 19 80 = some (.iload 8, 2) := by decide +kernel
theorem f19_82 : zft 19 82 = some (.isub, 1) := by decide +kernel
theorem f19_83 : zft 19 83 = some (.istore 6, 2) := by decide +kernel
theorem f19_85 : zft 19 85 = some (.iinc 7 1, 3) := by decide +kernel
theorem f19_88 : zft 19 88 = some (.goto (-74), 3) := by decide +kernel
theorem f19_91 : zft 19 91 = some (.return_, 1) := by decide +kernel
theorem o19 : zo 19 = 1 := by decide +kernel
theorem p19 : zp 19 = 4 := by decide +kernel
theorem n19 : zn 19 = 9 := by decide +kernel
theorem v19 : zr 19 = none := by decide +kernel
theorem f20_0 : zft 20 0 = some (.iconst 0, 1) := by decide +kernel
theorem f20_1 : zft 20 1 = some (.istore 4, 2) := by decide +kernel
theorem f20_3 : zft 20 3 = some (.iload 4, 2) := by decide +kernel
theorem f20_5 : zft 20 5 = some (.iconst 3, 1) := by decide +kernel
theorem f20_6 : zft 20 6 = some (.if_icmp .ge 36, 3) := by decide +kernel
theorem f20_9 : zft 20 9 = some (.aload_n 0, 1) := by decide +kernel
theorem f20_10 : zft 20 10 = some (.getfield 9, 3) := by decide +kernel
theorem f20_13 : zft 20 13 = some (.iload_n 1, 1) := by decide +kernel
theorem f20_14 : zft 20 14 = some (.iconst 3, 1) := by decide +kernel
theorem f20_15 : zft 20 15 = some (.imul, 1) := by decide +kernel
theorem f20_16 : zft 20 16 = some (.iload 4, 2) := by decide +kernel
theorem f20_18 : zft 20 18 = some (.iadd, 1) := by decide +kernel
theorem f20_19 : zft 20 19 = some (.dup2, 1) := by decide +kernel
theorem f20_20 : zft 20 20 = some (.iaload, 1) := by decide +kernel
theorem f20_21 : zft 20 21 = some (.aload_n 2, 1) := by decide +kernel
theorem f20_22 : zft 20 22 = some (.iload_n 3, 1) := by decide +kernel
theorem f20_23 : zft 20 23 = some (.iload 4, 2) := by decide +kernel
theorem f20_25 : zft 20 25 = some (.iadd, 1) := by decide +kernel
theorem f20_26 : zft 20 26 = some (.iaload, 1) := by decide +kernel
theorem f20_27 : zft 20 27 = some (.iadd, 1) := by decide +kernel
theorem f20_28 : zft 20 28 = some (.iastore, 1) := by decide +kernel
theorem f20_29 : zft 20 29 = some (.aload_n 2, 1) := by decide +kernel
theorem f20_30 : zft 20 30 = some (.iload_n 3, 1) := by decide +kernel
theorem f20_31 : zft 20 31 = some (.iload 4, 2) := by decide +kernel
theorem f20_33 : zft 20 33 = some (.iadd, 1) := by decide +kernel
theorem f20_34 : zft 20 34 = some (.iconst 0, 1) := by decide +kernel
theorem f20_35 : zft 20 35 = some (.iastore, 1) := by decide +kernel
theorem f20_36 : zft 20 36 = some (.iinc 4 1, 3) := by decide +kernel
theorem f20_39 : zft 20 39 = some (.goto (-36), 3) := by decide +kernel
theorem f20_42 : zft 20 42 = some (.return_, 1) := by decide +kernel
theorem o20 : zo 20 = 1 := by decide +kernel
theorem p20 : zp 20 = 3 := by decide +kernel
theorem n20 : zn 20 = 5 := by decide +kernel
theorem v20 : zr 20 = none := by decide +kernel
theorem f21_0 : zft 21 0 = some (.aload_n 0, 1) := by decide +kernel
theorem f21_1 : zft 21 1 = some (.dup, 1) := by decide +kernel
theorem f21_2 : zft 21 2 = some (.getfield 41, 3) := by decide +kernel
theorem f21_5 : zft 21 5 = some (.aload_n 0, 1) := by decide +kernel
theorem f21_6 : zft 21 6 = some (.getfield 45, 3) := by decide +kernel
theorem f21_9 : zft 21 9 = some (.iadd, 1) := by decide +kernel
theorem f21_10 : zft 21 10 = some (.putfield 41, 3) := by decide +kernel
theorem f21_13 : zft 21 13 = some (.aload_n 0, 1) := by decide +kernel
theorem f21_14 : zft 21 14 = some (.iconst 0, 1) := by decide +kernel
theorem f21_15 : zft 21 15 = some (.putfield 45, 3) := by decide +kernel
theorem f21_18 : zft 21 18 = some (.return_, 1) := by decide +kernel
theorem o21 : zo 21 = 1 := by decide +kernel
theorem p21 : zp 21 = 0 := by decide +kernel
theorem n21 : zn 21 = 1 := by decide +kernel
theorem v21 : zr 21 = none := by decide +kernel
theorem f22_0 : zft 22 0 = some (.aload_n 0, 1) := by decide +kernel
theorem f22_1 : zft 22 1 = some (.invokespecial 3, 3) := by decide +kernel
theorem f22_4 : zft 22 4 = some (.aload_n 0, 1) := by decide +kernel
theorem f22_5 : zft 22 5 = some (.bipush 40, 2) := by decide +kernel
theorem f22_7 : zft 22 7 = some (.newarray .int, 2) := by decide +kernel
theorem f22_9 : zft 22 9 = some (.putfield 9, 3) := by decide +kernel
theorem f22_12 : zft 22 12 = some (.aload_n 0, 1) := by decide +kernel
theorem f22_13 : zft 22 13 = some (.bipush 40, 2) := by decide +kernel
theorem f22_15 : zft 22 15 = some (.newarray .int, 2) := by decide +kernel
theorem f22_17 : zft 22 17 = some (.putfield 15, 3) := by decide +kernel
theorem f22_20 : zft 22 20 = some (.aload_n 0, 1) := by decide +kernel
theorem f22_21 : zft 22 21 = some (.bipush 40, 2) := by decide +kernel
theorem f22_23 : zft 22 23 = some (.newarray .int, 2) := by decide +kernel
theorem f22_25 : zft 22 25 = some (.putfield 18, 3) := by decide +kernel
theorem f22_28 : zft 22 28 = some (.aload_n 0, 1) := by decide +kernel
theorem f22_29 : zft 22 29 = some (.bipush 40, 2) := by decide +kernel
theorem f22_31 : zft 22 31 = some (.newarray .boolean, 2) := by decide +kernel
theorem f22_33 : zft 22 33 = some (.putfield 21, 3) := by decide +kernel
theorem f22_36 : zft 22 36 = some (.return_, 1) := by decide +kernel
theorem o22 : zo 22 = 2 := by decide +kernel
theorem p22 : zp 22 = 0 := by decide +kernel
theorem n22 : zn 22 = 1 := by decide +kernel
theorem v22 : zr 22 = none := by decide +kernel
theorem f23_0 : zft 23 0 = some (.aload_n 0, 1) := by decide +kernel
theorem f23_1 : zft 23 1 = some (.getfield 25, 3) := by decide +kernel
theorem f23_4 : zft 23 4 = some (.bipush 40, 2) := by decide +kernel
theorem f23_6 : zft 23 6 = some (.if_icmp .lt 6, 3) := by decide +kernel
theorem f23_9 : zft 23 9 = some (.bipush (-4), 2) := by decide +kernel
theorem f23_11 : zft 23 11 = some (.ireturn, 1) := by decide +kernel
theorem f23_12 : zft 23 12 = some (.aload_n 0, 1) := by decide +kernel
theorem f23_13 : zft 23 13 = some (.getfield 9, 3) := by decide +kernel
theorem f23_16 : zft 23 16 = some (.aload_n 0, 1) := by decide +kernel
theorem f23_17 : zft 23 17 = some (.getfield 25, 3) := by decide +kernel
theorem f23_20 : zft 23 20 = some (.iload_n 1, 1) := by decide +kernel
theorem f23_21 : zft 23 21 = some (.iastore, 1) := by decide +kernel
theorem f23_22 : zft 23 22 = some (.aload_n 0, 1) := by decide +kernel
theorem f23_23 : zft 23 23 = some (.getfield 15, 3) := by decide +kernel
theorem f23_26 : zft 23 26 = some (.aload_n 0, 1) := by decide +kernel
theorem f23_27 : zft 23 27 = some (.getfield 25, 3) := by decide +kernel
theorem f23_30 : zft 23 30 = some (.iload_n 2, 1) := by decide +kernel
theorem f23_31 : zft 23 31 = some (.iastore, 1) := by decide +kernel
theorem f23_32 : zft 23 32 = some (.aload_n 0, 1) := by decide +kernel
theorem f23_33 : zft 23 33 = some (.getfield 18, 3) := by decide +kernel
theorem f23_36 : zft 23 36 = some (.aload_n 0, 1) := by decide +kernel
theorem f23_37 : zft 23 37 = some (.getfield 25, 3) := by decide +kernel
theorem f23_40 : zft 23 40 = some (.iload_n 3, 1) := by decide +kernel
theorem f23_41 : zft 23 41 = some (.iastore, 1) := by decide +kernel
theorem f23_42 : zft 23 42 = some (.aload_n 0, 1) := by decide +kernel
theorem f23_43 : zft 23 43 = some (.dup, 1) := by decide +kernel
theorem f23_44 : zft 23 44 = some (.getfield 25, 3) := by decide +kernel
theorem f23_47 : zft 23 47 = some (.iconst 1, 1) := by decide +kernel
theorem f23_48 : zft 23 48 = some (.iadd, 1) := by decide +kernel
theorem f23_49 : zft 23 49 = some (.putfield 25, 3) := by decide +kernel
theorem f23_52 : zft 23 52 = some (.aload_n 0, 1) := by decide +kernel
theorem f23_53 : zft 23 53 = some (.getfield 25, 3) := by decide +kernel
theorem f23_56 : zft 23 56 = some (.ireturn, 1) := by decide +kernel
theorem o23 : zo 23 = 2 := by decide +kernel
theorem p23 : zp 23 = 3 := by decide +kernel
theorem n23 : zn 23 = 4 := by decide +kernel
theorem v23 : zr 23 = (some .int) := by decide +kernel
theorem f24_0 : zft 24 0 = some (.iconst (-1), 1) := by decide +kernel
theorem f24_1 : zft 24 1 = some (.istore_n 2, 1) := by decide +kernel
theorem f24_2 : zft 24 2 = some (.iconst 0, 1) := by decide +kernel
theorem f24_3 : zft 24 3 = some (.istore_n 3, 1) := by decide +kernel
theorem f24_4 : zft 24 4 = some (.iload_n 3, 1) := by decide +kernel
theorem f24_5 : zft 24 5 = some (.aload_n 0, 1) := by decide +kernel
theorem f24_6 : zft 24 6 = some (.getfield 25, 3) := by decide +kernel
theorem f24_9 : zft 24 9 = some (.if_icmp .ge 62, 3) := by decide +kernel
theorem f24_12 : zft 24 12 = some (.aload_n 0, 1) := by decide +kernel
theorem f24_13 : zft 24 13 = some (.getfield 21, 3) := by decide +kernel
theorem f24_16 : zft 24 16 = some (.iload_n 3, 1) := by decide +kernel
theorem f24_17 : zft 24 17 = some (.baload, 1) := by decide +kernel
theorem f24_18 : zft 24 18 = some (.ifCond .ne 17, 3) := by decide +kernel
theorem f24_21 : zft 24 21 = some (.aload_n 0, 1) := by decide +kernel
theorem f24_22 : zft 24 22 = some (.getfield 18, 3) := by decide +kernel
theorem f24_25 : zft 24 25 = some (.iload_n 3, 1) := by decide +kernel
theorem f24_26 : zft 24 26 = some (.iaload, 1) := by decide +kernel
theorem f24_27 : zft 24 27 = some (.iload_n 1, 1) := by decide +kernel
theorem f24_28 : zft 24 28 = some (.if_icmp .gt 7, 3) := by decide +kernel
theorem f24_31 : zft 24 31 = some (.iconst 1, 1) := by decide +kernel
theorem f24_32 : zft 24 32 = some (.goto 4, 3) := by decide +kernel
theorem f24_35 : zft 24 35 = some (.iconst 0, 1) := by decide +kernel
theorem f24_36 : zft 24 36 = some (.istore 4, 2) := by decide +kernel
theorem f24_38 : zft 24 38 = some (.iload 4, 2) := by decide +kernel
theorem f24_40 : zft 24 40 = some (.ifCond .eq 25, 3) := by decide +kernel
theorem f24_43 : zft 24 43 = some (.iload_n 2, 1) := by decide +kernel
theorem f24_44 : zft 24 44 = some (.iconst (-1), 1) := by decide +kernel
theorem f24_45 : zft 24 45 = some (.if_icmp .eq 18, 3) := by decide +kernel
theorem f24_48 : zft 24 48 = some (.aload_n 0, 1) := by decide +kernel
theorem f24_49 : zft 24 49 = some (.getfield 15, 3) := by decide +kernel
theorem f24_52 : zft 24 52 = some (.iload_n 3, 1) := by decide +kernel
theorem f24_53 : zft 24 53 = some (.iaload, 1) := by decide +kernel
theorem f24_54 : zft 24 54 = some (.aload_n 0, 1) := by decide +kernel
theorem f24_55 : zft 24 55 = some (.getfield 15, 3) := by decide +kernel
theorem f24_58 : zft 24 58 = some (.iload_n 2, 1) := by decide +kernel
theorem f24_59 : zft 24 59 = some (.iaload, 1) := by decide +kernel
theorem f24_60 : zft 24 60 = some (.if_icmp .ge 5, 3) := by decide +kernel
theorem f24_63 : zft 24 63 = some (.iload_n 3, 1) := by decide +kernel
theorem f24_64 : zft 24 64 = some (.istore_n 2, 1) := by decide +kernel
theorem f24_65 : zft 24 65 = some (.iinc 3 1, 3) := by decide +kernel
theorem f24_68 : zft 24 68 = some (.goto (-64), 3) := by decide +kernel
theorem f24_71 : zft 24 71 = some (.iload_n 2, 1) := by decide +kernel
theorem f24_72 : zft 24 72 = some (.ireturn, 1) := by decide +kernel
theorem o24 : zo 24 = 2 := by decide +kernel
theorem p24 : zp 24 = 1 := by decide +kernel
theorem n24 : zn 24 = 5 := by decide +kernel
theorem v24 : zr 24 = (some .int) := by decide +kernel
theorem f25_0 : zft 25 0 = some (.iconst 0, 1) := by decide +kernel
theorem f25_1 : zft 25 1 = some (.istore_n 1, 1) := by decide +kernel
theorem f25_2 : zft 25 2 = some (.iconst 0, 1) := by decide +kernel
theorem f25_3 : zft 25 3 = some (.istore_n 2, 1) := by decide +kernel
theorem f25_4 : zft 25 4 = some (.iload_n 2, 1) := by decide +kernel
theorem f25_5 : zft 25 5 = some (.aload_n 0, 1) := by decide +kernel
theorem f25_6 : zft 25 6 = some (.getfield 25, 3) := by decide +kernel
theorem f25_9 : zft 25 9 = some (.if_icmp .ge 21, 3) := by decide +kernel
theorem f25_12 : zft 25 12 = some (.aload_n 0, 1) := by decide +kernel
theorem f25_13 : zft 25 13 = some (.getfield 21, 3) := by decide +kernel
theorem f25_16 : zft 25 16 = some (.iload_n 2, 1) := by decide +kernel
theorem f25_17 : zft 25 17 = some (.baload, 1) := by decide +kernel
theorem f25_18 : zft 25 18 = some (.ifCond .ne 6, 3) := by decide +kernel
theorem f25_21 : zft 25 21 = some (.iinc 1 1, 3) := by decide +kernel
theorem f25_24 : zft 25 24 = some (.iinc 2 1, 3) := by decide +kernel
theorem f25_27 : zft 25 27 = some (.goto (-23), 3) := by decide +kernel
theorem f25_30 : zft 25 30 = some (.iload_n 1, 1) := by decide +kernel
theorem f25_31 : zft 25 31 = some (.ireturn, 1) := by decide +kernel
theorem o25 : zo 25 = 2 := by decide +kernel
theorem p25 : zp 25 = 0 := by decide +kernel
theorem n25 : zn 25 = 3 := by decide +kernel
theorem v25 : zr 25 = (some .int) := by decide +kernel
theorem f26_0 : zft 26 0 = some (.aload_n 0, 1) := by decide +kernel
theorem f26_1 : zft 26 1 = some (.invokespecial 3, 3) := by decide +kernel
theorem f26_4 : zft 26 4 = some (.aload_n 0, 1) := by decide +kernel
theorem f26_5 : zft 26 5 = some (.bipush 20, 2) := by decide +kernel
theorem f26_7 : zft 26 7 = some (.newarray .int, 2) := by decide +kernel
theorem f26_9 : zft 26 9 = some (.putfield 9, 3) := by decide +kernel
theorem f26_12 : zft 26 12 = some (.aload_n 0, 1) := by decide +kernel
theorem f26_13 : zft 26 13 = some (.bipush 20, 2) := by decide +kernel
theorem f26_15 : zft 26 15 = some (.newarray .int, 2) := by decide +kernel
theorem f26_17 : zft 26 17 = some (.putfield 15, 3) := by decide +kernel
theorem f26_20 : zft 26 20 = some (.return_, 1) := by decide +kernel
theorem o26 : zo 26 = 3 := by decide +kernel
theorem p26 : zp 26 = 0 := by decide +kernel
theorem n26 : zn 26 = 1 := by decide +kernel
theorem v26 : zr 26 = none := by decide +kernel
theorem f27_0 : zft 27 0 = some (.aload_n 0, 1) := by decide +kernel
theorem f27_1 : zft 27 1 = some (.getfield 18, 3) := by decide +kernel
theorem f27_4 : zft 27 4 = some (.bipush 20, 2) := by decide +kernel
theorem f27_6 : zft 27 6 = some (.if_icmp .lt 6, 3) := by decide +kernel
theorem f27_9 : zft 27 9 = some (.bipush (-4), 2) := by decide +kernel
theorem f27_11 : zft 27 11 = some (.ireturn, 1) := by decide +kernel
theorem f27_12 : zft 27 12 = some (.aload_n 0, 1) := by decide +kernel
theorem f27_13 : zft 27 13 = some (.getfield 9, 3) := by decide +kernel
theorem f27_16 : zft 27 16 = some (.aload_n 0, 1) := by decide +kernel
theorem f27_17 : zft 27 17 = some (.getfield 18, 3) := by decide +kernel
theorem f27_20 : zft 27 20 = some (.iload_n 1, 1) := by decide +kernel
theorem f27_21 : zft 27 21 = some (.iastore, 1) := by decide +kernel
theorem f27_22 : zft 27 22 = some (.aload_n 0, 1) := by decide +kernel
theorem f27_23 : zft 27 23 = some (.getfield 15, 3) := by decide +kernel
theorem f27_26 : zft 27 26 = some (.aload_n 0, 1) := by decide +kernel
theorem f27_27 : zft 27 27 = some (.getfield 18, 3) := by decide +kernel
theorem f27_30 : zft 27 30 = some (.iload_n 2, 1) := by decide +kernel
theorem f27_31 : zft 27 31 = some (.iastore, 1) := by decide +kernel
theorem f27_32 : zft 27 32 = some (.aload_n 0, 1) := by decide +kernel
theorem f27_33 : zft 27 33 = some (.dup, 1) := by decide +kernel
theorem f27_34 : zft 27 34 = some (.getfield 18, 3) := by decide +kernel
theorem f27_37 : zft 27 37 = some (.iconst 1, 1) := by decide +kernel
theorem f27_38 : zft 27 38 = some (.iadd, 1) := by decide +kernel
theorem f27_39 : zft 27 39 = some (.putfield 18, 3) := by decide +kernel
theorem f27_42 : zft 27 42 = some (.aload_n 0, 1) := by decide +kernel
theorem f27_43 : zft 27 43 = some (.getfield 18, 3) := by decide +kernel
theorem f27_46 : zft 27 46 = some (.ireturn, 1) := by decide +kernel
theorem o27 : zo 27 = 3 := by decide +kernel
theorem p27 : zp 27 = 2 := by decide +kernel
theorem n27 : zn 27 = 3 := by decide +kernel
theorem v27 : zr 27 = (some .int) := by decide +kernel
theorem f28_0 : zft 28 0 = some (.iconst (-1), 1) := by decide +kernel
theorem f28_1 : zft 28 1 = some (.istore_n 2, 1) := by decide +kernel
theorem f28_2 : zft 28 2 = some (.iconst 0, 1) := by decide +kernel
theorem f28_3 : zft 28 3 = some (.istore_n 3, 1) := by decide +kernel
theorem f28_4 : zft 28 4 = some (.iload_n 3, 1) := by decide +kernel
theorem f28_5 : zft 28 5 = some (.aload_n 0, 1) := by decide +kernel
theorem f28_6 : zft 28 6 = some (.getfield 18, 3) := by decide +kernel
theorem f28_9 : zft 28 9 = some (.if_icmp .ge 41, 3) := by decide +kernel
theorem f28_12 : zft 28 12 = some (.aload_n 0, 1) := by decide +kernel
theorem f28_13 : zft 28 13 = some (.getfield 9, 3) := by decide +kernel
theorem f28_16 : zft 28 16 = some (.iload_n 3, 1) := by decide +kernel
theorem f28_17 : zft 28 17 = some (.iaload, 1) := by decide +kernel
theorem f28_18 : zft 28 18 = some (.iload_n 1, 1) := by decide +kernel
theorem f28_19 : zft 28 19 = some (.if_icmp .gt 25, 3) := by decide +kernel
theorem f28_22 : zft 28 22 = some (.iload_n 2, 1) := by decide +kernel
theorem f28_23 : zft 28 23 = some (.iconst (-1), 1) := by decide +kernel
theorem f28_24 : zft 28 24 = some (.if_icmp .eq 18, 3) := by decide +kernel
theorem f28_27 : zft 28 27 = some (.aload_n 0, 1) := by decide +kernel
theorem f28_28 : zft 28 28 = some (.getfield 9, 3) := by decide +kernel
theorem f28_31 : zft 28 31 = some (.iload_n 3, 1) := by decide +kernel
theorem f28_32 : zft 28 32 = some (.iaload, 1) := by decide +kernel
theorem f28_33 : zft 28 33 = some (.aload_n 0, 1) := by decide +kernel
theorem f28_34 : zft 28 34 = some (.getfield 9, 3) := by decide +kernel
theorem f28_37 : zft 28 37 = some (.iload_n 2, 1) := by decide +kernel
theorem f28_38 : zft 28 38 = some (.iaload, 1) := by decide +kernel
theorem f28_39 : zft 28 39 = some (.if_icmp .lt 5, 3) := by decide +kernel
theorem f28_42 : zft 28 42 = some (.iload_n 3, 1) := by decide +kernel
theorem f28_43 : zft 28 43 = some (.istore_n 2, 1) := by decide +kernel
theorem f28_44 : zft 28 44 = some (.iinc 3 1, 3) := by decide +kernel
theorem f28_47 : zft 28 47 = some (.goto (-43), 3) := by decide +kernel
theorem f28_50 : zft 28 50 = some (.iload_n 2, 1) := by decide +kernel
theorem f28_51 : zft 28 51 = some (.iconst (-1), 1) := by decide +kernel
theorem f28_52 : zft 28 52 = some (.if_icmp .ne 7, 3) := by decide +kernel
theorem f28_55 : zft 28 55 = some (.iconst 0, 1) := by decide +kernel
theorem f28_56 : zft 28 56 = some (.goto 9, 3) := by decide +kernel
theorem f28_59 : zft 28 59 = some (.aload_n 0, 1) := by decide +kernel
theorem f28_60 : zft 28 60 = some (.getfield 15, 3) := by decide +kernel
theorem f28_63 : zft 28 63 = some (.iload_n 2, 1) := by decide +kernel
theorem f28_64 : zft 28 64 = some (.iaload, 1) := by decide +kernel
theorem f28_65 : zft 28 65 = some (.ireturn, 1) := by decide +kernel
theorem o28 : zo 28 = 3 := by decide +kernel
theorem p28 : zp 28 = 1 := by decide +kernel
theorem n28 : zn 28 = 4 := by decide +kernel
theorem v28 : zr 28 = (some .int) := by decide +kernel
theorem f29_0 : zft 29 0 = some (.aload_n 0, 1) := by decide +kernel
theorem f29_1 : zft 29 1 = some (.invokespecial 3, 3) := by decide +kernel
theorem f29_4 : zft 29 4 = some (.aload_n 0, 1) := by decide +kernel
theorem f29_5 : zft 29 5 = some (.bipush 12, 2) := by decide +kernel
theorem f29_7 : zft 29 7 = some (.anewarray 9, 3) := by decide +kernel
theorem f29_10 : zft 29 10 = some (.putfield 11, 3) := by decide +kernel
theorem f29_13 : zft 29 13 = some (.iconst 0, 1) := by decide +kernel
theorem f29_14 : zft 29 14 = some (.istore_n 1, 1) := by decide +kernel
theorem f29_15 : zft 29 15 = some (.iload_n 1, 1) := by decide +kernel
theorem f29_16 : zft 29 16 = some (.bipush 12, 2) := by decide +kernel
theorem f29_18 : zft 29 18 = some (.if_icmp .ge 22, 3) := by decide +kernel
theorem f29_21 : zft 29 21 = some (.aload_n 0, 1) := by decide +kernel
theorem f29_22 : zft 29 22 = some (.getfield 11, 3) := by decide +kernel
theorem f29_25 : zft 29 25 = some (.iload_n 1, 1) := by decide +kernel
theorem f29_26 : zft 29 26 = some (.new 9, 3) := by decide +kernel
theorem f29_29 : zft 29 29 = some (.dup, 1) := by decide +kernel
theorem f29_30 : zft 29 30 = some (.invokespecial 17, 3) := by decide +kernel
theorem f29_33 : zft 29 33 = some (.aastore, 1) := by decide +kernel
theorem f29_34 : zft 29 34 = some (.iinc 1 1, 3) := by decide +kernel
theorem f29_37 : zft 29 37 = some (.goto (-22), 3) := by decide +kernel
theorem f29_40 : zft 29 40 = some (.return_, 1) := by decide +kernel
theorem o29 : zo 29 = 4 := by decide +kernel
theorem p29 : zp 29 = 0 := by decide +kernel
theorem n29 : zn 29 = 2 := by decide +kernel
theorem v29 : zr 29 = none := by decide +kernel
theorem f30_0 : zft 30 0 = some (.iload_n 1, 1) := by decide +kernel
theorem f30_1 : zft 30 1 = some (.iconst 0, 1) := by decide +kernel
theorem f30_2 : zft 30 2 = some (.aload_n 0, 1) := by decide +kernel
theorem f30_3 : zft 30 3 = some (.getfield 18, 3) := by decide +kernel
theorem f30_6 : zft 30 6 = some (.iconst 1, 1) := by decide +kernel
theorem f30_7 : zft 30 7 = some (.isub, 1) := by decide +kernel
theorem f30_8 : zft 30 8 = some (.invokestatic 22, 3) := by decide +kernel
theorem f30_11 : zft 30 11 = some (.ireturn, 1) := by decide +kernel
theorem o30 : zo 30 = 4 := by decide +kernel
theorem p30 : zp 30 = 1 := by decide +kernel
theorem n30 : zn 30 = 2 := by decide +kernel
theorem v30 : zr 30 = (some .boolean) := by decide +kernel
theorem f31_0 : zft 31 0 = some (.aload_n 0, 1) := by decide +kernel
theorem f31_1 : zft 31 1 = some (.getfield 18, 3) := by decide +kernel
theorem f31_4 : zft 31 4 = some (.bipush 12, 2) := by decide +kernel
theorem f31_6 : zft 31 6 = some (.if_icmp .lt 6, 3) := by decide +kernel
theorem f31_9 : zft 31 9 = some (.bipush (-4), 2) := by decide +kernel
theorem f31_11 : zft 31 11 = some (.ireturn, 1) := by decide +kernel
theorem f31_12 : zft 31 12 = some (.aload_n 0, 1) := by decide +kernel
theorem f31_13 : zft 31 13 = some (.getfield 11, 3) := by decide +kernel
theorem f31_16 : zft 31 16 = some (.aload_n 0, 1) := by decide +kernel
theorem f31_17 : zft 31 17 = some (.getfield 18, 3) := by decide +kernel
theorem f31_20 : zft 31 20 = some (.aaload, 1) := by decide +kernel
theorem f31_21 : zft 31 21 = some (.astore 5, 2) := by decide +kernel
theorem f31_23 : zft 31 23 = some (.aload 5, 2) := by decide +kernel
theorem f31_25 : zft 31 25 = some (.iconst 0, 1) := by decide +kernel
theorem f31_26 : zft 31 26 = some (.iload_n 1, 1) := by decide +kernel
theorem f31_27 : zft 31 27 = some (.invokevirtual 26, 3) := by decide +kernel
theorem f31_30 : zft 31 30 = some (.aload 5, 2) := by decide +kernel
theorem f31_32 : zft 31 32 = some (.iconst 1, 1) := by decide +kernel
theorem f31_33 : zft 31 33 = some (.iload_n 2, 1) := by decide +kernel
theorem f31_34 : zft 31 34 = some (.invokevirtual 26, 3) := by decide +kernel
theorem f31_37 : zft 31 37 = some (.aload 5, 2) := by decide +kernel
theorem f31_39 : zft 31 39 = some (.iconst 2, 1) := by decide +kernel
theorem f31_40 : zft 31 40 = some (.iload_n 3, 1) := by decide +kernel
theorem f31_41 : zft 31 41 = some (.invokevirtual 26, 3) := by decide +kernel
theorem f31_44 : zft 31 44 = some (.aload 5, 2) := by decide +kernel
theorem f31_46 : zft 31 46 = some (.iload 4, 2) := by decide +kernel
theorem f31_48 : zft 31 48 = some (.putfield 30, 3) := by decide +kernel
theorem f31_51 : zft 31 51 = some (.aload_n 0, 1) := by decide +kernel
theorem f31_52 : zft 31 52 = some (.dup, 1) := by decide +kernel
theorem f31_53 : zft 31 53 = some (.getfield 18, 3) := by decide +kernel
theorem f31_56 : zft 31 56 = some (.iconst 1, 1) := by decide +kernel
theorem f31_57 : zft 31 57 = some (.iadd, 1) := by decide +kernel
theorem f31_58 : zft 31 58 = some (.putfield 18, 3) := by decide +kernel
theorem f31_61 : zft 31 61 = some (.aload_n 0, 1) := by decide +kernel
theorem f31_62 : zft 31 62 = some (.getfield 18, 3) := by decide +kernel
theorem f31_65 : zft 31 65 = some (.iconst 1, 1) := by decide +kernel
theorem f31_66 : zft 31 66 = some (.isub, 1) := by decide +kernel
theorem f31_67 : zft 31 67 = some (.ireturn, 1) := by decide +kernel
theorem o31 : zo 31 = 4 := by decide +kernel
theorem p31 : zp 31 = 4 := by decide +kernel
theorem n31 : zn 31 = 6 := by decide +kernel
theorem v31 : zr 31 = (some .int) := by decide +kernel
theorem f32_0 : zft 32 0 = some (.aload_n 0, 1) := by decide +kernel
theorem f32_1 : zft 32 1 = some (.getfield 33, 3) := by decide +kernel
theorem f32_4 : zft 32 4 = some (.bipush 40, 2) := by decide +kernel
theorem f32_6 : zft 32 6 = some (.if_icmp .lt 6, 3) := by decide +kernel
theorem f32_9 : zft 32 9 = some (.bipush (-4), 2) := by decide +kernel
theorem f32_11 : zft 32 11 = some (.ireturn, 1) := by decide +kernel
theorem f32_12 : zft 32 12 = some (.aload_n 0, 1) := by decide +kernel
theorem f32_13 : zft 32 13 = some (.getfield 11, 3) := by decide +kernel
theorem f32_16 : zft 32 16 = some (.iload_n 1, 1) := by decide +kernel
theorem f32_17 : zft 32 17 = some (.aaload, 1) := by decide +kernel
theorem f32_18 : zft 32 18 = some (.getfield 36, 3) := by decide +kernel
theorem f32_21 : zft 32 21 = some (.iload_n 2, 1) := by decide +kernel
theorem f32_22 : zft 32 22 = some (.iload_n 3, 1) := by decide +kernel
theorem f32_23 : zft 32 23 = some (.iastore, 1) := by decide +kernel
theorem f32_24 : zft 32 24 = some (.aload_n 0, 1) := by decide +kernel
theorem f32_25 : zft 32 25 = some (.getfield 11, 3) := by decide +kernel
theorem f32_28 : zft 32 28 = some (.iload_n 2, 1) := by decide +kernel
theorem f32_29 : zft 32 29 = some (.aaload, 1) := by decide +kernel
theorem f32_30 : zft 32 30 = some (.getfield 36, 3) := by decide +kernel
theorem f32_33 : zft 32 33 = some (.iload_n 1, 1) := by decide +kernel
theorem f32_34 : zft 32 34 = some (.iload_n 3, 1) := by decide +kernel
theorem f32_35 : zft 32 35 = some (.iastore, 1) := by decide +kernel
theorem f32_36 : zft 32 36 = some (.aload_n 0, 1) := by decide +kernel
theorem f32_37 : zft 32 37 = some (.dup, 1) := by decide +kernel
theorem f32_38 : zft 32 38 = some (.getfield 33, 3) := by decide +kernel
theorem f32_41 : zft 32 41 = some (.iconst 1, 1) := by decide +kernel
theorem f32_42 : zft 32 42 = some (.iadd, 1) := by decide +kernel
theorem f32_43 : zft 32 43 = some (.putfield 33, 3) := by decide +kernel
theorem f32_46 : zft 32 46 = some (.aload_n 0, 1) := by decide +kernel
theorem f32_47 : zft 32 47 = some (.getfield 33, 3) := by decide +kernel
theorem f32_50 : zft 32 50 = some (.ireturn, 1) := by decide +kernel
theorem o32 : zo 32 = 4 := by decide +kernel
theorem p32 : zp 32 = 3 := by decide +kernel
theorem n32 : zn 32 = 4 := by decide +kernel
theorem v32 : zr 32 = (some .int) := by decide +kernel
theorem f33_0 : zft 33 0 = some (.iload_n 1, 1) := by decide +kernel
theorem f33_1 : zft 33 1 = some (.iload_n 2, 1) := by decide +kernel
theorem f33_2 : zft 33 2 = some (.if_icmp .eq 17, 3) := by decide +kernel
theorem f33_5 : zft 33 5 = some (.aload_n 0, 1) := by decide +kernel
theorem f33_6 : zft 33 6 = some (.getfield 11, 3) := by decide +kernel
theorem f33_9 : zft 33 9 = some (.iload_n 1, 1) := by decide +kernel
theorem f33_10 : zft 33 10 = some (.aaload, 1) := by decide +kernel
theorem f33_11 : zft 33 11 = some (.getfield 36, 3) := by decide +kernel
theorem f33_14 : zft 33 14 = some (.iload_n 2, 1) := by decide +kernel
theorem f33_15 : zft 33 15 = some (.iaload, 1) := by decide +kernel
theorem f33_16 : zft 33 16 = some (.ifCond .le 7, 3) := by decide +kernel
theorem f33_19 : zft 33 19 = some (.iconst 1, 1) := by decide +kernel
theorem f33_20 : zft 33 20 = some (.goto 4, 3) := by decide +kernel
theorem f33_23 : zft 33 23 = some (.iconst 0, 1) := by decide +kernel
theorem f33_24 : zft 33 24 = some (.ireturn, 1) := by decide +kernel
theorem o33 : zo 33 = 4 := by decide +kernel
theorem p33 : zp 33 = 2 := by decide +kernel
theorem n33 : zn 33 = 3 := by decide +kernel
theorem v33 : zr 33 = (some .boolean) := by decide +kernel
theorem f34_0 : zft 34 0 = some (.iconst 0, 1) := by decide +kernel
theorem f34_1 : zft 34 1 = some (.istore_n 2, 1) := by decide +kernel
theorem f34_2 : zft 34 2 = some (.iload_n 2, 1) := by decide +kernel
theorem f34_3 : zft 34 3 = some (.aload_n 1, 1) := by decide +kernel
theorem f34_4 : zft 34 4 = some (.getfield 40, 3) := by decide +kernel
theorem f34_7 : zft 34 7 = some (.if_icmp .ge 73, 3) := by decide +kernel
theorem f34_10 : zft 34 10 = some (.iload_n 2, 1) := by decide +kernel
theorem f34_11 : zft 34 11 = some (.ifCond .eq 24, 3) := by decide +kernel
theorem f34_14 : zft 34 14 = some (.aload_n 0, 1) := by decide +kernel
theorem f34_15 : zft 34 15 = some (.aload_n 1, 1) := by decide +kernel
theorem f34_16 : zft 34 16 = some (.getfield 45, 3) := by decide +kernel
theorem f34_19 : zft 34 19 = some (.iload_n 2, 1) := by decide +kernel
theorem f34_20 : zft 34 20 = some (.iconst 1, 1) := by decide +kernel
theorem f34_21 : zft 34 21 = some (.isub, 1) := by decide +kernel
theorem f34_22 : zft 34 22 = some (.iaload, 1) := by decide +kernel
theorem f34_23 : zft 34 23 = some (.aload_n 1, 1) := by decide +kernel
theorem f34_24 : zft 34 24 = some (.getfield 45, 3) := by decide +kernel
theorem f34_27 : zft 34 27 = some (.iload_n 2, 1) := by decide +kernel
theorem f34_28 : zft 34 28 = some (.iaload, 1) := by decide +kernel
theorem f34_29 : zft 34 29 = some (.invokevirtual 48, 3) := by decide +kernel
theorem f34_32 : zft 34 32 = some (.ifCond .eq 7, 3) := by decide +kernel
theorem f34_35 : zft 34 35 = some (.iconst 1, 1) := by decide +kernel
theorem f34_36 : zft 34 36 = some (.goto 4, 3) := by decide +kernel
theorem f34_39 : zft 34 39 = some (.iconst 0, 1) := by decide +kernel
theorem f34_40 : zft 34 40 = some (.istore_n 3, 1) := by decide +kernel
theorem f34_41 : zft 34 41 = some (.iload_n 3, 1) := by decide +kernel
theorem f34_42 : zft 34 42 = some (.ifCond .eq 30, 3) := by decide +kernel
theorem f34_45 : zft 34 45 = some (.aload_n 0, 1) := by decide +kernel
theorem f34_46 : zft 34 46 = some (.getfield 11, 3) := by decide +kernel
theorem f34_49 : zft 34 49 = some (.aload_n 1, 1) := by decide +kernel
theorem f34_50 : zft 34 50 = some (.getfield 45, 3) := by decide +kernel
theorem f34_53 : zft 34 53 = some (.iload_n 2, 1) := by decide +kernel
theorem f34_54 : zft 34 54 = some (.iaload, 1) := by decide +kernel
theorem f34_55 : zft 34 55 = some (.aaload, 1) := by decide +kernel
theorem f34_56 : zft 34 56 = some (.aload_n 1, 1) := by decide +kernel
theorem f34_57 : zft 34 57 = some (.getfield 52, 3) := by decide +kernel
theorem f34_60 : zft 34 60 = some (.iload_n 2, 1) := by decide +kernel
theorem f34_61 : zft 34 61 = some (.iadd, 1) := by decide +kernel
theorem f34_62 : zft 34 62 = some (.aload_n 1, 1) := by decide +kernel
theorem f34_63 : zft 34 63 = some (.getfield 55, 3) := by decide +kernel
theorem f34_66 : zft 34 66 = some (.invokevirtual 58, 3) := by decide +kernel
theorem f34_69 : zft 34 69 = some (.ifCond .ne 5, 3) := by decide +kernel
theorem f34_72 : zft 34 72 = some (.iload_n 2, 1) := by decide +kernel
theorem f34_73 : zft 34 73 = some (.ireturn, 1) := by decide +kernel
theorem f34_74 : zft 34 74 = some (.iinc 2 1, 3) := by decide +kernel
theorem f34_77 : zft 34 77 = some (.goto (-75), 3) := by decide +kernel
theorem f34_80 : zft 34 80 = some (.iconst (-1), 1) := by decide +kernel
theorem f34_81 : zft 34 81 = some (.ireturn, 1) := by decide +kernel
theorem o34 : zo 34 = 4 := by decide +kernel
theorem p34 : zp 34 = 1 := by decide +kernel
theorem n34 : zn 34 = 4 := by decide +kernel
theorem v34 : zr 34 = (some .int) := by decide +kernel
theorem f35_0 : zft 35 0 = some (.iconst 0, 1) := by decide +kernel
theorem f35_1 : zft 35 1 = some (.istore_n 2, 1) := by decide +kernel
theorem f35_2 : zft 35 2 = some (.iconst 1, 1) := by decide +kernel
theorem f35_3 : zft 35 3 = some (.istore_n 3, 1) := by decide +kernel
theorem f35_4 : zft 35 4 = some (.iload_n 3, 1) := by decide +kernel
theorem f35_5 : zft 35 5 = some (.aload_n 1, 1) := by decide +kernel
theorem f35_6 : zft 35 6 = some (.getfield 40, 3) := by decide +kernel
theorem f35_9 : zft 35 9 = some (.if_icmp .ge 55, 3) := by decide +kernel
theorem f35_12 : zft 35 12 = some (.aload_n 1, 1) := by decide +kernel
theorem f35_13 : zft 35 13 = some (.getfield 61, 3) := by decide +kernel
theorem f35_16 : zft 35 16 = some (.iload_n 3, 1) := by decide +kernel
theorem f35_17 : zft 35 17 = some (.iconst 1, 1) := by decide +kernel
theorem f35_18 : zft 35 18 = some (.isub, 1) := by decide +kernel
theorem f35_19 : zft 35 19 = some (.baload, 1) := by decide +kernel
theorem f35_20 : zft 35 20 = some (.ifCond .eq 38, 3) := by decide +kernel
theorem f35_23 : zft 35 23 = some (.aload_n 1, 1) := by decide +kernel
theorem f35_24 : zft 35 24 = some (.getfield 61, 3) := by decide +kernel
theorem f35_27 : zft 35 27 = some (.iload_n 3, 1) := by decide +kernel
theorem f35_28 : zft 35 28 = some (.baload, 1) := by decide +kernel
theorem f35_29 : zft 35 29 = some (.ifCond .eq 29, 3) := by decide +kernel
theorem f35_32 : zft 35 32 = some (.iload_n 2, 1) := by decide +kernel
theorem f35_33 : zft 35 33 = some (.aload_n 0, 1) := by decide +kernel
theorem f35_34 : zft 35 34 = some (.getfield 11, 3) := by decide +kernel
theorem f35_37 : zft 35 37 = some (.aload_n 1, 1) := by decide +kernel
theorem f35_38 : zft 35 38 = some (.getfield 45, 3) := by decide +kernel
theorem f35_41 : zft 35 41 = some (.iload_n 3, 1) := by decide +kernel
theorem f35_42 : zft 35 42 = some (.iconst 1, 1) := by decide +kernel
theorem f35_43 : zft 35 43 = some (.isub, 1) := by decide +kernel
theorem f35_44 : zft 35 44 = some (.iaload, 1) := by decide +kernel
theorem f35_45 : zft 35 45 = some (.aaload, 1) := by decide +kernel
theorem f35_46 : zft 35 46 = some (.getfield 36, 3) := by decide +kernel
theorem f35_49 : zft 35 49 = some (.aload_n 1, 1) := by decide +kernel
theorem f35_50 : zft 35 50 = some (.getfield 45, 3) := by decide +kernel
theorem f35_53 : zft 35 53 = some (.iload_n 3, 1) := by decide +kernel
theorem f35_54 : zft 35 54 = some (.iaload, 1) := by decide +kernel
theorem f35_55 : zft 35 55 = some (.iaload, 1) := by decide +kernel
theorem f35_56 : zft 35 56 = some (.iadd, 1) := by decide +kernel
theorem f35_57 : zft 35 57 = some (.istore_n 2, 1) := by decide +kernel
theorem f35_58 : zft 35 58 = some (.iinc 3 1, 3) := by decide +kernel
theorem f35_61 : zft 35 61 = some (.goto (-57), 3) := by decide +kernel
theorem f35_64 : zft 35 64 = some (.iload_n 2, 1) := by decide +kernel
theorem f35_65 : zft 35 65 = some (.ireturn, 1) := by decide +kernel
theorem o35 : zo 35 = 4 := by decide +kernel
theorem p35 : zp 35 = 1 := by decide +kernel
theorem n35 : zn 35 = 4 := by decide +kernel
theorem v35 : zr 35 = (some .int) := by decide +kernel
theorem f36_0 : zft 36 0 = some (.aload_n 0, 1) := by decide +kernel
theorem f36_1 : zft 36 1 = some (.invokespecial 3, 3) := by decide +kernel
theorem f36_4 : zft 36 4 = some (.aload_n 0, 1) := by decide +kernel
theorem f36_5 : zft 36 5 = some (.bipush 84, 2) := by decide +kernel
theorem f36_7 : zft 36 7 = some (.newarray .int, 2) := by decide +kernel
theorem f36_9 : zft 36 9 = some (.putfield 9, 3) := by decide +kernel
theorem f36_12 : zft 36 12 = some (.aload_n 0, 1) := by decide +kernel
theorem f36_13 : zft 36 13 = some (.bipush 7, 2) := by decide +kernel
theorem f36_15 : zft 36 15 = some (.newarray .int, 2) := by decide +kernel
theorem f36_17 : zft 36 17 = some (.putfield 15, 3) := by decide +kernel
theorem f36_20 : zft 36 20 = some (.aload_n 0, 1) := by decide +kernel
theorem f36_21 : zft 36 21 = some (.aload_n 1, 1) := by decide +kernel
theorem f36_22 : zft 36 22 = some (.putfield 18, 3) := by decide +kernel
theorem f36_25 : zft 36 25 = some (.return_, 1) := by decide +kernel
theorem o36 : zo 36 = 5 := by decide +kernel
theorem p36 : zp 36 = 1 := by decide +kernel
theorem n36 : zn 36 = 2 := by decide +kernel
theorem v36 : zr 36 = none := by decide +kernel
