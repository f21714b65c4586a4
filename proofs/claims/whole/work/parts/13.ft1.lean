theorem f37_0 : zft 37 0 = some (.iload_n 2, 1) := by decide +kernel
theorem f37_1 : zft 37 1 = some (.iconst 0, 1) := by decide +kernel
theorem f37_2 : zft 37 2 = some (.invokestatic 22, 3) := by decide +kernel
theorem f37_5 : zft 37 5 = some (.istore_n 3, 1) := by decide +kernel
theorem f37_6 : zft 37 6 = some (.aload_n 1, 1) := by decide +kernel
theorem f37_7 : zft 37 7 = some (.getfield 28, 3) := by decide +kernel
theorem f37_10 : zft 37 10 = some (.iconst 1, 1) := by decide +kernel
theorem f37_11 : zft 37 11 = some (.isub, 1) := by decide +kernel
theorem f37_12 : zft 37 12 = some (.istore 4, 2) := by decide +kernel
theorem f37_14 : zft 37 14 = some (.iload 4, 2) := by decide +kernel
theorem f37_16 : zft 37 16 = some (.iload_n 3, 1) := by decide +kernel
theorem f37_17 : zft 37 17 = some (.if_icmp .lt 53, 3) := by decide +kernel
theorem f37_20 : zft 37 20 = some (.iconst 0, 1) := by decide +kernel
theorem f37_21 : zft 37 21 = some (.istore 5, 2) := by decide +kernel
theorem f37_23 : zft 37 23 = some (.iload 5, 2) := by decide +kernel
theorem f37_25 : zft 37 25 = some (.aload_n 0, 1) := by decide +kernel
theorem f37_26 : zft 37 26 = some (.getfield 18, 3) := by decide +kernel
theorem f37_29 : zft 37 29 = some (.getfield 34, 3) := by decide +kernel
theorem f37_32 : zft 37 32 = some (.if_icmp .ge 32, 3) := by decide +kernel
theorem f37_35 : zft 37 35 = some (.aload_n 0, 1) := by decide +kernel
theorem f37_36 : zft 37 36 = some (.getfield 9, 3) := by decide +kernel
theorem f37_39 : zft 37 39 = some (.iload 4, 2) := by decide +kernel
theorem f37_41 : zft 37 41 = some (.bipush 12, 2) := by decide +kernel
theorem f37_43 : zft 37 43 = some (.imul, 1) := by decide +kernel
theorem f37_44 : zft 37 44 = some (.iload 5, 2) := by decide +kernel
theorem f37_46 : zft 37 46 = some (.iadd, 1) := by decide +kernel
theorem f37_47 : zft 37 47 = some (.aload_n 0, 1) := by decide +kernel
theorem f37_48 : zft 37 48 = some (.aload_n 1, 1) := by decide +kernel
theorem f37_49 : zft 37 49 = some (.iload_n 2, 1) := by decide +kernel
theorem f37_50 : zft 37 50 = some (.iload 4, 2) := by decide +kernel
theorem f37_52 : zft 37 52 = some (.iload 5, 2) := by decide +kernel
theorem f37_54 : zft 37 54 = some (.invokevirtual 39, 3) := by decide +kernel
theorem f37_57 : zft 37 57 = some (.iastore, 1) := by decide +kernel
theorem f37_58 : zft 37 58 = some (.iinc 5 1, 3) := by decide +kernel
theorem f37_61 : zft 37 61 = some (.goto (-38), 3) := by decide +kernel
theorem f37_64 : zft 37 64 = some (.iinc 4 (-1), 3) := by decide +kernel
theorem f37_67 : zft 37 67 = some (.goto (-53), 3) := by decide +kernel
theorem f37_70 : zft 37 70 = some (.aload_n 0, 1) := by decide +kernel
theorem f37_71 : zft 37 71 = some (.getfield 9, 3) := by decide +kernel
theorem f37_74 : zft 37 74 = some (.iload_n 3, 1) := by decide +kernel
theorem f37_75 : zft 37 75 = some (.bipush 12, 2) := by decide +kernel
theorem f37_77 : zft 37 77 = some (.imul, 1) := by decide +kernel
theorem f37_78 : zft 37 78 = some (.aload_n 1, 1) := by decide +kernel
theorem f37_79 : zft 37 79 = some (.getfield 43, 3) := by decide +kernel
theorem f37_82 : zft 37 82 = some (.iload_n 3, 1) := by decide +kernel
theorem f37_83 : zft 37 83 = some (.iaload, 1) := by decide +kernel
theorem f37_84 : zft 37 84 = some (.iadd, 1) := by decide +kernel
theorem f37_85 : zft 37 85 = some (.iaload, 1) := by decide +kernel
theorem f37_86 : zft 37 86 = some (.istore 4, 2) := by decide +kernel
theorem f37_88 : zft 37 88 = some (.iload 4, 2) := by decide +kernel
theorem f37_90 : zft 37 90 = some (.sipush 1000, 3) := by decide +kernel
theorem f37_93 : zft 37 93 = some (.if_icmp .lt 5, 3) := by decide +kernel
theorem f37_96 : zft 37 96 = some (.iconst (-1), 1) := by decide +kernel
theorem f37_97 : zft 37 97 = some (.ireturn, 1) := by decide +kernel
theorem f37_98 : zft 37 98 = some (.aload_n 0, 1) := by decide +kernel
theorem f37_99 : zft 37 99 = some (.aload_n 1, 1) := by decide +kernel
theorem f37_100 : zft 37 100 = some (.iload_n 3, 1) := by decide +kernel
theorem f37_101 : zft 37 101 = some (.invokevirtual 46, 3) := by decide +kernel
theorem f37_104 : zft 37 104 = some (.iload 4, 2) := by decide +kernel
theorem f37_106 : zft 37 106 = some (.ireturn, 1) := by decide +kernel
theorem o37 : zo 37 = 5 := by decide +kernel
theorem p37 : zp 37 = 2 := by decide +kernel
theorem n37 : zn 37 = 6 := by decide +kernel
theorem v37 : zr 37 = (some .int) := by decide +kernel
theorem f38_0 : zft 38 0 = some (.aload_n 0, 1) := by decide +kernel
theorem f38_1 : zft 38 1 = some (.aload_n 1, 1) := by decide +kernel
theorem f38_2 : zft 38 2 = some (.iload_n 2, 1) := by decide +kernel
theorem f38_3 : zft 38 3 = some (.iload_n 3, 1) := by decide +kernel
theorem f38_4 : zft 38 4 = some (.iload 4, 2) := by decide +kernel
theorem f38_6 : zft 38 6 = some (.invokevirtual 50, 3) := by decide +kernel
theorem f38_9 : zft 38 9 = some (.ifCond .ne 7, 3) := by decide +kernel
theorem f38_12 : zft 38 12 = some (.sipush 1000, 3) := by decide +kernel
theorem f38_15 : zft 38 15 = some (.ireturn, 1) := by decide +kernel
theorem f38_16 : zft 38 16 = some (.aload_n 1, 1) := by decide +kernel
theorem f38_17 : zft 38 17 = some (.getfield 43, 3) := by decide +kernel
theorem f38_20 : zft 38 20 = some (.iload_n 3, 1) := by decide +kernel
theorem f38_21 : zft 38 21 = some (.iaload, 1) := by decide +kernel
theorem f38_22 : zft 38 22 = some (.iload 4, 2) := by decide +kernel
theorem f38_24 : zft 38 24 = some (.if_icmp .ne 7, 3) := by decide +kernel
theorem f38_27 : zft 38 27 = some (.iconst 0, 1) := by decide +kernel
theorem f38_28 : zft 38 28 = some (.goto 4, 3) := by decide +kernel
theorem f38_31 : zft 38 31 = some (.iconst 1, 1) := by decide +kernel
theorem f38_32 : zft 38 32 = some (.istore 5, 2) := by decide +kernel
theorem f38_34 : zft 38 34 = some (.iload_n 3, 1) := by decide +kernel
theorem f38_35 : zft 38 35 = some (.aload_n 1, 1) := by decide +kernel
theorem f38_36 : zft 38 36 = some (.getfield 28, 3) := by decide +kernel
theorem f38_39 : zft 38 39 = some (.iconst 1, 1) := by decide +kernel
theorem f38_40 : zft 38 40 = some (.isub, 1) := by decide +kernel
theorem f38_41 : zft 38 41 = some (.if_icmp .ne 6, 3) := by decide +kernel
theorem f38_44 : zft 38 44 = some (.iload 5, 2) := by decide +kernel
theorem f38_46 : zft 38 46 = some (.ireturn, 1) := by decide +kernel
theorem f38_47 : zft 38 47 = some (.aload_n 0, 1) := by decide +kernel
theorem f38_48 : zft 38 48 = some (.iload_n 3, 1) := by decide +kernel
theorem f38_49 : zft 38 49 = some (.iload 4, 2) := by decide +kernel
theorem f38_51 : zft 38 51 = some (.invokevirtual 54, 3) := by decide +kernel
theorem f38_54 : zft 38 54 = some (.istore 6, 2) := by decide +kernel
theorem f38_56 : zft 38 56 = some (.iload 6, 2) := by decide +kernel
theorem f38_58 : zft 38 58 = some (.iconst (-1), 1) := by decide +kernel
theorem f38_59 : zft 38 59 = some (.if_icmp .ne 9, 3) := by decide +kernel
theorem f38_62 : zft 38 62 = some (.sipush 1000, 3) := by decide +kernel
theorem f38_65 : zft 38 65 = some (.goto 20, 3) := by decide +kernel
theorem f38_68 : zft 38 68 = some (.iload 5, 2) := by decide +kernel
theorem f38_70 : zft 38 70 = some (.aload_n 0, 1) := by decide +kernel
theorem f38_71 : zft 38 71 = some (.getfield 9, 3) := by decide +kernel
theorem f38_74 : zft 38 74 = some (.iload_n 3, 1) := by decide +kernel
theorem f38_75 : zft 38 75 = some (.iconst 1, 1) := by decide +kernel
theorem f38_76 : zft 38 76 = some (.iadd, 1) := by decide +kernel
theorem f38_77 : zft 38 77 = some (.bipush 12, 2) := by decide +kernel
theorem f38_79 : zft 38 79 = some (.imul, 1) := by decide +kernel
theorem f38_80 : zft 38 80 = some (.iload 6, 2) := by decide +kernel
theorem f38_82 : zft 38 82 = some (.iadd, 1) := by decide +kernel
theorem f38_83 : zft 38 83 = some (.iaload, 1) := by decide +kernel
theorem f38_84 : zft 38 84 = some (.iadd, 1) := by decide +kernel
theorem f38_85 : zft 38 85 = some (.ireturn, 1) := by decide +kernel
theorem o38 : zo 38 = 5 := by decide +kernel
theorem p38 : zp 38 = 4 := by decide +kernel
theorem n38 : zn 38 = 7 := by decide +kernel
theorem v38 : zr 38 = (some .int) := by decide +kernel
theorem f39_0 : zft 39 0 = some (.iload_n 3, 1) := by decide +kernel
theorem f39_1 : zft 39 1 = some (.aload_n 1, 1) := by decide +kernel
theorem f39_2 : zft 39 2 = some (.getfield 28, 3) := by decide +kernel
theorem f39_5 : zft 39 5 = some (.iconst 1, 1) := by decide +kernel
theorem f39_6 : zft 39 6 = some (.isub, 1) := by decide +kernel
theorem f39_7 : zft 39 7 = some (.if_icmp .ne 16, 3) := by decide +kernel
theorem f39_10 : zft 39 10 = some (.aload_n 1, 1) := by decide +kernel
theorem f39_11 : zft 39 11 = some (.getfield 43, 3) := by decide +kernel
theorem f39_14 : zft 39 14 = some (.iload_n 3, 1) := by decide +kernel
theorem f39_15 : zft 39 15 = some (.iaload, 1) := by decide +kernel
theorem f39_16 : zft 39 16 = some (.iload 4, 2) := by decide +kernel
theorem f39_18 : zft 39 18 = some (.if_icmp .eq 5, 3) := by decide +kernel
theorem f39_21 : zft 39 21 = some (.iconst 0, 1) := by decide +kernel
theorem f39_22 : zft 39 22 = some (.ireturn, 1) := by decide +kernel
theorem f39_23 : zft 39 23 = some (.iload_n 3, 1) := by decide +kernel
theorem f39_24 : zft 39 24 = some (.iload_n 2, 1) := by decide +kernel
theorem f39_25 : zft 39 25 = some (.if_icmp .le 29, 3) := by decide +kernel
theorem f39_28 : zft 39 28 = some (.aload_n 0, 1) := by decide +kernel
theorem f39_29 : zft 39 29 = some (.getfield 18, 3) := by decide +kernel
theorem f39_32 : zft 39 32 = some (.getfield 57, 3) := by decide +kernel
theorem f39_35 : zft 39 35 = some (.iload 4, 2) := by decide +kernel
theorem f39_37 : zft 39 37 = some (.aaload, 1) := by decide +kernel
theorem f39_38 : zft 39 38 = some (.aload_n 1, 1) := by decide +kernel
theorem f39_39 : zft 39 39 = some (.getfield 61, 3) := by decide +kernel
theorem f39_42 : zft 39 42 = some (.iload_n 3, 1) := by decide +kernel
theorem f39_43 : zft 39 43 = some (.iadd, 1) := by decide +kernel
theorem f39_44 : zft 39 44 = some (.aload_n 1, 1) := by decide +kernel
theorem f39_45 : zft 39 45 = some (.getfield 64, 3) := by decide +kernel
theorem f39_48 : zft 39 48 = some (.invokevirtual 67, 3) := by decide +kernel
theorem f39_51 : zft 39 51 = some (.ifCond .eq 7, 3) := by decide +kernel
theorem f39_54 : zft 39 54 = some (.iconst 1, 1) := by decide +kernel
theorem f39_55 : zft 39 55 = some (.goto 4, 3) := by decide +kernel
theorem f39_58 : zft 39 58 = some (.iconst 0, 1) := by decide +kernel
theorem f39_59 : zft 39 59 = some (.ireturn, 1) := by decide +kernel
theorem o39 : zo 39 = 5 := by decide +kernel
theorem p39 : zp 39 = 4 := by decide +kernel
theorem n39 : zn 39 = 5 := by decide +kernel
theorem v39 : zr 39 = (some .boolean) := by decide +kernel
theorem f40_0 : zft 40 0 = some (.iconst (-1), 1) := by decide +kernel
theorem f40_1 : zft 40 1 = some (.istore_n 3, 1) := by decide +kernel
theorem f40_2 : zft 40 2 = some (.sipush 1000, 3) := by decide +kernel
theorem f40_5 : zft 40 5 = some (.istore 4, 2) := by decide +kernel
theorem f40_7 : zft 40 7 = some (.iconst 0, 1) := by decide +kernel
theorem f40_8 : zft 40 8 = some (.istore 5, 2) := by decide +kernel
theorem f40_10 : zft 40 10 = some (.iload 5, 2) := by decide +kernel
theorem f40_12 : zft 40 12 = some (.aload_n 0, 1) := by decide +kernel
theorem f40_13 : zft 40 13 = some (.getfield 18, 3) := by decide +kernel
theorem f40_16 : zft 40 16 = some (.getfield 34, 3) := by decide +kernel
theorem f40_19 : zft 40 19 = some (.if_icmp .ge 52, 3) := by decide +kernel
theorem f40_22 : zft 40 22 = some (.aload_n 0, 1) := by decide +kernel
theorem f40_23 : zft 40 23 = some (.getfield 9, 3) := by decide +kernel
theorem f40_26 : zft 40 26 = some (.iload_n 1, 1) := by decide +kernel
theorem f40_27 : zft 40 27 = some (.iconst 1, 1) := by decide +kernel
theorem f40_28 : zft 40 28 = some (.iadd, 1) := by decide +kernel
theorem f40_29 : zft 40 29 = some (.bipush 12, 2) := by decide +kernel
theorem f40_31 : zft 40 31 = some (.imul, 1) := by decide +kernel
theorem f40_32 : zft 40 32 = some (.iload 5, 2) := by decide +kernel
theorem f40_34 : zft 40 34 = some (.iadd, 1) := by decide +kernel
theorem f40_35 : zft 40 35 = some (.iaload, 1) := by decide +kernel
theorem f40_36 : zft 40 36 = some (.istore 6, 2) := by decide +kernel
theorem f40_38 : zft 40 38 = some (.iload 6, 2) := by decide +kernel
theorem f40_40 : zft 40 40 = some (.iload 4, 2) := by decide +kernel
theorem f40_42 : zft 40 42 = some (.if_icmp .ge 23, 3) := by decide +kernel
theorem f40_45 : zft 40 45 = some (.aload_n 0, 1) := by decide +kernel
theorem f40_46 : zft 40 46 = some (.getfield 18, 3) := by decide +kernel
theorem f40_49 : zft 40 49 = some (.iload_n 2, 1) := by decide +kernel
theorem f40_50 : zft 40 50 = some (.iload 5, 2) := by decide +kernel
theorem f40_52 : zft 40 52 = some (.invokevirtual 73, 3) := by decide +kernel
theorem f40_55 : zft 40 55 = some (.ifCond .eq 10, 3) := by decide +kernel
theorem f40_58 : zft 40 58 = some (.iload 5, 2) := by decide +kernel
theorem f40_60 : zft 40 60 = some (.istore_n 3, 1) := by decide +kernel
theorem f40_61 : zft 40 61 = some (.iload 6, 2) := by decide +kernel
theorem f40_63 : zft 40 63 = some (.istore 4, 2) := by decide +kernel
theorem f40_65 : zft 40 65 = some (.iinc 5 1, 3) := by decide +kernel
theorem f40_68 : zft 40 68 = some (.goto (-58), 3) := by decide +kernel
theorem f40_71 : zft 40 71 = some (.iload_n 3, 1) := by decide +kernel
theorem f40_72 : zft 40 72 = some (.ireturn, 1) := by decide +kernel
theorem o40 : zo 40 = 5 := by decide +kernel
theorem p40 : zp 40 = 2 := by decide +kernel
theorem n40 : zn 40 = 7 := by decide +kernel
theorem v40 : zr 40 = (some .int) := by decide +kernel
theorem f41_0 : zft 41 0 = some (.aload_n 0, 1) := by decide +kernel
theorem f41_1 : zft 41 1 = some (.getfield 15, 3) := by decide +kernel
theorem f41_4 : zft 41 4 = some (.iload_n 2, 1) := by decide +kernel
theorem f41_5 : zft 41 5 = some (.aload_n 1, 1) := by decide +kernel
theorem f41_6 : zft 41 6 = some (.getfield 43, 3) := by decide +kernel
theorem f41_9 : zft 41 9 = some (.iload_n 2, 1) := by decide +kernel
theorem f41_10 : zft 41 10 = some (.iaload, 1) := by decide +kernel
theorem f41_11 : zft 41 11 = some (.iastore, 1) := by decide +kernel
theorem f41_12 : zft 41 12 = some (.iload_n 2, 1) := by decide +kernel
theorem f41_13 : zft 41 13 = some (.iconst 1, 1) := by decide +kernel
theorem f41_14 : zft 41 14 = some (.iadd, 1) := by decide +kernel
theorem f41_15 : zft 41 15 = some (.istore_n 3, 1) := by decide +kernel
theorem f41_16 : zft 41 16 = some (.iload_n 3, 1) := by decide +kernel
theorem f41_17 : zft 41 17 = some (.aload_n 1, 1) := by decide +kernel
theorem f41_18 : zft 41 18 = some (.getfield 28, 3) := by decide +kernel
theorem f41_21 : zft 41 21 = some (.if_icmp .ge 49, 3) := by decide +kernel
theorem f41_24 : zft 41 24 = some (.aload_n 0, 1) := by decide +kernel
theorem f41_25 : zft 41 25 = some (.iload_n 3, 1) := by decide +kernel
theorem f41_26 : zft 41 26 = some (.iconst 1, 1) := by decide +kernel
theorem f41_27 : zft 41 27 = some (.isub, 1) := by decide +kernel
theorem f41_28 : zft 41 28 = some (.aload_n 0, 1) := by decide +kernel
theorem f41_29 : zft 41 29 = some (.getfield 15, 3) := by decide +kernel
theorem f41_32 : zft 41 32 = some (.iload_n 3, 1) := by decide +kernel
theorem f41_33 : zft 41 33 = some (.iconst 1, 1) := by decide +kernel
theorem f41_34 : zft 41 34 = some (.isub, 1) := by decide +kernel
theorem f41_35 : zft 41 35 = some (.iaload, 1) := by decide +kernel
theorem f41_36 : zft 41 36 = some (.invokevirtual 54, 3) := by decide +kernel
theorem f41_39 : zft 41 39 = some (.istore 4, 2) := by decide +kernel
theorem f41_41 : zft 41 41 = some (.aload_n 0, 1) := by decide +kernel
theorem f41_42 : zft 41 42 = some (.getfield 15, 3) := by decide +kernel
theorem f41_45 : zft 41 45 = some (.iload_n 3, 1) := by decide +kernel
theorem f41_46 : zft 41 46 = some (.iload 4, 2) := by decide +kernel
theorem f41_48 : zft 41 48 = some (.iconst (-1), 1) := by decide +kernel
theorem f41_49 : zft 41 49 = some (.if_icmp .ne 12, 3) := by decide +kernel
theorem f41_52 : zft 41 52 = some (.aload_n 1, 1) := by decide +kernel
theorem f41_53 : zft 41 53 = some (.getfield 43, 3) := by decide +kernel
theorem f41_56 : zft 41 56 = some (.iload_n 3, 1) := by decide +kernel
theorem f41_57 : zft 41 57 = some (.iaload, 1) := by decide +kernel
theorem f41_58 : zft 41 58 = some (.goto 5, 3) := by decide +kernel
theorem f41_61 : zft 41 61 = some (.iload 4, 2) := by decide +kernel
theorem f41_63 : zft 41 63 = some (.iastore, 1) := by decide +kernel
theorem f41_64 : zft 41 64 = some (.iinc 3 1, 3) := by decide +kernel
theorem f41_67 : zft 41 67 = some (.goto (-51), 3) := by decide +kernel
theorem f41_70 : zft 41 70 = some (.return_, 1) := by decide +kernel
theorem o41 : zo 41 = 5 := by decide +kernel
theorem p41 : zp 41 = 2 := by decide +kernel
theorem n41 : zn 41 = 5 := by decide +kernel
theorem v41 : zr 41 = none := by decide +kernel
theorem f42_0 : zft 42 0 = some (.aload_n 0, 1) := by decide +kernel
theorem f42_1 : zft 42 1 = some (.invokespecial 1, 3) := by decide +kernel
theorem f42_4 : zft 42 4 = some (.aload_n 0, 1) := by decide +kernel
theorem f42_5 : zft 42 5 = some (.new 7, 3) := by decide +kernel
theorem f42_8 : zft 42 8 = some (.dup, 1) := by decide +kernel
theorem f42_9 : zft 42 9 = some (.invokespecial 9, 3) := by decide +kernel
theorem f42_12 : zft 42 12 = some (.putfield 10, 3) := by decide +kernel
theorem f42_15 : zft 42 15 = some (.aload_n 0, 1) := by decide +kernel
theorem f42_16 : zft 42 16 = some (.new 16, 3) := by decide +kernel
theorem f42_19 : zft 42 19 = some (.dup, 1) := by decide +kernel
theorem f42_20 : zft 42 20 = some (.aload_n 0, 1) := by decide +kernel
theorem f42_21 : zft 42 21 = some (.getfield 10, 3) := by decide +kernel
theorem f42_24 : zft 42 24 = some (.invokespecial 18, 3) := by decide +kernel
theorem f42_27 : zft 42 27 = some (.putfield 21, 3) := by decide +kernel
theorem f42_30 : zft 42 30 = some (.aload_n 0, 1) := by decide +kernel
theorem f42_31 : zft 42 31 = some (.bipush 40, 2) := by decide +kernel
theorem f42_33 : zft 42 33 = some (.anewarray 25, 3) := by decide +kernel
theorem f42_36 : zft 42 36 = some (.putfield 27, 3) := by decide +kernel
theorem f42_39 : zft 42 39 = some (.aload_n 0, 1) := by decide +kernel
theorem f42_40 : zft 42 40 = some (.new 31, 3) := by decide +kernel
theorem f42_43 : zft 42 43 = some (.dup, 1) := by decide +kernel
theorem f42_44 : zft 42 44 = some (.invokespecial 33, 3) := by decide +kernel
theorem f42_47 : zft 42 47 = some (.putfield 34, 3) := by decide +kernel
theorem f42_50 : zft 42 50 = some (.aload_n 0, 1) := by decide +kernel
theorem f42_51 : zft 42 51 = some (.new 38, 3) := by decide +kernel
theorem f42_54 : zft 42 54 = some (.dup, 1) := by decide +kernel
theorem f42_55 : zft 42 55 = some (.invokespecial 40, 3) := by decide +kernel
theorem f42_58 : zft 42 58 = some (.putfield 41, 3) := by decide +kernel
theorem f42_61 : zft 42 61 = some (.aload_n 0, 1) := by decide +kernel
theorem f42_62 : zft 42 62 = some (.iconst 3, 1) := by decide +kernel
theorem f42_63 : zft 42 63 = some (.newarray .int, 2) := by decide +kernel
theorem f42_65 : zft 42 65 = some (.putfield 45, 3) := by decide +kernel
theorem f42_68 : zft 42 68 = some (.iconst 0, 1) := by decide +kernel
theorem f42_69 : zft 42 69 = some (.istore_n 1, 1) := by decide +kernel
theorem f42_70 : zft 42 70 = some (.iload_n 1, 1) := by decide +kernel
theorem f42_71 : zft 42 71 = some (.bipush 40, 2) := by decide +kernel
theorem f42_73 : zft 42 73 = some (.if_icmp .ge 22, 3) := by decide +kernel
theorem f42_76 : zft 42 76 = some (.aload_n 0, 1) := by decide +kernel
theorem f42_77 : zft 42 77 = some (.getfield 27, 3) := by decide +kernel
theorem f42_80 : zft 42 80 = some (.iload_n 1, 1) := by decide +kernel
theorem f42_81 : zft 42 81 = some (.new 25, 3) := by decide +kernel
theorem f42_84 : zft 42 84 = some (.dup, 1) := by decide +kernel
theorem f42_85 : zft 42 85 = some (.invokespecial 49, 3) := by decide +kernel
theorem f42_88 : zft 42 88 = some (.aastore, 1) := by decide +kernel
theorem f42_89 : zft 42 89 = some (.iinc 1 1, 3) := by decide +kernel
theorem f42_92 : zft 42 92 = some (.goto (-22), 3) := by decide +kernel
theorem f42_95 : zft 42 95 = some (.return_, 1) := by decide +kernel
theorem o42 : zo 42 = 6 := by decide +kernel
theorem p42 : zp 42 = 0 := by decide +kernel
theorem n42 : zn 42 = 2 := by decide +kernel
theorem v42 : zr 42 = none := by decide +kernel
theorem f43_0 : zft 43 0 = some (.iload_n 1, 1) := by decide +kernel
theorem f43_1 : zft 43 1 = some (.iconst 0, 1) := by decide +kernel
theorem f43_2 : zft 43 2 = some (.bipush 9, 2) := by decide +kernel
theorem f43_4 : zft 43 4 = some (.invokestatic 50, 3) := by decide +kernel
theorem f43_7 : zft 43 7 = some (.ifCond .eq 27, 3) := by decide +kernel
theorem f43_10 : zft 43 10 = some (.iload_n 2, 1) := by decide +kernel
theorem f43_11 : zft 43 11 = some (.iconst 0, 1) := by decide +kernel
theorem f43_12 : zft 43 12 = some (.bipush 9, 2) := by decide +kernel
theorem f43_14 : zft 43 14 = some (.invokestatic 50, 3) := by decide +kernel
theorem f43_17 : zft 43 17 = some (.ifCond .eq 17, 3) := by decide +kernel
theorem f43_20 : zft 43 20 = some (.iload_n 3, 1) := by decide +kernel
theorem f43_21 : zft 43 21 = some (.iconst 0, 1) := by decide +kernel
theorem f43_22 : zft 43 22 = some (.bipush 9, 2) := by decide +kernel
theorem f43_24 : zft 43 24 = some (.invokestatic 50, 3) := by decide +kernel
theorem f43_27 : zft 43 27 = some (.ifCond .eq 7, 3) := by decide +kernel
theorem f43_30 : zft 43 30 = some (.iconst 1, 1) := by decide +kernel
theorem f43_31 : zft 43 31 = some (.goto 4, 3) := by decide +kernel
theorem f43_34 : zft 43 34 = some (.iconst 0, 1) := by decide +kernel
theorem f43_35 : zft 43 35 = some (.istore 5, 2) := by decide +kernel
theorem f43_37 : zft 43 37 = some (.iload 5, 2) := by decide +kernel
theorem f43_39 : zft 43 39 = some (.ifCond .eq 22, 3) := by decide +kernel
theorem f43_42 : zft 43 42 = some (.iload_n 1, 1) := by decide +kernel
theorem f43_43 : zft 43 43 = some (.iload_n 2, 1) := by decide +kernel
theorem f43_44 : zft 43 44 = some (.iadd, 1) := by decide +kernel
theorem f43_45 : zft 43 45 = some (.iload_n 3, 1) := by decide +kernel
theorem f43_46 : zft 43 46 = some (.iadd, 1) := by decide +kernel
theorem f43_47 : zft 43 47 = some (.ifCond .eq 14, 3) := by decide +kernel
theorem f43_50 : zft 43 50 = some (.iload 4, 2) := by decide +kernel
theorem f43_52 : zft 43 52 = some (.iconst 0, 1) := by decide +kernel
theorem f43_53 : zft 43 53 = some (.bipush 23, 2) := by decide +kernel
theorem f43_55 : zft 43 55 = some (.invokestatic 50, 3) := by decide +kernel
theorem f43_58 : zft 43 58 = some (.ifCond .ne 6, 3) := by decide +kernel
theorem f43_61 : zft 43 61 = some (.bipush (-2), 2) := by decide +kernel
theorem f43_63 : zft 43 63 = some (.ireturn, 1) := by decide +kernel
theorem f43_64 : zft 43 64 = some (.aload_n 0, 1) := by decide +kernel
theorem f43_65 : zft 43 65 = some (.getfield 10, 3) := by decide +kernel
theorem f43_68 : zft 43 68 = some (.iload_n 1, 1) := by decide +kernel
theorem f43_69 : zft 43 69 = some (.iload_n 2, 1) := by decide +kernel
theorem f43_70 : zft 43 70 = some (.iload_n 3, 1) := by decide +kernel
theorem f43_71 : zft 43 71 = some (.iload 4, 2) := by decide +kernel
theorem f43_73 : zft 43 73 = some (.invokevirtual 54, 3) := by decide +kernel
theorem f43_76 : zft 43 76 = some (.ireturn, 1) := by decide +kernel
theorem o43 : zo 43 = 6 := by decide +kernel
theorem p43 : zp 43 = 4 := by decide +kernel
theorem n43 : zn 43 = 6 := by decide +kernel
theorem v43 : zr 43 = (some .int) := by decide +kernel
theorem f44_0 : zft 44 0 = some (.aload_n 0, 1) := by decide +kernel
theorem f44_1 : zft 44 1 = some (.getfield 10, 3) := by decide +kernel
theorem f44_4 : zft 44 4 = some (.iload_n 1, 1) := by decide +kernel
theorem f44_5 : zft 44 5 = some (.invokevirtual 58, 3) := by decide +kernel
theorem f44_8 : zft 44 8 = some (.ifCond .eq 24, 3) := by decide +kernel
theorem f44_11 : zft 44 11 = some (.aload_n 0, 1) := by decide +kernel
theorem f44_12 : zft 44 12 = some (.getfield 10, 3) := by decide +kernel
theorem f44_15 : zft 44 15 = some (.iload_n 2, 1) := by decide +kernel
theorem f44_16 : zft 44 16 = some (.invokevirtual 58, 3) := by decide +kernel
theorem f44_19 : zft 44 19 = some (.ifCond .eq 13, 3) := by decide +kernel
theorem f44_22 : zft 44 22 = some (.iload_n 3, 1) := by decide +kernel
theorem f44_23 : zft 44 23 = some (.iconst 1, 1) := by decide +kernel
theorem f44_24 : zft 44 24 = some (.bipush 40, 2) := by decide +kernel
theorem f44_26 : zft 44 26 = some (.invokestatic 50, 3) := by decide +kernel
theorem f44_29 : zft 44 29 = some (.ifCond .ne 6, 3) := by decide +kernel
theorem f44_32 : zft 44 32 = some (.bipush (-2), 2) := by decide +kernel
theorem f44_34 : zft 44 34 = some (.ireturn, 1) := by decide +kernel
theorem f44_35 : zft 44 35 = some (.aload_n 0, 1) := by decide +kernel
theorem f44_36 : zft 44 36 = some (.getfield 10, 3) := by decide +kernel
theorem f44_39 : zft 44 39 = some (.iload_n 1, 1) := by decide +kernel
theorem f44_40 : zft 44 40 = some (.iload_n 2, 1) := by decide +kernel
theorem f44_41 : zft 44 41 = some (.invokevirtual 62, 3) := by decide +kernel
theorem f44_44 : zft 44 44 = some (.ifCond .eq 6, 3) := by decide +kernel
theorem f44_47 : zft 44 47 = some (.bipush (-2), 2) := by decide +kernel
theorem f44_49 : zft 44 49 = some (.ireturn, 1) := by decide +kernel
theorem f44_50 : zft 44 50 = some (.aload_n 0, 1) := by decide +kernel
theorem f44_51 : zft 44 51 = some (.getfield 10, 3) := by decide +kernel
theorem f44_54 : zft 44 54 = some (.iload_n 1, 1) := by decide +kernel
theorem f44_55 : zft 44 55 = some (.iload_n 2, 1) := by decide +kernel
theorem f44_56 : zft 44 56 = some (.iload_n 3, 1) := by decide +kernel
theorem f44_57 : zft 44 57 = some (.invokevirtual 66, 3) := by decide +kernel
theorem f44_60 : zft 44 60 = some (.ireturn, 1) := by decide +kernel
theorem o44 : zo 44 = 6 := by decide +kernel
theorem p44 : zp 44 = 3 := by decide +kernel
theorem n44 : zn 44 = 4 := by decide +kernel
theorem v44 : zr 44 = (some .int) := by decide +kernel
theorem f45_0 : zft 45 0 = some (.aload_n 0, 1) := by decide +kernel
theorem f45_1 : zft 45 1 = some (.getfield 10, 3) := by decide +kernel
theorem f45_4 : zft 45 4 = some (.iload_n 1, 1) := by decide +kernel
theorem f45_5 : zft 45 5 = some (.invokevirtual 58, 3) := by decide +kernel
theorem f45_8 : zft 45 8 = some (.ifCond .eq 13, 3) := by decide +kernel
theorem f45_11 : zft 45 11 = some (.iload_n 2, 1) := by decide +kernel
theorem f45_12 : zft 45 12 = some (.iconst 0, 1) := by decide +kernel
theorem f45_13 : zft 45 13 = some (.bipush 9, 2) := by decide +kernel
theorem f45_15 : zft 45 15 = some (.invokestatic 50, 3) := by decide +kernel
theorem f45_18 : zft 45 18 = some (.ifCond .ne 6, 3) := by decide +kernel
theorem f45_21 : zft 45 21 = some (.bipush (-2), 2) := by decide +kernel
theorem f45_23 : zft 45 23 = some (.ireturn, 1) := by decide +kernel
theorem f45_24 : zft 45 24 = some (.aload_n 0, 1) := by decide +kernel
theorem f45_25 : zft 45 25 = some (.getfield 10, 3) := by decide +kernel
theorem f45_28 : zft 45 28 = some (.getfield 70, 3) := by decide +kernel
theorem f45_31 : zft 45 31 = some (.iload_n 1, 1) := by decide +kernel
theorem f45_32 : zft 45 32 = some (.aaload, 1) := by decide +kernel
theorem f45_33 : zft 45 33 = some (.astore_n 3, 1) := by decide +kernel
theorem f45_34 : zft 45 34 = some (.aload_n 3, 1) := by decide +kernel
theorem f45_35 : zft 45 35 = some (.getfield 74, 3) := by decide +kernel
theorem f45_38 : zft 45 38 = some (.istore 4, 2) := by decide +kernel
theorem f45_40 : zft 45 40 = some (.aload_n 3, 1) := by decide +kernel
theorem f45_41 : zft 45 41 = some (.iload_n 2, 1) := by decide +kernel
theorem f45_42 : zft 45 42 = some (.putfield 74, 3) := by decide +kernel
theorem f45_45 : zft 45 45 = some (.iload 4, 2) := by decide +kernel
theorem f45_47 : zft 45 47 = some (.ireturn, 1) := by decide +kernel
theorem o45 : zo 45 = 6 := by decide +kernel
theorem p45 : zp 45 = 2 := by decide +kernel
theorem n45 : zn 45 = 5 := by decide +kernel
theorem v45 : zr 45 = (some .int) := by decide +kernel
theorem f46_0 : zft 46 0 = some (.aload_n 0, 1) := by decide +kernel
theorem f46_1 : zft 46 1 = some (.getfield 10, 3) := by decide +kernel
theorem f46_4 : zft 46 4 = some (.iload_n 1, 1) := by decide +kernel
theorem f46_5 : zft 46 5 = some (.invokevirtual 58, 3) := by decide +kernel
theorem f46_8 : zft 46 8 = some (.ifCond .eq 19, 3) := by decide +kernel
theorem f46_11 : zft 46 11 = some (.iload_n 2, 1) := by decide +kernel
theorem f46_12 : zft 46 12 = some (.iconst (-1), 1) := by decide +kernel
theorem f46_13 : zft 46 13 = some (.iconst 2, 1) := by decide +kernel
theorem f46_14 : zft 46 14 = some (.invokestatic 50, 3) := by decide +kernel
theorem f46_17 : zft 46 17 = some (.ifCond .eq 10, 3) := by decide +kernel
theorem f46_20 : zft 46 20 = some (.iload_n 3, 1) := by decide +kernel
theorem f46_21 : zft 46 21 = some (.invokestatic 80, 3) := by decide +kernel
theorem f46_24 : zft 46 24 = some (.ifCond .ne 6, 3) := by decide +kernel
theorem f46_27 : zft 46 27 = some (.bipush (-2), 2) := by decide +kernel
theorem f46_29 : zft 46 29 = some (.ireturn, 1) := by decide +kernel
theorem f46_30 : zft 46 30 = some (.aload_n 0, 1) := by decide +kernel
theorem f46_31 : zft 46 31 = some (.getfield 10, 3) := by decide +kernel
theorem f46_34 : zft 46 34 = some (.getfield 70, 3) := by decide +kernel
theorem f46_37 : zft 46 37 = some (.iload_n 1, 1) := by decide +kernel
theorem f46_38 : zft 46 38 = some (.aaload, 1) := by decide +kernel
theorem f46_39 : zft 46 39 = some (.astore 4, 2) := by decide +kernel
theorem f46_41 : zft 46 41 = some (.iload_n 2, 1) := by decide +kernel
theorem f46_42 : zft 46 42 = some (.iconst (-1), 1) := by decide +kernel
theorem f46_43 : zft 46 43 = some (.if_icmp .ne 12, 3) := by decide +kernel
theorem f46_46 : zft 46 46 = some (.aload 4, 2) := by decide +kernel
theorem f46_48 : zft 46 48 = some (.iload_n 3, 1) := by decide +kernel
theorem f46_49 : zft 46 49 = some (.invokevirtual 83, 3) := by decide +kernel
theorem f46_52 : zft 46 52 = some (.goto 14, 3) := by decide +kernel
theorem f46_55 : zft 46 55 = some (.aload 4, 2) := by decide +kernel
theorem f46_57 : zft 46 57 = some (.getfield 87, 3) := by decide +kernel
theorem f46_60 : zft 46 60 = some (.iload_n 3, 1) := by decide +kernel
theorem f46_61 : zft 46 61 = some (.iconst 3, 1) := by decide +kernel
theorem f46_62 : zft 46 62 = some (.imul, 1) := by decide +kernel
theorem f46_63 : zft 46 63 = some (.iload_n 2, 1) := by decide +kernel
theorem f46_64 : zft 46 64 = some (.iadd, 1) := by decide +kernel
theorem f46_65 : zft 46 65 = some (.iaload, 1) := by decide +kernel
theorem f46_66 : zft 46 66 = some (.ireturn, 1) := by decide +kernel
theorem o46 : zo 46 = 6 := by decide +kernel
theorem p46 : zp 46 = 3 := by decide +kernel
theorem n46 : zn 46 = 5 := by decide +kernel
theorem v46 : zr 46 = (some .int) := by decide +kernel
theorem f47_0 : zft 47 0 = some (.aload_n 0, 1) := by decide +kernel
theorem f47_1 : zft 47 1 = some (.getfield 10, 3) := by decide +kernel
theorem f47_4 : zft 47 4 = some (.iload_n 1, 1) := by decide +kernel
theorem f47_5 : zft 47 5 = some (.invokevirtual 58, 3) := by decide +kernel
theorem f47_8 : zft 47 8 = some (.ifCond .eq 10, 3) := by decide +kernel
theorem f47_11 : zft 47 11 = some (.iload_n 2, 1) := by decide +kernel
theorem f47_12 : zft 47 12 = some (.invokestatic 80, 3) := by decide +kernel
theorem f47_15 : zft 47 15 = some (.ifCond .ne 6, 3) := by decide +kernel
theorem f47_18 : zft 47 18 = some (.bipush (-2), 2) := by decide +kernel
theorem f47_20 : zft 47 20 = some (.ireturn, 1) := by decide +kernel
theorem f47_21 : zft 47 21 = some (.aload_n 0, 1) := by decide +kernel
theorem f47_22 : zft 47 22 = some (.getfield 10, 3) := by decide +kernel
theorem f47_25 : zft 47 25 = some (.getfield 70, 3) := by decide +kernel
theorem f47_28 : zft 47 28 = some (.iload_n 1, 1) := by decide +kernel
theorem f47_29 : zft 47 29 = some (.aaload, 1) := by decide +kernel
theorem f47_30 : zft 47 30 = some (.getfield 90, 3) := by decide +kernel
theorem f47_33 : zft 47 33 = some (.iload_n 2, 1) := by decide +kernel
theorem f47_34 : zft 47 34 = some (.baload, 1) := by decide +kernel
theorem f47_35 : zft 47 35 = some (.ifCond .eq 7, 3) := by decide +kernel
theorem f47_38 : zft 47 38 = some (.iconst 1, 1) := by decide +kernel
theorem f47_39 : zft 47 39 = some (.goto 4, 3) := by decide +kernel
theorem f47_42 : zft 47 42 = some (.iconst 0, 1) := by decide +kernel
theorem f47_43 : zft 47 43 = some (.ireturn, 1) := by decide +kernel
theorem o47 : zo 47 = 6 := by decide +kernel
theorem p47 : zp 47 = 2 := by decide +kernel
theorem n47 : zn 47 = 3 := by decide +kernel
theorem v47 : zr 47 = (some .int) := by decide +kernel
theorem f48_0 : zft 48 0 = some (.aload_n 0, 1) := by decide +kernel
theorem f48_1 : zft 48 1 = some (.getfield 10, 3) := by decide +kernel
theorem f48_4 : zft 48 4 = some (.iload_n 1, 1) := by decide +kernel
theorem f48_5 : zft 48 5 = some (.invokevirtual 58, 3) := by decide +kernel
theorem f48_8 : zft 48 8 = some (.ifCond .eq 22, 3) := by decide +kernel
theorem f48_11 : zft 48 11 = some (.iload_n 2, 1) := by decide +kernel
theorem f48_12 : zft 48 12 = some (.aload_n 0, 1) := by decide +kernel
theorem f48_13 : zft 48 13 = some (.getfield 94, 3) := by decide +kernel
theorem f48_16 : zft 48 16 = some (.if_icmp .le 14, 3) := by decide +kernel
theorem f48_19 : zft 48 19 = some (.iload_n 3, 1) := by decide +kernel
theorem f48_20 : zft 48 20 = some (.bipush 40, 2) := by decide +kernel
theorem f48_22 : zft 48 22 = some (.if_icmp .ge 8, 3) := by decide +kernel
theorem f48_25 : zft 48 25 = some (.iload_n 2, 1) := by decide +kernel
theorem f48_26 : zft 48 26 = some (.iload_n 3, 1) := by decide +kernel
theorem f48_27 : zft 48 27 = some (.if_icmp .le 6, 3) := by decide +kernel
theorem f48_30 : zft 48 30 = some (.bipush (-2), 2) := by decide +kernel
theorem f48_32 : zft 48 32 = some (.ireturn, 1) := by decide +kernel
theorem f48_33 : zft 48 33 = some (.aload_n 0, 1) := by decide +kernel
theorem f48_34 : zft 48 34 = some (.getfield 10, 3) := by decide +kernel
theorem f48_37 : zft 48 37 = some (.getfield 70, 3) := by decide +kernel
theorem f48_40 : zft 48 40 = some (.iload_n 1, 1) := by decide +kernel
theorem f48_41 : zft 48 41 = some (.aaload, 1) := by decide +kernel
theorem f48_42 : zft 48 42 = some (.iload_n 2, 1) := by decide +kernel
theorem f48_43 : zft 48 43 = some (.iload_n 3, 1) := by decide +kernel
theorem f48_44 : zft 48 44 = some (.invokevirtual 97, 3) := by decide +kernel
theorem f48_47 : zft 48 47 = some (.iconst 0, 1) := by decide +kernel
theorem f48_48 : zft 48 48 = some (.istore 4, 2) := by decide +kernel
theorem f48_50 : zft 48 50 = some (.iconst 0, 1) := by decide +kernel
theorem f48_51 : zft 48 51 = some (.istore 5, 2) := by decide +kernel
theorem f48_53 : zft 48 53 = some (.iload 5, 2) := by decide +kernel
theorem f48_55 : zft 48 55 = some (.aload_n 0, 1) := by decide +kernel
theorem f48_56 : zft 48 56 = some (.getfield 101, 3) := by decide +kernel
theorem f48_59 : zft 48 59 = some (.if_icmp .ge 50, 3) := by decide +kernel
theorem f48_62 : zft 48 62 = some (.aload_n 0, 1) := by decide +kernel
theorem f48_63 : zft 48 63 = some (.getfield 27, 3) := by decide +kernel
theorem f48_66 : zft 48 66 = some (.iload 5, 2) := by decide +kernel
theorem f48_68 : zft 48 68 = some (.aaload, 1) := by decide +kernel
theorem f48_69 : zft 48 69 = some (.astore 6, 2) := by decide +kernel
theorem f48_71 : zft 48 71 = some (.aload 6, 2) := by decide +kernel
theorem f48_73 : zft 48 73 = some (.getfield 104, 3) := by decide +kernel
theorem f48_76 : zft 48 76 = some (.iconst 1, 1) := by decide +kernel
theorem f48_77 : zft 48 77 = some (.if_icmp .ne 26, 3) := by decide +kernel
theorem f48_80 : zft 48 80 = some (.aload 6, 2) := by decide +kernel
theorem f48_82 : zft 48 82 = some (.iload_n 1, 1) := by decide +kernel
theorem f48_83 : zft 48 83 = some (.iload_n 2, 1) := by decide +kernel
theorem f48_84 : zft 48 84 = some (.iload_n 3, 1) := by decide +kernel
theorem f48_85 : zft 48 85 = some (.invokevirtual 107, 3) := by decide +kernel
theorem f48_88 : zft 48 88 = some (.ifCond .eq 15, 3) := by decide +kernel
theorem f48_91 : zft 48 91 = some (.aload_n 0, 1) := by decide +kernel
theorem f48_92 : zft 48 92 = some (.aload 6, 2) := by decide +kernel
theorem f48_94 : zft 48 94 = some (.invokevirtual 110, 3) := by decide +kernel
theorem f48_97 : zft 48 97 = some (.ifCond .ne 6, 3) := by decide +kernel
theorem f48_100 : zft 48 100 = some (.iinc 4 1, 3) := by decide +kernel
theorem f48_103 : zft 48 103 = some (.iinc 5 1, 3) := by decide +kernel
theorem f48_106 : zft 48 106 = some (.goto (-53), 3) := by decide +kernel
theorem f48_109 : zft 48 109 = some (.iload 4, 2) := by decide +kernel
theorem f48_111 : zft 48 111 = some (.ireturn, 1) := by decide +kernel
theorem o48 : zo 48 = 6 := by decide +kernel
theorem p48 : zp 48 = 3 := by decide +kernel
theorem n48 : zn 48 = 7 := by decide +kernel
theorem v48 : zr 48 = (some .int) := by decide +kernel
theorem f49_0 : zft 49 0 = some (.iload_n 1, 1) := by decide +kernel
theorem f49_1 : zft 49 1 = some (.iconst 1, 1) := by decide +kernel
theorem f49_2 : zft 49 2 = some (.bipush 12, 2) := by decide +kernel
theorem f49_4 : zft 49 4 = some (.invokestatic 50, 3) := by decide +kernel
theorem f49_7 : zft 49 7 = some (.ifCond .eq 27, 3) := by decide +kernel
theorem f49_10 : zft 49 10 = some (.iload_n 2, 1) := by decide +kernel
theorem f49_11 : zft 49 11 = some (.aload_n 0, 1) := by decide +kernel
theorem f49_12 : zft 49 12 = some (.getfield 94, 3) := by decide +kernel
theorem f49_15 : zft 49 15 = some (.bipush 39, 2) := by decide +kernel
theorem f49_17 : zft 49 17 = some (.invokestatic 50, 3) := by decide +kernel
theorem f49_20 : zft 49 20 = some (.ifCond .eq 14, 3) := by decide +kernel
theorem f49_23 : zft 49 23 = some (.aload_n 0, 1) := by decide +kernel
theorem f49_24 : zft 49 24 = some (.getfield 10, 3) := by decide +kernel
theorem f49_27 : zft 49 27 = some (.iload_n 3, 1) := by decide +kernel
theorem f49_28 : zft 49 28 = some (.invokevirtual 58, 3) := by decide +kernel
theorem f49_31 : zft 49 31 = some (.ifCond .ne 6, 3) := by decide +kernel
theorem f49_34 : zft 49 34 = some (.bipush (-2), 2) := by decide +kernel
theorem f49_36 : zft 49 36 = some (.ireturn, 1) := by decide +kernel
theorem f49_37 : zft 49 37 = some (.aload_n 0, 1) := by decide +kernel
theorem f49_38 : zft 49 38 = some (.getfield 101, 3) := by decide +kernel
theorem f49_41 : zft 49 41 = some (.bipush 40, 2) := by decide +kernel
theorem f49_43 : zft 49 43 = some (.if_icmp .lt 6, 3) := by decide +kernel
theorem f49_46 : zft 49 46 = some (.bipush (-4), 2) := by decide +kernel
theorem f49_48 : zft 49 48 = some (.ireturn, 1) := by decide +kernel
theorem f49_49 : zft 49 49 = some (.aload_n 0, 1) := by decide +kernel
theorem f49_50 : zft 49 50 = some (.getfield 27, 3) := by decide +kernel
theorem f49_53 : zft 49 53 = some (.aload_n 0, 1) := by decide +kernel
theorem f49_54 : zft 49 54 = some (.getfield 101, 3) := by decide +kernel
theorem f49_57 : zft 49 57 = some (.aaload, 1) := by decide +kernel
theorem f49_58 : zft 49 58 = some (.iload_n 1, 1) := by decide +kernel
theorem f49_59 : zft 49 59 = some (.iload_n 2, 1) := by decide +kernel
theorem f49_60 : zft 49 60 = some (.iload_n 3, 1) := by decide +kernel
theorem f49_61 : zft 49 61 = some (.invokevirtual 114, 3) := by decide +kernel
theorem f49_64 : zft 49 64 = some (.aload_n 0, 1) := by decide +kernel
theorem f49_65 : zft 49 65 = some (.dup, 1) := by decide +kernel
theorem f49_66 : zft 49 66 = some (.getfield 101, 3) := by decide +kernel
theorem f49_69 : zft 49 69 = some (.iconst 1, 1) := by decide +kernel
theorem f49_70 : zft 49 70 = some (.iadd, 1) := by decide +kernel
theorem f49_71 : zft 49 71 = some (.putfield 101, 3) := by decide +kernel
theorem f49_74 : zft 49 74 = some (.aload_n 0, 1) := by decide +kernel
theorem f49_75 : zft 49 75 = some (.getfield 101, 3) := by decide +kernel
theorem f49_78 : zft 49 78 = some (.iconst 1, 1) := by decide +kernel
theorem f49_79 : zft 49 79 = some (.isub, 1) := by decide +kernel
theorem f49_80 : zft 49 80 = some (.ireturn, 1) := by decide +kernel
theorem o49 : zo 49 = 6 := by decide +kernel
theorem p49 : zp 49 = 3 := by decide +kernel
theorem n49 : zn 49 = 4 := by decide +kernel
theorem v49 : zr 49 = (some .int) := by decide +kernel
theorem f50_0 : zft 50 0 = some (.aload_n 0, 1) := by decide +kernel
theorem f50_1 : zft 50 1 = some (.iload_n 1, 1) := by decide +kernel
theorem f50_2 : zft 50 2 = some (.invokevirtual 118, 3) := by decide +kernel
theorem f50_5 : zft 50 5 = some (.ifCond .eq 14, 3) := by decide +kernel
theorem f50_8 : zft 50 8 = some (.aload_n 0, 1) := by decide +kernel
theorem f50_9 : zft 50 9 = some (.getfield 10, 3) := by decide +kernel
theorem f50_12 : zft 50 12 = some (.iload_n 2, 1) := by decide +kernel
theorem f50_13 : zft 50 13 = some (.invokevirtual 58, 3) := by decide +kernel
theorem f50_16 : zft 50 16 = some (.ifCond .ne 6, 3) := by decide +kernel
theorem f50_19 : zft 50 19 = some (.bipush (-2), 2) := by decide +kernel
theorem f50_21 : zft 50 21 = some (.ireturn, 1) := by decide +kernel
theorem f50_22 : zft 50 22 = some (.aload_n 0, 1) := by decide +kernel
theorem f50_23 : zft 50 23 = some (.getfield 27, 3) := by decide +kernel
theorem f50_26 : zft 50 26 = some (.iload_n 1, 1) := by decide +kernel
theorem f50_27 : zft 50 27 = some (.aaload, 1) := by decide +kernel
theorem f50_28 : zft 50 28 = some (.astore_n 3, 1) := by decide +kernel
theorem f50_29 : zft 50 29 = some (.aload_n 3, 1) := by decide +kernel
theorem f50_30 : zft 50 30 = some (.getfield 121, 3) := by decide +kernel
theorem f50_33 : zft 50 33 = some (.aload_n 3, 1) := by decide +kernel
theorem f50_34 : zft 50 34 = some (.getfield 124, 3) := by decide +kernel
theorem f50_37 : zft 50 37 = some (.iadd, 1) := by decide +kernel
theorem f50_38 : zft 50 38 = some (.bipush 40, 2) := by decide +kernel
theorem f50_40 : zft 50 40 = some (.if_icmp .lt 6, 3) := by decide +kernel
theorem f50_43 : zft 50 43 = some (.bipush (-2), 2) := by decide +kernel
theorem f50_45 : zft 50 45 = some (.ireturn, 1) := by decide +kernel
theorem f50_46 : zft 50 46 = some (.aload_n 3, 1) := by decide +kernel
theorem f50_47 : zft 50 47 = some (.getfield 104, 3) := by decide +kernel
theorem f50_50 : zft 50 50 = some (.ifCond .eq 6, 3) := by decide +kernel
theorem f50_53 : zft 50 53 = some (.bipush (-3), 2) := by decide +kernel
theorem f50_55 : zft 50 55 = some (.ireturn, 1) := by decide +kernel
theorem f50_56 : zft 50 56 = some (.aload_n 3, 1) := by decide +kernel
theorem f50_57 : zft 50 57 = some (.getfield 124, 3) := by decide +kernel
theorem f50_60 : zft 50 60 = some (.bipush 7, 2) := by decide +kernel
theorem f50_62 : zft 50 62 = some (.if_icmp .lt 6, 3) := by decide +kernel
theorem f50_65 : zft 50 65 = some (.bipush (-4), 2) := by decide +kernel
theorem f50_67 : zft 50 67 = some (.ireturn, 1) := by decide +kernel
theorem f50_68 : zft 50 68 = some (.aload_n 3, 1) := by decide +kernel
theorem f50_69 : zft 50 69 = some (.getfield 127, 3) := by decide +kernel
theorem f50_72 : zft 50 72 = some (.aload_n 3, 1) := by decide +kernel
theorem f50_73 : zft 50 73 = some (.getfield 124, 3) := by decide +kernel
theorem f50_76 : zft 50 76 = some (.iload_n 2, 1) := by decide +kernel
theorem f50_77 : zft 50 77 = some (.iastore, 1) := by decide +kernel
theorem f50_78 : zft 50 78 = some (.aload_n 3, 1) := by decide +kernel
theorem f50_79 : zft 50 79 = some (.dup, 1) := by decide +kernel
theorem f50_80 : zft 50 80 = some (.getfield 124, 3) := by decide +kernel
theorem f50_83 : zft 50 83 = some (.iconst 1, 1) := by decide +kernel
theorem f50_84 : zft 50 84 = some (.iadd, 1) := by decide +kernel
theorem f50_85 : zft 50 85 = some (.putfield 124, 3) := by decide +kernel
theorem f50_88 : zft 50 88 = some (.aload_n 3, 1) := by decide +kernel
theorem f50_89 : zft 50 89 = some (.getfield 124, 3) := by decide +kernel
theorem f50_92 : zft 50 92 = some (.ireturn, 1) := by decide +kernel
theorem o50 : zo 50 = 6 := by decide +kernel
theorem p50 : zp 50 = 2 := by decide +kernel
theorem n50 : zn 50 = 4 := by decide +kernel
theorem v50 : zr 50 = (some .int) := by decide +kernel
theorem f51_0 : zft 51 0 = some (.aload_n 0, 1) := by decide +kernel
theorem f51_1 : zft 51 1 = some (.iload_n 1, 1) := by decide +kernel
theorem f51_2 : zft 51 2 = some (.invokevirtual 118, 3) := by decide +kernel
theorem f51_5 : zft 51 5 = some (.ifCond .ne 6, 3) := by decide +kernel
theorem f51_8 : zft 51 8 = some (.bipush (-2), 2) := by decide +kernel
theorem f51_10 : zft 51 10 = some (.ireturn, 1) := by decide +kernel
theorem f51_11 : zft 51 11 = some (.aload_n 0, 1) := by decide +kernel
theorem f51_12 : zft 51 12 = some (.aload_n 0, 1) := by decide +kernel
theorem f51_13 : zft 51 13 = some (.getfield 27, 3) := by decide +kernel
theorem f51_16 : zft 51 16 = some (.iload_n 1, 1) := by decide +kernel
theorem f51_17 : zft 51 17 = some (.aaload, 1) := by decide +kernel
theorem f51_18 : zft 51 18 = some (.invokevirtual 130, 3) := by decide +kernel
theorem f51_21 : zft 51 21 = some (.ifCond .ne 6, 3) := by decide +kernel
theorem f51_24 : zft 51 24 = some (.bipush (-3), 2) := by decide +kernel
theorem f51_26 : zft 51 26 = some (.ireturn, 1) := by decide +kernel
theorem f51_27 : zft 51 27 = some (.aload_n 0, 1) := by decide +kernel
theorem f51_28 : zft 51 28 = some (.aload_n 0, 1) := by decide +kernel
theorem f51_29 : zft 51 29 = some (.getfield 27, 3) := by decide +kernel
theorem f51_32 : zft 51 32 = some (.iload_n 1, 1) := by decide +kernel
theorem f51_33 : zft 51 33 = some (.aaload, 1) := by decide +kernel
theorem f51_34 : zft 51 34 = some (.invokevirtual 133, 3) := by decide +kernel
theorem f51_37 : zft 51 37 = some (.ireturn, 1) := by decide +kernel
theorem o51 : zo 51 = 6 := by decide +kernel
theorem p51 : zp 51 = 1 := by decide +kernel
theorem n51 : zn 51 = 2 := by decide +kernel
theorem v51 : zr 51 = (some .int) := by decide +kernel
theorem f52_0 : zft 52 0 = some (.aload_n 0, 1) := by decide +kernel
theorem f52_1 : zft 52 1 = some (.iload_n 1, 1) := by decide +kernel
theorem f52_2 : zft 52 2 = some (.invokevirtual 118, 3) := by decide +kernel
theorem f52_5 : zft 52 5 = some (.ifCond .ne 6, 3) := by decide +kernel
theorem f52_8 : zft 52 8 = some (.bipush (-2), 2) := by decide +kernel
theorem f52_10 : zft 52 10 = some (.ireturn, 1) := by decide +kernel
theorem f52_11 : zft 52 11 = some (.aload_n 0, 1) := by decide +kernel
theorem f52_12 : zft 52 12 = some (.aload_n 0, 1) := by decide +kernel
theorem f52_13 : zft 52 13 = some (.getfield 27, 3) := by decide +kernel
theorem f52_16 : zft 52 16 = some (.iload_n 1, 1) := by decide +kernel
theorem f52_17 : zft 52 17 = some (.aaload, 1) := by decide +kernel
theorem f52_18 : zft 52 18 = some (.invokevirtual 130, 3) := by decide +kernel
theorem f52_21 : zft 52 21 = some (.ifCond .ne 6, 3) := by decide +kernel
theorem f52_24 : zft 52 24 = some (.bipush (-3), 2) := by decide +kernel
theorem f52_26 : zft 52 26 = some (.ireturn, 1) := by decide +kernel
theorem f52_27 : zft 52 27 = some (.aload_n 0, 1) := by decide +kernel
theorem f52_28 : zft 52 28 = some (.getfield 21, 3) := by decide +kernel
theorem f52_31 : zft 52 31 = some (.aload_n 0, 1) := by decide +kernel
theorem f52_32 : zft 52 32 = some (.getfield 27, 3) := by decide +kernel
theorem f52_35 : zft 52 35 = some (.iload_n 1, 1) := by decide +kernel
theorem f52_36 : zft 52 36 = some (.aaload, 1) := by decide +kernel
theorem f52_37 : zft 52 37 = some (.iconst (-1), 1) := by decide +kernel
theorem f52_38 : zft 52 38 = some (.invokevirtual 137, 3) := by decide +kernel
theorem f52_41 : zft 52 41 = some (.ireturn, 1) := by decide +kernel
theorem o52 : zo 52 = 6 := by decide +kernel
theorem p52 : zp 52 = 1 := by decide +kernel
theorem n52 : zn 52 = 2 := by decide +kernel
theorem v52 : zr 52 = (some .int) := by decide +kernel
theorem f53_0 : zft 53 0 = some (.aload_n 0, 1) := by decide +kernel
theorem f53_1 : zft 53 1 = some (.iload_n 1, 1) := by decide +kernel
theorem f53_2 : zft 53 2 = some (.invokevirtual 118, 3) := by decide +kernel
theorem f53_5 : zft 53 5 = some (.ifCond .eq 22, 3) := by decide +kernel
theorem f53_8 : zft 53 8 = some (.iload_n 2, 1) := by decide +kernel
theorem f53_9 : zft 53 9 = some (.iconst 0, 1) := by decide +kernel
theorem f53_10 : zft 53 10 = some (.aload_n 0, 1) := by decide +kernel
theorem f53_11 : zft 53 11 = some (.getfield 27, 3) := by decide +kernel
theorem f53_14 : zft 53 14 = some (.iload_n 1, 1) := by decide +kernel
theorem f53_15 : zft 53 15 = some (.aaload, 1) := by decide +kernel
theorem f53_16 : zft 53 16 = some (.getfield 124, 3) := by decide +kernel
theorem f53_19 : zft 53 19 = some (.iconst 1, 1) := by decide +kernel
theorem f53_20 : zft 53 20 = some (.isub, 1) := by decide +kernel
theorem f53_21 : zft 53 21 = some (.invokestatic 50, 3) := by decide +kernel
theorem f53_24 : zft 53 24 = some (.ifCond .ne 6, 3) := by decide +kernel
theorem f53_27 : zft 53 27 = some (.bipush (-2), 2) := by decide +kernel
theorem f53_29 : zft 53 29 = some (.ireturn, 1) := by decide +kernel
theorem f53_30 : zft 53 30 = some (.aload_n 0, 1) := by decide +kernel
theorem f53_31 : zft 53 31 = some (.aload_n 0, 1) := by decide +kernel
theorem f53_32 : zft 53 32 = some (.getfield 27, 3) := by decide +kernel
theorem f53_35 : zft 53 35 = some (.iload_n 1, 1) := by decide +kernel
theorem f53_36 : zft 53 36 = some (.aaload, 1) := by decide +kernel
theorem f53_37 : zft 53 37 = some (.invokevirtual 130, 3) := by decide +kernel
theorem f53_40 : zft 53 40 = some (.ifCond .ne 6, 3) := by decide +kernel
theorem f53_43 : zft 53 43 = some (.bipush (-3), 2) := by decide +kernel
theorem f53_45 : zft 53 45 = some (.ireturn, 1) := by decide +kernel
theorem f53_46 : zft 53 46 = some (.aload_n 0, 1) := by decide +kernel
theorem f53_47 : zft 53 47 = some (.getfield 21, 3) := by decide +kernel
theorem f53_50 : zft 53 50 = some (.aload_n 0, 1) := by decide +kernel
theorem f53_51 : zft 53 51 = some (.getfield 27, 3) := by decide +kernel
theorem f53_54 : zft 53 54 = some (.iload_n 1, 1) := by decide +kernel
theorem f53_55 : zft 53 55 = some (.aaload, 1) := by decide +kernel
theorem f53_56 : zft 53 56 = some (.iconst (-1), 1) := by decide +kernel
theorem f53_57 : zft 53 57 = some (.invokevirtual 137, 3) := by decide +kernel
theorem f53_60 : zft 53 60 = some (.iconst (-1), 1) := by decide +kernel
theorem f53_61 : zft 53 61 = some (.if_icmp .ne 7, 3) := by decide +kernel
theorem f53_64 : zft 53 64 = some (.iconst (-1), 1) := by decide +kernel
theorem f53_65 : zft 53 65 = some (.goto 12, 3) := by decide +kernel
theorem f53_68 : zft 53 68 = some (.aload_n 0, 1) := by decide +kernel
theorem f53_69 : zft 53 69 = some (.getfield 21, 3) := by decide +kernel
theorem f53_72 : zft 53 72 = some (.getfield 141, 3) := by decide +kernel
theorem f53_75 : zft 53 75 = some (.iload_n 2, 1) := by decide +kernel
theorem f53_76 : zft 53 76 = some (.iaload, 1) := by decide +kernel
theorem f53_77 : zft 53 77 = some (.ireturn, 1) := by decide +kernel
theorem o53 : zo 53 = 6 := by decide +kernel
theorem p53 : zp 53 = 2 := by decide +kernel
theorem n53 : zn 53 = 3 := by decide +kernel
theorem v53 : zr 53 = (some .int) := by decide +kernel
theorem f54_0 : zft 54 0 = some (.aload_n 0, 1) := by decide +kernel
theorem f54_1 : zft 54 1 = some (.iload_n 1, 1) := by decide +kernel
theorem f54_2 : zft 54 2 = some (.invokevirtual 118, 3) := by decide +kernel
theorem f54_5 : zft 54 5 = some (.ifCond .ne 6, 3) := by decide +kernel
theorem f54_8 : zft 54 8 = some (.bipush (-2), 2) := by decide +kernel
theorem f54_10 : zft 54 10 = some (.ireturn, 1) := by decide +kernel
theorem f54_11 : zft 54 11 = some (.aload_n 0, 1) := by decide +kernel
theorem f54_12 : zft 54 12 = some (.getfield 27, 3) := by decide +kernel
theorem f54_15 : zft 54 15 = some (.iload_n 1, 1) := by decide +kernel
theorem f54_16 : zft 54 16 = some (.aaload, 1) := by decide +kernel
theorem f54_17 : zft 54 17 = some (.astore_n 2, 1) := by decide +kernel
theorem f54_18 : zft 54 18 = some (.aload_n 0, 1) := by decide +kernel
theorem f54_19 : zft 54 19 = some (.aload_n 2, 1) := by decide +kernel
theorem f54_20 : zft 54 20 = some (.invokevirtual 130, 3) := by decide +kernel
theorem f54_23 : zft 54 23 = some (.ifCond .ne 6, 3) := by decide +kernel
theorem f54_26 : zft 54 26 = some (.bipush (-3), 2) := by decide +kernel
theorem f54_28 : zft 54 28 = some (.ireturn, 1) := by decide +kernel
theorem f54_29 : zft 54 29 = some (.aload_n 0, 1) := by decide +kernel
theorem f54_30 : zft 54 30 = some (.getfield 21, 3) := by decide +kernel
theorem f54_33 : zft 54 33 = some (.aload_n 2, 1) := by decide +kernel
theorem f54_34 : zft 54 34 = some (.iconst (-1), 1) := by decide +kernel
theorem f54_35 : zft 54 35 = some (.invokevirtual 137, 3) := by decide +kernel
theorem f54_38 : zft 54 38 = some (.istore_n 3, 1) := by decide +kernel
theorem f54_39 : zft 54 39 = some (.iload_n 3, 1) := by decide +kernel
theorem f54_40 : zft 54 40 = some (.iconst (-1), 1) := by decide +kernel
theorem f54_41 : zft 54 41 = some (.if_icmp .eq 26, 3) := by decide +kernel
theorem f54_44 : zft 54 44 = some (.aload_n 2, 1) := by decide +kernel
theorem f54_45 : zft 54 45 = some (.aload_n 0, 1) := by decide +kernel
theorem f54_46 : zft 54 46 = some (.getfield 21, 3) := by decide +kernel
theorem f54_49 : zft 54 49 = some (.getfield 141, 3) := by decide +kernel
theorem f54_52 : zft 54 52 = some (.iconst 0, 1) := by decide +kernel
theorem f54_53 : zft 54 53 = some (.invokevirtual 144, 3) := by decide +kernel
theorem f54_56 : zft 54 56 = some (.aload_n 0, 1) := by decide +kernel
theorem f54_57 : zft 54 57 = some (.aload_n 2, 1) := by decide +kernel
theorem f54_58 : zft 54 58 = some (.iconst 0, 1) := by decide +kernel
theorem f54_59 : zft 54 59 = some (.invokevirtual 148, 3) := by decide +kernel
theorem f54_62 : zft 54 62 = some (.aload_n 2, 1) := by decide +kernel
theorem f54_63 : zft 54 63 = some (.iconst 1, 1) := by decide +kernel
theorem f54_64 : zft 54 64 = some (.putfield 104, 3) := by decide +kernel
theorem f54_67 : zft 54 67 = some (.iload_n 3, 1) := by decide +kernel
theorem f54_68 : zft 54 68 = some (.ireturn, 1) := by decide +kernel
theorem o54 : zo 54 = 6 := by decide +kernel
theorem p54 : zp 54 = 1 := by decide +kernel
theorem n54 : zn 54 = 4 := by decide +kernel
theorem v54 : zr 54 = (some .int) := by decide +kernel
theorem f55_0 : zft 55 0 = some (.aload_n 0, 1) := by decide +kernel
theorem f55_1 : zft 55 1 = some (.iload_n 1, 1) := by decide +kernel
theorem f55_2 : zft 55 2 = some (.invokevirtual 118, 3) := by decide +kernel
theorem f55_5 : zft 55 5 = some (.ifCond .ne 6, 3) := by decide +kernel
theorem f55_8 : zft 55 8 = some (.bipush (-2), 2) := by decide +kernel
theorem f55_10 : zft 55 10 = some (.ireturn, 1) := by decide +kernel
theorem f55_11 : zft 55 11 = some (.aload_n 0, 1) := by decide +kernel
theorem f55_12 : zft 55 12 = some (.getfield 27, 3) := by decide +kernel
theorem f55_15 : zft 55 15 = some (.iload_n 1, 1) := by decide +kernel
theorem f55_16 : zft 55 16 = some (.aaload, 1) := by decide +kernel
theorem f55_17 : zft 55 17 = some (.astore_n 2, 1) := by decide +kernel
theorem f55_18 : zft 55 18 = some (.aload_n 2, 1) := by decide +kernel
theorem f55_19 : zft 55 19 = some (.getfield 104, 3) := by decide +kernel
theorem f55_22 : zft 55 22 = some (.iconst 1, 1) := by decide +kernel
theorem f55_23 : zft 55 23 = some (.if_icmp .ne 14, 3) := by decide +kernel
theorem f55_26 : zft 55 26 = some (.aload_n 2, 1) := by decide +kernel
theorem f55_27 : zft 55 27 = some (.getfield 121, 3) := by decide +kernel
theorem f55_30 : zft 55 30 = some (.aload_n 0, 1) := by decide +kernel
theorem f55_31 : zft 55 31 = some (.getfield 94, 3) := by decide +kernel
theorem f55_34 : zft 55 34 = some (.if_icmp .gt 6, 3) := by decide +kernel
theorem f55_37 : zft 55 37 = some (.bipush (-3), 2) := by decide +kernel
theorem f55_39 : zft 55 39 = some (.ireturn, 1) := by decide +kernel
theorem f55_40 : zft 55 40 = some (.aload_n 0, 1) := by decide +kernel
theorem f55_41 : zft 55 41 = some (.aload_n 2, 1) := by decide +kernel
theorem f55_42 : zft 55 42 = some (.iconst 0, 1) := by decide +kernel
theorem f55_43 : zft 55 43 = some (.invokevirtual 152, 3) := by decide +kernel
theorem f55_46 : zft 55 46 = some (.aload_n 2, 1) := by decide +kernel
theorem f55_47 : zft 55 47 = some (.iconst 2, 1) := by decide +kernel
theorem f55_48 : zft 55 48 = some (.putfield 104, 3) := by decide +kernel
theorem f55_51 : zft 55 51 = some (.aload_n 0, 1) := by decide +kernel
theorem f55_52 : zft 55 52 = some (.getfield 41, 3) := by decide +kernel
theorem f55_55 : zft 55 55 = some (.aload_n 2, 1) := by decide +kernel
theorem f55_56 : zft 55 56 = some (.getfield 121, 3) := by decide +kernel
theorem f55_59 : zft 55 59 = some (.aload_n 0, 1) := by decide +kernel
theorem f55_60 : zft 55 60 = some (.getfield 94, 3) := by decide +kernel
theorem f55_63 : zft 55 63 = some (.isub, 1) := by decide +kernel
theorem f55_64 : zft 55 64 = some (.invokevirtual 155, 3) := by decide +kernel
theorem f55_67 : zft 55 67 = some (.ireturn, 1) := by decide +kernel
theorem o55 : zo 55 = 6 := by decide +kernel
theorem p55 : zp 55 = 1 := by decide +kernel
theorem n55 : zn 55 = 3 := by decide +kernel
theorem v55 : zr 55 = (some .int) := by decide +kernel
theorem f56_0 : zft 56 0 = some (.aload_n 0, 1) := by decide +kernel
theorem f56_1 : zft 56 1 = some (.iload_n 1, 1) := by decide +kernel
theorem f56_2 : zft 56 2 = some (.invokevirtual 118, 3) := by decide +kernel
theorem f56_5 : zft 56 5 = some (.ifCond .ne 6, 3) := by decide +kernel
theorem f56_8 : zft 56 8 = some (.bipush (-2), 2) := by decide +kernel
theorem f56_10 : zft 56 10 = some (.ireturn, 1) := by decide +kernel
theorem f56_11 : zft 56 11 = some (.aload_n 0, 1) := by decide +kernel
theorem f56_12 : zft 56 12 = some (.getfield 27, 3) := by decide +kernel
theorem f56_15 : zft 56 15 = some (.iload_n 1, 1) := by decide +kernel
theorem f56_16 : zft 56 16 = some (.aaload, 1) := by decide +kernel
theorem f56_17 : zft 56 17 = some (.astore_n 3, 1) := by decide +kernel
theorem f56_18 : zft 56 18 = some (.iload_n 2, 1) := by decide +kernel
theorem f56_19 : zft 56 19 = some (.bipush 10, 2) := by decide +kernel
theorem f56_21 : zft 56 21 = some (.bipush 10, 2) := by decide +kernel
theorem f56_23 : zft 56 23 = some (.aload_n 3, 1) := by decide +kernel
theorem f56_24 : zft 56 24 = some (.getfield 124, 3) := by decide +kernel
theorem f56_27 : zft 56 27 = some (.iadd, 1) := by decide +kernel
theorem f56_28 : zft 56 28 = some (.iconst 1, 1) := by decide +kernel
theorem f56_29 : zft 56 29 = some (.isub, 1) := by decide +kernel
theorem f56_30 : zft 56 30 = some (.invokestatic 50, 3) := by decide +kernel
theorem f56_33 : zft 56 33 = some (.ifCond .eq 13, 3) := by decide +kernel
theorem f56_36 : zft 56 36 = some (.aload_n 3, 1) := by decide +kernel
theorem f56_37 : zft 56 37 = some (.getfield 127, 3) := by decide +kernel
theorem f56_40 : zft 56 40 = some (.iload_n 2, 1) := by decide +kernel
theorem f56_41 : zft 56 41 = some (.bipush 10, 2) := by decide +kernel
theorem f56_43 : zft 56 43 = some (.isub, 1) := by decide +kernel
theorem f56_44 : zft 56 44 = some (.iaload, 1) := by decide +kernel
theorem f56_45 : zft 56 45 = some (.ireturn, 1) := by decide +kernel
theorem f56_46 : zft 56 46 = some (.iload_n 2, 1) := by decide +kernel
theorem f56_47 : zft 56 47 = some (.bipush 20, 2) := by decide +kernel
theorem f56_49 : zft 56 49 = some (.bipush 20, 2) := by decide +kernel
theorem f56_51 : zft 56 51 = some (.aload_n 3, 1) := by decide +kernel
theorem f56_52 : zft 56 52 = some (.getfield 124, 3) := by decide +kernel
theorem f56_55 : zft 56 55 = some (.iadd, 1) := by decide +kernel
theorem f56_56 : zft 56 56 = some (.iconst 1, 1) := by decide +kernel
theorem f56_57 : zft 56 57 = some (.isub, 1) := by decide +kernel
theorem f56_58 : zft 56 58 = some (.invokestatic 50, 3) := by decide +kernel
theorem f56_61 : zft 56 61 = some (.ifCond .eq 20, 3) := by decide +kernel
theorem f56_64 : zft 56 64 = some (.aload_n 3, 1) := by decide +kernel
theorem f56_65 : zft 56 65 = some (.iload_n 2, 1) := by decide +kernel
theorem f56_66 : zft 56 66 = some (.bipush 20, 2) := by decide +kernel
theorem f56_68 : zft 56 68 = some (.isub, 1) := by decide +kernel
theorem f56_69 : zft 56 69 = some (.invokevirtual 158, 3) := by decide +kernel
theorem f56_72 : zft 56 72 = some (.ifCond .eq 7, 3) := by decide +kernel
theorem f56_75 : zft 56 75 = some (.iconst 1, 1) := by decide +kernel
theorem f56_76 : zft 56 76 = some (.goto 4, 3) := by decide +kernel
theorem f56_79 : zft 56 79 = some (.iconst 0, 1) := by decide +kernel
theorem f56_80 : zft 56 80 = some (.ireturn, 1) := by decide +kernel
theorem f56_81 : zft 56 81 = some (.iload_n 2, 1) := by decide +kernel
theorem f56_82 : zft 56 82 = some (.tableswitch 81 0 6 #[42, 47, 52, 57, 62, 71, 76], 42) := by decide +kernel
theorem f56_124 : zft 56 124 = some (.aload_n 3, 1) := by decide +kernel
theorem f56_125 : zft 56 125 = some (.getfield 161, 3) := by decide +kernel
theorem f56_128 : zft 56 128 = some (.ireturn, 1) := by decide +kernel
theorem f56_129 : zft 56 129 = some (.aload_n 3, 1) := by decide +kernel
theorem f56_130 : zft 56 130 = some (.getfield 121, 3) := by decide +kernel
theorem f56_133 : zft 56 133 = some (.ireturn, 1) := by decide +kernel
theorem f56_134 : zft 56 134 = some (.aload_n 3, 1) := by decide +kernel
theorem f56_135 : zft 56 135 = some (.getfield 124, 3) := by decide +kernel
theorem f56_138 : zft 56 138 = some (.ireturn, 1) := by decide +kernel
theorem f56_139 : zft 56 139 = some (.aload_n 3, 1) := by decide +kernel
theorem f56_140 : zft 56 140 = some (.getfield 104, 3) := by decide +kernel
theorem f56_143 : zft 56 143 = some (.ireturn, 1) := by decide +kernel
theorem f56_144 : zft 56 144 = some (.aload_n 0, 1) := by decide +kernel
theorem f56_145 : zft 56 145 = some (.getfield 10, 3) := by decide +kernel
theorem f56_148 : zft 56 148 = some (.aload_n 3, 1) := by decide +kernel
theorem f56_149 : zft 56 149 = some (.invokevirtual 164, 3) := by decide +kernel
theorem f56_152 : zft 56 152 = some (.ireturn, 1) := by decide +kernel
theorem f56_153 : zft 56 153 = some (.aload_n 3, 1) := by decide +kernel
theorem f56_154 : zft 56 154 = some (.getfield 167, 3) := by decide +kernel
theorem f56_157 : zft 56 157 = some (.ireturn, 1) := by decide +kernel
theorem f56_158 : zft 56 158 = some (.aload_n 3, 1) := by decide +kernel
theorem f56_159 : zft 56 159 = some (.invokevirtual 170, 3) := by decide +kernel
theorem f56_162 : zft 56 162 = some (.ireturn, 1) := by decide +kernel
theorem f56_163 : zft 56 163 = some (.bipush (-2), 2) := by decide +kernel
theorem f56_165 : zft 56 165 = some (.ireturn, 1) := by decide +kernel
theorem o56 : zo 56 = 6 := by decide +kernel
theorem p56 : zp 56 = 2 := by decide +kernel
theorem n56 : zn 56 = 4 := by decide +kernel
theorem v56 : zr 56 = (some .int) := by decide +kernel
theorem f57_0 : zft 57 0 = some (.aload_n 0, 1) := by decide +kernel
theorem f57_1 : zft 57 1 = some (.iload_n 1, 1) := by decide +kernel
theorem f57_2 : zft 57 2 = some (.invokevirtual 118, 3) := by decide +kernel
theorem f57_5 : zft 57 5 = some (.ifCond .eq 31, 3) := by decide +kernel
theorem f57_8 : zft 57 8 = some (.iload_n 2, 1) := by decide +kernel
theorem f57_9 : zft 57 9 = some (.iconst 0, 1) := by decide +kernel
theorem f57_10 : zft 57 10 = some (.aload_n 0, 1) := by decide +kernel
theorem f57_11 : zft 57 11 = some (.getfield 27, 3) := by decide +kernel
theorem f57_14 : zft 57 14 = some (.iload_n 1, 1) := by decide +kernel
theorem f57_15 : zft 57 15 = some (.aaload, 1) := by decide +kernel
theorem f57_16 : zft 57 16 = some (.getfield 124, 3) := by decide +kernel
theorem f57_19 : zft 57 19 = some (.iconst 1, 1) := by decide +kernel
theorem f57_20 : zft 57 20 = some (.isub, 1) := by decide +kernel
theorem f57_21 : zft 57 21 = some (.invokestatic 50, 3) := by decide +kernel
theorem f57_24 : zft 57 24 = some (.ifCond .eq 12, 3) := by decide +kernel
theorem f57_27 : zft 57 27 = some (.iload_n 3, 1) := by decide +kernel
theorem f57_28 : zft 57 28 = some (.iconst 0, 1) := by decide +kernel
theorem f57_29 : zft 57 29 = some (.iconst 2, 1) := by decide +kernel
theorem f57_30 : zft 57 30 = some (.invokestatic 50, 3) := by decide +kernel
theorem f57_33 : zft 57 33 = some (.ifCond .ne 6, 3) := by decide +kernel
theorem f57_36 : zft 57 36 = some (.bipush (-2), 2) := by decide +kernel
theorem f57_38 : zft 57 38 = some (.ireturn, 1) := by decide +kernel
theorem f57_39 : zft 57 39 = some (.aload_n 0, 1) := by decide +kernel
theorem f57_40 : zft 57 40 = some (.getfield 27, 3) := by decide +kernel
theorem f57_43 : zft 57 43 = some (.iload_n 1, 1) := by decide +kernel
theorem f57_44 : zft 57 44 = some (.aaload, 1) := by decide +kernel
theorem f57_45 : zft 57 45 = some (.getfield 174, 3) := by decide +kernel
theorem f57_48 : zft 57 48 = some (.iload_n 2, 1) := by decide +kernel
theorem f57_49 : zft 57 49 = some (.iconst 3, 1) := by decide +kernel
theorem f57_50 : zft 57 50 = some (.imul, 1) := by decide +kernel
theorem f57_51 : zft 57 51 = some (.iload_n 3, 1) := by decide +kernel
theorem f57_52 : zft 57 52 = some (.iadd, 1) := by decide +kernel
theorem f57_53 : zft 57 53 = some (.iaload, 1) := by decide +kernel
theorem f57_54 : zft 57 54 = some (.ireturn, 1) := by decide +kernel
theorem o57 : zo 57 = 6 := by decide +kernel
theorem p57 : zp 57 = 3 := by decide +kernel
theorem n57 : zn 57 = 4 := by decide +kernel
theorem v57 : zr 57 = (some .int) := by decide +kernel
theorem f58_0 : zft 58 0 = some (.aload_n 0, 1) := by decide +kernel
theorem f58_1 : zft 58 1 = some (.iload_n 1, 1) := by decide +kernel
theorem f58_2 : zft 58 2 = some (.invokevirtual 118, 3) := by decide +kernel
theorem f58_5 : zft 58 5 = some (.ifCond .eq 25, 3) := by decide +kernel
theorem f58_8 : zft 58 8 = some (.iload_n 2, 1) := by decide +kernel
theorem f58_9 : zft 58 9 = some (.iconst 0, 1) := by decide +kernel
theorem f58_10 : zft 58 10 = some (.sipush 999, 3) := by decide +kernel
theorem f58_13 : zft 58 13 = some (.invokestatic 50, 3) := by decide +kernel
theorem f58_16 : zft 58 16 = some (.ifCond .eq 14, 3) := by decide +kernel
theorem f58_19 : zft 58 19 = some (.iload_n 3, 1) := by decide +kernel
theorem f58_20 : zft 58 20 = some (.iload_n 2, 1) := by decide +kernel
theorem f58_21 : zft 58 21 = some (.sipush 999, 3) := by decide +kernel
theorem f58_24 : zft 58 24 = some (.invokestatic 50, 3) := by decide +kernel
theorem f58_27 : zft 58 27 = some (.ifCond .ne 6, 3) := by decide +kernel
theorem f58_30 : zft 58 30 = some (.bipush (-2), 2) := by decide +kernel
theorem f58_32 : zft 58 32 = some (.ireturn, 1) := by decide +kernel
theorem f58_33 : zft 58 33 = some (.aload_n 0, 1) := by decide +kernel
theorem f58_34 : zft 58 34 = some (.getfield 27, 3) := by decide +kernel
theorem f58_37 : zft 58 37 = some (.iload_n 1, 1) := by decide +kernel
theorem f58_38 : zft 58 38 = some (.aaload, 1) := by decide +kernel
theorem f58_39 : zft 58 39 = some (.getfield 104, 3) := by decide +kernel
theorem f58_42 : zft 58 42 = some (.ifCond .eq 6, 3) := by decide +kernel
theorem f58_45 : zft 58 45 = some (.bipush (-3), 2) := by decide +kernel
theorem f58_47 : zft 58 47 = some (.ireturn, 1) := by decide +kernel
theorem f58_48 : zft 58 48 = some (.aload_n 0, 1) := by decide +kernel
theorem f58_49 : zft 58 49 = some (.getfield 34, 3) := by decide +kernel
theorem f58_52 : zft 58 52 = some (.iload_n 1, 1) := by decide +kernel
theorem f58_53 : zft 58 53 = some (.iload_n 2, 1) := by decide +kernel
theorem f58_54 : zft 58 54 = some (.iload_n 3, 1) := by decide +kernel
theorem f58_55 : zft 58 55 = some (.invokevirtual 177, 3) := by decide +kernel
theorem f58_58 : zft 58 58 = some (.ireturn, 1) := by decide +kernel
theorem o58 : zo 58 = 6 := by decide +kernel
theorem p58 : zp 58 = 3 := by decide +kernel
theorem n58 : zn 58 = 4 := by decide +kernel
theorem v58 : zr 58 = (some .int) := by decide +kernel
