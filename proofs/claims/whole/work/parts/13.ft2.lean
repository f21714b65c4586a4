theorem f59_0 : zft 59 0 = some (.iload_n 1, 1) := by decide +kernel
theorem f59_1 : zft 59 1 = some (.iconst 0, 1) := by decide +kernel
theorem f59_2 : zft 59 2 = some (.sipush 999, 3) := by decide +kernel
theorem f59_5 : zft 59 5 = some (.invokestatic 50, 3) := by decide +kernel
theorem f59_8 : zft 59 8 = some (.ifCond .ne 6, 3) := by decide +kernel
theorem f59_11 : zft 59 11 = some (.bipush (-2), 2) := by decide +kernel
theorem f59_13 : zft 59 13 = some (.ireturn, 1) := by decide +kernel
theorem f59_14 : zft 59 14 = some (.iconst 0, 1) := by decide +kernel
theorem f59_15 : zft 59 15 = some (.istore_n 2, 1) := by decide +kernel
theorem f59_16 : zft 59 16 = some (.iconst 0, 1) := by decide +kernel
theorem f59_17 : zft 59 17 = some (.istore_n 3, 1) := by decide +kernel
theorem f59_18 : zft 59 18 = some (.iload_n 3, 1) := by decide +kernel
theorem f59_19 : zft 59 19 = some (.bipush 40, 2) := by decide +kernel
theorem f59_21 : zft 59 21 = some (.if_icmp .ge 64, 3) := by decide +kernel
theorem f59_24 : zft 59 24 = some (.aload_n 0, 1) := by decide +kernel
theorem f59_25 : zft 59 25 = some (.getfield 34, 3) := by decide +kernel
theorem f59_28 : zft 59 28 = some (.iload_n 1, 1) := by decide +kernel
theorem f59_29 : zft 59 29 = some (.invokevirtual 180, 3) := by decide +kernel
theorem f59_32 : zft 59 32 = some (.istore 4, 2) := by decide +kernel
theorem f59_34 : zft 59 34 = some (.iload 4, 2) := by decide +kernel
theorem f59_36 : zft 59 36 = some (.iconst (-1), 1) := by decide +kernel
theorem f59_37 : zft 59 37 = some (.if_icmp .ne 6, 3) := by decide +kernel
theorem f59_40 : zft 59 40 = some (.goto 45, 3) := by decide +kernel
theorem f59_43 : zft 59 43 = some (.aload_n 0, 1) := by decide +kernel
theorem f59_44 : zft 59 44 = some (.getfield 34, 3) := by decide +kernel
theorem f59_47 : zft 59 47 = some (.getfield 183, 3) := by decide +kernel
theorem f59_50 : zft 59 50 = some (.iload 4, 2) := by decide +kernel
theorem f59_52 : zft 59 52 = some (.iconst 1, 1) := by decide +kernel
theorem f59_53 : zft 59 53 = some (.bastore, 1) := by decide +kernel
theorem f59_54 : zft 59 54 = some (.aload_n 0, 1) := by decide +kernel
theorem f59_55 : zft 59 55 = some (.aload_n 0, 1) := by decide +kernel
theorem f59_56 : zft 59 56 = some (.getfield 27, 3) := by decide +kernel
theorem f59_59 : zft 59 59 = some (.aload_n 0, 1) := by decide +kernel
theorem f59_60 : zft 59 60 = some (.getfield 34, 3) := by decide +kernel
theorem f59_63 : zft 59 63 = some (.getfield 186, 3) := by decide +kernel
theorem f59_66 : zft 59 66 = some (.iload 4, 2) := by decide +kernel
theorem f59_68 : zft 59 68 = some (.iaload, 1) := by decide +kernel
theorem f59_69 : zft 59 69 = some (.aaload, 1) := by decide +kernel
theorem f59_70 : zft 59 70 = some (.invokevirtual 189, 3) := by decide +kernel
theorem f59_73 : zft 59 73 = some (.ifCond .eq 6, 3) := by decide +kernel
theorem f59_76 : zft 59 76 = some (.iinc 2 1, 3) := by decide +kernel
theorem f59_79 : zft 59 79 = some (.iinc 3 1, 3) := by decide +kernel
theorem f59_82 : zft 59 82 = some (.goto (-64), 3) := by decide +kernel
theorem f59_85 : zft 59 85 = some (.iload_n 2, 1) := by decide +kernel
theorem f59_86 : zft 59 86 = some (.ireturn, 1) := by decide +kernel
theorem o59 : zo 59 = 6 := by decide +kernel
theorem p59 : zp 59 = 1 := by decide +kernel
theorem n59 : zn 59 = 5 := by decide +kernel
theorem v59 : zr 59 = (some .int) := by decide +kernel
theorem f60_0 : zft 60 0 = some (.aload_n 0, 1) := by decide +kernel
theorem f60_1 : zft 60 1 = some (.iload_n 1, 1) := by decide +kernel
theorem f60_2 : zft 60 2 = some (.invokevirtual 118, 3) := by decide +kernel
theorem f60_5 : zft 60 5 = some (.ifCond .ne 6, 3) := by decide +kernel
theorem f60_8 : zft 60 8 = some (.bipush (-2), 2) := by decide +kernel
theorem f60_10 : zft 60 10 = some (.ireturn, 1) := by decide +kernel
theorem f60_11 : zft 60 11 = some (.aload_n 0, 1) := by decide +kernel
theorem f60_12 : zft 60 12 = some (.getfield 27, 3) := by decide +kernel
theorem f60_15 : zft 60 15 = some (.iload_n 1, 1) := by decide +kernel
theorem f60_16 : zft 60 16 = some (.aaload, 1) := by decide +kernel
theorem f60_17 : zft 60 17 = some (.astore_n 2, 1) := by decide +kernel
theorem f60_18 : zft 60 18 = some (.aload_n 2, 1) := by decide +kernel
theorem f60_19 : zft 60 19 = some (.aload_n 0, 1) := by decide +kernel
theorem f60_20 : zft 60 20 = some (.getfield 94, 3) := by decide +kernel
theorem f60_23 : zft 60 23 = some (.invokevirtual 192, 3) := by decide +kernel
theorem f60_26 : zft 60 26 = some (.ifCond .eq 20, 3) := by decide +kernel
theorem f60_29 : zft 60 29 = some (.aload_n 2, 1) := by decide +kernel
theorem f60_30 : zft 60 30 = some (.getfield 195, 3) := by decide +kernel
theorem f60_33 : zft 60 33 = some (.aload_n 0, 1) := by decide +kernel
theorem f60_34 : zft 60 34 = some (.getfield 94, 3) := by decide +kernel
theorem f60_37 : zft 60 37 = some (.aload_n 2, 1) := by decide +kernel
theorem f60_38 : zft 60 38 = some (.getfield 121, 3) := by decide +kernel
theorem f60_41 : zft 60 41 = some (.isub, 1) := by decide +kernel
theorem f60_42 : zft 60 42 = some (.baload, 1) := by decide +kernel
theorem f60_43 : zft 60 43 = some (.ifCond .eq 6, 3) := by decide +kernel
theorem f60_46 : zft 60 46 = some (.bipush (-3), 2) := by decide +kernel
theorem f60_48 : zft 60 48 = some (.ireturn, 1) := by decide +kernel
theorem f60_49 : zft 60 49 = some (.aload_n 2, 1) := by decide +kernel
theorem f60_50 : zft 60 50 = some (.getfield 195, 3) := by decide +kernel
theorem f60_53 : zft 60 53 = some (.aload_n 0, 1) := by decide +kernel
theorem f60_54 : zft 60 54 = some (.getfield 94, 3) := by decide +kernel
theorem f60_57 : zft 60 57 = some (.aload_n 2, 1) := by decide +kernel
theorem f60_58 : zft 60 58 = some (.getfield 121, 3) := by decide +kernel
theorem f60_61 : zft 60 61 = some (.isub, 1) := by decide +kernel
theorem f60_62 : zft 60 62 = some (.iconst 1, 1) := by decide +kernel
theorem f60_63 : zft 60 63 = some (.bastore, 1) := by decide +kernel
theorem f60_64 : zft 60 64 = some (.iconst 1, 1) := by decide +kernel
theorem f60_65 : zft 60 65 = some (.ireturn, 1) := by decide +kernel
theorem o60 : zo 60 = 6 := by decide +kernel
theorem p60 : zp 60 = 1 := by decide +kernel
theorem n60 : zn 60 = 3 := by decide +kernel
theorem v60 : zr 60 = (some .int) := by decide +kernel
theorem f61_0 : zft 61 0 = some (.aload_n 0, 1) := by decide +kernel
theorem f61_1 : zft 61 1 = some (.getfield 10, 3) := by decide +kernel
theorem f61_4 : zft 61 4 = some (.iload_n 1, 1) := by decide +kernel
theorem f61_5 : zft 61 5 = some (.invokevirtual 58, 3) := by decide +kernel
theorem f61_8 : zft 61 8 = some (.ifCond .eq 23, 3) := by decide +kernel
theorem f61_11 : zft 61 11 = some (.iload_n 2, 1) := by decide +kernel
theorem f61_12 : zft 61 12 = some (.iconst 1, 1) := by decide +kernel
theorem f61_13 : zft 61 13 = some (.bipush 9, 2) := by decide +kernel
theorem f61_15 : zft 61 15 = some (.invokestatic 50, 3) := by decide +kernel
theorem f61_18 : zft 61 18 = some (.ifCond .eq 13, 3) := by decide +kernel
theorem f61_21 : zft 61 21 = some (.iload_n 3, 1) := by decide +kernel
theorem f61_22 : zft 61 22 = some (.iconst 0, 1) := by decide +kernel
theorem f61_23 : zft 61 23 = some (.bipush 23, 2) := by decide +kernel
theorem f61_25 : zft 61 25 = some (.invokestatic 50, 3) := by decide +kernel
theorem f61_28 : zft 61 28 = some (.ifCond .ne 6, 3) := by decide +kernel
theorem f61_31 : zft 61 31 = some (.bipush (-2), 2) := by decide +kernel
theorem f61_33 : zft 61 33 = some (.ireturn, 1) := by decide +kernel
theorem f61_34 : zft 61 34 = some (.aload_n 0, 1) := by decide +kernel
theorem f61_35 : zft 61 35 = some (.getfield 10, 3) := by decide +kernel
theorem f61_38 : zft 61 38 = some (.getfield 70, 3) := by decide +kernel
theorem f61_41 : zft 61 41 = some (.iload_n 1, 1) := by decide +kernel
theorem f61_42 : zft 61 42 = some (.aaload, 1) := by decide +kernel
theorem f61_43 : zft 61 43 = some (.astore 4, 2) := by decide +kernel
theorem f61_45 : zft 61 45 = some (.aload 4, 2) := by decide +kernel
theorem f61_47 : zft 61 47 = some (.getfield 90, 3) := by decide +kernel
theorem f61_50 : zft 61 50 = some (.aload_n 0, 1) := by decide +kernel
theorem f61_51 : zft 61 51 = some (.getfield 94, 3) := by decide +kernel
theorem f61_54 : zft 61 54 = some (.baload, 1) := by decide +kernel
theorem f61_55 : zft 61 55 = some (.ifCond .eq 6, 3) := by decide +kernel
theorem f61_58 : zft 61 58 = some (.bipush (-3), 2) := by decide +kernel
theorem f61_60 : zft 61 60 = some (.ireturn, 1) := by decide +kernel
theorem f61_61 : zft 61 61 = some (.iconst 0, 1) := by decide +kernel
theorem f61_62 : zft 61 62 = some (.istore 5, 2) := by decide +kernel
theorem f61_64 : zft 61 64 = some (.aload 4, 2) := by decide +kernel
theorem f61_66 : zft 61 66 = some (.aload_n 0, 1) := by decide +kernel
theorem f61_67 : zft 61 67 = some (.getfield 94, 3) := by decide +kernel
theorem f61_70 : zft 61 70 = some (.invokevirtual 83, 3) := by decide +kernel
theorem f61_73 : zft 61 73 = some (.iload_n 2, 1) := by decide +kernel
theorem f61_74 : zft 61 74 = some (.if_icmp .ge 41, 3) := by decide +kernel
theorem f61_77 : zft 61 77 = some (.iload_n 3, 1) := by decide +kernel
theorem f61_78 : zft 61 78 = some (.aload 4, 2) := by decide +kernel
theorem f61_80 : zft 61 80 = some (.getfield 198, 3) := by decide +kernel
theorem f61_83 : zft 61 83 = some (.if_icmp .lt 22, 3) := by decide +kernel
theorem f61_86 : zft 61 86 = some (.aload 4, 2) := by decide +kernel
theorem f61_88 : zft 61 88 = some (.aload_n 0, 1) := by decide +kernel
theorem f61_89 : zft 61 89 = some (.getfield 94, 3) := by decide +kernel
theorem f61_92 : zft 61 92 = some (.invokevirtual 83, 3) := by decide +kernel
theorem f61_95 : zft 61 95 = some (.aload_n 0, 1) := by decide +kernel
theorem f61_96 : zft 61 96 = some (.iload_n 1, 1) := by decide +kernel
theorem f61_97 : zft 61 97 = some (.invokevirtual 201, 3) := by decide +kernel
theorem f61_100 : zft 61 100 = some (.iadd, 1) := by decide +kernel
theorem f61_101 : zft 61 101 = some (.iload_n 2, 1) := by decide +kernel
theorem f61_102 : zft 61 102 = some (.if_icmp .ge 5, 3) := by decide +kernel
theorem f61_105 : zft 61 105 = some (.iconst (-1), 1) := by decide +kernel
theorem f61_106 : zft 61 106 = some (.ireturn, 1) := by decide +kernel
theorem f61_107 : zft 61 107 = some (.aload_n 0, 1) := by decide +kernel
theorem f61_108 : zft 61 108 = some (.iload_n 1, 1) := by decide +kernel
theorem f61_109 : zft 61 109 = some (.iload_n 2, 1) := by decide +kernel
theorem f61_110 : zft 61 110 = some (.invokevirtual 204, 3) := by decide +kernel
theorem f61_113 : zft 61 113 = some (.istore 5, 2) := by decide +kernel
theorem f61_115 : zft 61 115 = some (.aload 4, 2) := by decide +kernel
theorem f61_117 : zft 61 117 = some (.aload_n 0, 1) := by decide +kernel
theorem f61_118 : zft 61 118 = some (.getfield 94, 3) := by decide +kernel
theorem f61_121 : zft 61 121 = some (.iload_n 2, 1) := by decide +kernel
theorem f61_122 : zft 61 122 = some (.aload_n 0, 1) := by decide +kernel
theorem f61_123 : zft 61 123 = some (.getfield 45, 3) := by decide +kernel
theorem f61_126 : zft 61 126 = some (.iconst 0, 1) := by decide +kernel
theorem f61_127 : zft 61 127 = some (.invokevirtual 208, 3) := by decide +kernel
theorem f61_130 : zft 61 130 = some (.aload 4, 2) := by decide +kernel
theorem f61_132 : zft 61 132 = some (.dup, 1) := by decide +kernel
theorem f61_133 : zft 61 133 = some (.getfield 212, 3) := by decide +kernel
theorem f61_136 : zft 61 136 = some (.iload_n 2, 1) := by decide +kernel
theorem f61_137 : zft 61 137 = some (.iadd, 1) := by decide +kernel
theorem f61_138 : zft 61 138 = some (.putfield 212, 3) := by decide +kernel
theorem f61_141 : zft 61 141 = some (.aload_n 0, 1) := by decide +kernel
theorem f61_142 : zft 61 142 = some (.dup, 1) := by decide +kernel
theorem f61_143 : zft 61 143 = some (.getfield 215, 3) := by decide +kernel
theorem f61_146 : zft 61 146 = some (.iload_n 2, 1) := by decide +kernel
theorem f61_147 : zft 61 147 = some (.iadd, 1) := by decide +kernel
theorem f61_148 : zft 61 148 = some (.putfield 215, 3) := by decide +kernel
theorem f61_151 : zft 61 151 = some (.iload 5, 2) := by decide +kernel
theorem f61_153 : zft 61 153 = some (.ireturn, 1) := by decide +kernel
theorem o61 : zo 61 = 6 := by decide +kernel
theorem p61 : zp 61 = 3 := by decide +kernel
theorem n61 : zn 61 = 6 := by decide +kernel
theorem v61 : zr 61 = (some .int) := by decide +kernel
theorem f62_0 : zft 62 0 = some (.aload_n 0, 1) := by decide +kernel
theorem f62_1 : zft 62 1 = some (.getfield 94, 3) := by decide +kernel
theorem f62_4 : zft 62 4 = some (.bipush 39, 2) := by decide +kernel
theorem f62_6 : zft 62 6 = some (.if_icmp .lt 6, 3) := by decide +kernel
theorem f62_9 : zft 62 9 = some (.bipush (-4), 2) := by decide +kernel
theorem f62_11 : zft 62 11 = some (.ireturn, 1) := by decide +kernel
theorem f62_12 : zft 62 12 = some (.aload_n 0, 1) := by decide +kernel
theorem f62_13 : zft 62 13 = some (.invokevirtual 218, 3) := by decide +kernel
theorem f62_16 : zft 62 16 = some (.istore_n 1, 1) := by decide +kernel
theorem f62_17 : zft 62 17 = some (.iconst 0, 1) := by decide +kernel
theorem f62_18 : zft 62 18 = some (.istore_n 2, 1) := by decide +kernel
theorem f62_19 : zft 62 19 = some (.iload_n 2, 1) := by decide +kernel
theorem f62_20 : zft 62 20 = some (.aload_n 0, 1) := by decide +kernel
theorem f62_21 : zft 62 21 = some (.getfield 10, 3) := by decide +kernel
theorem f62_24 : zft 62 24 = some (.getfield 221, 3) := by decide +kernel
theorem f62_27 : zft 62 27 = some (.if_icmp .ge 26, 3) := by decide +kernel
theorem f62_30 : zft 62 30 = some (.aload_n 0, 1) := by decide +kernel
theorem f62_31 : zft 62 31 = some (.iload_n 2, 1) := by decide +kernel
theorem f62_32 : zft 62 32 = some (.invokevirtual 224, 3) := by decide +kernel
theorem f62_35 : zft 62 35 = some (.aload_n 0, 1) := by decide +kernel
theorem f62_36 : zft 62 36 = some (.getfield 10, 3) := by decide +kernel
theorem f62_39 : zft 62 39 = some (.getfield 70, 3) := by decide +kernel
theorem f62_42 : zft 62 42 = some (.iload_n 2, 1) := by decide +kernel
theorem f62_43 : zft 62 43 = some (.aaload, 1) := by decide +kernel
theorem f62_44 : zft 62 44 = some (.invokevirtual 228, 3) := by decide +kernel
theorem f62_47 : zft 62 47 = some (.iinc 2 1, 3) := by decide +kernel
theorem f62_50 : zft 62 50 = some (.goto (-31), 3) := by decide +kernel
theorem f62_53 : zft 62 53 = some (.aload_n 0, 1) := by decide +kernel
theorem f62_54 : zft 62 54 = some (.invokevirtual 231, 3) := by decide +kernel
theorem f62_57 : zft 62 57 = some (.aload_n 0, 1) := by decide +kernel
theorem f62_58 : zft 62 58 = some (.dup, 1) := by decide +kernel
theorem f62_59 : zft 62 59 = some (.getfield 94, 3) := by decide +kernel
theorem f62_62 : zft 62 62 = some (.iconst 1, 1) := by decide +kernel
theorem f62_63 : zft 62 63 = some (.iadd, 1) := by decide +kernel
theorem f62_64 : zft 62 64 = some (.putfield 94, 3) := by decide +kernel
theorem f62_67 : zft 62 67 = some (.iload_n 1, 1) := by decide +kernel
theorem f62_68 : zft 62 68 = some (.ireturn, 1) := by decide +kernel
theorem o62 : zo 62 = 6 := by decide +kernel
theorem p62 : zp 62 = 0 := by decide +kernel
theorem n62 : zn 62 = 3 := by decide +kernel
theorem v62 : zr 62 = (some .int) := by decide +kernel
theorem f63_0 : zft 63 0 = some (.aload_n 0, 1) := by decide +kernel
theorem f63_1 : zft 63 1 = some (.getfield 10, 3) := by decide +kernel
theorem f63_4 : zft 63 4 = some (.iload_n 1, 1) := by decide +kernel
theorem f63_5 : zft 63 5 = some (.invokevirtual 58, 3) := by decide +kernel
theorem f63_8 : zft 63 8 = some (.ifCond .eq 16, 3) := by decide +kernel
theorem f63_11 : zft 63 11 = some (.iload_n 2, 1) := by decide +kernel
theorem f63_12 : zft 63 12 = some (.aload_n 0, 1) := by decide +kernel
theorem f63_13 : zft 63 13 = some (.getfield 94, 3) := by decide +kernel
theorem f63_16 : zft 63 16 = some (.bipush 39, 2) := by decide +kernel
theorem f63_18 : zft 63 18 = some (.invokestatic 50, 3) := by decide +kernel
theorem f63_21 : zft 63 21 = some (.ifCond .ne 6, 3) := by decide +kernel
theorem f63_24 : zft 63 24 = some (.bipush (-2), 2) := by decide +kernel
theorem f63_26 : zft 63 26 = some (.ireturn, 1) := by decide +kernel
theorem f63_27 : zft 63 27 = some (.iconst 0, 1) := by decide +kernel
theorem f63_28 : zft 63 28 = some (.istore_n 3, 1) := by decide +kernel
theorem f63_29 : zft 63 29 = some (.iconst 0, 1) := by decide +kernel
theorem f63_30 : zft 63 30 = some (.istore 4, 2) := by decide +kernel
theorem f63_32 : zft 63 32 = some (.iload 4, 2) := by decide +kernel
theorem f63_34 : zft 63 34 = some (.aload_n 0, 1) := by decide +kernel
theorem f63_35 : zft 63 35 = some (.getfield 101, 3) := by decide +kernel
theorem f63_38 : zft 63 38 = some (.if_icmp .ge 37, 3) := by decide +kernel
theorem f63_41 : zft 63 41 = some (.aload_n 0, 1) := by decide +kernel
theorem f63_42 : zft 63 42 = some (.getfield 27, 3) := by decide +kernel
theorem f63_45 : zft 63 45 = some (.iload 4, 2) := by decide +kernel
theorem f63_47 : zft 63 47 = some (.aaload, 1) := by decide +kernel
theorem f63_48 : zft 63 48 = some (.iload_n 1, 1) := by decide +kernel
theorem f63_49 : zft 63 49 = some (.iload_n 2, 1) := by decide +kernel
theorem f63_50 : zft 63 50 = some (.invokevirtual 234, 3) := by decide +kernel
theorem f63_53 : zft 63 53 = some (.ifCond .eq 16, 3) := by decide +kernel
theorem f63_56 : zft 63 56 = some (.iload_n 3, 1) := by decide +kernel
theorem f63_57 : zft 63 57 = some (.aload_n 0, 1) := by decide +kernel
theorem f63_58 : zft 63 58 = some (.getfield 27, 3) := by decide +kernel
theorem f63_61 : zft 63 61 = some (.iload 4, 2) := by decide +kernel
theorem f63_63 : zft 63 63 = some (.aaload, 1) := by decide +kernel
theorem f63_64 : zft 63 64 = some (.getfield 161, 3) := by decide +kernel
theorem f63_67 : zft 63 67 = some (.iadd, 1) := by decide +kernel
theorem f63_68 : zft 63 68 = some (.istore_n 3, 1) := by decide +kernel
theorem f63_69 : zft 63 69 = some (.iinc 4 1, 3) := by decide +kernel
theorem f63_72 : zft 63 72 = some (.goto (-40), 3) := by decide +kernel
theorem f63_75 : zft 63 75 = some (.aload_n 0, 1) := by decide +kernel
theorem f63_76 : zft 63 76 = some (.getfield 94, 3) := by decide +kernel
theorem f63_79 : zft 63 79 = some (.ifCond .le 23, 3) := by decide +kernel
theorem f63_82 : zft 63 82 = some (.aload_n 0, 1) := by decide +kernel
theorem f63_83 : zft 63 83 = some (.getfield 10, 3) := by decide +kernel
theorem f63_86 : zft 63 86 = some (.getfield 70, 3) := by decide +kernel
theorem f63_89 : zft 63 89 = some (.iload_n 1, 1) := by decide +kernel
theorem f63_90 : zft 63 90 = some (.aaload, 1) := by decide +kernel
theorem f63_91 : zft 63 91 = some (.getfield 237, 3) := by decide +kernel
theorem f63_94 : zft 63 94 = some (.aload_n 0, 1) := by decide +kernel
theorem f63_95 : zft 63 95 = some (.getfield 94, 3) := by decide +kernel
theorem f63_98 : zft 63 98 = some (.idiv, 1) := by decide +kernel
theorem f63_99 : zft 63 99 = some (.goto 4, 3) := by decide +kernel
theorem f63_102 : zft 63 102 = some (.iconst 0, 1) := by decide +kernel
theorem f63_103 : zft 63 103 = some (.istore 4, 2) := by decide +kernel
theorem f63_105 : zft 63 105 = some (.iload_n 3, 1) := by decide +kernel
theorem f63_106 : zft 63 106 = some (.iload 4, 2) := by decide +kernel
theorem f63_108 : zft 63 108 = some (.iadd, 1) := by decide +kernel
theorem f63_109 : zft 63 109 = some (.ireturn, 1) := by decide +kernel
theorem o63 : zo 63 = 6 := by decide +kernel
theorem p63 : zp 63 = 2 := by decide +kernel
theorem n63 : zn 63 = 5 := by decide +kernel
theorem v63 : zr 63 = (some .int) := by decide +kernel
theorem f64_0 : zft 64 0 = some (.iload_n 1, 1) := by decide +kernel
theorem f64_1 : zft 64 1 = some (.invokestatic 80, 3) := by decide +kernel
theorem f64_4 : zft 64 4 = some (.ifCond .eq 13, 3) := by decide +kernel
theorem f64_7 : zft 64 7 = some (.iload_n 2, 1) := by decide +kernel
theorem f64_8 : zft 64 8 = some (.iconst 0, 1) := by decide +kernel
theorem f64_9 : zft 64 9 = some (.bipush 100, 2) := by decide +kernel
theorem f64_11 : zft 64 11 = some (.invokestatic 50, 3) := by decide +kernel
theorem f64_14 : zft 64 14 = some (.ifCond .ne 6, 3) := by decide +kernel
theorem f64_17 : zft 64 17 = some (.bipush (-2), 2) := by decide +kernel
theorem f64_19 : zft 64 19 = some (.ireturn, 1) := by decide +kernel
theorem f64_20 : zft 64 20 = some (.aload_n 0, 1) := by decide +kernel
theorem f64_21 : zft 64 21 = some (.getfield 41, 3) := by decide +kernel
theorem f64_24 : zft 64 24 = some (.iload_n 1, 1) := by decide +kernel
theorem f64_25 : zft 64 25 = some (.iload_n 2, 1) := by decide +kernel
theorem f64_26 : zft 64 26 = some (.invokevirtual 240, 3) := by decide +kernel
theorem f64_29 : zft 64 29 = some (.ireturn, 1) := by decide +kernel
theorem o64 : zo 64 = 6 := by decide +kernel
theorem p64 : zp 64 = 2 := by decide +kernel
theorem n64 : zn 64 = 3 := by decide +kernel
theorem v64 : zr 64 = (some .int) := by decide +kernel
theorem f65_0 : zft 65 0 = some (.iload_n 1, 1) := by decide +kernel
theorem f65_1 : zft 65 1 = some (.tableswitch 120 0 9 #[55, 63, 71, 76, 81, 89, 95, 101, 107, 115], 55) := by decide +kernel
theorem f65_56 : zft 65 56 = some (.aload_n 0, 1) := by decide +kernel
theorem f65_57 : zft 65 57 = some (.getfield 10, 3) := by decide +kernel
theorem f65_60 : zft 65 60 = some (.getfield 221, 3) := by decide +kernel
theorem f65_63 : zft 65 63 = some (.ireturn, 1) := by decide +kernel
theorem f65_64 : zft 65 64 = some (.aload_n 0, 1) := by decide +kernel
theorem f65_65 : zft 65 65 = some (.getfield 10, 3) := by decide +kernel
theorem f65_68 : zft 65 68 = some (.getfield 243, 3) := by decide +kernel
theorem f65_71 : zft 65 71 = some (.ireturn, 1) := by decide +kernel
theorem f65_72 : zft 65 72 = some (.aload_n 0, 1) := by decide +kernel
theorem f65_73 : zft 65 73 = some (.getfield 101, 3) := by decide +kernel
theorem f65_76 : zft 65 76 = some (.ireturn, 1) := by decide +kernel
theorem f65_77 : zft 65 77 = some (.aload_n 0, 1) := by decide +kernel
theorem f65_78 : zft 65 78 = some (.getfield 94, 3) := by decide +kernel
theorem f65_81 : zft 65 81 = some (.ireturn, 1) := by decide +kernel
theorem f65_82 : zft 65 82 = some (.aload_n 0, 1) := by decide +kernel
theorem f65_83 : zft 65 83 = some (.getfield 34, 3) := by decide +kernel
theorem f65_86 : zft 65 86 = some (.invokevirtual 246, 3) := by decide +kernel
theorem f65_89 : zft 65 89 = some (.ireturn, 1) := by decide +kernel
theorem f65_90 : zft 65 90 = some (.aload_n 0, 1) := by decide +kernel
theorem f65_91 : zft 65 91 = some (.iconst 1, 1) := by decide +kernel
theorem f65_92 : zft 65 92 = some (.invokevirtual 249, 3) := by decide +kernel
theorem f65_95 : zft 65 95 = some (.ireturn, 1) := by decide +kernel
theorem f65_96 : zft 65 96 = some (.aload_n 0, 1) := by decide +kernel
theorem f65_97 : zft 65 97 = some (.iconst 2, 1) := by decide +kernel
theorem f65_98 : zft 65 98 = some (.invokevirtual 249, 3) := by decide +kernel
theorem f65_101 : zft 65 101 = some (.ireturn, 1) := by decide +kernel
theorem f65_102 : zft 65 102 = some (.aload_n 0, 1) := by decide +kernel
theorem f65_103 : zft 65 103 = some (.iconst 3, 1) := by decide +kernel
theorem f65_104 : zft 65 104 = some (.invokevirtual 249, 3) := by decide +kernel
theorem f65_107 : zft 65 107 = some (.ireturn, 1) := by decide +kernel
theorem f65_108 : zft 65 108 = some (.aload_n 0, 1) := by decide +kernel
theorem f65_109 : zft 65 109 = some (.getfield 41, 3) := by decide +kernel
theorem f65_112 : zft 65 112 = some (.getfield 252, 3) := by decide +kernel
theorem f65_115 : zft 65 115 = some (.ireturn, 1) := by decide +kernel
theorem f65_116 : zft 65 116 = some (.aload_n 0, 1) := by decide +kernel
theorem f65_117 : zft 65 117 = some (.getfield 215, 3) := by decide +kernel
theorem f65_120 : zft 65 120 = some (.ireturn, 1) := by decide +kernel
theorem f65_121 : zft 65 121 = some (.bipush (-2), 2) := by decide +kernel
theorem f65_123 : zft 65 123 = some (.ireturn, 1) := by decide +kernel
theorem o65 : zo 65 = 6 := by decide +kernel
theorem p65 : zp 65 = 1 := by decide +kernel
theorem n65 : zn 65 = 2 := by decide +kernel
theorem v65 : zr 65 = (some .int) := by decide +kernel
theorem f66_0 : zft 66 0 = some (.ldc2_w 255, 3) := by decide +kernel
theorem f66_3 : zft 66 3 = some (.lstore_n 1, 1) := by decide +kernel
theorem f66_4 : zft 66 4 = some (.iconst 0, 1) := by decide +kernel
theorem f66_5 : zft 66 5 = some (.istore_n 3, 1) := by decide +kernel
theorem f66_6 : zft 66 6 = some (.iload_n 3, 1) := by decide +kernel
theorem f66_7 : zft 66 7 = some (.bipush 10, 2) := by decide +kernel
theorem f66_9 : zft 66 9 = some (.if_icmp .ge 22, 3) := by decide +kernel
theorem f66_12 : zft 66 12 = some (.ldc2_w 257, 3) := by decide +kernel
theorem f66_15 : zft 66 15 = some (.lload_n 1, 1) := by decide +kernel
theorem f66_16 : zft 66 16 = some (.lmul, 1) := by decide +kernel
theorem f66_17 : zft 66 17 = some (.aload_n 0, 1) := by decide +kernel
theorem f66_18 : zft 66 18 = some (.iload_n 3, 1) := by decide +kernel
theorem f66_19 : zft 66 19 = some (.invokevirtual 259, 3) := by decide +kernel
theorem f66_22 : zft 66 22 = some (.i2l, 1) := by decide +kernel
theorem f66_23 : zft 66 23 = some (.ladd, 1) := by decide +kernel
theorem f66_24 : zft 66 24 = some (.lstore_n 1, 1) := by decide +kernel
theorem f66_25 : zft 66 25 = some (.iinc 3 1, 3) := by decide +kernel
theorem f66_28 : zft 66 28 = some (.goto (-22), 3) := by decide +kernel
theorem f66_31 : zft 66 31 = some (.iconst 0, 1) := by decide +kernel
theorem f66_32 : zft 66 32 = some (.istore_n 3, 1) := by decide +kernel
theorem f66_33 : zft 66 33 = some (.iload_n 3, 1) := by decide +kernel
theorem f66_34 : zft 66 34 = some (.aload_n 0, 1) := by decide +kernel
theorem f66_35 : zft 66 35 = some (.getfield 101, 3) := by decide +kernel
theorem f66_38 : zft 66 38 = some (.if_icmp .ge 83, 3) := by decide +kernel
theorem f66_41 : zft 66 41 = some (.iconst 3, 1) := by decide +kernel
theorem f66_42 : zft 66 42 = some (.istore 4, 2) := by decide +kernel
theorem f66_44 : zft 66 44 = some (.iload 4, 2) := by decide +kernel
theorem f66_46 : zft 66 46 = some (.bipush 6, 2) := by decide +kernel
theorem f66_48 : zft 66 48 = some (.if_icmp .gt 24, 3) := by decide +kernel
theorem f66_51 : zft 66 51 = some (.ldc2_w 257, 3) := by decide +kernel
theorem f66_54 : zft 66 54 = some (.lload_n 1, 1) := by decide +kernel
theorem f66_55 : zft 66 55 = some (.lmul, 1) := by decide +kernel
theorem f66_56 : zft 66 56 = some (.aload_n 0, 1) := by decide +kernel
theorem f66_57 : zft 66 57 = some (.iload_n 3, 1) := by decide +kernel
theorem f66_58 : zft 66 58 = some (.iload 4, 2) := by decide +kernel
theorem f66_60 : zft 66 60 = some (.invokevirtual 262, 3) := by decide +kernel
theorem f66_63 : zft 66 63 = some (.i2l, 1) := by decide +kernel
theorem f66_64 : zft 66 64 = some (.ladd, 1) := by decide +kernel
theorem f66_65 : zft 66 65 = some (.lstore_n 1, 1) := by decide +kernel
theorem f66_66 : zft 66 66 = some (.iinc 4 1, 3) := by decide +kernel
theorem f66_69 : zft 66 69 = some (.goto (-25), 3) := by decide +kernel
theorem f66_72 : zft 66 72 = some (.iconst 0, 1) := by decide +kernel
theorem f66_73 : zft 66 73 = some (.istore 4, 2) := by decide +kernel
theorem f66_75 : zft 66 75 = some (.iload 4, 2) := by decide +kernel
theorem f66_77 : zft 66 77 = some (.aload_n 0, 1) := by decide +kernel
theorem f66_78 : zft 66 78 = some (.getfield 27, 3) := by decide +kernel
theorem f66_81 : zft 66 81 = some (.iload_n 3, 1) := by decide +kernel
theorem f66_82 : zft 66 82 = some (.aaload, 1) := by decide +kernel
theorem f66_83 : zft 66 83 = some (.getfield 124, 3) := by decide +kernel
theorem f66_86 : zft 66 86 = some (.if_icmp .ge 29, 3) := by decide +kernel
theorem f66_89 : zft 66 89 = some (.ldc2_w 257, 3) := by decide +kernel
theorem f66_92 : zft 66 92 = some (.lload_n 1, 1) := by decide +kernel
theorem f66_93 : zft 66 93 = some (.lmul, 1) := by decide +kernel
theorem f66_94 : zft 66 94 = some (.aload_n 0, 1) := by decide +kernel
theorem f66_95 : zft 66 95 = some (.getfield 27, 3) := by decide +kernel
theorem f66_98 : zft 66 98 = some (.iload_n 3, 1) := by decide +kernel
theorem f66_99 : zft 66 99 = some (.aaload, 1) := by decide +kernel
theorem f66_100 : zft 66 100 = some (.getfield 127, 3) := by decide +kernel
theorem f66_103 : zft 66 103 = some (.iload 4, 2) := by decide +kernel
theorem f66_105 : zft 66 105 = some (.iaload, 1) := by decide +kernel
theorem f66_106 : zft 66 106 = some (.i2l, 1) := by decide +kernel
theorem f66_107 : zft 66 107 = some (.ladd, 1) := by decide +kernel
theorem f66_108 : zft 66 108 = some (.lstore_n 1, 1) := by decide +kernel
theorem f66_109 : zft 66 109 = some (.iinc 4 1, 3) := by decide +kernel
theorem f66_112 : zft 66 112 = some (.goto (-37), 3) := by decide +kernel
theorem f66_115 : zft 66 115 = some (.iinc 3 1, 3) := by decide +kernel
theorem f66_118 : zft 66 118 = some (.goto (-85), 3) := by decide +kernel
theorem f66_121 : zft 66 121 = some (.iconst 0, 1) := by decide +kernel
theorem f66_122 : zft 66 122 = some (.istore_n 3, 1) := by decide +kernel
theorem f66_123 : zft 66 123 = some (.iload_n 3, 1) := by decide +kernel
theorem f66_124 : zft 66 124 = some (.aload_n 0, 1) := by decide +kernel
theorem f66_125 : zft 66 125 = some (.getfield 10, 3) := by decide +kernel
theorem f66_128 : zft 66 128 = some (.getfield 221, 3) := by decide +kernel
theorem f66_131 : zft 66 131 = some (.if_icmp .ge 50, 3) := by decide +kernel
theorem f66_134 : zft 66 134 = some (.aload_n 0, 1) := by decide +kernel
theorem f66_135 : zft 66 135 = some (.getfield 94, 3) := by decide +kernel
theorem f66_138 : zft 66 138 = some (.istore 4, 2) := by decide +kernel
theorem f66_140 : zft 66 140 = some (.iload 4, 2) := by decide +kernel
theorem f66_142 : zft 66 142 = some (.bipush 40, 2) := by decide +kernel
theorem f66_144 : zft 66 144 = some (.if_icmp .ge 31, 3) := by decide +kernel
theorem f66_147 : zft 66 147 = some (.ldc2_w 257, 3) := by decide +kernel
theorem f66_150 : zft 66 150 = some (.lload_n 1, 1) := by decide +kernel
theorem f66_151 : zft 66 151 = some (.lmul, 1) := by decide +kernel
theorem f66_152 : zft 66 152 = some (.aload_n 0, 1) := by decide +kernel
theorem f66_153 : zft 66 153 = some (.getfield 10, 3) := by decide +kernel
theorem f66_156 : zft 66 156 = some (.getfield 70, 3) := by decide +kernel
theorem f66_159 : zft 66 159 = some (.iload_n 3, 1) := by decide +kernel
theorem f66_160 : zft 66 160 = some (.aaload, 1) := by decide +kernel
theorem f66_161 : zft 66 161 = some (.iload 4, 2) := by decide +kernel
theorem f66_163 : zft 66 163 = some (.invokevirtual 83, 3) := by decide +kernel
theorem f66_166 : zft 66 166 = some (.i2l, 1) := by decide +kernel
theorem f66_167 : zft 66 167 = some (.ladd, 1) := by decide +kernel
theorem f66_168 : zft 66 168 = some (.lstore_n 1, 1) := by decide +kernel
theorem f66_169 : zft 66 169 = some (.iinc 4 1, 3) := by decide +kernel
theorem f66_172 : zft 66 172 = some (.goto (-32), 3) := by decide +kernel
theorem f66_175 : zft 66 175 = some (.iinc 3 1, 3) := by decide +kernel
theorem f66_178 : zft 66 178 = some (.goto (-55), 3) := by decide +kernel
theorem f66_181 : zft 66 181 = some (.lload_n 1, 1) := by decide +kernel
theorem f66_182 : zft 66 182 = some (.lreturn, 1) := by decide +kernel
theorem o66 : zo 66 = 6 := by decide +kernel
theorem p66 : zp 66 = 0 := by decide +kernel
theorem n66 : zn 66 = 5 := by decide +kernel
theorem v66 : zr 66 = (some .long) := by decide +kernel
theorem f67_0 : zft 67 0 = some (.iload_n 0, 1) := by decide +kernel
theorem f67_1 : zft 67 1 = some (.iload_n 1, 1) := by decide +kernel
theorem f67_2 : zft 67 2 = some (.if_icmp .lt 12, 3) := by decide +kernel
theorem f67_5 : zft 67 5 = some (.iload_n 0, 1) := by decide +kernel
theorem f67_6 : zft 67 6 = some (.iload_n 2, 1) := by decide +kernel
theorem f67_7 : zft 67 7 = some (.if_icmp .gt 7, 3) := by decide +kernel
theorem f67_10 : zft 67 10 = some (.iconst 1, 1) := by decide +kernel
theorem f67_11 : zft 67 11 = some (.goto 4, 3) := by decide +kernel
theorem f67_14 : zft 67 14 = some (.iconst 0, 1) := by decide +kernel
theorem f67_15 : zft 67 15 = some (.ireturn, 1) := by decide +kernel
theorem o67 : zo 67 = 6 := by decide +kernel
theorem p67 : zp 67 = 3 := by decide +kernel
theorem n67 : zn 67 = 3 := by decide +kernel
theorem v67 : zr 67 = (some .boolean) := by decide +kernel
theorem f68_0 : zft 68 0 = some (.iload_n 0, 1) := by decide +kernel
theorem f68_1 : zft 68 1 = some (.iconst 0, 1) := by decide +kernel
theorem f68_2 : zft 68 2 = some (.bipush 39, 2) := by decide +kernel
theorem f68_4 : zft 68 4 = some (.invokestatic 50, 3) := by decide +kernel
theorem f68_7 : zft 68 7 = some (.ireturn, 1) := by decide +kernel
theorem o68 : zo 68 = 6 := by decide +kernel
theorem p68 : zp 68 = 1 := by decide +kernel
theorem n68 : zn 68 = 1 := by decide +kernel
theorem v68 : zr 68 = (some .boolean) := by decide +kernel
theorem f69_0 : zft 69 0 = some (.iload_n 1, 1) := by decide +kernel
theorem f69_1 : zft 69 1 = some (.iconst 0, 1) := by decide +kernel
theorem f69_2 : zft 69 2 = some (.aload_n 0, 1) := by decide +kernel
theorem f69_3 : zft 69 3 = some (.getfield 101, 3) := by decide +kernel
theorem f69_6 : zft 69 6 = some (.iconst 1, 1) := by decide +kernel
theorem f69_7 : zft 69 7 = some (.isub, 1) := by decide +kernel
theorem f69_8 : zft 69 8 = some (.invokestatic 50, 3) := by decide +kernel
theorem f69_11 : zft 69 11 = some (.ireturn, 1) := by decide +kernel
theorem o69 : zo 69 = 6 := by decide +kernel
theorem p69 : zp 69 = 1 := by decide +kernel
theorem n69 : zn 69 = 2 := by decide +kernel
theorem v69 : zr 69 = (some .boolean) := by decide +kernel
theorem f70_0 : zft 70 0 = some (.aload_n 1, 1) := by decide +kernel
theorem f70_1 : zft 70 1 = some (.getfield 104, 3) := by decide +kernel
theorem f70_4 : zft 70 4 = some (.ifCond .ne 18, 3) := by decide +kernel
theorem f70_7 : zft 70 7 = some (.aload_n 1, 1) := by decide +kernel
theorem f70_8 : zft 70 8 = some (.getfield 121, 3) := by decide +kernel
theorem f70_11 : zft 70 11 = some (.aload_n 0, 1) := by decide +kernel
theorem f70_12 : zft 70 12 = some (.getfield 94, 3) := by decide +kernel
theorem f70_15 : zft 70 15 = some (.if_icmp .lt 7, 3) := by decide +kernel
theorem f70_18 : zft 70 18 = some (.iconst 1, 1) := by decide +kernel
theorem f70_19 : zft 70 19 = some (.goto 4, 3) := by decide +kernel
theorem f70_22 : zft 70 22 = some (.iconst 0, 1) := by decide +kernel
theorem f70_23 : zft 70 23 = some (.ireturn, 1) := by decide +kernel
theorem o70 : zo 70 = 6 := by decide +kernel
theorem p70 : zp 70 = 1 := by decide +kernel
theorem n70 : zn 70 = 2 := by decide +kernel
theorem v70 : zr 70 = (some .boolean) := by decide +kernel
theorem f71_0 : zft 71 0 = some (.iconst 0, 1) := by decide +kernel
theorem f71_1 : zft 71 1 = some (.istore_n 2, 1) := by decide +kernel
theorem f71_2 : zft 71 2 = some (.iconst 0, 1) := by decide +kernel
theorem f71_3 : zft 71 3 = some (.istore_n 3, 1) := by decide +kernel
theorem f71_4 : zft 71 4 = some (.iload_n 3, 1) := by decide +kernel
theorem f71_5 : zft 71 5 = some (.aload_n 0, 1) := by decide +kernel
theorem f71_6 : zft 71 6 = some (.getfield 101, 3) := by decide +kernel
theorem f71_9 : zft 71 9 = some (.if_icmp .ge 25, 3) := by decide +kernel
theorem f71_12 : zft 71 12 = some (.aload_n 0, 1) := by decide +kernel
theorem f71_13 : zft 71 13 = some (.getfield 27, 3) := by decide +kernel
theorem f71_16 : zft 71 16 = some (.iload_n 3, 1) := by decide +kernel
theorem f71_17 : zft 71 17 = some (.aaload, 1) := by decide +kernel
theorem f71_18 : zft 71 18 = some (.getfield 104, 3) := by decide +kernel
theorem f71_21 : zft 71 21 = some (.iload_n 1, 1) := by decide +kernel
theorem f71_22 : zft 71 22 = some (.if_icmp .ne 6, 3) := by decide +kernel
theorem f71_25 : zft 71 25 = some (.iinc 2 1, 3) := by decide +kernel
theorem f71_28 : zft 71 28 = some (.iinc 3 1, 3) := by decide +kernel
theorem f71_31 : zft 71 31 = some (.goto (-27), 3) := by decide +kernel
theorem f71_34 : zft 71 34 = some (.iload_n 2, 1) := by decide +kernel
theorem f71_35 : zft 71 35 = some (.ireturn, 1) := by decide +kernel
theorem o71 : zo 71 = 6 := by decide +kernel
theorem p71 : zp 71 = 1 := by decide +kernel
theorem n71 : zn 71 = 4 := by decide +kernel
theorem v71 : zr 71 = (some .int) := by decide +kernel
theorem f72_0 : zft 72 0 = some (.aload_n 0, 1) := by decide +kernel
theorem f72_1 : zft 72 1 = some (.getfield 10, 3) := by decide +kernel
theorem f72_4 : zft 72 4 = some (.aload_n 1, 1) := by decide +kernel
theorem f72_5 : zft 72 5 = some (.invokevirtual 265, 3) := by decide +kernel
theorem f72_8 : zft 72 8 = some (.istore_n 2, 1) := by decide +kernel
theorem f72_9 : zft 72 9 = some (.iload_n 2, 1) := by decide +kernel
theorem f72_10 : zft 72 10 = some (.iconst (-1), 1) := by decide +kernel
theorem f72_11 : zft 72 11 = some (.if_icmp .ne 14, 3) := by decide +kernel
theorem f72_14 : zft 72 14 = some (.aload_n 0, 1) := by decide +kernel
theorem f72_15 : zft 72 15 = some (.aload_n 1, 1) := by decide +kernel
theorem f72_16 : zft 72 16 = some (.iconst 0, 1) := by decide +kernel
theorem f72_17 : zft 72 17 = some (.invokevirtual 148, 3) := by decide +kernel
theorem f72_20 : zft 72 20 = some (.aload_n 1, 1) := by decide +kernel
theorem f72_21 : zft 72 21 = some (.iconst 1, 1) := by decide +kernel
theorem f72_22 : zft 72 22 = some (.putfield 104, 3) := by decide +kernel
theorem f72_25 : zft 72 25 = some (.iload_n 2, 1) := by decide +kernel
theorem f72_26 : zft 72 26 = some (.ireturn, 1) := by decide +kernel
theorem o72 : zo 72 = 6 := by decide +kernel
theorem p72 : zp 72 = 1 := by decide +kernel
theorem n72 : zn 72 = 3 := by decide +kernel
theorem v72 : zr 72 = (some .int) := by decide +kernel
theorem f73_0 : zft 73 0 = some (.aload_n 1, 1) := by decide +kernel
theorem f73_1 : zft 73 1 = some (.getfield 104, 3) := by decide +kernel
theorem f73_4 : zft 73 4 = some (.ifCond .eq 5, 3) := by decide +kernel
theorem f73_7 : zft 73 7 = some (.iconst 0, 1) := by decide +kernel
theorem f73_8 : zft 73 8 = some (.ireturn, 1) := by decide +kernel
theorem f73_9 : zft 73 9 = some (.aload_n 0, 1) := by decide +kernel
theorem f73_10 : zft 73 10 = some (.aload_n 1, 1) := by decide +kernel
theorem f73_11 : zft 73 11 = some (.invokevirtual 130, 3) := by decide +kernel
theorem f73_14 : zft 73 14 = some (.ifCond .eq 14, 3) := by decide +kernel
theorem f73_17 : zft 73 17 = some (.aload_n 0, 1) := by decide +kernel
theorem f73_18 : zft 73 18 = some (.aload_n 1, 1) := by decide +kernel
theorem f73_19 : zft 73 19 = some (.invokevirtual 133, 3) := by decide +kernel
theorem f73_22 : zft 73 22 = some (.iconst (-1), 1) := by decide +kernel
theorem f73_23 : zft 73 23 = some (.if_icmp .ne 5, 3) := by decide +kernel
theorem f73_26 : zft 73 26 = some (.iconst 1, 1) := by decide +kernel
theorem f73_27 : zft 73 27 = some (.ireturn, 1) := by decide +kernel
theorem f73_28 : zft 73 28 = some (.aload_n 1, 1) := by decide +kernel
theorem f73_29 : zft 73 29 = some (.iconst 2, 1) := by decide +kernel
theorem f73_30 : zft 73 30 = some (.putfield 104, 3) := by decide +kernel
theorem f73_33 : zft 73 33 = some (.iconst 0, 1) := by decide +kernel
theorem f73_34 : zft 73 34 = some (.ireturn, 1) := by decide +kernel
theorem o73 : zo 73 = 6 := by decide +kernel
theorem p73 : zp 73 = 1 := by decide +kernel
theorem n73 : zn 73 = 2 := by decide +kernel
theorem v73 : zr 73 = (some .boolean) := by decide +kernel
theorem f74_0 : zft 74 0 = some (.iload_n 2, 1) := by decide +kernel
theorem f74_1 : zft 74 1 = some (.istore_n 3, 1) := by decide +kernel
theorem f74_2 : zft 74 2 = some (.iload_n 3, 1) := by decide +kernel
theorem f74_3 : zft 74 3 = some (.aload_n 1, 1) := by decide +kernel
theorem f74_4 : zft 74 4 = some (.getfield 124, 3) := by decide +kernel
theorem f74_7 : zft 74 7 = some (.if_icmp .ge 43, 3) := by decide +kernel
theorem f74_10 : zft 74 10 = some (.aload_n 0, 1) := by decide +kernel
theorem f74_11 : zft 74 11 = some (.getfield 10, 3) := by decide +kernel
theorem f74_14 : zft 74 14 = some (.getfield 70, 3) := by decide +kernel
theorem f74_17 : zft 74 17 = some (.aload_n 1, 1) := by decide +kernel
theorem f74_18 : zft 74 18 = some (.getfield 127, 3) := by decide +kernel
theorem f74_21 : zft 74 21 = some (.iload_n 3, 1) := by decide +kernel
theorem f74_22 : zft 74 22 = some (.iaload, 1) := by decide +kernel
theorem f74_23 : zft 74 23 = some (.aaload, 1) := by decide +kernel
theorem f74_24 : zft 74 24 = some (.aload_n 1, 1) := by decide +kernel
theorem f74_25 : zft 74 25 = some (.getfield 121, 3) := by decide +kernel
theorem f74_28 : zft 74 28 = some (.iload_n 3, 1) := by decide +kernel
theorem f74_29 : zft 74 29 = some (.iadd, 1) := by decide +kernel
theorem f74_30 : zft 74 30 = some (.aload_n 1, 1) := by decide +kernel
theorem f74_31 : zft 74 31 = some (.getfield 161, 3) := by decide +kernel
theorem f74_34 : zft 74 34 = some (.aload_n 1, 1) := by decide +kernel
theorem f74_35 : zft 74 35 = some (.getfield 174, 3) := by decide +kernel
theorem f74_38 : zft 74 38 = some (.iload_n 3, 1) := by decide +kernel
theorem f74_39 : zft 74 39 = some (.iconst 3, 1) := by decide +kernel
theorem f74_40 : zft 74 40 = some (.imul, 1) := by decide +kernel
theorem f74_41 : zft 74 41 = some (.invokevirtual 208, 3) := by decide +kernel
theorem f74_44 : zft 74 44 = some (.iinc 3 1, 3) := by decide +kernel
theorem f74_47 : zft 74 47 = some (.goto (-45), 3) := by decide +kernel
theorem f74_50 : zft 74 50 = some (.return_, 1) := by decide +kernel
theorem o74 : zo 74 = 6 := by decide +kernel
theorem p74 : zp 74 = 2 := by decide +kernel
theorem n74 : zn 74 = 4 := by decide +kernel
theorem v74 : zr 74 = none := by decide +kernel
theorem f75_0 : zft 75 0 = some (.iload_n 2, 1) := by decide +kernel
theorem f75_1 : zft 75 1 = some (.istore_n 3, 1) := by decide +kernel
theorem f75_2 : zft 75 2 = some (.iload_n 3, 1) := by decide +kernel
theorem f75_3 : zft 75 3 = some (.aload_n 1, 1) := by decide +kernel
theorem f75_4 : zft 75 4 = some (.getfield 124, 3) := by decide +kernel
theorem f75_7 : zft 75 7 = some (.if_icmp .ge 39, 3) := by decide +kernel
theorem f75_10 : zft 75 10 = some (.aload_n 0, 1) := by decide +kernel
theorem f75_11 : zft 75 11 = some (.getfield 10, 3) := by decide +kernel
theorem f75_14 : zft 75 14 = some (.getfield 70, 3) := by decide +kernel
theorem f75_17 : zft 75 17 = some (.aload_n 1, 1) := by decide +kernel
theorem f75_18 : zft 75 18 = some (.getfield 127, 3) := by decide +kernel
theorem f75_21 : zft 75 21 = some (.iload_n 3, 1) := by decide +kernel
theorem f75_22 : zft 75 22 = some (.iaload, 1) := by decide +kernel
theorem f75_23 : zft 75 23 = some (.aaload, 1) := by decide +kernel
theorem f75_24 : zft 75 24 = some (.aload_n 1, 1) := by decide +kernel
theorem f75_25 : zft 75 25 = some (.getfield 121, 3) := by decide +kernel
theorem f75_28 : zft 75 28 = some (.iload_n 3, 1) := by decide +kernel
theorem f75_29 : zft 75 29 = some (.iadd, 1) := by decide +kernel
theorem f75_30 : zft 75 30 = some (.aload_n 1, 1) := by decide +kernel
theorem f75_31 : zft 75 31 = some (.getfield 174, 3) := by decide +kernel
theorem f75_34 : zft 75 34 = some (.iload_n 3, 1) := by decide +kernel
theorem f75_35 : zft 75 35 = some (.iconst 3, 1) := by decide +kernel
theorem f75_36 : zft 75 36 = some (.imul, 1) := by decide +kernel
theorem f75_37 : zft 75 37 = some (.invokevirtual 268, 3) := by decide +kernel
theorem f75_40 : zft 75 40 = some (.iinc 3 1, 3) := by decide +kernel
theorem f75_43 : zft 75 43 = some (.goto (-41), 3) := by decide +kernel
theorem f75_46 : zft 75 46 = some (.return_, 1) := by decide +kernel
theorem o75 : zo 75 = 6 := by decide +kernel
theorem p75 : zp 75 = 2 := by decide +kernel
theorem n75 : zn 75 = 4 := by decide +kernel
theorem v75 : zr 75 = none := by decide +kernel
theorem f76_0 : zft 76 0 = some (.aload_n 0, 1) := by decide +kernel
theorem f76_1 : zft 76 1 = some (.getfield 94, 3) := by decide +kernel
theorem f76_4 : zft 76 4 = some (.aload_n 1, 1) := by decide +kernel
theorem f76_5 : zft 76 5 = some (.getfield 121, 3) := by decide +kernel
theorem f76_8 : zft 76 8 = some (.isub, 1) := by decide +kernel
theorem f76_9 : zft 76 9 = some (.iconst (-1), 1) := by decide +kernel
theorem f76_10 : zft 76 10 = some (.invokestatic 272, 3) := by decide +kernel
theorem f76_13 : zft 76 13 = some (.istore_n 2, 1) := by decide +kernel
theorem f76_14 : zft 76 14 = some (.aload_n 0, 1) := by decide +kernel
theorem f76_15 : zft 76 15 = some (.aload_n 1, 1) := by decide +kernel
theorem f76_16 : zft 76 16 = some (.iload_n 2, 1) := by decide +kernel
theorem f76_17 : zft 76 17 = some (.iconst 1, 1) := by decide +kernel
theorem f76_18 : zft 76 18 = some (.iadd, 1) := by decide +kernel
theorem f76_19 : zft 76 19 = some (.invokevirtual 152, 3) := by decide +kernel
theorem f76_22 : zft 76 22 = some (.aload_n 0, 1) := by decide +kernel
theorem f76_23 : zft 76 23 = some (.getfield 21, 3) := by decide +kernel
theorem f76_26 : zft 76 26 = some (.aload_n 1, 1) := by decide +kernel
theorem f76_27 : zft 76 27 = some (.iload_n 2, 1) := by decide +kernel
theorem f76_28 : zft 76 28 = some (.invokevirtual 137, 3) := by decide +kernel
theorem f76_31 : zft 76 31 = some (.iconst (-1), 1) := by decide +kernel
theorem f76_32 : zft 76 32 = some (.if_icmp .eq 27, 3) := by decide +kernel
theorem f76_35 : zft 76 35 = some (.aload_n 1, 1) := by decide +kernel
theorem f76_36 : zft 76 36 = some (.aload_n 0, 1) := by decide +kernel
theorem f76_37 : zft 76 37 = some (.getfield 21, 3) := by decide +kernel
theorem f76_40 : zft 76 40 = some (.getfield 141, 3) := by decide +kernel
theorem f76_43 : zft 76 43 = some (.iload_n 2, 1) := by decide +kernel
theorem f76_44 : zft 76 44 = some (.iconst 1, 1) := by decide +kernel
theorem f76_45 : zft 76 45 = some (.iadd, 1) := by decide +kernel
theorem f76_46 : zft 76 46 = some (.invokevirtual 144, 3) := by decide +kernel
theorem f76_49 : zft 76 49 = some (.aload_n 0, 1) := by decide +kernel
theorem f76_50 : zft 76 50 = some (.aload_n 1, 1) := by decide +kernel
theorem f76_51 : zft 76 51 = some (.iload_n 2, 1) := by decide +kernel
theorem f76_52 : zft 76 52 = some (.iconst 1, 1) := by decide +kernel
theorem f76_53 : zft 76 53 = some (.iadd, 1) := by decide +kernel
theorem f76_54 : zft 76 54 = some (.invokevirtual 148, 3) := by decide +kernel
theorem f76_57 : zft 76 57 = some (.iconst 1, 1) := by decide +kernel
theorem f76_58 : zft 76 58 = some (.ireturn, 1) := by decide +kernel
theorem f76_59 : zft 76 59 = some (.iload_n 2, 1) := by decide +kernel
theorem f76_60 : zft 76 60 = some (.iconst (-1), 1) := by decide +kernel
theorem f76_61 : zft 76 61 = some (.if_icmp .ne 11, 3) := by decide +kernel
theorem f76_64 : zft 76 64 = some (.aload_n 1, 1) := by decide +kernel
theorem f76_65 : zft 76 65 = some (.iconst 2, 1) := by decide +kernel
theorem f76_66 : zft 76 66 = some (.putfield 104, 3) := by decide +kernel
theorem f76_69 : zft 76 69 = some (.goto 10, 3) := by decide +kernel
theorem f76_72 : zft 76 72 = some (.aload_n 1, 1) := by decide +kernel
theorem f76_73 : zft 76 73 = some (.iload_n 2, 1) := by decide +kernel
theorem f76_74 : zft 76 74 = some (.iconst 1, 1) := by decide +kernel
theorem f76_75 : zft 76 75 = some (.iadd, 1) := by decide +kernel
theorem f76_76 : zft 76 76 = some (.putfield 124, 3) := by decide +kernel
theorem f76_79 : zft 76 79 = some (.iconst 0, 1) := by decide +kernel
theorem f76_80 : zft 76 80 = some (.ireturn, 1) := by decide +kernel
theorem o76 : zo 76 = 6 := by decide +kernel
theorem p76 : zp 76 = 1 := by decide +kernel
theorem n76 : zn 76 = 3 := by decide +kernel
theorem v76 : zr 76 = (some .boolean) := by decide +kernel
theorem f77_0 : zft 77 0 = some (.aload_n 1, 1) := by decide +kernel
theorem f77_1 : zft 77 1 = some (.iload_n 2, 1) := by decide +kernel
theorem f77_2 : zft 77 2 = some (.aload_n 0, 1) := by decide +kernel
theorem f77_3 : zft 77 3 = some (.getfield 94, 3) := by decide +kernel
theorem f77_6 : zft 77 6 = some (.invokevirtual 234, 3) := by decide +kernel
theorem f77_9 : zft 77 9 = some (.ifCond .eq 24, 3) := by decide +kernel
theorem f77_12 : zft 77 12 = some (.aload_n 1, 1) := by decide +kernel
theorem f77_13 : zft 77 13 = some (.getfield 195, 3) := by decide +kernel
theorem f77_16 : zft 77 16 = some (.aload_n 0, 1) := by decide +kernel
theorem f77_17 : zft 77 17 = some (.getfield 94, 3) := by decide +kernel
theorem f77_20 : zft 77 20 = some (.aload_n 1, 1) := by decide +kernel
theorem f77_21 : zft 77 21 = some (.getfield 121, 3) := by decide +kernel
theorem f77_24 : zft 77 24 = some (.isub, 1) := by decide +kernel
theorem f77_25 : zft 77 25 = some (.baload, 1) := by decide +kernel
theorem f77_26 : zft 77 26 = some (.ifCond .ne 7, 3) := by decide +kernel
theorem f77_29 : zft 77 29 = some (.iconst 1, 1) := by decide +kernel
theorem f77_30 : zft 77 30 = some (.goto 4, 3) := by decide +kernel
theorem f77_33 : zft 77 33 = some (.iconst 0, 1) := by decide +kernel
theorem f77_34 : zft 77 34 = some (.ireturn, 1) := by decide +kernel
theorem o77 : zo 77 = 6 := by decide +kernel
theorem p77 : zp 77 = 2 := by decide +kernel
theorem n77 : zn 77 = 3 := by decide +kernel
theorem v77 : zr 77 = (some .boolean) := by decide +kernel
theorem f78_0 : zft 78 0 = some (.iconst 0, 1) := by decide +kernel
theorem f78_1 : zft 78 1 = some (.istore_n 2, 1) := by decide +kernel
theorem f78_2 : zft 78 2 = some (.iconst 0, 1) := by decide +kernel
theorem f78_3 : zft 78 3 = some (.istore_n 3, 1) := by decide +kernel
theorem f78_4 : zft 78 4 = some (.iload_n 3, 1) := by decide +kernel
theorem f78_5 : zft 78 5 = some (.aload_n 0, 1) := by decide +kernel
theorem f78_6 : zft 78 6 = some (.getfield 101, 3) := by decide +kernel
theorem f78_9 : zft 78 9 = some (.if_icmp .ge 35, 3) := by decide +kernel
theorem f78_12 : zft 78 12 = some (.aload_n 0, 1) := by decide +kernel
theorem f78_13 : zft 78 13 = some (.aload_n 0, 1) := by decide +kernel
theorem f78_14 : zft 78 14 = some (.getfield 27, 3) := by decide +kernel
theorem f78_17 : zft 78 17 = some (.iload_n 3, 1) := by decide +kernel
theorem f78_18 : zft 78 18 = some (.aaload, 1) := by decide +kernel
theorem f78_19 : zft 78 19 = some (.iload_n 1, 1) := by decide +kernel
theorem f78_20 : zft 78 20 = some (.invokevirtual 277, 3) := by decide +kernel
theorem f78_23 : zft 78 23 = some (.ifCond .eq 15, 3) := by decide +kernel
theorem f78_26 : zft 78 26 = some (.iload_n 2, 1) := by decide +kernel
theorem f78_27 : zft 78 27 = some (.aload_n 0, 1) := by decide +kernel
theorem f78_28 : zft 78 28 = some (.getfield 27, 3) := by decide +kernel
theorem f78_31 : zft 78 31 = some (.iload_n 3, 1) := by decide +kernel
theorem f78_32 : zft 78 32 = some (.aaload, 1) := by decide +kernel
theorem f78_33 : zft 78 33 = some (.getfield 161, 3) := by decide +kernel
theorem f78_36 : zft 78 36 = some (.iadd, 1) := by decide +kernel
theorem f78_37 : zft 78 37 = some (.istore_n 2, 1) := by decide +kernel
theorem f78_38 : zft 78 38 = some (.iinc 3 1, 3) := by decide +kernel
theorem f78_41 : zft 78 41 = some (.goto (-37), 3) := by decide +kernel
theorem f78_44 : zft 78 44 = some (.iload_n 2, 1) := by decide +kernel
theorem f78_45 : zft 78 45 = some (.ireturn, 1) := by decide +kernel
theorem o78 : zo 78 = 6 := by decide +kernel
theorem p78 : zp 78 = 1 := by decide +kernel
theorem n78 : zn 78 = 4 := by decide +kernel
theorem v78 : zr 78 = (some .int) := by decide +kernel
theorem f79_0 : zft 79 0 = some (.aload_n 0, 1) := by decide +kernel
theorem f79_1 : zft 79 1 = some (.getfield 10, 3) := by decide +kernel
theorem f79_4 : zft 79 4 = some (.getfield 70, 3) := by decide +kernel
theorem f79_7 : zft 79 7 = some (.iload_n 1, 1) := by decide +kernel
theorem f79_8 : zft 79 8 = some (.aaload, 1) := by decide +kernel
theorem f79_9 : zft 79 9 = some (.astore_n 3, 1) := by decide +kernel
theorem f79_10 : zft 79 10 = some (.iconst 0, 1) := by decide +kernel
theorem f79_11 : zft 79 11 = some (.istore 4, 2) := by decide +kernel
theorem f79_13 : zft 79 13 = some (.aload_n 0, 1) := by decide +kernel
theorem f79_14 : zft 79 14 = some (.getfield 101, 3) := by decide +kernel
theorem f79_17 : zft 79 17 = some (.iconst 1, 1) := by decide +kernel
theorem f79_18 : zft 79 18 = some (.isub, 1) := by decide +kernel
theorem f79_19 : zft 79 19 = some (.istore 5, 2) := by decide +kernel
theorem f79_21 : zft 79 21 = some (.iload 5, 2) := by decide +kernel
theorem f79_23 : zft 79 23 = some (.ifCond .lt 74, 3) := by decide +kernel
theorem f79_26 : zft 79 26 = some (.aload_n 3, 1) := by decide +kernel
theorem f79_27 : zft 79 27 = some (.aload_n 0, 1) := by decide +kernel
theorem f79_28 : zft 79 28 = some (.getfield 94, 3) := by decide +kernel
theorem f79_31 : zft 79 31 = some (.invokevirtual 83, 3) := by decide +kernel
theorem f79_34 : zft 79 34 = some (.iload_n 2, 1) := by decide +kernel
theorem f79_35 : zft 79 35 = some (.if_icmp .ge 62, 3) := by decide +kernel
theorem f79_38 : zft 79 38 = some (.aload_n 0, 1) := by decide +kernel
theorem f79_39 : zft 79 39 = some (.aload_n 0, 1) := by decide +kernel
theorem f79_40 : zft 79 40 = some (.getfield 27, 3) := by decide +kernel
theorem f79_43 : zft 79 43 = some (.iload 5, 2) := by decide +kernel
theorem f79_45 : zft 79 45 = some (.aaload, 1) := by decide +kernel
theorem f79_46 : zft 79 46 = some (.iload_n 1, 1) := by decide +kernel
theorem f79_47 : zft 79 47 = some (.invokevirtual 277, 3) := by decide +kernel
theorem f79_50 : zft 79 50 = some (.ifCond .eq 41, 3) := by decide +kernel
theorem f79_53 : zft 79 53 = some (.aload_n 3, 1) := by decide +kernel
theorem f79_54 : zft 79 54 = some (.aload_n 0, 1) := by decide +kernel
theorem f79_55 : zft 79 55 = some (.getfield 94, 3) := by decide +kernel
theorem f79_58 : zft 79 58 = some (.aload_n 0, 1) := by decide +kernel
theorem f79_59 : zft 79 59 = some (.getfield 27, 3) := by decide +kernel
theorem f79_62 : zft 79 62 = some (.iload 5, 2) := by decide +kernel
theorem f79_64 : zft 79 64 = some (.aaload, 1) := by decide +kernel
theorem f79_65 : zft 79 65 = some (.getfield 174, 3) := by decide +kernel
theorem f79_68 : zft 79 68 = some (.aload_n 0, 1) := by decide +kernel
theorem f79_69 : zft 79 69 = some (.getfield 94, 3) := by decide +kernel
theorem f79_72 : zft 79 72 = some (.aload_n 0, 1) := by decide +kernel
theorem f79_73 : zft 79 73 = some (.getfield 27, 3) := by decide +kernel
theorem f79_76 : zft 79 76 = some (.iload 5, 2) := by decide +kernel
theorem f79_78 : zft 79 78 = some (.aaload, 1) := by decide +kernel
theorem f79_79 : zft 79 79 = some (.getfield 121, 3) := by decide +kernel
theorem f79_82 : zft 79 82 = some (.isub, 1) := by decide +kernel
theorem f79_83 : zft 79 83 = some (.iconst 3, 1) := by decide +kernel
theorem f79_84 : zft 79 84 = some (.imul, 1) := by decide +kernel
theorem f79_85 : zft 79 85 = some (.invokevirtual 268, 3) := by decide +kernel
theorem f79_88 : zft 79 88 = some (.iinc 4 1, 3) := by decide +kernel
theorem f79_91 : zft 79 91 = some (.iinc 5 (-1), 3) := by decide +kernel
theorem f79_94 : zft 79 94 = some (.goto (-73), 3) := by decide +kernel
theorem f79_97 : zft 79 97 = some (.iload 4, 2) := by decide +kernel
theorem f79_99 : zft 79 99 = some (.ireturn, 1) := by decide +kernel
theorem o79 : zo 79 = 6 := by decide +kernel
theorem p79 : zp 79 = 2 := by decide +kernel
theorem n79 : zn 79 = 6 := by decide +kernel
theorem v79 : zr 79 = (some .int) := by decide +kernel
theorem f80_0 : zft 80 0 = some (.iconst 0, 1) := by decide +kernel
theorem f80_1 : zft 80 1 = some (.istore_n 1, 1) := by decide +kernel
theorem f80_2 : zft 80 2 = some (.iconst 0, 1) := by decide +kernel
theorem f80_3 : zft 80 3 = some (.istore_n 2, 1) := by decide +kernel
theorem f80_4 : zft 80 4 = some (.iload_n 2, 1) := by decide +kernel
theorem f80_5 : zft 80 5 = some (.aload_n 0, 1) := by decide +kernel
theorem f80_6 : zft 80 6 = some (.getfield 101, 3) := by decide +kernel
theorem f80_9 : zft 80 9 = some (.if_icmp .ge 28, 3) := by decide +kernel
theorem f80_12 : zft 80 12 = some (.aload_n 0, 1) := by decide +kernel
theorem f80_13 : zft 80 13 = some (.getfield 27, 3) := by decide +kernel
theorem f80_16 : zft 80 16 = some (.iload_n 2, 1) := by decide +kernel
theorem f80_17 : zft 80 17 = some (.aaload, 1) := by decide +kernel
theorem f80_18 : zft 80 18 = some (.aload_n 0, 1) := by decide +kernel
theorem f80_19 : zft 80 19 = some (.getfield 94, 3) := by decide +kernel
theorem f80_22 : zft 80 22 = some (.invokevirtual 281, 3) := by decide +kernel
theorem f80_25 : zft 80 25 = some (.ifCond .eq 6, 3) := by decide +kernel
theorem f80_28 : zft 80 28 = some (.iinc 1 1, 3) := by decide +kernel
theorem f80_31 : zft 80 31 = some (.iinc 2 1, 3) := by decide +kernel
theorem f80_34 : zft 80 34 = some (.goto (-30), 3) := by decide +kernel
theorem f80_37 : zft 80 37 = some (.iload_n 1, 1) := by decide +kernel
theorem f80_38 : zft 80 38 = some (.ireturn, 1) := by decide +kernel
theorem o80 : zo 80 = 6 := by decide +kernel
theorem p80 : zp 80 = 0 := by decide +kernel
theorem n80 : zn 80 = 3 := by decide +kernel
theorem v80 : zr 80 = (some .int) := by decide +kernel
theorem f81_0 : zft 81 0 = some (.iconst 0, 1) := by decide +kernel
theorem f81_1 : zft 81 1 = some (.istore_n 2, 1) := by decide +kernel
theorem f81_2 : zft 81 2 = some (.iload_n 2, 1) := by decide +kernel
theorem f81_3 : zft 81 3 = some (.aload_n 0, 1) := by decide +kernel
theorem f81_4 : zft 81 4 = some (.getfield 10, 3) := by decide +kernel
theorem f81_7 : zft 81 7 = some (.getfield 70, 3) := by decide +kernel
theorem f81_10 : zft 81 10 = some (.iload_n 1, 1) := by decide +kernel
theorem f81_11 : zft 81 11 = some (.aaload, 1) := by decide +kernel
theorem f81_12 : zft 81 12 = some (.getfield 74, 3) := by decide +kernel
theorem f81_15 : zft 81 15 = some (.if_icmp .ge 35, 3) := by decide +kernel
theorem f81_18 : zft 81 18 = some (.aload_n 0, 1) := by decide +kernel
theorem f81_19 : zft 81 19 = some (.iload_n 1, 1) := by decide +kernel
theorem f81_20 : zft 81 20 = some (.invokevirtual 284, 3) := by decide +kernel
theorem f81_23 : zft 81 23 = some (.istore_n 3, 1) := by decide +kernel
theorem f81_24 : zft 81 24 = some (.iload_n 3, 1) := by decide +kernel
theorem f81_25 : zft 81 25 = some (.iconst (-1), 1) := by decide +kernel
theorem f81_26 : zft 81 26 = some (.if_icmp .eq 18, 3) := by decide +kernel
theorem f81_29 : zft 81 29 = some (.aload_n 0, 1) := by decide +kernel
theorem f81_30 : zft 81 30 = some (.getfield 27, 3) := by decide +kernel
theorem f81_33 : zft 81 33 = some (.iload_n 3, 1) := by decide +kernel
theorem f81_34 : zft 81 34 = some (.aaload, 1) := by decide +kernel
theorem f81_35 : zft 81 35 = some (.dup, 1) := by decide +kernel
theorem f81_36 : zft 81 36 = some (.getfield 167, 3) := by decide +kernel
theorem f81_39 : zft 81 39 = some (.iconst 1, 1) := by decide +kernel
theorem f81_40 : zft 81 40 = some (.iadd, 1) := by decide +kernel
theorem f81_41 : zft 81 41 = some (.putfield 167, 3) := by decide +kernel
theorem f81_44 : zft 81 44 = some (.iinc 2 1, 3) := by decide +kernel
theorem f81_47 : zft 81 47 = some (.goto (-45), 3) := by decide +kernel
theorem f81_50 : zft 81 50 = some (.return_, 1) := by decide +kernel
theorem o81 : zo 81 = 6 := by decide +kernel
theorem p81 : zp 81 = 1 := by decide +kernel
theorem n81 : zn 81 = 4 := by decide +kernel
theorem v81 : zr 81 = none := by decide +kernel
theorem f82_0 : zft 82 0 = some (.iconst (-1), 1) := by decide +kernel
theorem f82_1 : zft 82 1 = some (.istore_n 2, 1) := by decide +kernel
theorem f82_2 : zft 82 2 = some (.iconst 0, 1) := by decide +kernel
theorem f82_3 : zft 82 3 = some (.istore_n 3, 1) := by decide +kernel
theorem f82_4 : zft 82 4 = some (.iload_n 3, 1) := by decide +kernel
theorem f82_5 : zft 82 5 = some (.aload_n 0, 1) := by decide +kernel
theorem f82_6 : zft 82 6 = some (.getfield 101, 3) := by decide +kernel
theorem f82_9 : zft 82 9 = some (.if_icmp .ge 51, 3) := by decide +kernel
theorem f82_12 : zft 82 12 = some (.aload_n 0, 1) := by decide +kernel
theorem f82_13 : zft 82 13 = some (.getfield 27, 3) := by decide +kernel
theorem f82_16 : zft 82 16 = some (.iload_n 3, 1) := by decide +kernel
theorem f82_17 : zft 82 17 = some (.aaload, 1) := by decide +kernel
theorem f82_18 : zft 82 18 = some (.iload_n 1, 1) := by decide +kernel
theorem f82_19 : zft 82 19 = some (.aload_n 0, 1) := by decide +kernel
theorem f82_20 : zft 82 20 = some (.getfield 94, 3) := by decide +kernel
theorem f82_23 : zft 82 23 = some (.invokevirtual 287, 3) := by decide +kernel
theorem f82_26 : zft 82 26 = some (.ifCond .eq 28, 3) := by decide +kernel
theorem f82_29 : zft 82 29 = some (.iload_n 2, 1) := by decide +kernel
theorem f82_30 : zft 82 30 = some (.iconst (-1), 1) := by decide +kernel
theorem f82_31 : zft 82 31 = some (.if_icmp .eq 21, 3) := by decide +kernel
theorem f82_34 : zft 82 34 = some (.aload_n 0, 1) := by decide +kernel
theorem f82_35 : zft 82 35 = some (.getfield 27, 3) := by decide +kernel
theorem f82_38 : zft 82 38 = some (.iload_n 3, 1) := by decide +kernel
theorem f82_39 : zft 82 39 = some (.aaload, 1) := by decide +kernel
theorem f82_40 : zft 82 40 = some (.aload_n 0, 1) := by decide +kernel
theorem f82_41 : zft 82 41 = some (.getfield 27, 3) := by decide +kernel
theorem f82_44 : zft 82 44 = some (.iload_n 2, 1) := by decide +kernel
theorem f82_45 : zft 82 45 = some (.aaload, 1) := by decide +kernel
theorem f82_46 : zft 82 46 = some (.invokevirtual 290, 3) := by decide +kernel
theorem f82_49 : zft 82 49 = some (.ifCond .eq 5, 3) := by decide +kernel
theorem f82_52 : zft 82 52 = some (.iload_n 3, 1) := by decide +kernel
theorem f82_53 : zft 82 53 = some (.istore_n 2, 1) := by decide +kernel
theorem f82_54 : zft 82 54 = some (.iinc 3 1, 3) := by decide +kernel
theorem f82_57 : zft 82 57 = some (.goto (-53), 3) := by decide +kernel
theorem f82_60 : zft 82 60 = some (.iload_n 2, 1) := by decide +kernel
theorem f82_61 : zft 82 61 = some (.ireturn, 1) := by decide +kernel
theorem o82 : zo 82 = 6 := by decide +kernel
theorem p82 : zp 82 = 1 := by decide +kernel
theorem n82 : zn 82 = 4 := by decide +kernel
theorem v82 : zr 82 = (some .int) := by decide +kernel
theorem f83_0 : zft 83 0 = some (.iconst 0, 1) := by decide +kernel
theorem f83_1 : zft 83 1 = some (.istore_n 1, 1) := by decide +kernel
theorem f83_2 : zft 83 2 = some (.iload_n 1, 1) := by decide +kernel
theorem f83_3 : zft 83 3 = some (.aload_n 0, 1) := by decide +kernel
theorem f83_4 : zft 83 4 = some (.getfield 101, 3) := by decide +kernel
theorem f83_7 : zft 83 7 = some (.if_icmp .ge 47, 3) := by decide +kernel
theorem f83_10 : zft 83 10 = some (.aload_n 0, 1) := by decide +kernel
theorem f83_11 : zft 83 11 = some (.getfield 27, 3) := by decide +kernel
theorem f83_14 : zft 83 14 = some (.iload_n 1, 1) := by decide +kernel
theorem f83_15 : zft 83 15 = some (.aaload, 1) := by decide +kernel
theorem f83_16 : zft 83 16 = some (.astore_n 2, 1) := by decide +kernel
theorem f83_17 : zft 83 17 = some (.aload_n 2, 1) := by decide +kernel
theorem f83_18 : zft 83 18 = some (.getfield 104, 3) := by decide +kernel
theorem f83_21 : zft 83 21 = some (.iconst 1, 1) := by decide +kernel
theorem f83_22 : zft 83 22 = some (.if_icmp .ne 26, 3) := by decide +kernel
theorem f83_25 : zft 83 25 = some (.aload_n 2, 1) := by decide +kernel
theorem f83_26 : zft 83 26 = some (.getfield 121, 3) := by decide +kernel
theorem f83_29 : zft 83 29 = some (.aload_n 2, 1) := by decide +kernel
theorem f83_30 : zft 83 30 = some (.getfield 124, 3) := by decide +kernel
theorem f83_33 : zft 83 33 = some (.iadd, 1) := by decide +kernel
theorem f83_34 : zft 83 34 = some (.iconst 1, 1) := by decide +kernel
theorem f83_35 : zft 83 35 = some (.isub, 1) := by decide +kernel
theorem f83_36 : zft 83 36 = some (.aload_n 0, 1) := by decide +kernel
theorem f83_37 : zft 83 37 = some (.getfield 94, 3) := by decide +kernel
theorem f83_40 : zft 83 40 = some (.if_icmp .gt 8, 3) := by decide +kernel
theorem f83_43 : zft 83 43 = some (.aload_n 2, 1) := by decide +kernel
theorem f83_44 : zft 83 44 = some (.iconst 3, 1) := by decide +kernel
theorem f83_45 : zft 83 45 = some (.putfield 104, 3) := by decide +kernel
theorem f83_48 : zft 83 48 = some (.iinc 1 1, 3) := by decide +kernel
theorem f83_51 : zft 83 51 = some (.goto (-49), 3) := by decide +kernel
theorem f83_54 : zft 83 54 = some (.return_, 1) := by decide +kernel
theorem o83 : zo 83 = 6 := by decide +kernel
theorem p83 : zp 83 = 0 := by decide +kernel
theorem n83 : zn 83 = 3 := by decide +kernel
theorem v83 : zr 83 = none := by decide +kernel
