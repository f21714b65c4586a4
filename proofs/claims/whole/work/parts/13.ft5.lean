theorem f120_0 : zft 120 0 = some (.aload_n 0, 1) := by decide +kernel
theorem f120_1 : zft 120 1 = some (.iload_n 1, 1) := by decide +kernel
theorem f120_2 : zft 120 2 = some (.invokevirtual 125, 3) := by decide +kernel
theorem f120_5 : zft 120 5 = some (.ifCond .eq 28, 3) := by decide +kernel
theorem f120_8 : zft 120 8 = some (.iload_n 2, 1) := by decide +kernel
theorem f120_9 : zft 120 9 = some (.iconst 0, 1) := by decide +kernel
theorem f120_10 : zft 120 10 = some (.aload_n 0, 1) := by decide +kernel
theorem f120_11 : zft 120 11 = some (.getfield 35, 3) := by decide +kernel
theorem f120_14 : zft 120 14 = some (.iload_n 1, 1) := by decide +kernel
theorem f120_15 : zft 120 15 = some (.iaload, 1) := by decide +kernel
theorem f120_16 : zft 120 16 = some (.iconst 1, 1) := by decide +kernel
theorem f120_17 : zft 120 17 = some (.isub, 1) := by decide +kernel
theorem f120_18 : zft 120 18 = some (.invokestatic 90, 3) := by decide +kernel
theorem f120_21 : zft 120 21 = some (.ifCond .eq 12, 3) := by decide +kernel
theorem f120_24 : zft 120 24 = some (.iload_n 3, 1) := by decide +kernel
theorem f120_25 : zft 120 25 = some (.iconst 0, 1) := by decide +kernel
theorem f120_26 : zft 120 26 = some (.iconst 2, 1) := by decide +kernel
theorem f120_27 : zft 120 27 = some (.invokestatic 90, 3) := by decide +kernel
theorem f120_30 : zft 120 30 = some (.ifCond .ne 6, 3) := by decide +kernel
theorem f120_33 : zft 120 33 = some (.bipush (-2), 2) := by decide +kernel
theorem f120_35 : zft 120 35 = some (.ireturn, 1) := by decide +kernel
theorem f120_36 : zft 120 36 = some (.bipush 7, 2) := by decide +kernel
theorem f120_38 : zft 120 38 = some (.iload_n 1, 1) := by decide +kernel
theorem f120_39 : zft 120 39 = some (.imul, 1) := by decide +kernel
theorem f120_40 : zft 120 40 = some (.iload_n 2, 1) := by decide +kernel
theorem f120_41 : zft 120 41 = some (.iadd, 1) := by decide +kernel
theorem f120_42 : zft 120 42 = some (.istore 4, 2) := by decide +kernel
theorem f120_44 : zft 120 44 = some (.aload_n 0, 1) := by decide +kernel
theorem f120_45 : zft 120 45 = some (.getfield 44, 3) := by decide +kernel
theorem f120_48 : zft 120 48 = some (.iload 4, 2) := by decide +kernel
theorem f120_50 : zft 120 50 = some (.baload, 1) := by decide +kernel
theorem f120_51 : zft 120 51 = some (.ifCond .eq 17, 3) := by decide +kernel
theorem f120_54 : zft 120 54 = some (.aload_n 0, 1) := by decide +kernel
theorem f120_55 : zft 120 55 = some (.getfield 47, 3) := by decide +kernel
theorem f120_58 : zft 120 58 = some (.iconst 3, 1) := by decide +kernel
theorem f120_59 : zft 120 59 = some (.iload 4, 2) := by decide +kernel
theorem f120_61 : zft 120 61 = some (.imul, 1) := by decide +kernel
theorem f120_62 : zft 120 62 = some (.iload_n 3, 1) := by decide +kernel
theorem f120_63 : zft 120 63 = some (.iadd, 1) := by decide +kernel
theorem f120_64 : zft 120 64 = some (.iaload, 1) := by decide +kernel
theorem f120_65 : zft 120 65 = some (.goto 4, 3) := by decide +kernel
theorem f120_68 : zft 120 68 = some (.iconst 0, 1) := by decide +kernel
theorem f120_69 : zft 120 69 = some (.ireturn, 1) := by decide +kernel
theorem o120 : zo 120 = 7 := by decide +kernel
theorem p120 : zp 120 = 3 := by decide +kernel
theorem n120 : zn 120 = 5 := by decide +kernel
theorem v120 : zr 120 = (some .int) := by decide +kernel
theorem f121_0 : zft 121 0 = some (.aload_n 0, 1) := by decide +kernel
theorem f121_1 : zft 121 1 = some (.iload_n 1, 1) := by decide +kernel
theorem f121_2 : zft 121 2 = some (.invokevirtual 125, 3) := by decide +kernel
theorem f121_5 : zft 121 5 = some (.ifCond .eq 25, 3) := by decide +kernel
theorem f121_8 : zft 121 8 = some (.iload_n 2, 1) := by decide +kernel
theorem f121_9 : zft 121 9 = some (.iconst 0, 1) := by decide +kernel
theorem f121_10 : zft 121 10 = some (.sipush 999, 3) := by decide +kernel
theorem f121_13 : zft 121 13 = some (.invokestatic 90, 3) := by decide +kernel
theorem f121_16 : zft 121 16 = some (.ifCond .eq 14, 3) := by decide +kernel
theorem f121_19 : zft 121 19 = some (.iload_n 3, 1) := by decide +kernel
theorem f121_20 : zft 121 20 = some (.iload_n 2, 1) := by decide +kernel
theorem f121_21 : zft 121 21 = some (.sipush 999, 3) := by decide +kernel
theorem f121_24 : zft 121 24 = some (.invokestatic 90, 3) := by decide +kernel
theorem f121_27 : zft 121 27 = some (.ifCond .ne 6, 3) := by decide +kernel
theorem f121_30 : zft 121 30 = some (.bipush (-2), 2) := by decide +kernel
theorem f121_32 : zft 121 32 = some (.ireturn, 1) := by decide +kernel
theorem f121_33 : zft 121 33 = some (.aload_n 0, 1) := by decide +kernel
theorem f121_34 : zft 121 34 = some (.getfield 41, 3) := by decide +kernel
theorem f121_37 : zft 121 37 = some (.iload_n 1, 1) := by decide +kernel
theorem f121_38 : zft 121 38 = some (.iaload, 1) := by decide +kernel
theorem f121_39 : zft 121 39 = some (.ifCond .eq 6, 3) := by decide +kernel
theorem f121_42 : zft 121 42 = some (.bipush (-3), 2) := by decide +kernel
theorem f121_44 : zft 121 44 = some (.ireturn, 1) := by decide +kernel
theorem f121_45 : zft 121 45 = some (.aload_n 0, 1) := by decide +kernel
theorem f121_46 : zft 121 46 = some (.getfield 173, 3) := by decide +kernel
theorem f121_49 : zft 121 49 = some (.bipush 40, 2) := by decide +kernel
theorem f121_51 : zft 121 51 = some (.if_icmp .ne 6, 3) := by decide +kernel
theorem f121_54 : zft 121 54 = some (.bipush (-4), 2) := by decide +kernel
theorem f121_56 : zft 121 56 = some (.ireturn, 1) := by decide +kernel
theorem f121_57 : zft 121 57 = some (.aload_n 0, 1) := by decide +kernel
theorem f121_58 : zft 121 58 = some (.getfield 74, 3) := by decide +kernel
theorem f121_61 : zft 121 61 = some (.aload_n 0, 1) := by decide +kernel
theorem f121_62 : zft 121 62 = some (.getfield 173, 3) := by decide +kernel
theorem f121_65 : zft 121 65 = some (.iload_n 1, 1) := by decide +kernel
theorem f121_66 : zft 121 66 = some (.iastore, 1) := by decide +kernel
theorem f121_67 : zft 121 67 = some (.aload_n 0, 1) := by decide +kernel
theorem f121_68 : zft 121 68 = some (.getfield 77, 3) := by decide +kernel
theorem f121_71 : zft 121 71 = some (.aload_n 0, 1) := by decide +kernel
theorem f121_72 : zft 121 72 = some (.getfield 173, 3) := by decide +kernel
theorem f121_75 : zft 121 75 = some (.iload_n 2, 1) := by decide +kernel
theorem f121_76 : zft 121 76 = some (.iastore, 1) := by decide +kernel
theorem f121_77 : zft 121 77 = some (.aload_n 0, 1) := by decide +kernel
theorem f121_78 : zft 121 78 = some (.getfield 80, 3) := by decide +kernel
theorem f121_81 : zft 121 81 = some (.aload_n 0, 1) := by decide +kernel
theorem f121_82 : zft 121 82 = some (.getfield 173, 3) := by decide +kernel
theorem f121_85 : zft 121 85 = some (.iload_n 3, 1) := by decide +kernel
theorem f121_86 : zft 121 86 = some (.iastore, 1) := by decide +kernel
theorem f121_87 : zft 121 87 = some (.aload_n 0, 1) := by decide +kernel
theorem f121_88 : zft 121 88 = some (.dup, 1) := by decide +kernel
theorem f121_89 : zft 121 89 = some (.getfield 173, 3) := by decide +kernel
theorem f121_92 : zft 121 92 = some (.iconst 1, 1) := by decide +kernel
theorem f121_93 : zft 121 93 = some (.iadd, 1) := by decide +kernel
theorem f121_94 : zft 121 94 = some (.putfield 173, 3) := by decide +kernel
theorem f121_97 : zft 121 97 = some (.aload_n 0, 1) := by decide +kernel
theorem f121_98 : zft 121 98 = some (.getfield 173, 3) := by decide +kernel
theorem f121_101 : zft 121 101 = some (.ireturn, 1) := by decide +kernel
theorem o121 : zo 121 = 7 := by decide +kernel
theorem p121 : zp 121 = 3 := by decide +kernel
theorem n121 : zn 121 = 4 := by decide +kernel
theorem v121 : zr 121 = (some .int) := by decide +kernel
theorem f122_0 : zft 122 0 = some (.iload_n 1, 1) := by decide +kernel
theorem f122_1 : zft 122 1 = some (.iconst 0, 1) := by decide +kernel
theorem f122_2 : zft 122 2 = some (.sipush 999, 3) := by decide +kernel
theorem f122_5 : zft 122 5 = some (.invokestatic 90, 3) := by decide +kernel
theorem f122_8 : zft 122 8 = some (.ifCond .ne 6, 3) := by decide +kernel
theorem f122_11 : zft 122 11 = some (.bipush (-2), 2) := by decide +kernel
theorem f122_13 : zft 122 13 = some (.ireturn, 1) := by decide +kernel
theorem f122_14 : zft 122 14 = some (.iconst 0, 1) := by decide +kernel
theorem f122_15 : zft 122 15 = some (.istore_n 2, 1) := by decide +kernel
theorem f122_16 : zft 122 16 = some (.iconst 0, 1) := by decide +kernel
theorem f122_17 : zft 122 17 = some (.istore_n 3, 1) := by decide +kernel
theorem f122_18 : zft 122 18 = some (.iload_n 3, 1) := by decide +kernel
theorem f122_19 : zft 122 19 = some (.iconst (-1), 1) := by decide +kernel
theorem f122_20 : zft 122 20 = some (.if_icmp .eq 145, 3) := by decide +kernel
theorem f122_23 : zft 122 23 = some (.iconst (-1), 1) := by decide +kernel
theorem f122_24 : zft 122 24 = some (.istore_n 3, 1) := by decide +kernel
theorem f122_25 : zft 122 25 = some (.iconst 0, 1) := by decide +kernel
theorem f122_26 : zft 122 26 = some (.istore 4, 2) := by decide +kernel
theorem f122_28 : zft 122 28 = some (.iload 4, 2) := by decide +kernel
theorem f122_30 : zft 122 30 = some (.aload_n 0, 1) := by decide +kernel
theorem f122_31 : zft 122 31 = some (.getfield 173, 3) := by decide +kernel
theorem f122_34 : zft 122 34 = some (.if_icmp .ge 54, 3) := by decide +kernel
theorem f122_37 : zft 122 37 = some (.aload_n 0, 1) := by decide +kernel
theorem f122_38 : zft 122 38 = some (.getfield 83, 3) := by decide +kernel
theorem f122_41 : zft 122 41 = some (.iload 4, 2) := by decide +kernel
theorem f122_43 : zft 122 43 = some (.baload, 1) := by decide +kernel
theorem f122_44 : zft 122 44 = some (.ifCond .ne 38, 3) := by decide +kernel
theorem f122_47 : zft 122 47 = some (.aload_n 0, 1) := by decide +kernel
theorem f122_48 : zft 122 48 = some (.getfield 80, 3) := by decide +kernel
theorem f122_51 : zft 122 51 = some (.iload 4, 2) := by decide +kernel
theorem f122_53 : zft 122 53 = some (.iaload, 1) := by decide +kernel
theorem f122_54 : zft 122 54 = some (.iload_n 1, 1) := by decide +kernel
theorem f122_55 : zft 122 55 = some (.if_icmp .gt 27, 3) := by decide +kernel
theorem f122_58 : zft 122 58 = some (.iload_n 3, 1) := by decide +kernel
theorem f122_59 : zft 122 59 = some (.iconst (-1), 1) := by decide +kernel
theorem f122_60 : zft 122 60 = some (.if_icmp .eq 19, 3) := by decide +kernel
theorem f122_63 : zft 122 63 = some (.aload_n 0, 1) := by decide +kernel
theorem f122_64 : zft 122 64 = some (.getfield 77, 3) := by decide +kernel
theorem f122_67 : zft 122 67 = some (.iload 4, 2) := by decide +kernel
theorem f122_69 : zft 122 69 = some (.iaload, 1) := by decide +kernel
theorem f122_70 : zft 122 70 = some (.aload_n 0, 1) := by decide +kernel
theorem f122_71 : zft 122 71 = some (.getfield 77, 3) := by decide +kernel
theorem f122_74 : zft 122 74 = some (.iload_n 3, 1) := by decide +kernel
theorem f122_75 : zft 122 75 = some (.iaload, 1) := by decide +kernel
theorem f122_76 : zft 122 76 = some (.if_icmp .ge 6, 3) := by decide +kernel
theorem f122_79 : zft 122 79 = some (.iload 4, 2) := by decide +kernel
theorem f122_81 : zft 122 81 = some (.istore_n 3, 1) := by decide +kernel
theorem f122_82 : zft 122 82 = some (.iinc 4 1, 3) := by decide +kernel
theorem f122_85 : zft 122 85 = some (.goto (-57), 3) := by decide +kernel
theorem f122_88 : zft 122 88 = some (.iload_n 3, 1) := by decide +kernel
theorem f122_89 : zft 122 89 = some (.iconst (-1), 1) := by decide +kernel
theorem f122_90 : zft 122 90 = some (.if_icmp .eq (-72), 3) := by decide +kernel
theorem f122_93 : zft 122 93 = some (.aload_n 0, 1) := by decide +kernel
theorem f122_94 : zft 122 94 = some (.getfield 83, 3) := by decide +kernel
theorem f122_97 : zft 122 97 = some (.iload_n 3, 1) := by decide +kernel
theorem f122_98 : zft 122 98 = some (.iconst 1, 1) := by decide +kernel
theorem f122_99 : zft 122 99 = some (.bastore, 1) := by decide +kernel
theorem f122_100 : zft 122 100 = some (.aload_n 0, 1) := by decide +kernel
theorem f122_101 : zft 122 101 = some (.getfield 74, 3) := by decide +kernel
theorem f122_104 : zft 122 104 = some (.iload_n 3, 1) := by decide +kernel
theorem f122_105 : zft 122 105 = some (.iaload, 1) := by decide +kernel
theorem f122_106 : zft 122 106 = some (.istore 4, 2) := by decide +kernel
theorem f122_108 : zft 122 108 = some (.aload_n 0, 1) := by decide +kernel
theorem f122_109 : zft 122 109 = some (.getfield 41, 3) := by decide +kernel
theorem f122_112 : zft 122 112 = some (.iload 4, 2) := by decide +kernel
theorem f122_114 : zft 122 114 = some (.iaload, 1) := by decide +kernel
theorem f122_115 : zft 122 115 = some (.ifCond .ne 47, 3) := by decide +kernel
theorem f122_118 : zft 122 118 = some (.aload_n 0, 1) := by decide +kernel
theorem f122_119 : zft 122 119 = some (.getfield 32, 3) := by decide +kernel
theorem f122_122 : zft 122 122 = some (.iload 4, 2) := by decide +kernel
theorem f122_124 : zft 122 124 = some (.iaload, 1) := by decide +kernel
theorem f122_125 : zft 122 125 = some (.aload_n 0, 1) := by decide +kernel
theorem f122_126 : zft 122 126 = some (.getfield 122, 3) := by decide +kernel
theorem f122_129 : zft 122 129 = some (.if_icmp .lt 25, 3) := by decide +kernel
theorem f122_132 : zft 122 132 = some (.aload_n 0, 1) := by decide +kernel
theorem f122_133 : zft 122 133 = some (.iload 4, 2) := by decide +kernel
theorem f122_135 : zft 122 135 = some (.invokevirtual 143, 3) := by decide +kernel
theorem f122_138 : zft 122 138 = some (.iconst (-1), 1) := by decide +kernel
theorem f122_139 : zft 122 139 = some (.if_icmp .ne 15, 3) := by decide +kernel
theorem f122_142 : zft 122 142 = some (.aload_n 0, 1) := by decide +kernel
theorem f122_143 : zft 122 143 = some (.iload 4, 2) := by decide +kernel
theorem f122_145 : zft 122 145 = some (.invokevirtual 146, 3) := by decide +kernel
theorem f122_148 : zft 122 148 = some (.iinc 2 1, 3) := by decide +kernel
theorem f122_151 : zft 122 151 = some (.goto 11, 3) := by decide +kernel
theorem f122_154 : zft 122 154 = some (.aload_n 0, 1) := by decide +kernel
theorem f122_155 : zft 122 155 = some (.getfield 41, 3) := by decide +kernel
theorem f122_158 : zft 122 158 = some (.iload 4, 2) := by decide +kernel
theorem f122_160 : zft 122 160 = some (.iconst 2, 1) := by decide +kernel
theorem f122_161 : zft 122 161 = some (.iastore, 1) := by decide +kernel
theorem f122_162 : zft 122 162 = some (.goto (-144), 3) := by decide +kernel
theorem f122_165 : zft 122 165 = some (.iload_n 2, 1) := by decide +kernel
theorem f122_166 : zft 122 166 = some (.ireturn, 1) := by decide +kernel
theorem o122 : zo 122 = 7 := by decide +kernel
theorem p122 : zp 122 = 1 := by decide +kernel
theorem n122 : zn 122 = 5 := by decide +kernel
theorem v122 : zr 122 = (some .int) := by decide +kernel
theorem f123_0 : zft 123 0 = some (.aload_n 0, 1) := by decide +kernel
theorem f123_1 : zft 123 1 = some (.iload_n 1, 1) := by decide +kernel
theorem f123_2 : zft 123 2 = some (.invokevirtual 125, 3) := by decide +kernel
theorem f123_5 : zft 123 5 = some (.ifCond .ne 6, 3) := by decide +kernel
theorem f123_8 : zft 123 8 = some (.bipush (-2), 2) := by decide +kernel
theorem f123_10 : zft 123 10 = some (.ireturn, 1) := by decide +kernel
theorem f123_11 : zft 123 11 = some (.aload_n 0, 1) := by decide +kernel
theorem f123_12 : zft 123 12 = some (.iload_n 1, 1) := by decide +kernel
theorem f123_13 : zft 123 13 = some (.aload_n 0, 1) := by decide +kernel
theorem f123_14 : zft 123 14 = some (.getfield 122, 3) := by decide +kernel
theorem f123_17 : zft 123 17 = some (.invokevirtual 104, 3) := by decide +kernel
theorem f123_20 : zft 123 20 = some (.istore_n 2, 1) := by decide +kernel
theorem f123_21 : zft 123 21 = some (.iload_n 2, 1) := by decide +kernel
theorem f123_22 : zft 123 22 = some (.iconst (-1), 1) := by decide +kernel
theorem f123_23 : zft 123 23 = some (.if_icmp .eq 21, 3) := by decide +kernel
theorem f123_26 : zft 123 26 = some (.aload_n 0, 1) := by decide +kernel
theorem f123_27 : zft 123 27 = some (.getfield 44, 3) := by decide +kernel
theorem f123_30 : zft 123 30 = some (.iload_n 2, 1) := by decide +kernel
theorem f123_31 : zft 123 31 = some (.baload, 1) := by decide +kernel
theorem f123_32 : zft 123 32 = some (.ifCond .eq 12, 3) := by decide +kernel
theorem f123_35 : zft 123 35 = some (.aload_n 0, 1) := by decide +kernel
theorem f123_36 : zft 123 36 = some (.getfield 56, 3) := by decide +kernel
theorem f123_39 : zft 123 39 = some (.iload_n 1, 1) := by decide +kernel
theorem f123_40 : zft 123 40 = some (.baload, 1) := by decide +kernel
theorem f123_41 : zft 123 41 = some (.ifCond .eq 6, 3) := by decide +kernel
theorem f123_44 : zft 123 44 = some (.bipush (-3), 2) := by decide +kernel
theorem f123_46 : zft 123 46 = some (.ireturn, 1) := by decide +kernel
theorem f123_47 : zft 123 47 = some (.aload_n 0, 1) := by decide +kernel
theorem f123_48 : zft 123 48 = some (.getfield 56, 3) := by decide +kernel
theorem f123_51 : zft 123 51 = some (.iload_n 1, 1) := by decide +kernel
theorem f123_52 : zft 123 52 = some (.iconst 1, 1) := by decide +kernel
theorem f123_53 : zft 123 53 = some (.bastore, 1) := by decide +kernel
theorem f123_54 : zft 123 54 = some (.iconst 1, 1) := by decide +kernel
theorem f123_55 : zft 123 55 = some (.ireturn, 1) := by decide +kernel
theorem o123 : zo 123 = 7 := by decide +kernel
theorem p123 : zp 123 = 1 := by decide +kernel
theorem n123 : zn 123 = 3 := by decide +kernel
theorem v123 : zr 123 = (some .int) := by decide +kernel
theorem f124_0 : zft 124 0 = some (.aload_n 0, 1) := by decide +kernel
theorem f124_1 : zft 124 1 = some (.iload_n 1, 1) := by decide +kernel
theorem f124_2 : zft 124 2 = some (.aload_n 0, 1) := by decide +kernel
theorem f124_3 : zft 124 3 = some (.getfield 122, 3) := by decide +kernel
theorem f124_6 : zft 124 6 = some (.invokevirtual 104, 3) := by decide +kernel
theorem f124_9 : zft 124 9 = some (.istore_n 3, 1) := by decide +kernel
theorem f124_10 : zft 124 10 = some (.iload_n 3, 1) := by decide +kernel
theorem f124_11 : zft 124 11 = some (.iconst (-1), 1) := by decide +kernel
theorem f124_12 : zft 124 12 = some (.if_icmp .eq 35, 3) := by decide +kernel
theorem f124_15 : zft 124 15 = some (.aload_n 0, 1) := by decide +kernel
theorem f124_16 : zft 124 16 = some (.getfield 44, 3) := by decide +kernel
theorem f124_19 : zft 124 19 = some (.iload_n 3, 1) := by decide +kernel
theorem f124_20 : zft 124 20 = some (.baload, 1) := by decide +kernel
theorem f124_21 : zft 124 21 = some (.ifCond .eq 26, 3) := by decide +kernel
theorem f124_24 : zft 124 24 = some (.aload_n 0, 1) := by decide +kernel
theorem f124_25 : zft 124 25 = some (.getfield 38, 3) := by decide +kernel
theorem f124_28 : zft 124 28 = some (.iload_n 3, 1) := by decide +kernel
theorem f124_29 : zft 124 29 = some (.iaload, 1) := by decide +kernel
theorem f124_30 : zft 124 30 = some (.iload_n 2, 1) := by decide +kernel
theorem f124_31 : zft 124 31 = some (.if_icmp .ne 16, 3) := by decide +kernel
theorem f124_34 : zft 124 34 = some (.aload_n 0, 1) := by decide +kernel
theorem f124_35 : zft 124 35 = some (.getfield 56, 3) := by decide +kernel
theorem f124_38 : zft 124 38 = some (.iload_n 1, 1) := by decide +kernel
theorem f124_39 : zft 124 39 = some (.baload, 1) := by decide +kernel
theorem f124_40 : zft 124 40 = some (.ifCond .ne 7, 3) := by decide +kernel
theorem f124_43 : zft 124 43 = some (.iconst 1, 1) := by decide +kernel
theorem f124_44 : zft 124 44 = some (.goto 4, 3) := by decide +kernel
theorem f124_47 : zft 124 47 = some (.iconst 0, 1) := by decide +kernel
theorem f124_48 : zft 124 48 = some (.ireturn, 1) := by decide +kernel
theorem o124 : zo 124 = 7 := by decide +kernel
theorem p124 : zp 124 = 2 := by decide +kernel
theorem n124 : zn 124 = 4 := by decide +kernel
theorem v124 : zr 124 = (some .boolean) := by decide +kernel
theorem f125_0 : zft 125 0 = some (.aload_n 0, 1) := by decide +kernel
theorem f125_1 : zft 125 1 = some (.iload_n 1, 1) := by decide +kernel
theorem f125_2 : zft 125 2 = some (.invokevirtual 97, 3) := by decide +kernel
theorem f125_5 : zft 125 5 = some (.ifCond .eq 23, 3) := by decide +kernel
theorem f125_8 : zft 125 8 = some (.iload_n 2, 1) := by decide +kernel
theorem f125_9 : zft 125 9 = some (.iconst 1, 1) := by decide +kernel
theorem f125_10 : zft 125 10 = some (.bipush 9, 2) := by decide +kernel
theorem f125_12 : zft 125 12 = some (.invokestatic 90, 3) := by decide +kernel
theorem f125_15 : zft 125 15 = some (.ifCond .eq 13, 3) := by decide +kernel
theorem f125_18 : zft 125 18 = some (.iload_n 3, 1) := by decide +kernel
theorem f125_19 : zft 125 19 = some (.iconst 0, 1) := by decide +kernel
theorem f125_20 : zft 125 20 = some (.bipush 23, 2) := by decide +kernel
theorem f125_22 : zft 125 22 = some (.invokestatic 90, 3) := by decide +kernel
theorem f125_25 : zft 125 25 = some (.ifCond .ne 6, 3) := by decide +kernel
theorem f125_28 : zft 125 28 = some (.bipush (-2), 2) := by decide +kernel
theorem f125_30 : zft 125 30 = some (.ireturn, 1) := by decide +kernel
theorem f125_31 : zft 125 31 = some (.aload_n 0, 1) := by decide +kernel
theorem f125_32 : zft 125 32 = some (.getfield 19, 3) := by decide +kernel
theorem f125_35 : zft 125 35 = some (.bipush 40, 2) := by decide +kernel
theorem f125_37 : zft 125 37 = some (.iload_n 1, 1) := by decide +kernel
theorem f125_38 : zft 125 38 = some (.imul, 1) := by decide +kernel
theorem f125_39 : zft 125 39 = some (.aload_n 0, 1) := by decide +kernel
theorem f125_40 : zft 125 40 = some (.getfield 122, 3) := by decide +kernel
theorem f125_43 : zft 125 43 = some (.iadd, 1) := by decide +kernel
theorem f125_44 : zft 125 44 = some (.baload, 1) := by decide +kernel
theorem f125_45 : zft 125 45 = some (.ifCond .eq 6, 3) := by decide +kernel
theorem f125_48 : zft 125 48 = some (.bipush (-3), 2) := by decide +kernel
theorem f125_50 : zft 125 50 = some (.ireturn, 1) := by decide +kernel
theorem f125_51 : zft 125 51 = some (.aload_n 0, 1) := by decide +kernel
theorem f125_52 : zft 125 52 = some (.iload_n 1, 1) := by decide +kernel
theorem f125_53 : zft 125 53 = some (.aload_n 0, 1) := by decide +kernel
theorem f125_54 : zft 125 54 = some (.getfield 122, 3) := by decide +kernel
theorem f125_57 : zft 125 57 = some (.invokevirtual 115, 3) := by decide +kernel
theorem f125_60 : zft 125 60 = some (.istore 4, 2) := by decide +kernel
theorem f125_62 : zft 125 62 = some (.iload 4, 2) := by decide +kernel
theorem f125_64 : zft 125 64 = some (.istore 5, 2) := by decide +kernel
theorem f125_66 : zft 125 66 = some (.iconst 0, 1) := by decide +kernel
theorem f125_67 : zft 125 67 = some (.istore 6, 2) := by decide +kernel
theorem f125_69 : zft 125 69 = some (.iload 6, 2) := by decide +kernel
theorem f125_71 : zft 125 71 = some (.aload_n 0, 1) := by decide +kernel
theorem f125_72 : zft 125 72 = some (.getfield 94, 3) := by decide +kernel
theorem f125_75 : zft 125 75 = some (.if_icmp .ge 35, 3) := by decide +kernel
theorem f125_78 : zft 125 78 = some (.iload 5, 2) := by decide +kernel
theorem f125_80 : zft 125 80 = some (.aload_n 0, 1) := by decide +kernel
theorem f125_81 : zft 125 81 = some (.iload 6, 2) := by decide +kernel
theorem f125_83 : zft 125 83 = some (.iload_n 1, 1) := by decide +kernel
theorem f125_84 : zft 125 84 = some (.invokevirtual 176, 3) := by decide +kernel
theorem f125_87 : zft 125 87 = some (.ifCond .eq 13, 3) := by decide +kernel
theorem f125_90 : zft 125 90 = some (.aload_n 0, 1) := by decide +kernel
theorem f125_91 : zft 125 91 = some (.getfield 29, 3) := by decide +kernel
theorem f125_94 : zft 125 94 = some (.iload 6, 2) := by decide +kernel
theorem f125_96 : zft 125 96 = some (.iaload, 1) := by decide +kernel
theorem f125_97 : zft 125 97 = some (.goto 4, 3) := by decide +kernel
theorem f125_100 : zft 125 100 = some (.iconst 0, 1) := by decide +kernel
theorem f125_101 : zft 125 101 = some (.iadd, 1) := by decide +kernel
theorem f125_102 : zft 125 102 = some (.istore 5, 2) := by decide +kernel
theorem f125_104 : zft 125 104 = some (.iinc 6 1, 3) := by decide +kernel
theorem f125_107 : zft 125 107 = some (.goto (-38), 3) := by decide +kernel
theorem f125_110 : zft 125 110 = some (.iload 4, 2) := by decide +kernel
theorem f125_112 : zft 125 112 = some (.iload_n 2, 1) := by decide +kernel
theorem f125_113 : zft 125 113 = some (.if_icmp .ge 21, 3) := by decide +kernel
theorem f125_116 : zft 125 116 = some (.iload_n 3, 1) := by decide +kernel
theorem f125_117 : zft 125 117 = some (.aload_n 0, 1) := by decide +kernel
theorem f125_118 : zft 125 118 = some (.getfield 13, 3) := by decide +kernel
theorem f125_121 : zft 125 121 = some (.iload_n 1, 1) := by decide +kernel
theorem f125_122 : zft 125 122 = some (.iaload, 1) := by decide +kernel
theorem f125_123 : zft 125 123 = some (.if_icmp .lt 9, 3) := by decide +kernel
theorem f125_126 : zft 125 126 = some (.iload 5, 2) := by decide +kernel
theorem f125_128 : zft 125 128 = some (.iload_n 2, 1) := by decide +kernel
theorem f125_129 : zft 125 129 = some (.if_icmp .ge 5, 3) := by decide +kernel
theorem f125_132 : zft 125 132 = some (.iconst (-1), 1) := by decide +kernel
theorem f125_133 : zft 125 133 = some (.ireturn, 1) := by decide +kernel
theorem f125_134 : zft 125 134 = some (.iconst 0, 1) := by decide +kernel
theorem f125_135 : zft 125 135 = some (.istore 6, 2) := by decide +kernel
theorem f125_137 : zft 125 137 = some (.aload_n 0, 1) := by decide +kernel
theorem f125_138 : zft 125 138 = some (.getfield 94, 3) := by decide +kernel
theorem f125_141 : zft 125 141 = some (.iconst 1, 1) := by decide +kernel
theorem f125_142 : zft 125 142 = some (.isub, 1) := by decide +kernel
theorem f125_143 : zft 125 143 = some (.istore 7, 2) := by decide +kernel
theorem f125_145 : zft 125 145 = some (.iload 7, 2) := by decide +kernel
theorem f125_147 : zft 125 147 = some (.ifCond .lt 58, 3) := by decide +kernel
theorem f125_150 : zft 125 150 = some (.iload 4, 2) := by decide +kernel
theorem f125_152 : zft 125 152 = some (.iload_n 2, 1) := by decide +kernel
theorem f125_153 : zft 125 153 = some (.if_icmp .ge 52, 3) := by decide +kernel
theorem f125_156 : zft 125 156 = some (.aload_n 0, 1) := by decide +kernel
theorem f125_157 : zft 125 157 = some (.iload 7, 2) := by decide +kernel
theorem f125_159 : zft 125 159 = some (.iload_n 1, 1) := by decide +kernel
theorem f125_160 : zft 125 160 = some (.invokevirtual 176, 3) := by decide +kernel
theorem f125_163 : zft 125 163 = some (.ifCond .eq 36, 3) := by decide +kernel
theorem f125_166 : zft 125 166 = some (.iload 4, 2) := by decide +kernel
theorem f125_168 : zft 125 168 = some (.aload_n 0, 1) := by decide +kernel
theorem f125_169 : zft 125 169 = some (.getfield 29, 3) := by decide +kernel
theorem f125_172 : zft 125 172 = some (.iload 7, 2) := by decide +kernel
theorem f125_174 : zft 125 174 = some (.iaload, 1) := by decide +kernel
theorem f125_175 : zft 125 175 = some (.iadd, 1) := by decide +kernel
theorem f125_176 : zft 125 176 = some (.istore 4, 2) := by decide +kernel
theorem f125_178 : zft 125 178 = some (.aload_n 0, 1) := by decide +kernel
theorem f125_179 : zft 125 179 = some (.iload 7, 2) := by decide +kernel
theorem f125_181 : zft 125 181 = some (.aload_n 0, 1) := by decide +kernel
theorem f125_182 : zft 125 182 = some (.getfield 122, 3) := by decide +kernel
theorem f125_185 : zft 125 185 = some (.aload_n 0, 1) := by decide +kernel
theorem f125_186 : zft 125 186 = some (.getfield 32, 3) := by decide +kernel
theorem f125_189 : zft 125 189 = some (.iload 7, 2) := by decide +kernel
theorem f125_191 : zft 125 191 = some (.iaload, 1) := by decide +kernel
theorem f125_192 : zft 125 192 = some (.isub, 1) := by decide +kernel
theorem f125_193 : zft 125 193 = some (.invokevirtual 157, 3) := by decide +kernel
theorem f125_196 : zft 125 196 = some (.iinc 6 1, 3) := by decide +kernel
theorem f125_199 : zft 125 199 = some (.iinc 7 (-1), 3) := by decide +kernel
theorem f125_202 : zft 125 202 = some (.goto (-57), 3) := by decide +kernel
theorem f125_205 : zft 125 205 = some (.aload_n 0, 1) := by decide +kernel
theorem f125_206 : zft 125 206 = some (.iload_n 1, 1) := by decide +kernel
theorem f125_207 : zft 125 207 = some (.aload_n 0, 1) := by decide +kernel
theorem f125_208 : zft 125 208 = some (.getfield 122, 3) := by decide +kernel
theorem f125_211 : zft 125 211 = some (.iload_n 2, 1) := by decide +kernel
theorem f125_212 : zft 125 212 = some (.invokevirtual 118, 3) := by decide +kernel
theorem f125_215 : zft 125 215 = some (.iconst 0, 1) := by decide +kernel
theorem f125_216 : zft 125 216 = some (.istore 7, 2) := by decide +kernel
theorem f125_218 : zft 125 218 = some (.iload 7, 2) := by decide +kernel
theorem f125_220 : zft 125 220 = some (.iconst 3, 1) := by decide +kernel
theorem f125_221 : zft 125 221 = some (.if_icmp .ge 38, 3) := by decide +kernel
theorem f125_224 : zft 125 224 = some (.aload_n 0, 1) := by decide +kernel
theorem f125_225 : zft 125 225 = some (.getfield 23, 3) := by decide +kernel
theorem f125_228 : zft 125 228 = some (.bipush 120, 2) := by decide +kernel
theorem f125_230 : zft 125 230 = some (.iload_n 1, 1) := by decide +kernel
theorem f125_231 : zft 125 231 = some (.imul, 1) := by decide +kernel
theorem f125_232 : zft 125 232 = some (.iconst 3, 1) := by decide +kernel
theorem f125_233 : zft 125 233 = some (.aload_n 0, 1) := by decide +kernel
theorem f125_234 : zft 125 234 = some (.getfield 122, 3) := by decide +kernel
theorem f125_237 : zft 125 237 = some (.imul, 1) := by decide +kernel
theorem f125_238 : zft 125 238 = some (.iadd, 1) := by decide +kernel
theorem f125_239 : zft 125 239 = some (.iload 7, 2) := by decide +kernel
theorem f125_241 : zft 125 241 = some (.iadd, 1) := by decide +kernel
theorem f125_242 : zft 125 242 = some (.dup2, 1) := by decide +kernel
theorem f125_243 : zft 125 243 = some (.iaload, 1) := by decide +kernel
theorem f125_244 : zft 125 244 = some (.aload_n 0, 1) := by decide +kernel
theorem f125_245 : zft 125 245 = some (.getfield 59, 3) := by decide +kernel
theorem f125_248 : zft 125 248 = some (.iload 7, 2) := by decide +kernel
theorem f125_250 : zft 125 250 = some (.iaload, 1) := by decide +kernel
theorem f125_251 : zft 125 251 = some (.iadd, 1) := by decide +kernel
theorem f125_252 : zft 125 252 = some (.iastore, 1) := by decide +kernel
theorem f125_253 : zft 125 253 = some (.iinc 7 1, 3) := by decide +kernel
theorem f125_256 : zft 125 256 = some (.goto (-38), 3) := by decide +kernel
theorem f125_259 : zft 125 259 = some (.aload_n 0, 1) := by decide +kernel
theorem f125_260 : zft 125 260 = some (.dup, 1) := by decide +kernel
theorem f125_261 : zft 125 261 = some (.getfield 179, 3) := by decide +kernel
theorem f125_264 : zft 125 264 = some (.iload_n 2, 1) := by decide +kernel
theorem f125_265 : zft 125 265 = some (.iadd, 1) := by decide +kernel
theorem f125_266 : zft 125 266 = some (.putfield 179, 3) := by decide +kernel
theorem f125_269 : zft 125 269 = some (.iload 6, 2) := by decide +kernel
theorem f125_271 : zft 125 271 = some (.ireturn, 1) := by decide +kernel
theorem o125 : zo 125 = 7 := by decide +kernel
theorem p125 : zp 125 = 3 := by decide +kernel
theorem n125 : zn 125 = 8 := by decide +kernel
theorem v125 : zr 125 = (some .int) := by decide +kernel
theorem f126_0 : zft 126 0 = some (.iconst (-1), 1) := by decide +kernel
theorem f126_1 : zft 126 1 = some (.istore_n 2, 1) := by decide +kernel
theorem f126_2 : zft 126 2 = some (.iconst 0, 1) := by decide +kernel
theorem f126_3 : zft 126 3 = some (.istore_n 3, 1) := by decide +kernel
theorem f126_4 : zft 126 4 = some (.iload_n 3, 1) := by decide +kernel
theorem f126_5 : zft 126 5 = some (.aload_n 0, 1) := by decide +kernel
theorem f126_6 : zft 126 6 = some (.getfield 94, 3) := by decide +kernel
theorem f126_9 : zft 126 9 = some (.if_icmp .ge 82, 3) := by decide +kernel
theorem f126_12 : zft 126 12 = some (.aload_n 0, 1) := by decide +kernel
theorem f126_13 : zft 126 13 = some (.iload_n 3, 1) := by decide +kernel
theorem f126_14 : zft 126 14 = some (.aload_n 0, 1) := by decide +kernel
theorem f126_15 : zft 126 15 = some (.getfield 122, 3) := by decide +kernel
theorem f126_18 : zft 126 18 = some (.invokevirtual 104, 3) := by decide +kernel
theorem f126_21 : zft 126 21 = some (.istore 4, 2) := by decide +kernel
theorem f126_23 : zft 126 23 = some (.iload 4, 2) := by decide +kernel
theorem f126_25 : zft 126 25 = some (.iconst (-1), 1) := by decide +kernel
theorem f126_26 : zft 126 26 = some (.if_icmp .eq 59, 3) := by decide +kernel
theorem f126_29 : zft 126 29 = some (.aload_n 0, 1) := by decide +kernel
theorem f126_30 : zft 126 30 = some (.getfield 56, 3) := by decide +kernel
theorem f126_33 : zft 126 33 = some (.iload_n 3, 1) := by decide +kernel
theorem f126_34 : zft 126 34 = some (.baload, 1) := by decide +kernel
theorem f126_35 : zft 126 35 = some (.ifCond .eq 50, 3) := by decide +kernel
theorem f126_38 : zft 126 38 = some (.aload_n 0, 1) := by decide +kernel
theorem f126_39 : zft 126 39 = some (.getfield 38, 3) := by decide +kernel
theorem f126_42 : zft 126 42 = some (.iload 4, 2) := by decide +kernel
theorem f126_44 : zft 126 44 = some (.iaload, 1) := by decide +kernel
theorem f126_45 : zft 126 45 = some (.iload_n 1, 1) := by decide +kernel
theorem f126_46 : zft 126 46 = some (.if_icmp .ne 39, 3) := by decide +kernel
theorem f126_49 : zft 126 49 = some (.iload_n 2, 1) := by decide +kernel
theorem f126_50 : zft 126 50 = some (.iconst (-1), 1) := by decide +kernel
theorem f126_51 : zft 126 51 = some (.if_icmp .eq 32, 3) := by decide +kernel
theorem f126_54 : zft 126 54 = some (.aload_n 0, 1) := by decide +kernel
theorem f126_55 : zft 126 55 = some (.getfield 53, 3) := by decide +kernel
theorem f126_58 : zft 126 58 = some (.iload_n 3, 1) := by decide +kernel
theorem f126_59 : zft 126 59 = some (.iaload, 1) := by decide +kernel
theorem f126_60 : zft 126 60 = some (.aload_n 0, 1) := by decide +kernel
theorem f126_61 : zft 126 61 = some (.getfield 29, 3) := by decide +kernel
theorem f126_64 : zft 126 64 = some (.iload_n 2, 1) := by decide +kernel
theorem f126_65 : zft 126 65 = some (.iaload, 1) := by decide +kernel
theorem f126_66 : zft 126 66 = some (.imul, 1) := by decide +kernel
theorem f126_67 : zft 126 67 = some (.aload_n 0, 1) := by decide +kernel
theorem f126_68 : zft 126 68 = some (.getfield 53, 3) := by decide +kernel
theorem f126_71 : zft 126 71 = some (.iload_n 2, 1) := by decide +kernel
theorem f126_72 : zft 126 72 = some (.iaload, 1) := by decide +kernel
theorem f126_73 : zft 126 73 = some (.aload_n 0, 1) := by decide +kernel
theorem f126_74 : zft 126 74 = some (.getfield 29, 3) := by decide +kernel
theorem f126_77 : zft 126 77 = some (.iload_n 3, 1) := by decide +kernel
theorem f126_78 : zft 126 78 = some (.iaload, 1) := by decide +kernel
theorem f126_79 : zft 126 79 = some (.imul, 1) := by decide +kernel
theorem f126_80 : zft 126 80 = some (.if_icmp .ge 5, 3) := by decide +kernel
theorem f126_83 : zft 126 83 = some (.iload_n 3, 1) := by decide +kernel
theorem f126_84 : zft 126 84 = some (.istore_n 2, 1) := by decide +kernel
theorem f126_85 : zft 126 85 = some (.iinc 3 1, 3) := by decide +kernel
theorem f126_88 : zft 126 88 = some (.goto (-84), 3) := by decide +kernel
theorem f126_91 : zft 126 91 = some (.iload_n 2, 1) := by decide +kernel
theorem f126_92 : zft 126 92 = some (.ireturn, 1) := by decide +kernel
theorem o126 : zo 126 = 7 := by decide +kernel
theorem p126 : zp 126 = 1 := by decide +kernel
theorem n126 : zn 126 = 5 := by decide +kernel
theorem v126 : zr 126 = (some .int) := by decide +kernel
theorem f127_0 : zft 127 0 = some (.aload_n 0, 1) := by decide +kernel
theorem f127_1 : zft 127 1 = some (.getfield 122, 3) := by decide +kernel
theorem f127_4 : zft 127 4 = some (.bipush 39, 2) := by decide +kernel
theorem f127_6 : zft 127 6 = some (.if_icmp .ne 6, 3) := by decide +kernel
theorem f127_9 : zft 127 9 = some (.bipush (-4), 2) := by decide +kernel
theorem f127_11 : zft 127 11 = some (.ireturn, 1) := by decide +kernel
theorem f127_12 : zft 127 12 = some (.iconst 0, 1) := by decide +kernel
theorem f127_13 : zft 127 13 = some (.istore_n 1, 1) := by decide +kernel
theorem f127_14 : zft 127 14 = some (.iconst 0, 1) := by decide +kernel
theorem f127_15 : zft 127 15 = some (.istore_n 2, 1) := by decide +kernel
theorem f127_16 : zft 127 16 = some (.iload_n 2, 1) := by decide +kernel
theorem f127_17 : zft 127 17 = some (.aload_n 0, 1) := by decide +kernel
theorem f127_18 : zft 127 18 = some (.getfield 94, 3) := by decide +kernel
theorem f127_21 : zft 127 21 = some (.if_icmp .ge 36, 3) := by decide +kernel
theorem f127_24 : zft 127 24 = some (.aload_n 0, 1) := by decide +kernel
theorem f127_25 : zft 127 25 = some (.getfield 56, 3) := by decide +kernel
theorem f127_28 : zft 127 28 = some (.iload_n 2, 1) := by decide +kernel
theorem f127_29 : zft 127 29 = some (.baload, 1) := by decide +kernel
theorem f127_30 : zft 127 30 = some (.ifCond .eq 21, 3) := by decide +kernel
theorem f127_33 : zft 127 33 = some (.aload_n 0, 1) := by decide +kernel
theorem f127_34 : zft 127 34 = some (.getfield 50, 3) := by decide +kernel
theorem f127_37 : zft 127 37 = some (.aload_n 0, 1) := by decide +kernel
theorem f127_38 : zft 127 38 = some (.iload_n 2, 1) := by decide +kernel
theorem f127_39 : zft 127 39 = some (.aload_n 0, 1) := by decide +kernel
theorem f127_40 : zft 127 40 = some (.getfield 122, 3) := by decide +kernel
theorem f127_43 : zft 127 43 = some (.invokevirtual 104, 3) := by decide +kernel
theorem f127_46 : zft 127 46 = some (.iconst 1, 1) := by decide +kernel
theorem f127_47 : zft 127 47 = some (.bastore, 1) := by decide +kernel
theorem f127_48 : zft 127 48 = some (.iinc 1 1, 3) := by decide +kernel
theorem f127_51 : zft 127 51 = some (.iinc 2 1, 3) := by decide +kernel
theorem f127_54 : zft 127 54 = some (.goto (-38), 3) := by decide +kernel
theorem f127_57 : zft 127 57 = some (.iconst 0, 1) := by decide +kernel
theorem f127_58 : zft 127 58 = some (.istore_n 2, 1) := by decide +kernel
theorem f127_59 : zft 127 59 = some (.iload_n 2, 1) := by decide +kernel
theorem f127_60 : zft 127 60 = some (.aload_n 0, 1) := by decide +kernel
theorem f127_61 : zft 127 61 = some (.getfield 86, 3) := by decide +kernel
theorem f127_64 : zft 127 64 = some (.if_icmp .ge 51, 3) := by decide +kernel
theorem f127_67 : zft 127 67 = some (.iconst 0, 1) := by decide +kernel
theorem f127_68 : zft 127 68 = some (.istore_n 3, 1) := by decide +kernel
theorem f127_69 : zft 127 69 = some (.iload_n 3, 1) := by decide +kernel
theorem f127_70 : zft 127 70 = some (.aload_n 0, 1) := by decide +kernel
theorem f127_71 : zft 127 71 = some (.getfield 16, 3) := by decide +kernel
theorem f127_74 : zft 127 74 = some (.iload_n 2, 1) := by decide +kernel
theorem f127_75 : zft 127 75 = some (.iaload, 1) := by decide +kernel
theorem f127_76 : zft 127 76 = some (.if_icmp .ge 33, 3) := by decide +kernel
theorem f127_79 : zft 127 79 = some (.aload_n 0, 1) := by decide +kernel
theorem f127_80 : zft 127 80 = some (.iload_n 2, 1) := by decide +kernel
theorem f127_81 : zft 127 81 = some (.invokevirtual 182, 3) := by decide +kernel
theorem f127_84 : zft 127 84 = some (.istore 4, 2) := by decide +kernel
theorem f127_86 : zft 127 86 = some (.iload 4, 2) := by decide +kernel
theorem f127_88 : zft 127 88 = some (.iconst (-1), 1) := by decide +kernel
theorem f127_89 : zft 127 89 = some (.if_icmp .eq 14, 3) := by decide +kernel
theorem f127_92 : zft 127 92 = some (.aload_n 0, 1) := by decide +kernel
theorem f127_93 : zft 127 93 = some (.getfield 53, 3) := by decide +kernel
theorem f127_96 : zft 127 96 = some (.iload 4, 2) := by decide +kernel
theorem f127_98 : zft 127 98 = some (.dup2, 1) := by decide +kernel
theorem f127_99 : zft 127 99 = some (.iaload, 1) := by decide +kernel
theorem f127_100 : zft 127 100 = some (.iconst 1, 1) := by decide +kernel
theorem f127_101 : zft 127 101 = some (.iadd, 1) := by decide +kernel
theorem f127_102 : zft 127 102 = some (.iastore, 1) := by decide +kernel
theorem f127_103 : zft 127 103 = some (.iinc 3 1, 3) := by decide +kernel
theorem f127_106 : zft 127 106 = some (.goto (-37), 3) := by decide +kernel
theorem f127_109 : zft 127 109 = some (.iinc 2 1, 3) := by decide +kernel
theorem f127_112 : zft 127 112 = some (.goto (-53), 3) := by decide +kernel
theorem f127_115 : zft 127 115 = some (.iconst 0, 1) := by decide +kernel
theorem f127_116 : zft 127 116 = some (.istore_n 2, 1) := by decide +kernel
theorem f127_117 : zft 127 117 = some (.iload_n 2, 1) := by decide +kernel
theorem f127_118 : zft 127 118 = some (.aload_n 0, 1) := by decide +kernel
theorem f127_119 : zft 127 119 = some (.getfield 94, 3) := by decide +kernel
theorem f127_122 : zft 127 122 = some (.if_icmp .ge 64, 3) := by decide +kernel
theorem f127_125 : zft 127 125 = some (.aload_n 0, 1) := by decide +kernel
theorem f127_126 : zft 127 126 = some (.getfield 56, 3) := by decide +kernel
theorem f127_129 : zft 127 129 = some (.iload_n 2, 1) := by decide +kernel
theorem f127_130 : zft 127 130 = some (.iconst 0, 1) := by decide +kernel
theorem f127_131 : zft 127 131 = some (.bastore, 1) := by decide +kernel
theorem f127_132 : zft 127 132 = some (.aload_n 0, 1) := by decide +kernel
theorem f127_133 : zft 127 133 = some (.getfield 41, 3) := by decide +kernel
theorem f127_136 : zft 127 136 = some (.iload_n 2, 1) := by decide +kernel
theorem f127_137 : zft 127 137 = some (.aload_n 0, 1) := by decide +kernel
theorem f127_138 : zft 127 138 = some (.getfield 41, 3) := by decide +kernel
theorem f127_141 : zft 127 141 = some (.iload_n 2, 1) := by decide +kernel
theorem f127_142 : zft 127 142 = some (.iaload, 1) := by decide +kernel
theorem f127_143 : zft 127 143 = some (.iconst 1, 1) := by decide +kernel
theorem f127_144 : zft 127 144 = some (.if_icmp .ne 29, 3) := by decide +kernel
theorem f127_147 : zft 127 147 = some (.aload_n 0, 1) := by decide +kernel
theorem f127_148 : zft 127 148 = some (.getfield 32, 3) := by decide +kernel
theorem f127_151 : zft 127 151 = some (.iload_n 2, 1) := by decide +kernel
theorem f127_152 : zft 127 152 = some (.iaload, 1) := by decide +kernel
theorem f127_153 : zft 127 153 = some (.aload_n 0, 1) := by decide +kernel
theorem f127_154 : zft 127 154 = some (.getfield 35, 3) := by decide +kernel
theorem f127_157 : zft 127 157 = some (.iload_n 2, 1) := by decide +kernel
theorem f127_158 : zft 127 158 = some (.iaload, 1) := by decide +kernel
theorem f127_159 : zft 127 159 = some (.iadd, 1) := by decide +kernel
theorem f127_160 : zft 127 160 = some (.iconst 1, 1) := by decide +kernel
theorem f127_161 : zft 127 161 = some (.isub, 1) := by decide +kernel
theorem f127_162 : zft 127 162 = some (.aload_n 0, 1) := by decide +kernel
theorem f127_163 : zft 127 163 = some (.getfield 122, 3) := by decide +kernel
theorem f127_166 : zft 127 166 = some (.if_icmp .ne 7, 3) := by decide +kernel
theorem f127_169 : zft 127 169 = some (.iconst 3, 1) := by decide +kernel
theorem f127_170 : zft 127 170 = some (.goto 9, 3) := by decide +kernel
theorem f127_173 : zft 127 173 = some (.aload_n 0, 1) := by decide +kernel
theorem f127_174 : zft 127 174 = some (.getfield 41, 3) := by decide +kernel
theorem f127_177 : zft 127 177 = some (.iload_n 2, 1) := by decide +kernel
theorem f127_178 : zft 127 178 = some (.iaload, 1) := by decide +kernel
theorem f127_179 : zft 127 179 = some (.iastore, 1) := by decide +kernel
theorem f127_180 : zft 127 180 = some (.iinc 2 1, 3) := by decide +kernel
theorem f127_183 : zft 127 183 = some (.goto (-66), 3) := by decide +kernel
theorem f127_186 : zft 127 186 = some (.aload_n 0, 1) := by decide +kernel
theorem f127_187 : zft 127 187 = some (.dup, 1) := by decide +kernel
theorem f127_188 : zft 127 188 = some (.getfield 122, 3) := by decide +kernel
theorem f127_191 : zft 127 191 = some (.iconst 1, 1) := by decide +kernel
theorem f127_192 : zft 127 192 = some (.iadd, 1) := by decide +kernel
theorem f127_193 : zft 127 193 = some (.putfield 122, 3) := by decide +kernel
theorem f127_196 : zft 127 196 = some (.iload_n 1, 1) := by decide +kernel
theorem f127_197 : zft 127 197 = some (.ireturn, 1) := by decide +kernel
theorem o127 : zo 127 = 7 := by decide +kernel
theorem p127 : zp 127 = 0 := by decide +kernel
theorem n127 : zn 127 = 5 := by decide +kernel
theorem v127 : zr 127 = (some .int) := by decide +kernel
theorem f128_0 : zft 128 0 = some (.aload_n 0, 1) := by decide +kernel
theorem f128_1 : zft 128 1 = some (.iload_n 1, 1) := by decide +kernel
theorem f128_2 : zft 128 2 = some (.invokevirtual 97, 3) := by decide +kernel
theorem f128_5 : zft 128 5 = some (.ifCond .eq 16, 3) := by decide +kernel
theorem f128_8 : zft 128 8 = some (.iload_n 2, 1) := by decide +kernel
theorem f128_9 : zft 128 9 = some (.aload_n 0, 1) := by decide +kernel
theorem f128_10 : zft 128 10 = some (.getfield 122, 3) := by decide +kernel
theorem f128_13 : zft 128 13 = some (.bipush 39, 2) := by decide +kernel
theorem f128_15 : zft 128 15 = some (.invokestatic 90, 3) := by decide +kernel
theorem f128_18 : zft 128 18 = some (.ifCond .ne 6, 3) := by decide +kernel
theorem f128_21 : zft 128 21 = some (.bipush (-2), 2) := by decide +kernel
theorem f128_23 : zft 128 23 = some (.ireturn, 1) := by decide +kernel
theorem f128_24 : zft 128 24 = some (.iconst 0, 1) := by decide +kernel
theorem f128_25 : zft 128 25 = some (.istore_n 3, 1) := by decide +kernel
theorem f128_26 : zft 128 26 = some (.iconst 0, 1) := by decide +kernel
theorem f128_27 : zft 128 27 = some (.istore 4, 2) := by decide +kernel
theorem f128_29 : zft 128 29 = some (.iload 4, 2) := by decide +kernel
theorem f128_31 : zft 128 31 = some (.aload_n 0, 1) := by decide +kernel
theorem f128_32 : zft 128 32 = some (.getfield 94, 3) := by decide +kernel
theorem f128_35 : zft 128 35 = some (.if_icmp .ge 59, 3) := by decide +kernel
theorem f128_38 : zft 128 38 = some (.aload_n 0, 1) := by decide +kernel
theorem f128_39 : zft 128 39 = some (.iload 4, 2) := by decide +kernel
theorem f128_41 : zft 128 41 = some (.iload_n 2, 1) := by decide +kernel
theorem f128_42 : zft 128 42 = some (.invokevirtual 104, 3) := by decide +kernel
theorem f128_45 : zft 128 45 = some (.istore 5, 2) := by decide +kernel
theorem f128_47 : zft 128 47 = some (.iload_n 3, 1) := by decide +kernel
theorem f128_48 : zft 128 48 = some (.iload 5, 2) := by decide +kernel
theorem f128_50 : zft 128 50 = some (.iconst (-1), 1) := by decide +kernel
theorem f128_51 : zft 128 51 = some (.if_icmp .eq 34, 3) := by decide +kernel
theorem f128_54 : zft 128 54 = some (.aload_n 0, 1) := by decide +kernel
theorem f128_55 : zft 128 55 = some (.getfield 44, 3) := by decide +kernel
theorem f128_58 : zft 128 58 = some (.iload 5, 2) := by decide +kernel
theorem f128_60 : zft 128 60 = some (.baload, 1) := by decide +kernel
theorem f128_61 : zft 128 61 = some (.ifCond .eq 24, 3) := by decide +kernel
theorem f128_64 : zft 128 64 = some (.aload_n 0, 1) := by decide +kernel
theorem f128_65 : zft 128 65 = some (.getfield 38, 3) := by decide +kernel
theorem f128_68 : zft 128 68 = some (.iload 5, 2) := by decide +kernel
theorem f128_70 : zft 128 70 = some (.iaload, 1) := by decide +kernel
theorem f128_71 : zft 128 71 = some (.iload_n 1, 1) := by decide +kernel
theorem f128_72 : zft 128 72 = some (.if_icmp .ne 13, 3) := by decide +kernel
theorem f128_75 : zft 128 75 = some (.aload_n 0, 1) := by decide +kernel
theorem f128_76 : zft 128 76 = some (.getfield 29, 3) := by decide +kernel
theorem f128_79 : zft 128 79 = some (.iload 4, 2) := by decide +kernel
theorem f128_81 : zft 128 81 = some (.iaload, 1) := by decide +kernel
theorem f128_82 : zft 128 82 = some (.goto 4, 3) := by decide +kernel
theorem f128_85 : zft 128 85 = some (.iconst 0, 1) := by decide +kernel
theorem f128_86 : zft 128 86 = some (.iadd, 1) := by decide +kernel
theorem f128_87 : zft 128 87 = some (.istore_n 3, 1) := by decide +kernel
theorem f128_88 : zft 128 88 = some (.iinc 4 1, 3) := by decide +kernel
theorem f128_91 : zft 128 91 = some (.goto (-62), 3) := by decide +kernel
theorem f128_94 : zft 128 94 = some (.iconst 0, 1) := by decide +kernel
theorem f128_95 : zft 128 95 = some (.istore 4, 2) := by decide +kernel
theorem f128_97 : zft 128 97 = some (.iconst 0, 1) := by decide +kernel
theorem f128_98 : zft 128 98 = some (.istore 5, 2) := by decide +kernel
theorem f128_100 : zft 128 100 = some (.iload 5, 2) := by decide +kernel
theorem f128_102 : zft 128 102 = some (.iconst 3, 1) := by decide +kernel
theorem f128_103 : zft 128 103 = some (.aload_n 0, 1) := by decide +kernel
theorem f128_104 : zft 128 104 = some (.getfield 122, 3) := by decide +kernel
theorem f128_107 : zft 128 107 = some (.imul, 1) := by decide +kernel
theorem f128_108 : zft 128 108 = some (.if_icmp .ge 26, 3) := by decide +kernel
theorem f128_111 : zft 128 111 = some (.iload 4, 2) := by decide +kernel
theorem f128_113 : zft 128 113 = some (.aload_n 0, 1) := by decide +kernel
theorem f128_114 : zft 128 114 = some (.getfield 23, 3) := by decide +kernel
theorem f128_117 : zft 128 117 = some (.bipush 120, 2) := by decide +kernel
theorem f128_119 : zft 128 119 = some (.iload_n 1, 1) := by decide +kernel
theorem f128_120 : zft 128 120 = some (.imul, 1) := by decide +kernel
theorem f128_121 : zft 128 121 = some (.iload 5, 2) := by decide +kernel
theorem f128_123 : zft 128 123 = some (.iadd, 1) := by decide +kernel
theorem f128_124 : zft 128 124 = some (.iaload, 1) := by decide +kernel
theorem f128_125 : zft 128 125 = some (.iadd, 1) := by decide +kernel
theorem f128_126 : zft 128 126 = some (.istore 4, 2) := by decide +kernel
theorem f128_128 : zft 128 128 = some (.iinc 5 1, 3) := by decide +kernel
theorem f128_131 : zft 128 131 = some (.goto (-31), 3) := by decide +kernel
theorem f128_134 : zft 128 134 = some (.iload_n 3, 1) := by decide +kernel
theorem f128_135 : zft 128 135 = some (.aload_n 0, 1) := by decide +kernel
theorem f128_136 : zft 128 136 = some (.getfield 122, 3) := by decide +kernel
theorem f128_139 : zft 128 139 = some (.ifCond .ne 7, 3) := by decide +kernel
theorem f128_142 : zft 128 142 = some (.iconst 0, 1) := by decide +kernel
theorem f128_143 : zft 128 143 = some (.goto 10, 3) := by decide +kernel
theorem f128_146 : zft 128 146 = some (.iload 4, 2) := by decide +kernel
theorem f128_148 : zft 128 148 = some (.aload_n 0, 1) := by decide +kernel
theorem f128_149 : zft 128 149 = some (.getfield 122, 3) := by decide +kernel
theorem f128_152 : zft 128 152 = some (.idiv, 1) := by decide +kernel
theorem f128_153 : zft 128 153 = some (.iadd, 1) := by decide +kernel
theorem f128_154 : zft 128 154 = some (.ireturn, 1) := by decide +kernel
theorem o128 : zo 128 = 7 := by decide +kernel
theorem p128 : zp 128 = 2 := by decide +kernel
theorem n128 : zn 128 = 6 := by decide +kernel
theorem v128 : zr 128 = (some .int) := by decide +kernel
theorem f129_0 : zft 129 0 = some (.iconst 0, 1) := by decide +kernel
theorem f129_1 : zft 129 1 = some (.istore_n 2, 1) := by decide +kernel
theorem f129_2 : zft 129 2 = some (.iconst 0, 1) := by decide +kernel
theorem f129_3 : zft 129 3 = some (.istore_n 3, 1) := by decide +kernel
theorem f129_4 : zft 129 4 = some (.iload_n 3, 1) := by decide +kernel
theorem f129_5 : zft 129 5 = some (.aload_n 0, 1) := by decide +kernel
theorem f129_6 : zft 129 6 = some (.getfield 94, 3) := by decide +kernel
theorem f129_9 : zft 129 9 = some (.if_icmp .ge 27, 3) := by decide +kernel
theorem f129_12 : zft 129 12 = some (.iload_n 2, 1) := by decide +kernel
theorem f129_13 : zft 129 13 = some (.aload_n 0, 1) := by decide +kernel
theorem f129_14 : zft 129 14 = some (.getfield 41, 3) := by decide +kernel
theorem f129_17 : zft 129 17 = some (.iload_n 3, 1) := by decide +kernel
theorem f129_18 : zft 129 18 = some (.iaload, 1) := by decide +kernel
theorem f129_19 : zft 129 19 = some (.iload_n 1, 1) := by decide +kernel
theorem f129_20 : zft 129 20 = some (.if_icmp .ne 7, 3) := by decide +kernel
theorem f129_23 : zft 129 23 = some (.iconst 1, 1) := by decide +kernel
theorem f129_24 : zft 129 24 = some (.goto 4, 3) := by decide +kernel
theorem f129_27 : zft 129 27 = some (.iconst 0, 1) := by decide +kernel
theorem f129_28 : zft 129 28 = some (.iadd, 1) := by decide +kernel
theorem f129_29 : zft 129 29 = some (.istore_n 2, 1) := by decide +kernel
theorem f129_30 : zft 129 30 = some (.iinc 3 1, 3) := by decide +kernel
theorem f129_33 : zft 129 33 = some (.goto (-29), 3) := by decide +kernel
theorem f129_36 : zft 129 36 = some (.iload_n 2, 1) := by decide +kernel
theorem f129_37 : zft 129 37 = some (.ireturn, 1) := by decide +kernel
theorem o129 : zo 129 = 7 := by decide +kernel
theorem p129 : zp 129 = 1 := by decide +kernel
theorem n129 : zn 129 = 4 := by decide +kernel
theorem v129 : zr 129 = (some .int) := by decide +kernel
theorem f130_0 : zft 130 0 = some (.iload_n 1, 1) := by decide +kernel
theorem f130_1 : zft 130 1 = some (.tableswitch 140 0 9 #[55, 60, 65, 70, 75, 112, 118, 124, 130, 135], 55) := by decide +kernel
theorem f130_56 : zft 130 56 = some (.aload_n 0, 1) := by decide +kernel
theorem f130_57 : zft 130 57 = some (.getfield 86, 3) := by decide +kernel
theorem f130_60 : zft 130 60 = some (.ireturn, 1) := by decide +kernel
theorem f130_61 : zft 130 61 = some (.aload_n 0, 1) := by decide +kernel
theorem f130_62 : zft 130 62 = some (.getfield 101, 3) := by decide +kernel
theorem f130_65 : zft 130 65 = some (.ireturn, 1) := by decide +kernel
theorem f130_66 : zft 130 66 = some (.aload_n 0, 1) := by decide +kernel
theorem f130_67 : zft 130 67 = some (.getfield 94, 3) := by decide +kernel
theorem f130_70 : zft 130 70 = some (.ireturn, 1) := by decide +kernel
theorem f130_71 : zft 130 71 = some (.aload_n 0, 1) := by decide +kernel
theorem f130_72 : zft 130 72 = some (.getfield 122, 3) := by decide +kernel
theorem f130_75 : zft 130 75 = some (.ireturn, 1) := by decide +kernel
theorem f130_76 : zft 130 76 = some (.iconst 0, 1) := by decide +kernel
theorem f130_77 : zft 130 77 = some (.istore_n 2, 1) := by decide +kernel
theorem f130_78 : zft 130 78 = some (.iconst 0, 1) := by decide +kernel
theorem f130_79 : zft 130 79 = some (.istore_n 3, 1) := by decide +kernel
theorem f130_80 : zft 130 80 = some (.iload_n 3, 1) := by decide +kernel
theorem f130_81 : zft 130 81 = some (.aload_n 0, 1) := by decide +kernel
theorem f130_82 : zft 130 82 = some (.getfield 173, 3) := by decide +kernel
theorem f130_85 : zft 130 85 = some (.if_icmp .ge 26, 3) := by decide +kernel
theorem f130_88 : zft 130 88 = some (.iload_n 2, 1) := by decide +kernel
theorem f130_89 : zft 130 89 = some (.aload_n 0, 1) := by decide +kernel
theorem f130_90 : zft 130 90 = some (.getfield 83, 3) := by decide +kernel
theorem f130_93 : zft 130 93 = some (.iload_n 3, 1) := by decide +kernel
theorem f130_94 : zft 130 94 = some (.baload, 1) := by decide +kernel
theorem f130_95 : zft 130 95 = some (.ifCond .eq 7, 3) := by decide +kernel
theorem f130_98 : zft 130 98 = some (.iconst 0, 1) := by decide +kernel
theorem f130_99 : zft 130 99 = some (.goto 4, 3) := by decide +kernel
theorem f130_102 : zft 130 102 = some (.iconst 1, 1) := by decide +kernel
theorem f130_103 : zft 130 103 = some (.iadd, 1) := by decide +kernel
theorem f130_104 : zft 130 104 = some (.istore_n 2, 1) := by decide +kernel
theorem f130_105 : zft 130 105 = some (.iinc 3 1, 3) := by decide +kernel
theorem f130_108 : zft 130 108 = some (.goto (-28), 3) := by decide +kernel
theorem f130_111 : zft 130 111 = some (.iload_n 2, 1) := by decide +kernel
theorem f130_112 : zft 130 112 = some (.ireturn, 1) := by decide +kernel
theorem f130_113 : zft 130 113 = some (.aload_n 0, 1) := by decide +kernel
theorem f130_114 : zft 130 114 = some (.iconst 1, 1) := by decide +kernel
theorem f130_115 : zft 130 115 = some (.invokevirtual 185, 3) := by decide +kernel
theorem f130_118 : zft 130 118 = some (.ireturn, 1) := by decide +kernel
theorem f130_119 : zft 130 119 = some (.aload_n 0, 1) := by decide +kernel
theorem f130_120 : zft 130 120 = some (.iconst 2, 1) := by decide +kernel
theorem f130_121 : zft 130 121 = some (.invokevirtual 185, 3) := by decide +kernel
theorem f130_124 : zft 130 124 = some (.ireturn, 1) := by decide +kernel
theorem f130_125 : zft 130 125 = some (.aload_n 0, 1) := by decide +kernel
theorem f130_126 : zft 130 126 = some (.iconst 3, 1) := by decide +kernel
theorem f130_127 : zft 130 127 = some (.invokevirtual 185, 3) := by decide +kernel
theorem f130_130 : zft 130 130 = some (.ireturn, 1) := by decide +kernel
theorem f130_131 : zft 130 131 = some (.aload_n 0, 1) := by decide +kernel
theorem f130_132 : zft 130 132 = some (.getfield 154, 3) := by decide +kernel
theorem f130_135 : zft 130 135 = some (.ireturn, 1) := by decide +kernel
theorem f130_136 : zft 130 136 = some (.aload_n 0, 1) := by decide +kernel
theorem f130_137 : zft 130 137 = some (.getfield 179, 3) := by decide +kernel
theorem f130_140 : zft 130 140 = some (.ireturn, 1) := by decide +kernel
theorem f130_141 : zft 130 141 = some (.bipush (-2), 2) := by decide +kernel
theorem f130_143 : zft 130 143 = some (.ireturn, 1) := by decide +kernel
theorem o130 : zo 130 = 7 := by decide +kernel
theorem p130 : zp 130 = 1 := by decide +kernel
theorem n130 : zn 130 = 4 := by decide +kernel
theorem v130 : zr 130 = (some .int) := by decide +kernel
theorem f131_0 : zft 131 0 = some (.ldc2_w 188, 3) := by decide +kernel
theorem f131_3 : zft 131 3 = some (.lstore_n 1, 1) := by decide +kernel
theorem f131_4 : zft 131 4 = some (.iconst 0, 1) := by decide +kernel
theorem f131_5 : zft 131 5 = some (.istore_n 3, 1) := by decide +kernel
theorem f131_6 : zft 131 6 = some (.iload_n 3, 1) := by decide +kernel
theorem f131_7 : zft 131 7 = some (.bipush 10, 2) := by decide +kernel
theorem f131_9 : zft 131 9 = some (.if_icmp .ge 22, 3) := by decide +kernel
theorem f131_12 : zft 131 12 = some (.ldc2_w 190, 3) := by decide +kernel
theorem f131_15 : zft 131 15 = some (.lload_n 1, 1) := by decide +kernel
theorem f131_16 : zft 131 16 = some (.lmul, 1) := by decide +kernel
theorem f131_17 : zft 131 17 = some (.aload_n 0, 1) := by decide +kernel
theorem f131_18 : zft 131 18 = some (.iload_n 3, 1) := by decide +kernel
theorem f131_19 : zft 131 19 = some (.invokevirtual 192, 3) := by decide +kernel
theorem f131_22 : zft 131 22 = some (.i2l, 1) := by decide +kernel
theorem f131_23 : zft 131 23 = some (.ladd, 1) := by decide +kernel
theorem f131_24 : zft 131 24 = some (.lstore_n 1, 1) := by decide +kernel
theorem f131_25 : zft 131 25 = some (.iinc 3 1, 3) := by decide +kernel
theorem f131_28 : zft 131 28 = some (.goto (-22), 3) := by decide +kernel
theorem f131_31 : zft 131 31 = some (.iconst 0, 1) := by decide +kernel
theorem f131_32 : zft 131 32 = some (.istore_n 3, 1) := by decide +kernel
theorem f131_33 : zft 131 33 = some (.iload_n 3, 1) := by decide +kernel
theorem f131_34 : zft 131 34 = some (.aload_n 0, 1) := by decide +kernel
theorem f131_35 : zft 131 35 = some (.getfield 94, 3) := by decide +kernel
theorem f131_38 : zft 131 38 = some (.if_icmp .ge 80, 3) := by decide +kernel
theorem f131_41 : zft 131 41 = some (.iconst 3, 1) := by decide +kernel
theorem f131_42 : zft 131 42 = some (.istore 4, 2) := by decide +kernel
theorem f131_44 : zft 131 44 = some (.iload 4, 2) := by decide +kernel
theorem f131_46 : zft 131 46 = some (.bipush 7, 2) := by decide +kernel
theorem f131_48 : zft 131 48 = some (.if_icmp .ge 24, 3) := by decide +kernel
theorem f131_51 : zft 131 51 = some (.ldc2_w 190, 3) := by decide +kernel
theorem f131_54 : zft 131 54 = some (.lload_n 1, 1) := by decide +kernel
theorem f131_55 : zft 131 55 = some (.lmul, 1) := by decide +kernel
theorem f131_56 : zft 131 56 = some (.aload_n 0, 1) := by decide +kernel
theorem f131_57 : zft 131 57 = some (.iload_n 3, 1) := by decide +kernel
theorem f131_58 : zft 131 58 = some (.iload 4, 2) := by decide +kernel
theorem f131_60 : zft 131 60 = some (.invokevirtual 195, 3) := by decide +kernel
theorem f131_63 : zft 131 63 = some (.i2l, 1) := by decide +kernel
theorem f131_64 : zft 131 64 = some (.ladd, 1) := by decide +kernel
theorem f131_65 : zft 131 65 = some (.lstore_n 1, 1) := by decide +kernel
theorem f131_66 : zft 131 66 = some (.iinc 4 1, 3) := by decide +kernel
theorem f131_69 : zft 131 69 = some (.goto (-25), 3) := by decide +kernel
theorem f131_72 : zft 131 72 = some (.iconst 0, 1) := by decide +kernel
theorem f131_73 : zft 131 73 = some (.istore 4, 2) := by decide +kernel
theorem f131_75 : zft 131 75 = some (.iload 4, 2) := by decide +kernel
theorem f131_77 : zft 131 77 = some (.aload_n 0, 1) := by decide +kernel
theorem f131_78 : zft 131 78 = some (.getfield 35, 3) := by decide +kernel
theorem f131_81 : zft 131 81 = some (.iload_n 3, 1) := by decide +kernel
theorem f131_82 : zft 131 82 = some (.iaload, 1) := by decide +kernel
theorem f131_83 : zft 131 83 = some (.if_icmp .ge 29, 3) := by decide +kernel
theorem f131_86 : zft 131 86 = some (.ldc2_w 190, 3) := by decide +kernel
theorem f131_89 : zft 131 89 = some (.lload_n 1, 1) := by decide +kernel
theorem f131_90 : zft 131 90 = some (.lmul, 1) := by decide +kernel
theorem f131_91 : zft 131 91 = some (.aload_n 0, 1) := by decide +kernel
theorem f131_92 : zft 131 92 = some (.getfield 38, 3) := by decide +kernel
theorem f131_95 : zft 131 95 = some (.bipush 7, 2) := by decide +kernel
theorem f131_97 : zft 131 97 = some (.iload_n 3, 1) := by decide +kernel
theorem f131_98 : zft 131 98 = some (.imul, 1) := by decide +kernel
theorem f131_99 : zft 131 99 = some (.iload 4, 2) := by decide +kernel
theorem f131_101 : zft 131 101 = some (.iadd, 1) := by decide +kernel
theorem f131_102 : zft 131 102 = some (.iaload, 1) := by decide +kernel
theorem f131_103 : zft 131 103 = some (.i2l, 1) := by decide +kernel
theorem f131_104 : zft 131 104 = some (.ladd, 1) := by decide +kernel
theorem f131_105 : zft 131 105 = some (.lstore_n 1, 1) := by decide +kernel
theorem f131_106 : zft 131 106 = some (.iinc 4 1, 3) := by decide +kernel
theorem f131_109 : zft 131 109 = some (.goto (-34), 3) := by decide +kernel
theorem f131_112 : zft 131 112 = some (.iinc 3 1, 3) := by decide +kernel
theorem f131_115 : zft 131 115 = some (.goto (-82), 3) := by decide +kernel
theorem f131_118 : zft 131 118 = some (.iconst 0, 1) := by decide +kernel
theorem f131_119 : zft 131 119 = some (.istore_n 3, 1) := by decide +kernel
theorem f131_120 : zft 131 120 = some (.iload_n 3, 1) := by decide +kernel
theorem f131_121 : zft 131 121 = some (.aload_n 0, 1) := by decide +kernel
theorem f131_122 : zft 131 122 = some (.getfield 86, 3) := by decide +kernel
theorem f131_125 : zft 131 125 = some (.if_icmp .ge 43, 3) := by decide +kernel
theorem f131_128 : zft 131 128 = some (.aload_n 0, 1) := by decide +kernel
theorem f131_129 : zft 131 129 = some (.getfield 122, 3) := by decide +kernel
theorem f131_132 : zft 131 132 = some (.istore 4, 2) := by decide +kernel
theorem f131_134 : zft 131 134 = some (.iload 4, 2) := by decide +kernel
theorem f131_136 : zft 131 136 = some (.bipush 40, 2) := by decide +kernel
theorem f131_138 : zft 131 138 = some (.if_icmp .ge 24, 3) := by decide +kernel
theorem f131_141 : zft 131 141 = some (.ldc2_w 190, 3) := by decide +kernel
theorem f131_144 : zft 131 144 = some (.lload_n 1, 1) := by decide +kernel
theorem f131_145 : zft 131 145 = some (.lmul, 1) := by decide +kernel
theorem f131_146 : zft 131 146 = some (.aload_n 0, 1) := by decide +kernel
theorem f131_147 : zft 131 147 = some (.iload_n 3, 1) := by decide +kernel
theorem f131_148 : zft 131 148 = some (.iload 4, 2) := by decide +kernel
theorem f131_150 : zft 131 150 = some (.invokevirtual 115, 3) := by decide +kernel
theorem f131_153 : zft 131 153 = some (.i2l, 1) := by decide +kernel
theorem f131_154 : zft 131 154 = some (.ladd, 1) := by decide +kernel
theorem f131_155 : zft 131 155 = some (.lstore_n 1, 1) := by decide +kernel
theorem f131_156 : zft 131 156 = some (.iinc 4 1, 3) := by decide +kernel
theorem f131_159 : zft 131 159 = some (.goto (-25), 3) := by decide +kernel
theorem f131_162 : zft 131 162 = some (.iinc 3 1, 3) := by decide +kernel
theorem f131_165 : zft 131 165 = some (.goto (-45), 3) := by decide +kernel
theorem f131_168 : zft 131 168 = some (.lload_n 1, 1) := by decide +kernel
theorem f131_169 : zft 131 169 = some (.lreturn, 1) := by decide +kernel
theorem o131 : zo 131 = 7 := by decide +kernel
theorem p131 : zp 131 = 0 := by decide +kernel
theorem n131 : zn 131 = 5 := by decide +kernel
theorem v131 : zr 131 = (some .long) := by decide +kernel
