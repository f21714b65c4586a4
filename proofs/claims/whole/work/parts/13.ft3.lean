theorem f84_0 : zft 84 0 = some (.aload_n 0, 1) := by decide +kernel
theorem f84_1 : zft 84 1 = some (.invokespecial 1, 3) := by decide +kernel
theorem f84_4 : zft 84 4 = some (.aload_n 0, 1) := by decide +kernel
theorem f84_5 : zft 84 5 = some (.bipush 36, 2) := by decide +kernel
theorem f84_7 : zft 84 7 = some (.newarray .int, 2) := by decide +kernel
theorem f84_9 : zft 84 9 = some (.putfield 7, 3) := by decide +kernel
theorem f84_12 : zft 84 12 = some (.aload_n 0, 1) := by decide +kernel
theorem f84_13 : zft 84 13 = some (.bipush 12, 2) := by decide +kernel
theorem f84_15 : zft 84 15 = some (.newarray .int, 2) := by decide +kernel
theorem f84_17 : zft 84 17 = some (.putfield 13, 3) := by decide +kernel
theorem f84_20 : zft 84 20 = some (.aload_n 0, 1) := by decide +kernel
theorem f84_21 : zft 84 21 = some (.bipush 12, 2) := by decide +kernel
theorem f84_23 : zft 84 23 = some (.newarray .int, 2) := by decide +kernel
theorem f84_25 : zft 84 25 = some (.putfield 16, 3) := by decide +kernel
theorem f84_28 : zft 84 28 = some (.aload_n 0, 1) := by decide +kernel
theorem f84_29 : zft 84 29 = some (.sipush 480, 3) := by decide +kernel
theorem f84_32 : zft 84 32 = some (.newarray .boolean, 2) := by decide +kernel
theorem f84_34 : zft 84 34 = some (.putfield 19, 3) := by decide +kernel
theorem f84_37 : zft 84 37 = some (.aload_n 0, 1) := by decide +kernel
theorem f84_38 : zft 84 38 = some (.sipush 1440, 3) := by decide +kernel
theorem f84_41 : zft 84 41 = some (.newarray .int, 2) := by decide +kernel
theorem f84_43 : zft 84 43 = some (.putfield 23, 3) := by decide +kernel
theorem f84_46 : zft 84 46 = some (.aload_n 0, 1) := by decide +kernel
theorem f84_47 : zft 84 47 = some (.sipush 144, 3) := by decide +kernel
theorem f84_50 : zft 84 50 = some (.newarray .int, 2) := by decide +kernel
theorem f84_52 : zft 84 52 = some (.putfield 26, 3) := by decide +kernel
theorem f84_55 : zft 84 55 = some (.aload_n 0, 1) := by decide +kernel
theorem f84_56 : zft 84 56 = some (.bipush 40, 2) := by decide +kernel
theorem f84_58 : zft 84 58 = some (.newarray .int, 2) := by decide +kernel
theorem f84_60 : zft 84 60 = some (.putfield 29, 3) := by decide +kernel
theorem f84_63 : zft 84 63 = some (.aload_n 0, 1) := by decide +kernel
theorem f84_64 : zft 84 64 = some (.bipush 40, 2) := by decide +kernel
theorem f84_66 : zft 84 66 = some (.newarray .int, 2) := by decide +kernel
theorem f84_68 : zft 84 68 = some (.putfield 32, 3) := by decide +kernel
theorem f84_71 : zft 84 71 = some (.aload_n 0, 1) := by decide +kernel
theorem f84_72 : zft 84 72 = some (.bipush 40, 2) := by decide +kernel
theorem f84_74 : zft 84 74 = some (.newarray .int, 2) := by decide +kernel
theorem f84_76 : zft 84 76 = some (.putfield 35, 3) := by decide +kernel
theorem f84_79 : zft 84 79 = some (.aload_n 0, 1) := by decide +kernel
theorem f84_80 : zft 84 80 = some (.sipush 280, 3) := by decide +kernel
theorem f84_83 : zft 84 83 = some (.newarray .int, 2) := by decide +kernel
theorem f84_85 : zft 84 85 = some (.putfield 38, 3) := by decide +kernel
theorem f84_88 : zft 84 88 = some (.aload_n 0, 1) := by decide +kernel
theorem f84_89 : zft 84 89 = some (.bipush 40, 2) := by decide +kernel
theorem f84_91 : zft 84 91 = some (.newarray .int, 2) := by decide +kernel
theorem f84_93 : zft 84 93 = some (.putfield 41, 3) := by decide +kernel
theorem f84_96 : zft 84 96 = some (.aload_n 0, 1) := by decide +kernel
theorem f84_97 : zft 84 97 = some (.sipush 280, 3) := by decide +kernel
theorem f84_100 : zft 84 100 = some (.newarray .boolean, 2) := by decide +kernel
theorem f84_102 : zft 84 102 = some (.putfield 44, 3) := by decide +kernel
theorem f84_105 : zft 84 105 = some (.aload_n 0, 1) := by decide +kernel
theorem f84_106 : zft 84 106 = some (.sipush 840, 3) := by decide +kernel
theorem f84_109 : zft 84 109 = some (.newarray .int, 2) := by decide +kernel
theorem f84_111 : zft 84 111 = some (.putfield 47, 3) := by decide +kernel
theorem f84_114 : zft 84 114 = some (.aload_n 0, 1) := by decide +kernel
theorem f84_115 : zft 84 115 = some (.sipush 280, 3) := by decide +kernel
theorem f84_118 : zft 84 118 = some (.newarray .boolean, 2) := by decide +kernel
theorem f84_120 : zft 84 120 = some (.putfield 50, 3) := by decide +kernel
theorem f84_123 : zft 84 123 = some (.aload_n 0, 1) := by decide +kernel
theorem f84_124 : zft 84 124 = some (.bipush 40, 2) := by decide +kernel
theorem f84_126 : zft 84 126 = some (.newarray .int, 2) := by decide +kernel
theorem f84_128 : zft 84 128 = some (.putfield 53, 3) := by decide +kernel
theorem f84_131 : zft 84 131 = some (.aload_n 0, 1) := by decide +kernel
theorem f84_132 : zft 84 132 = some (.bipush 40, 2) := by decide +kernel
theorem f84_134 : zft 84 134 = some (.newarray .boolean, 2) := by decide +kernel
theorem f84_136 : zft 84 136 = some (.putfield 56, 3) := by decide +kernel
theorem f84_139 : zft 84 139 = some (.aload_n 0, 1) := by decide +kernel
theorem f84_140 : zft 84 140 = some (.iconst 3, 1) := by decide +kernel
theorem f84_141 : zft 84 141 = some (.newarray .int, 2) := by decide +kernel
theorem f84_143 : zft 84 143 = some (.putfield 59, 3) := by decide +kernel
theorem f84_146 : zft 84 146 = some (.aload_n 0, 1) := by decide +kernel
theorem f84_147 : zft 84 147 = some (.bipush 84, 2) := by decide +kernel
theorem f84_149 : zft 84 149 = some (.newarray .int, 2) := by decide +kernel
theorem f84_151 : zft 84 151 = some (.putfield 62, 3) := by decide +kernel
theorem f84_154 : zft 84 154 = some (.aload_n 0, 1) := by decide +kernel
theorem f84_155 : zft 84 155 = some (.bipush 7, 2) := by decide +kernel
theorem f84_157 : zft 84 157 = some (.newarray .int, 2) := by decide +kernel
theorem f84_159 : zft 84 159 = some (.putfield 65, 3) := by decide +kernel
theorem f84_162 : zft 84 162 = some (.aload_n 0, 1) := by decide +kernel
theorem f84_163 : zft 84 163 = some (.bipush 20, 2) := by decide +kernel
theorem f84_165 : zft 84 165 = some (.newarray .int, 2) := by decide +kernel
theorem f84_167 : zft 84 167 = some (.putfield 68, 3) := by decide +kernel
theorem f84_170 : zft 84 170 = some (.aload_n 0, 1) := by decide +kernel
theorem f84_171 : zft 84 171 = some (.bipush 20, 2) := by decide +kernel
theorem f84_173 : zft 84 173 = some (.newarray .int, 2) := by decide +kernel
theorem f84_175 : zft 84 175 = some (.putfield 71, 3) := by decide +kernel
theorem f84_178 : zft 84 178 = some (.aload_n 0, 1) := by decide +kernel
theorem f84_179 : zft 84 179 = some (.bipush 40, 2) := by decide +kernel
theorem f84_181 : zft 84 181 = some (.newarray .int, 2) := by decide +kernel
theorem f84_183 : zft 84 183 = some (.putfield 74, 3) := by decide +kernel
theorem f84_186 : zft 84 186 = some (.aload_n 0, 1) := by decide +kernel
theorem f84_187 : zft 84 187 = some (.bipush 40, 2) := by decide +kernel
theorem f84_189 : zft 84 189 = some (.newarray .int, 2) := by decide +kernel
theorem f84_191 : zft 84 191 = some (.putfield 77, 3) := by decide +kernel
theorem f84_194 : zft 84 194 = some (.aload_n 0, 1) := by decide +kernel
theorem f84_195 : zft 84 195 = some (.bipush 40, 2) := by decide +kernel
theorem f84_197 : zft 84 197 = some (.newarray .int, 2) := by decide +kernel
theorem f84_199 : zft 84 199 = some (.putfield 80, 3) := by decide +kernel
theorem f84_202 : zft 84 202 = some (.aload_n 0, 1) := by decide +kernel
theorem f84_203 : zft 84 203 = some (.bipush 40, 2) := by decide +kernel
theorem f84_205 : zft 84 205 = some (.newarray .boolean, 2) := by decide +kernel
theorem f84_207 : zft 84 207 = some (.putfield 83, 3) := by decide +kernel
theorem f84_210 : zft 84 210 = some (.return_, 1) := by decide +kernel
theorem o84 : zo 84 = 7 := by decide +kernel
theorem p84 : zp 84 = 0 := by decide +kernel
theorem n84 : zn 84 = 1 := by decide +kernel
theorem v84 : zr 84 = none := by decide +kernel
theorem f85_0 : zft 85 0 = some (.iload_n 0, 1) := by decide +kernel
theorem f85_1 : zft 85 1 = some (.iload_n 1, 1) := by decide +kernel
theorem f85_2 : zft 85 2 = some (.if_icmp .lt 12, 3) := by decide +kernel
theorem f85_5 : zft 85 5 = some (.iload_n 0, 1) := by decide +kernel
theorem f85_6 : zft 85 6 = some (.iload_n 2, 1) := by decide +kernel
theorem f85_7 : zft 85 7 = some (.if_icmp .gt 7, 3) := by decide +kernel
theorem f85_10 : zft 85 10 = some (.iconst 1, 1) := by decide +kernel
theorem f85_11 : zft 85 11 = some (.goto 4, 3) := by decide +kernel
theorem f85_14 : zft 85 14 = some (.iconst 0, 1) := by decide +kernel
theorem f85_15 : zft 85 15 = some (.ireturn, 1) := by decide +kernel
theorem o85 : zo 85 = 7 := by decide +kernel
theorem p85 : zp 85 = 3 := by decide +kernel
theorem n85 : zn 85 = 3 := by decide +kernel
theorem v85 : zr 85 = (some .boolean) := by decide +kernel
theorem f86_0 : zft 86 0 = some (.iload_n 1, 1) := by decide +kernel
theorem f86_1 : zft 86 1 = some (.iconst 0, 1) := by decide +kernel
theorem f86_2 : zft 86 2 = some (.aload_n 0, 1) := by decide +kernel
theorem f86_3 : zft 86 3 = some (.getfield 86, 3) := by decide +kernel
theorem f86_6 : zft 86 6 = some (.iconst 1, 1) := by decide +kernel
theorem f86_7 : zft 86 7 = some (.isub, 1) := by decide +kernel
theorem f86_8 : zft 86 8 = some (.invokestatic 90, 3) := by decide +kernel
theorem f86_11 : zft 86 11 = some (.ireturn, 1) := by decide +kernel
theorem o86 : zo 86 = 7 := by decide +kernel
theorem p86 : zp 86 = 1 := by decide +kernel
theorem n86 : zn 86 = 2 := by decide +kernel
theorem v86 : zr 86 = (some .boolean) := by decide +kernel
theorem f87_0 : zft 87 0 = some (.iload_n 0, 1) := by decide +kernel
theorem f87_1 : zft 87 1 = some (.iconst 0, 1) := by decide +kernel
theorem f87_2 : zft 87 2 = some (.bipush 39, 2) := by decide +kernel
theorem f87_4 : zft 87 4 = some (.invokestatic 90, 3) := by decide +kernel
theorem f87_7 : zft 87 7 = some (.ireturn, 1) := by decide +kernel
theorem o87 : zo 87 = 7 := by decide +kernel
theorem p87 : zp 87 = 1 := by decide +kernel
theorem n87 : zn 87 = 1 := by decide +kernel
theorem v87 : zr 87 = (some .boolean) := by decide +kernel
theorem f88_0 : zft 88 0 = some (.iload_n 1, 1) := by decide +kernel
theorem f88_1 : zft 88 1 = some (.iconst 0, 1) := by decide +kernel
theorem f88_2 : zft 88 2 = some (.aload_n 0, 1) := by decide +kernel
theorem f88_3 : zft 88 3 = some (.getfield 94, 3) := by decide +kernel
theorem f88_6 : zft 88 6 = some (.iconst 1, 1) := by decide +kernel
theorem f88_7 : zft 88 7 = some (.isub, 1) := by decide +kernel
theorem f88_8 : zft 88 8 = some (.invokestatic 90, 3) := by decide +kernel
theorem f88_11 : zft 88 11 = some (.ireturn, 1) := by decide +kernel
theorem o88 : zo 88 = 7 := by decide +kernel
theorem p88 : zp 88 = 1 := by decide +kernel
theorem n88 : zn 88 = 2 := by decide +kernel
theorem v88 : zr 88 = (some .boolean) := by decide +kernel
theorem f89_0 : zft 89 0 = some (.iload_n 1, 1) := by decide +kernel
theorem f89_1 : zft 89 1 = some (.iconst 0, 1) := by decide +kernel
theorem f89_2 : zft 89 2 = some (.bipush 9, 2) := by decide +kernel
theorem f89_4 : zft 89 4 = some (.invokestatic 90, 3) := by decide +kernel
theorem f89_7 : zft 89 7 = some (.ifCond .eq 42, 3) := by decide +kernel
theorem f89_10 : zft 89 10 = some (.iload_n 2, 1) := by decide +kernel
theorem f89_11 : zft 89 11 = some (.iconst 0, 1) := by decide +kernel
theorem f89_12 : zft 89 12 = some (.bipush 9, 2) := by decide +kernel
theorem f89_14 : zft 89 14 = some (.invokestatic 90, 3) := by decide +kernel
theorem f89_17 : zft 89 17 = some (.ifCond .eq 32, 3) := by decide +kernel
theorem f89_20 : zft 89 20 = some (.iload_n 3, 1) := by decide +kernel
theorem f89_21 : zft 89 21 = some (.iconst 0, 1) := by decide +kernel
theorem f89_22 : zft 89 22 = some (.bipush 9, 2) := by decide +kernel
theorem f89_24 : zft 89 24 = some (.invokestatic 90, 3) := by decide +kernel
theorem f89_27 : zft 89 27 = some (.ifCond .eq 22, 3) := by decide +kernel
theorem f89_30 : zft 89 30 = some (.iload_n 1, 1) := by decide +kernel
theorem f89_31 : zft 89 31 = some (.iload_n 2, 1) := by decide +kernel
theorem f89_32 : zft 89 32 = some (.iadd, 1) := by decide +kernel
theorem f89_33 : zft 89 33 = some (.iload_n 3, 1) := by decide +kernel
theorem f89_34 : zft 89 34 = some (.iadd, 1) := by decide +kernel
theorem f89_35 : zft 89 35 = some (.ifCond .eq 14, 3) := by decide +kernel
theorem f89_38 : zft 89 38 = some (.iload 4, 2) := by decide +kernel
theorem f89_40 : zft 89 40 = some (.iconst 0, 1) := by decide +kernel
theorem f89_41 : zft 89 41 = some (.bipush 23, 2) := by decide +kernel
theorem f89_43 : zft 89 43 = some (.invokestatic 90, 3) := by decide +kernel
theorem f89_46 : zft 89 46 = some (.ifCond .ne 6, 3) := by decide +kernel
theorem f89_49 : zft 89 49 = some (.bipush (-2), 2) := by decide +kernel
theorem f89_51 : zft 89 51 = some (.ireturn, 1) := by decide +kernel
theorem f89_52 : zft 89 52 = some (.aload_n 0, 1) := by decide +kernel
theorem f89_53 : zft 89 53 = some (.getfield 86, 3) := by decide +kernel
theorem f89_56 : zft 89 56 = some (.bipush 12, 2) := by decide +kernel
theorem f89_58 : zft 89 58 = some (.if_icmp .ne 6, 3) := by decide +kernel
theorem f89_61 : zft 89 61 = some (.bipush (-4), 2) := by decide +kernel
theorem f89_63 : zft 89 63 = some (.ireturn, 1) := by decide +kernel
theorem f89_64 : zft 89 64 = some (.aload_n 0, 1) := by decide +kernel
theorem f89_65 : zft 89 65 = some (.getfield 7, 3) := by decide +kernel
theorem f89_68 : zft 89 68 = some (.iconst 3, 1) := by decide +kernel
theorem f89_69 : zft 89 69 = some (.aload_n 0, 1) := by decide +kernel
theorem f89_70 : zft 89 70 = some (.getfield 86, 3) := by decide +kernel
theorem f89_73 : zft 89 73 = some (.imul, 1) := by decide +kernel
theorem f89_74 : zft 89 74 = some (.iload_n 1, 1) := by decide +kernel
theorem f89_75 : zft 89 75 = some (.iastore, 1) := by decide +kernel
theorem f89_76 : zft 89 76 = some (.aload_n 0, 1) := by decide +kernel
theorem f89_77 : zft 89 77 = some (.getfield 7, 3) := by decide +kernel
theorem f89_80 : zft 89 80 = some (.iconst 3, 1) := by decide +kernel
theorem f89_81 : zft 89 81 = some (.aload_n 0, 1) := by decide +kernel
theorem f89_82 : zft 89 82 = some (.getfield 86, 3) := by decide +kernel
theorem f89_85 : zft 89 85 = some (.imul, 1) := by decide +kernel
theorem f89_86 : zft 89 86 = some (.iconst 1, 1) := by decide +kernel
theorem f89_87 : zft 89 87 = some (.iadd, 1) := by decide +kernel
theorem f89_88 : zft 89 88 = some (.iload_n 2, 1) := by decide +kernel
theorem f89_89 : zft 89 89 = some (.iastore, 1) := by decide +kernel
theorem f89_90 : zft 89 90 = some (.aload_n 0, 1) := by decide +kernel
theorem f89_91 : zft 89 91 = some (.getfield 7, 3) := by decide +kernel
theorem f89_94 : zft 89 94 = some (.iconst 3, 1) := by decide +kernel
theorem f89_95 : zft 89 95 = some (.aload_n 0, 1) := by decide +kernel
theorem f89_96 : zft 89 96 = some (.getfield 86, 3) := by decide +kernel
theorem f89_99 : zft 89 99 = some (.imul, 1) := by decide +kernel
theorem f89_100 : zft 89 100 = some (.iconst 2, 1) := by decide +kernel
theorem f89_101 : zft 89 101 = some (.iadd, 1) := by decide +kernel
theorem f89_102 : zft 89 102 = some (.iload_n 3, 1) := by decide +kernel
theorem f89_103 : zft 89 103 = some (.iastore, 1) := by decide +kernel
theorem f89_104 : zft 89 104 = some (.aload_n 0, 1) := by decide +kernel
theorem f89_105 : zft 89 105 = some (.getfield 13, 3) := by decide +kernel
theorem f89_108 : zft 89 108 = some (.aload_n 0, 1) := by decide +kernel
theorem f89_109 : zft 89 109 = some (.getfield 86, 3) := by decide +kernel
theorem f89_112 : zft 89 112 = some (.iload 4, 2) := by decide +kernel
theorem f89_114 : zft 89 114 = some (.iastore, 1) := by decide +kernel
theorem f89_115 : zft 89 115 = some (.aload_n 0, 1) := by decide +kernel
theorem f89_116 : zft 89 116 = some (.dup, 1) := by decide +kernel
theorem f89_117 : zft 89 117 = some (.getfield 86, 3) := by decide +kernel
theorem f89_120 : zft 89 120 = some (.iconst 1, 1) := by decide +kernel
theorem f89_121 : zft 89 121 = some (.iadd, 1) := by decide +kernel
theorem f89_122 : zft 89 122 = some (.putfield 86, 3) := by decide +kernel
theorem f89_125 : zft 89 125 = some (.aload_n 0, 1) := by decide +kernel
theorem f89_126 : zft 89 126 = some (.getfield 86, 3) := by decide +kernel
theorem f89_129 : zft 89 129 = some (.iconst 1, 1) := by decide +kernel
theorem f89_130 : zft 89 130 = some (.isub, 1) := by decide +kernel
theorem f89_131 : zft 89 131 = some (.ireturn, 1) := by decide +kernel
theorem o89 : zo 89 = 7 := by decide +kernel
theorem p89 : zp 89 = 4 := by decide +kernel
theorem n89 : zn 89 = 5 := by decide +kernel
theorem v89 : zr 89 = (some .int) := by decide +kernel
theorem f90_0 : zft 90 0 = some (.aload_n 0, 1) := by decide +kernel
theorem f90_1 : zft 90 1 = some (.iload_n 1, 1) := by decide +kernel
theorem f90_2 : zft 90 2 = some (.invokevirtual 97, 3) := by decide +kernel
theorem f90_5 : zft 90 5 = some (.ifCond .eq 40, 3) := by decide +kernel
theorem f90_8 : zft 90 8 = some (.aload_n 0, 1) := by decide +kernel
theorem f90_9 : zft 90 9 = some (.iload_n 2, 1) := by decide +kernel
theorem f90_10 : zft 90 10 = some (.invokevirtual 97, 3) := by decide +kernel
theorem f90_13 : zft 90 13 = some (.ifCond .eq 32, 3) := by decide +kernel
theorem f90_16 : zft 90 16 = some (.iload_n 1, 1) := by decide +kernel
theorem f90_17 : zft 90 17 = some (.iload_n 2, 1) := by decide +kernel
theorem f90_18 : zft 90 18 = some (.if_icmp .eq 27, 3) := by decide +kernel
theorem f90_21 : zft 90 21 = some (.iload_n 3, 1) := by decide +kernel
theorem f90_22 : zft 90 22 = some (.iconst 1, 1) := by decide +kernel
theorem f90_23 : zft 90 23 = some (.bipush 40, 2) := by decide +kernel
theorem f90_25 : zft 90 25 = some (.invokestatic 90, 3) := by decide +kernel
theorem f90_28 : zft 90 28 = some (.ifCond .eq 17, 3) := by decide +kernel
theorem f90_31 : zft 90 31 = some (.aload_n 0, 1) := by decide +kernel
theorem f90_32 : zft 90 32 = some (.getfield 26, 3) := by decide +kernel
theorem f90_35 : zft 90 35 = some (.bipush 12, 2) := by decide +kernel
theorem f90_37 : zft 90 37 = some (.iload_n 1, 1) := by decide +kernel
theorem f90_38 : zft 90 38 = some (.imul, 1) := by decide +kernel
theorem f90_39 : zft 90 39 = some (.iload_n 2, 1) := by decide +kernel
theorem f90_40 : zft 90 40 = some (.iadd, 1) := by decide +kernel
theorem f90_41 : zft 90 41 = some (.iaload, 1) := by decide +kernel
theorem f90_42 : zft 90 42 = some (.ifCond .le 6, 3) := by decide +kernel
theorem f90_45 : zft 90 45 = some (.bipush (-2), 2) := by decide +kernel
theorem f90_47 : zft 90 47 = some (.ireturn, 1) := by decide +kernel
theorem f90_48 : zft 90 48 = some (.aload_n 0, 1) := by decide +kernel
theorem f90_49 : zft 90 49 = some (.getfield 101, 3) := by decide +kernel
theorem f90_52 : zft 90 52 = some (.bipush 40, 2) := by decide +kernel
theorem f90_54 : zft 90 54 = some (.if_icmp .ne 6, 3) := by decide +kernel
theorem f90_57 : zft 90 57 = some (.bipush (-4), 2) := by decide +kernel
theorem f90_59 : zft 90 59 = some (.ireturn, 1) := by decide +kernel
theorem f90_60 : zft 90 60 = some (.aload_n 0, 1) := by decide +kernel
theorem f90_61 : zft 90 61 = some (.getfield 26, 3) := by decide +kernel
theorem f90_64 : zft 90 64 = some (.bipush 12, 2) := by decide +kernel
theorem f90_66 : zft 90 66 = some (.iload_n 1, 1) := by decide +kernel
theorem f90_67 : zft 90 67 = some (.imul, 1) := by decide +kernel
theorem f90_68 : zft 90 68 = some (.iload_n 2, 1) := by decide +kernel
theorem f90_69 : zft 90 69 = some (.iadd, 1) := by decide +kernel
theorem f90_70 : zft 90 70 = some (.iload_n 3, 1) := by decide +kernel
theorem f90_71 : zft 90 71 = some (.iastore, 1) := by decide +kernel
theorem f90_72 : zft 90 72 = some (.aload_n 0, 1) := by decide +kernel
theorem f90_73 : zft 90 73 = some (.getfield 26, 3) := by decide +kernel
theorem f90_76 : zft 90 76 = some (.bipush 12, 2) := by decide +kernel
theorem f90_78 : zft 90 78 = some (.iload_n 2, 1) := by decide +kernel
theorem f90_79 : zft 90 79 = some (.imul, 1) := by decide +kernel
theorem f90_80 : zft 90 80 = some (.iload_n 1, 1) := by decide +kernel
theorem f90_81 : zft 90 81 = some (.iadd, 1) := by decide +kernel
theorem f90_82 : zft 90 82 = some (.iload_n 3, 1) := by decide +kernel
theorem f90_83 : zft 90 83 = some (.iastore, 1) := by decide +kernel
theorem f90_84 : zft 90 84 = some (.aload_n 0, 1) := by decide +kernel
theorem f90_85 : zft 90 85 = some (.dup, 1) := by decide +kernel
theorem f90_86 : zft 90 86 = some (.getfield 101, 3) := by decide +kernel
theorem f90_89 : zft 90 89 = some (.iconst 1, 1) := by decide +kernel
theorem f90_90 : zft 90 90 = some (.iadd, 1) := by decide +kernel
theorem f90_91 : zft 90 91 = some (.putfield 101, 3) := by decide +kernel
theorem f90_94 : zft 90 94 = some (.aload_n 0, 1) := by decide +kernel
theorem f90_95 : zft 90 95 = some (.getfield 101, 3) := by decide +kernel
theorem f90_98 : zft 90 98 = some (.ireturn, 1) := by decide +kernel
theorem o90 : zo 90 = 7 := by decide +kernel
theorem p90 : zp 90 = 3 := by decide +kernel
theorem n90 : zn 90 = 4 := by decide +kernel
theorem v90 : zr 90 = (some .int) := by decide +kernel
theorem f91_0 : zft 91 0 = some (.aload_n 0, 1) := by decide +kernel
theorem f91_1 : zft 91 1 = some (.iload_n 1, 1) := by decide +kernel
theorem f91_2 : zft 91 2 = some (.invokevirtual 97, 3) := by decide +kernel
theorem f91_5 : zft 91 5 = some (.ifCond .eq 13, 3) := by decide +kernel
theorem f91_8 : zft 91 8 = some (.iload_n 2, 1) := by decide +kernel
theorem f91_9 : zft 91 9 = some (.iconst 0, 1) := by decide +kernel
theorem f91_10 : zft 91 10 = some (.bipush 9, 2) := by decide +kernel
theorem f91_12 : zft 91 12 = some (.invokestatic 90, 3) := by decide +kernel
theorem f91_15 : zft 91 15 = some (.ifCond .ne 6, 3) := by decide +kernel
theorem f91_18 : zft 91 18 = some (.bipush (-2), 2) := by decide +kernel
theorem f91_20 : zft 91 20 = some (.ireturn, 1) := by decide +kernel
theorem f91_21 : zft 91 21 = some (.aload_n 0, 1) := by decide +kernel
theorem f91_22 : zft 91 22 = some (.getfield 16, 3) := by decide +kernel
theorem f91_25 : zft 91 25 = some (.iload_n 1, 1) := by decide +kernel
theorem f91_26 : zft 91 26 = some (.iaload, 1) := by decide +kernel
theorem f91_27 : zft 91 27 = some (.istore_n 3, 1) := by decide +kernel
theorem f91_28 : zft 91 28 = some (.aload_n 0, 1) := by decide +kernel
theorem f91_29 : zft 91 29 = some (.getfield 16, 3) := by decide +kernel
theorem f91_32 : zft 91 32 = some (.iload_n 1, 1) := by decide +kernel
theorem f91_33 : zft 91 33 = some (.iload_n 2, 1) := by decide +kernel
theorem f91_34 : zft 91 34 = some (.iastore, 1) := by decide +kernel
theorem f91_35 : zft 91 35 = some (.iload_n 3, 1) := by decide +kernel
theorem f91_36 : zft 91 36 = some (.ireturn, 1) := by decide +kernel
theorem o91 : zo 91 = 7 := by decide +kernel
theorem p91 : zp 91 = 2 := by decide +kernel
theorem n91 : zn 91 = 4 := by decide +kernel
theorem v91 : zr 91 = (some .int) := by decide +kernel
theorem f92_0 : zft 92 0 = some (.iload_n 2, 1) := by decide +kernel
theorem f92_1 : zft 92 1 = some (.aload_n 0, 1) := by decide +kernel
theorem f92_2 : zft 92 2 = some (.getfield 32, 3) := by decide +kernel
theorem f92_5 : zft 92 5 = some (.iload_n 1, 1) := by decide +kernel
theorem f92_6 : zft 92 6 = some (.iaload, 1) := by decide +kernel
theorem f92_7 : zft 92 7 = some (.isub, 1) := by decide +kernel
theorem f92_8 : zft 92 8 = some (.istore_n 3, 1) := by decide +kernel
theorem f92_9 : zft 92 9 = some (.iload_n 3, 1) := by decide +kernel
theorem f92_10 : zft 92 10 = some (.iconst 0, 1) := by decide +kernel
theorem f92_11 : zft 92 11 = some (.aload_n 0, 1) := by decide +kernel
theorem f92_12 : zft 92 12 = some (.getfield 35, 3) := by decide +kernel
theorem f92_15 : zft 92 15 = some (.iload_n 1, 1) := by decide +kernel
theorem f92_16 : zft 92 16 = some (.iaload, 1) := by decide +kernel
theorem f92_17 : zft 92 17 = some (.iconst 1, 1) := by decide +kernel
theorem f92_18 : zft 92 18 = some (.isub, 1) := by decide +kernel
theorem f92_19 : zft 92 19 = some (.invokestatic 90, 3) := by decide +kernel
theorem f92_22 : zft 92 22 = some (.ifCond .eq 12, 3) := by decide +kernel
theorem f92_25 : zft 92 25 = some (.bipush 7, 2) := by decide +kernel
theorem f92_27 : zft 92 27 = some (.iload_n 1, 1) := by decide +kernel
theorem f92_28 : zft 92 28 = some (.imul, 1) := by decide +kernel
theorem f92_29 : zft 92 29 = some (.iload_n 3, 1) := by decide +kernel
theorem f92_30 : zft 92 30 = some (.iadd, 1) := by decide +kernel
theorem f92_31 : zft 92 31 = some (.goto 4, 3) := by decide +kernel
theorem f92_34 : zft 92 34 = some (.iconst (-1), 1) := by decide +kernel
theorem f92_35 : zft 92 35 = some (.ireturn, 1) := by decide +kernel
theorem o92 : zo 92 = 7 := by decide +kernel
theorem p92 : zp 92 = 2 := by decide +kernel
theorem n92 : zn 92 = 4 := by decide +kernel
theorem v92 : zr 92 = (some .int) := by decide +kernel
theorem f93_0 : zft 93 0 = some (.aload_n 0, 1) := by decide +kernel
theorem f93_1 : zft 93 1 = some (.getfield 7, 3) := by decide +kernel
theorem f93_4 : zft 93 4 = some (.iconst 3, 1) := by decide +kernel
theorem f93_5 : zft 93 5 = some (.iload_n 1, 1) := by decide +kernel
theorem f93_6 : zft 93 6 = some (.imul, 1) := by decide +kernel
theorem f93_7 : zft 93 7 = some (.iload_n 2, 1) := by decide +kernel
theorem f93_8 : zft 93 8 = some (.iadd, 1) := by decide +kernel
theorem f93_9 : zft 93 9 = some (.iaload, 1) := by decide +kernel
theorem f93_10 : zft 93 10 = some (.aload_n 0, 1) := by decide +kernel
theorem f93_11 : zft 93 11 = some (.getfield 23, 3) := by decide +kernel
theorem f93_14 : zft 93 14 = some (.bipush 120, 2) := by decide +kernel
theorem f93_16 : zft 93 16 = some (.iload_n 1, 1) := by decide +kernel
theorem f93_17 : zft 93 17 = some (.imul, 1) := by decide +kernel
theorem f93_18 : zft 93 18 = some (.iconst 3, 1) := by decide +kernel
theorem f93_19 : zft 93 19 = some (.iload_n 3, 1) := by decide +kernel
theorem f93_20 : zft 93 20 = some (.imul, 1) := by decide +kernel
theorem f93_21 : zft 93 21 = some (.iadd, 1) := by decide +kernel
theorem f93_22 : zft 93 22 = some (.iload_n 2, 1) := by decide +kernel
theorem f93_23 : zft 93 23 = some (.iadd, 1) := by decide +kernel
theorem f93_24 : zft 93 24 = some (.iaload, 1) := by decide +kernel
theorem f93_25 : zft 93 25 = some (.isub, 1) := by decide +kernel
theorem f93_26 : zft 93 26 = some (.istore 4, 2) := by decide +kernel
theorem f93_28 : zft 93 28 = some (.iconst 0, 1) := by decide +kernel
theorem f93_29 : zft 93 29 = some (.istore 5, 2) := by decide +kernel
theorem f93_31 : zft 93 31 = some (.iload 5, 2) := by decide +kernel
theorem f93_33 : zft 93 33 = some (.aload_n 0, 1) := by decide +kernel
theorem f93_34 : zft 93 34 = some (.getfield 94, 3) := by decide +kernel
theorem f93_37 : zft 93 37 = some (.if_icmp .ge 61, 3) := by decide +kernel
theorem f93_40 : zft 93 40 = some (.aload_n 0, 1) := by decide +kernel
theorem f93_41 : zft 93 41 = some (.iload 5, 2) := by decide +kernel
theorem f93_43 : zft 93 43 = some (.iload_n 3, 1) := by decide +kernel
theorem f93_44 : zft 93 44 = some (.invokevirtual 104, 3) := by decide +kernel
theorem f93_47 : zft 93 47 = some (.istore 6, 2) := by decide +kernel
theorem f93_49 : zft 93 49 = some (.iload 6, 2) := by decide +kernel
theorem f93_51 : zft 93 51 = some (.iconst (-1), 1) := by decide +kernel
theorem f93_52 : zft 93 52 = some (.if_icmp .eq 40, 3) := by decide +kernel
theorem f93_55 : zft 93 55 = some (.aload_n 0, 1) := by decide +kernel
theorem f93_56 : zft 93 56 = some (.getfield 44, 3) := by decide +kernel
theorem f93_59 : zft 93 59 = some (.iload 6, 2) := by decide +kernel
theorem f93_61 : zft 93 61 = some (.baload, 1) := by decide +kernel
theorem f93_62 : zft 93 62 = some (.ifCond .eq 30, 3) := by decide +kernel
theorem f93_65 : zft 93 65 = some (.aload_n 0, 1) := by decide +kernel
theorem f93_66 : zft 93 66 = some (.getfield 38, 3) := by decide +kernel
theorem f93_69 : zft 93 69 = some (.iload 6, 2) := by decide +kernel
theorem f93_71 : zft 93 71 = some (.iaload, 1) := by decide +kernel
theorem f93_72 : zft 93 72 = some (.iload_n 1, 1) := by decide +kernel
theorem f93_73 : zft 93 73 = some (.if_icmp .ne 19, 3) := by decide +kernel
theorem f93_76 : zft 93 76 = some (.iload 4, 2) := by decide +kernel
theorem f93_78 : zft 93 78 = some (.aload_n 0, 1) := by decide +kernel
theorem f93_79 : zft 93 79 = some (.getfield 47, 3) := by decide +kernel
theorem f93_82 : zft 93 82 = some (.iconst 3, 1) := by decide +kernel
theorem f93_83 : zft 93 83 = some (.iload 6, 2) := by decide +kernel
theorem f93_85 : zft 93 85 = some (.imul, 1) := by decide +kernel
theorem f93_86 : zft 93 86 = some (.iload_n 2, 1) := by decide +kernel
theorem f93_87 : zft 93 87 = some (.iadd, 1) := by decide +kernel
theorem f93_88 : zft 93 88 = some (.iaload, 1) := by decide +kernel
theorem f93_89 : zft 93 89 = some (.isub, 1) := by decide +kernel
theorem f93_90 : zft 93 90 = some (.istore 4, 2) := by decide +kernel
theorem f93_92 : zft 93 92 = some (.iinc 5 1, 3) := by decide +kernel
theorem f93_95 : zft 93 95 = some (.goto (-64), 3) := by decide +kernel
theorem f93_98 : zft 93 98 = some (.iload 4, 2) := by decide +kernel
theorem f93_100 : zft 93 100 = some (.ireturn, 1) := by decide +kernel
theorem o93 : zo 93 = 7 := by decide +kernel
theorem p93 : zp 93 = 3 := by decide +kernel
theorem n93 : zn 93 = 7 := by decide +kernel
theorem v93 : zr 93 = (some .int) := by decide +kernel
theorem f94_0 : zft 94 0 = some (.aload_n 0, 1) := by decide +kernel
theorem f94_1 : zft 94 1 = some (.iload_n 1, 1) := by decide +kernel
theorem f94_2 : zft 94 2 = some (.iconst 0, 1) := by decide +kernel
theorem f94_3 : zft 94 3 = some (.iload_n 2, 1) := by decide +kernel
theorem f94_4 : zft 94 4 = some (.invokevirtual 108, 3) := by decide +kernel
theorem f94_7 : zft 94 7 = some (.aload_n 0, 1) := by decide +kernel
theorem f94_8 : zft 94 8 = some (.iload_n 1, 1) := by decide +kernel
theorem f94_9 : zft 94 9 = some (.iconst 1, 1) := by decide +kernel
theorem f94_10 : zft 94 10 = some (.iload_n 2, 1) := by decide +kernel
theorem f94_11 : zft 94 11 = some (.invokevirtual 108, 3) := by decide +kernel
theorem f94_14 : zft 94 14 = some (.iadd, 1) := by decide +kernel
theorem f94_15 : zft 94 15 = some (.aload_n 0, 1) := by decide +kernel
theorem f94_16 : zft 94 16 = some (.iload_n 1, 1) := by decide +kernel
theorem f94_17 : zft 94 17 = some (.iconst 2, 1) := by decide +kernel
theorem f94_18 : zft 94 18 = some (.iload_n 2, 1) := by decide +kernel
theorem f94_19 : zft 94 19 = some (.invokevirtual 108, 3) := by decide +kernel
theorem f94_22 : zft 94 22 = some (.iadd, 1) := by decide +kernel
theorem f94_23 : zft 94 23 = some (.ireturn, 1) := by decide +kernel
theorem o94 : zo 94 = 7 := by decide +kernel
theorem p94 : zp 94 = 2 := by decide +kernel
theorem n94 : zn 94 = 3 := by decide +kernel
theorem v94 : zr 94 = (some .int) := by decide +kernel
theorem f95_0 : zft 95 0 = some (.aload_n 0, 1) := by decide +kernel
theorem f95_1 : zft 95 1 = some (.iload_n 1, 1) := by decide +kernel
theorem f95_2 : zft 95 2 = some (.invokevirtual 97, 3) := by decide +kernel
theorem f95_5 : zft 95 5 = some (.ifCond .eq 19, 3) := by decide +kernel
theorem f95_8 : zft 95 8 = some (.iload_n 2, 1) := by decide +kernel
theorem f95_9 : zft 95 9 = some (.iconst (-1), 1) := by decide +kernel
theorem f95_10 : zft 95 10 = some (.iconst 2, 1) := by decide +kernel
theorem f95_11 : zft 95 11 = some (.invokestatic 90, 3) := by decide +kernel
theorem f95_14 : zft 95 14 = some (.ifCond .eq 10, 3) := by decide +kernel
theorem f95_17 : zft 95 17 = some (.iload_n 3, 1) := by decide +kernel
theorem f95_18 : zft 95 18 = some (.invokestatic 112, 3) := by decide +kernel
theorem f95_21 : zft 95 21 = some (.ifCond .ne 6, 3) := by decide +kernel
theorem f95_24 : zft 95 24 = some (.bipush (-2), 2) := by decide +kernel
theorem f95_26 : zft 95 26 = some (.ireturn, 1) := by decide +kernel
theorem f95_27 : zft 95 27 = some (.iload_n 2, 1) := by decide +kernel
theorem f95_28 : zft 95 28 = some (.iconst (-1), 1) := by decide +kernel
theorem f95_29 : zft 95 29 = some (.if_icmp .ne 12, 3) := by decide +kernel
theorem f95_32 : zft 95 32 = some (.aload_n 0, 1) := by decide +kernel
theorem f95_33 : zft 95 33 = some (.iload_n 1, 1) := by decide +kernel
theorem f95_34 : zft 95 34 = some (.iload_n 3, 1) := by decide +kernel
theorem f95_35 : zft 95 35 = some (.invokevirtual 115, 3) := by decide +kernel
theorem f95_38 : zft 95 38 = some (.goto 10, 3) := by decide +kernel
theorem f95_41 : zft 95 41 = some (.aload_n 0, 1) := by decide +kernel
theorem f95_42 : zft 95 42 = some (.iload_n 1, 1) := by decide +kernel
theorem f95_43 : zft 95 43 = some (.iload_n 2, 1) := by decide +kernel
theorem f95_44 : zft 95 44 = some (.iload_n 3, 1) := by decide +kernel
theorem f95_45 : zft 95 45 = some (.invokevirtual 108, 3) := by decide +kernel
theorem f95_48 : zft 95 48 = some (.ireturn, 1) := by decide +kernel
theorem o95 : zo 95 = 7 := by decide +kernel
theorem p95 : zp 95 = 3 := by decide +kernel
theorem n95 : zn 95 = 4 := by decide +kernel
theorem v95 : zr 95 = (some .int) := by decide +kernel
theorem f96_0 : zft 96 0 = some (.aload_n 0, 1) := by decide +kernel
theorem f96_1 : zft 96 1 = some (.iload_n 1, 1) := by decide +kernel
theorem f96_2 : zft 96 2 = some (.invokevirtual 97, 3) := by decide +kernel
theorem f96_5 : zft 96 5 = some (.ifCond .eq 32, 3) := by decide +kernel
theorem f96_8 : zft 96 8 = some (.iload_n 2, 1) := by decide +kernel
theorem f96_9 : zft 96 9 = some (.invokestatic 112, 3) := by decide +kernel
theorem f96_12 : zft 96 12 = some (.ifCond .eq 25, 3) := by decide +kernel
theorem f96_15 : zft 96 15 = some (.aload_n 0, 1) := by decide +kernel
theorem f96_16 : zft 96 16 = some (.getfield 19, 3) := by decide +kernel
theorem f96_19 : zft 96 19 = some (.bipush 40, 2) := by decide +kernel
theorem f96_21 : zft 96 21 = some (.iload_n 1, 1) := by decide +kernel
theorem f96_22 : zft 96 22 = some (.imul, 1) := by decide +kernel
theorem f96_23 : zft 96 23 = some (.iload_n 2, 1) := by decide +kernel
theorem f96_24 : zft 96 24 = some (.iadd, 1) := by decide +kernel
theorem f96_25 : zft 96 25 = some (.baload, 1) := by decide +kernel
theorem f96_26 : zft 96 26 = some (.ifCond .eq 7, 3) := by decide +kernel
theorem f96_29 : zft 96 29 = some (.iconst 1, 1) := by decide +kernel
theorem f96_30 : zft 96 30 = some (.goto 9, 3) := by decide +kernel
theorem f96_33 : zft 96 33 = some (.iconst 0, 1) := by decide +kernel
theorem f96_34 : zft 96 34 = some (.goto 5, 3) := by decide +kernel
theorem f96_37 : zft 96 37 = some (.bipush (-2), 2) := by decide +kernel
theorem f96_39 : zft 96 39 = some (.ireturn, 1) := by decide +kernel
theorem o96 : zo 96 = 7 := by decide +kernel
theorem p96 : zp 96 = 2 := by decide +kernel
theorem n96 : zn 96 = 3 := by decide +kernel
theorem v96 : zr 96 = (some .int) := by decide +kernel
theorem f97_0 : zft 97 0 = some (.iconst (-1), 1) := by decide +kernel
theorem f97_1 : zft 97 1 = some (.istore 4, 2) := by decide +kernel
theorem f97_3 : zft 97 3 = some (.iconst 4, 1) := by decide +kernel
theorem f97_4 : zft 97 4 = some (.istore 5, 2) := by decide +kernel
theorem f97_6 : zft 97 6 = some (.iconst 1, 1) := by decide +kernel
theorem f97_7 : zft 97 7 = some (.istore 6, 2) := by decide +kernel
theorem f97_9 : zft 97 9 = some (.iload 6, 2) := by decide +kernel
theorem f97_11 : zft 97 11 = some (.bipush 8, 2) := by decide +kernel
theorem f97_13 : zft 97 13 = some (.if_icmp .ge 91, 3) := by decide +kernel
theorem f97_16 : zft 97 16 = some (.iconst 0, 1) := by decide +kernel
theorem f97_17 : zft 97 17 = some (.istore 7, 2) := by decide +kernel
theorem f97_19 : zft 97 19 = some (.iconst 0, 1) := by decide +kernel
theorem f97_20 : zft 97 20 = some (.istore 8, 2) := by decide +kernel
theorem f97_22 : zft 97 22 = some (.iconst 0, 1) := by decide +kernel
theorem f97_23 : zft 97 23 = some (.istore 9, 2) := by decide +kernel
theorem f97_25 : zft 97 25 = some (.iload 9, 2) := by decide +kernel
theorem f97_27 : zft 97 27 = some (.iconst 3, 1) := by decide +kernel
theorem f97_28 : zft 97 28 = some (.if_icmp .ge 49, 3) := by decide +kernel
theorem f97_31 : zft 97 31 = some (.iload 7, 2) := by decide +kernel
theorem f97_33 : zft 97 33 = some (.iload 6, 2) := by decide +kernel
theorem f97_35 : zft 97 35 = some (.iload 9, 2) := by decide +kernel
theorem f97_37 : zft 97 37 = some (.ishr, 1) := by decide +kernel
theorem f97_38 : zft 97 38 = some (.iconst 1, 1) := by decide +kernel
theorem f97_39 : zft 97 39 = some (.iand, 1) := by decide +kernel
theorem f97_40 : zft 97 40 = some (.iadd, 1) := by decide +kernel
theorem f97_41 : zft 97 41 = some (.istore 7, 2) := by decide +kernel
theorem f97_43 : zft 97 43 = some (.iload 8, 2) := by decide +kernel
theorem f97_45 : zft 97 45 = some (.iload 6, 2) := by decide +kernel
theorem f97_47 : zft 97 47 = some (.iload 9, 2) := by decide +kernel
theorem f97_49 : zft 97 49 = some (.ishr, 1) := by decide +kernel
theorem f97_50 : zft 97 50 = some (.iconst 1, 1) := by decide +kernel
theorem f97_51 : zft 97 51 = some (.iand, 1) := by decide +kernel
theorem f97_52 : zft 97 52 = some (.iconst 1, 1) := by decide +kernel
theorem f97_53 : zft 97 53 = some (.if_icmp .ne 14, 3) := by decide +kernel
theorem f97_56 : zft 97 56 = some (.aload_n 0, 1) := by decide +kernel
theorem f97_57 : zft 97 57 = some (.iload_n 1, 1) := by decide +kernel
theorem f97_58 : zft 97 58 = some (.iload 9, 2) := by decide +kernel
theorem f97_60 : zft 97 60 = some (.iload_n 2, 1) := by decide +kernel
theorem f97_61 : zft 97 61 = some (.invokevirtual 108, 3) := by decide +kernel
theorem f97_64 : zft 97 64 = some (.goto 4, 3) := by decide +kernel
theorem f97_67 : zft 97 67 = some (.iconst 0, 1) := by decide +kernel
theorem f97_68 : zft 97 68 = some (.iadd, 1) := by decide +kernel
theorem f97_69 : zft 97 69 = some (.istore 8, 2) := by decide +kernel
theorem f97_71 : zft 97 71 = some (.iinc 9 1, 3) := by decide +kernel
theorem f97_74 : zft 97 74 = some (.goto (-49), 3) := by decide +kernel
theorem f97_77 : zft 97 77 = some (.iload 8, 2) := by decide +kernel
theorem f97_79 : zft 97 79 = some (.iload_n 3, 1) := by decide +kernel
theorem f97_80 : zft 97 80 = some (.if_icmp .lt 18, 3) := by decide +kernel
theorem f97_83 : zft 97 83 = some (.iload 7, 2) := by decide +kernel
theorem f97_85 : zft 97 85 = some (.iload 5, 2) := by decide +kernel
theorem f97_87 : zft 97 87 = some (.if_icmp .ge 11, 3) := by decide +kernel
theorem f97_90 : zft 97 90 = some (.iload 6, 2) := by decide +kernel
theorem f97_92 : zft 97 92 = some (.istore 4, 2) := by decide +kernel
theorem f97_94 : zft 97 94 = some (.iload 7, 2) := by decide +kernel
theorem f97_96 : zft 97 96 = some (.istore 5, 2) := by decide +kernel
theorem f97_98 : zft 97 98 = some (.iinc 6 1, 3) := by decide +kernel
theorem f97_101 : zft 97 101 = some (.goto (-92), 3) := by decide +kernel
theorem f97_104 : zft 97 104 = some (.iload_n 3, 1) := by decide +kernel
theorem f97_105 : zft 97 105 = some (.istore 6, 2) := by decide +kernel
theorem f97_107 : zft 97 107 = some (.iconst 0, 1) := by decide +kernel
theorem f97_108 : zft 97 108 = some (.istore 7, 2) := by decide +kernel
theorem f97_110 : zft 97 110 = some (.iload 7, 2) := by decide +kernel
theorem f97_112 : zft 97 112 = some (.iconst 3, 1) := by decide +kernel
theorem f97_113 : zft 97 113 = some (.if_icmp .ge 67, 3) := by decide +kernel
theorem f97_116 : zft 97 116 = some (.iload 4, 2) := by decide +kernel
theorem f97_118 : zft 97 118 = some (.iload 7, 2) := by decide +kernel
theorem f97_120 : zft 97 120 = some (.ishr, 1) := by decide +kernel
theorem f97_121 : zft 97 121 = some (.iconst 1, 1) := by decide +kernel
theorem f97_122 : zft 97 122 = some (.iand, 1) := by decide +kernel
theorem f97_123 : zft 97 123 = some (.iconst 1, 1) := by decide +kernel
theorem f97_124 : zft 97 124 = some (.if_icmp .ne 14, 3) := by decide +kernel
theorem f97_127 : zft 97 127 = some (.aload_n 0, 1) := by decide +kernel
theorem f97_128 : zft 97 128 = some (.iload_n 1, 1) := by decide +kernel
theorem f97_129 : zft 97 129 = some (.iload 7, 2) := by decide +kernel
theorem f97_131 : zft 97 131 = some (.iload_n 2, 1) := by decide +kernel
theorem f97_132 : zft 97 132 = some (.invokevirtual 108, 3) := by decide +kernel
theorem f97_135 : zft 97 135 = some (.goto 4, 3) := by decide +kernel
theorem f97_138 : zft 97 138 = some (.iconst 0, 1) := by decide +kernel
theorem f97_139 : zft 97 139 = some (.istore 8, 2) := by decide +kernel
theorem f97_141 : zft 97 141 = some (.aload_n 0, 1) := by decide +kernel
theorem f97_142 : zft 97 142 = some (.getfield 59, 3) := by decide +kernel
theorem f97_145 : zft 97 145 = some (.iload 7, 2) := by decide +kernel
theorem f97_147 : zft 97 147 = some (.iload 8, 2) := by decide +kernel
theorem f97_149 : zft 97 149 = some (.iload 6, 2) := by decide +kernel
theorem f97_151 : zft 97 151 = some (.if_icmp .ge 8, 3) := by decide +kernel
theorem f97_154 : zft 97 154 = some (.iload 8, 2) := by decide +kernel
theorem f97_156 : zft 97 156 = some (.goto 5, 3) := by decide +kernel
theorem f97_159 : zft 97 159 = some (.iload 6, 2) := by decide +kernel
theorem f97_161 : zft 97 161 = some (.iastore, 1) := by decide +kernel
theorem f97_162 : zft 97 162 = some (.iload 6, 2) := by decide +kernel
theorem f97_164 : zft 97 164 = some (.aload_n 0, 1) := by decide +kernel
theorem f97_165 : zft 97 165 = some (.getfield 59, 3) := by decide +kernel
theorem f97_168 : zft 97 168 = some (.iload 7, 2) := by decide +kernel
theorem f97_170 : zft 97 170 = some (.iaload, 1) := by decide +kernel
theorem f97_171 : zft 97 171 = some (.isub, 1) := by decide +kernel
theorem f97_172 : zft 97 172 = some (.istore 6, 2) := by decide +kernel
theorem f97_174 : zft 97 174 = some (.iinc 7 1, 3) := by decide +kernel
theorem f97_177 : zft 97 177 = some (.goto (-67), 3) := by decide +kernel
theorem f97_180 : zft 97 180 = some (.return_, 1) := by decide +kernel
theorem o97 : zo 97 = 7 := by decide +kernel
theorem p97 : zp 97 = 3 := by decide +kernel
theorem n97 : zn 97 = 10 := by decide +kernel
theorem v97 : zr 97 = none := by decide +kernel
theorem f98_0 : zft 98 0 = some (.bipush 7, 2) := by decide +kernel
theorem f98_2 : zft 98 2 = some (.iload_n 1, 1) := by decide +kernel
theorem f98_3 : zft 98 3 = some (.imul, 1) := by decide +kernel
theorem f98_4 : zft 98 4 = some (.iload_n 2, 1) := by decide +kernel
theorem f98_5 : zft 98 5 = some (.iadd, 1) := by decide +kernel
theorem f98_6 : zft 98 6 = some (.istore_n 3, 1) := by decide +kernel
theorem f98_7 : zft 98 7 = some (.aload_n 0, 1) := by decide +kernel
theorem f98_8 : zft 98 8 = some (.aload_n 0, 1) := by decide +kernel
theorem f98_9 : zft 98 9 = some (.getfield 38, 3) := by decide +kernel
theorem f98_12 : zft 98 12 = some (.iload_n 3, 1) := by decide +kernel
theorem f98_13 : zft 98 13 = some (.iaload, 1) := by decide +kernel
theorem f98_14 : zft 98 14 = some (.aload_n 0, 1) := by decide +kernel
theorem f98_15 : zft 98 15 = some (.getfield 32, 3) := by decide +kernel
theorem f98_18 : zft 98 18 = some (.iload_n 1, 1) := by decide +kernel
theorem f98_19 : zft 98 19 = some (.iaload, 1) := by decide +kernel
theorem f98_20 : zft 98 20 = some (.iload_n 2, 1) := by decide +kernel
theorem f98_21 : zft 98 21 = some (.iadd, 1) := by decide +kernel
theorem f98_22 : zft 98 22 = some (.aload_n 0, 1) := by decide +kernel
theorem f98_23 : zft 98 23 = some (.getfield 29, 3) := by decide +kernel
theorem f98_26 : zft 98 26 = some (.iload_n 1, 1) := by decide +kernel
theorem f98_27 : zft 98 27 = some (.iaload, 1) := by decide +kernel
theorem f98_28 : zft 98 28 = some (.invokevirtual 118, 3) := by decide +kernel
theorem f98_31 : zft 98 31 = some (.aload_n 0, 1) := by decide +kernel
theorem f98_32 : zft 98 32 = some (.getfield 44, 3) := by decide +kernel
theorem f98_35 : zft 98 35 = some (.iload_n 3, 1) := by decide +kernel
theorem f98_36 : zft 98 36 = some (.iconst 1, 1) := by decide +kernel
theorem f98_37 : zft 98 37 = some (.bastore, 1) := by decide +kernel
theorem f98_38 : zft 98 38 = some (.iconst 0, 1) := by decide +kernel
theorem f98_39 : zft 98 39 = some (.istore 4, 2) := by decide +kernel
theorem f98_41 : zft 98 41 = some (.iload 4, 2) := by decide +kernel
theorem f98_43 : zft 98 43 = some (.iconst 3, 1) := by decide +kernel
theorem f98_44 : zft 98 44 = some (.if_icmp .ge 27, 3) := by decide +kernel
theorem f98_47 : zft 98 47 = some (.aload_n 0, 1) := by decide +kernel
theorem f98_48 : zft 98 48 = some (.getfield 47, 3) := by decide +kernel
theorem f98_51 : zft 98 51 = some (.iconst 3, 1) := by decide +kernel
theorem f98_52 : zft 98 52 = some (.iload_n 3, 1) := by decide +kernel
theorem f98_53 : zft 98 53 = some (.imul, 1) := by decide +kernel
theorem f98_54 : zft 98 54 = some (.iload 4, 2) := by decide +kernel
theorem f98_56 : zft 98 56 = some (.iadd, 1) := by decide +kernel
theorem f98_57 : zft 98 57 = some (.aload_n 0, 1) := by decide +kernel
theorem f98_58 : zft 98 58 = some (.getfield 59, 3) := by decide +kernel
theorem f98_61 : zft 98 61 = some (.iload 4, 2) := by decide +kernel
theorem f98_63 : zft 98 63 = some (.iaload, 1) := by decide +kernel
theorem f98_64 : zft 98 64 = some (.iastore, 1) := by decide +kernel
theorem f98_65 : zft 98 65 = some (.iinc 4 1, 3) := by decide +kernel
theorem f98_68 : zft 98 68 = some (.goto (-27), 3) := by decide +kernel
theorem f98_71 : zft 98 71 = some (.return_, 1) := by decide +kernel
theorem o98 : zo 98 = 7 := by decide +kernel
theorem p98 : zp 98 = 2 := by decide +kernel
theorem n98 : zn 98 = 5 := by decide +kernel
theorem v98 : zr 98 = none := by decide +kernel
theorem f99_0 : zft 99 0 = some (.aload_n 0, 1) := by decide +kernel
theorem f99_1 : zft 99 1 = some (.getfield 44, 3) := by decide +kernel
theorem f99_4 : zft 99 4 = some (.bipush 7, 2) := by decide +kernel
theorem f99_6 : zft 99 6 = some (.iload_n 1, 1) := by decide +kernel
theorem f99_7 : zft 99 7 = some (.imul, 1) := by decide +kernel
theorem f99_8 : zft 99 8 = some (.iload_n 2, 1) := by decide +kernel
theorem f99_9 : zft 99 9 = some (.iadd, 1) := by decide +kernel
theorem f99_10 : zft 99 10 = some (.iconst 0, 1) := by decide +kernel
theorem f99_11 : zft 99 11 = some (.bastore, 1) := by decide +kernel
theorem f99_12 : zft 99 12 = some (.return_, 1) := by decide +kernel
theorem o99 : zo 99 = 7 := by decide +kernel
theorem p99 : zp 99 = 2 := by decide +kernel
theorem n99 : zn 99 = 3 := by decide +kernel
theorem v99 : zr 99 = none := by decide +kernel
theorem f100_0 : zft 100 0 = some (.iload_n 1, 1) := by decide +kernel
theorem f100_1 : zft 100 1 = some (.iconst 1, 1) := by decide +kernel
theorem f100_2 : zft 100 2 = some (.bipush 12, 2) := by decide +kernel
theorem f100_4 : zft 100 4 = some (.invokestatic 90, 3) := by decide +kernel
theorem f100_7 : zft 100 7 = some (.ifCond .eq 24, 3) := by decide +kernel
theorem f100_10 : zft 100 10 = some (.iload_n 2, 1) := by decide +kernel
theorem f100_11 : zft 100 11 = some (.aload_n 0, 1) := by decide +kernel
theorem f100_12 : zft 100 12 = some (.getfield 122, 3) := by decide +kernel
theorem f100_15 : zft 100 15 = some (.bipush 39, 2) := by decide +kernel
theorem f100_17 : zft 100 17 = some (.invokestatic 90, 3) := by decide +kernel
theorem f100_20 : zft 100 20 = some (.ifCond .eq 11, 3) := by decide +kernel
theorem f100_23 : zft 100 23 = some (.aload_n 0, 1) := by decide +kernel
theorem f100_24 : zft 100 24 = some (.iload_n 3, 1) := by decide +kernel
theorem f100_25 : zft 100 25 = some (.invokevirtual 97, 3) := by decide +kernel
theorem f100_28 : zft 100 28 = some (.ifCond .ne 6, 3) := by decide +kernel
theorem f100_31 : zft 100 31 = some (.bipush (-2), 2) := by decide +kernel
theorem f100_33 : zft 100 33 = some (.ireturn, 1) := by decide +kernel
theorem f100_34 : zft 100 34 = some (.aload_n 0, 1) := by decide +kernel
theorem f100_35 : zft 100 35 = some (.getfield 94, 3) := by decide +kernel
theorem f100_38 : zft 100 38 = some (.bipush 40, 2) := by decide +kernel
theorem f100_40 : zft 100 40 = some (.if_icmp .ne 6, 3) := by decide +kernel
theorem f100_43 : zft 100 43 = some (.bipush (-4), 2) := by decide +kernel
theorem f100_45 : zft 100 45 = some (.ireturn, 1) := by decide +kernel
theorem f100_46 : zft 100 46 = some (.aload_n 0, 1) := by decide +kernel
theorem f100_47 : zft 100 47 = some (.getfield 29, 3) := by decide +kernel
theorem f100_50 : zft 100 50 = some (.aload_n 0, 1) := by decide +kernel
theorem f100_51 : zft 100 51 = some (.getfield 94, 3) := by decide +kernel
theorem f100_54 : zft 100 54 = some (.iload_n 1, 1) := by decide +kernel
theorem f100_55 : zft 100 55 = some (.iastore, 1) := by decide +kernel
theorem f100_56 : zft 100 56 = some (.aload_n 0, 1) := by decide +kernel
theorem f100_57 : zft 100 57 = some (.getfield 32, 3) := by decide +kernel
theorem f100_60 : zft 100 60 = some (.aload_n 0, 1) := by decide +kernel
theorem f100_61 : zft 100 61 = some (.getfield 94, 3) := by decide +kernel
theorem f100_64 : zft 100 64 = some (.iload_n 2, 1) := by decide +kernel
theorem f100_65 : zft 100 65 = some (.iastore, 1) := by decide +kernel
theorem f100_66 : zft 100 66 = some (.aload_n 0, 1) := by decide +kernel
theorem f100_67 : zft 100 67 = some (.getfield 35, 3) := by decide +kernel
theorem f100_70 : zft 100 70 = some (.aload_n 0, 1) := by decide +kernel
theorem f100_71 : zft 100 71 = some (.getfield 94, 3) := by decide +kernel
theorem f100_74 : zft 100 74 = some (.iconst 1, 1) := by decide +kernel
theorem f100_75 : zft 100 75 = some (.iastore, 1) := by decide +kernel
theorem f100_76 : zft 100 76 = some (.aload_n 0, 1) := by decide +kernel
theorem f100_77 : zft 100 77 = some (.getfield 38, 3) := by decide +kernel
theorem f100_80 : zft 100 80 = some (.bipush 7, 2) := by decide +kernel
theorem f100_82 : zft 100 82 = some (.aload_n 0, 1) := by decide +kernel
theorem f100_83 : zft 100 83 = some (.getfield 94, 3) := by decide +kernel
theorem f100_86 : zft 100 86 = some (.imul, 1) := by decide +kernel
theorem f100_87 : zft 100 87 = some (.iload_n 3, 1) := by decide +kernel
theorem f100_88 : zft 100 88 = some (.iastore, 1) := by decide +kernel
theorem f100_89 : zft 100 89 = some (.aload_n 0, 1) := by decide +kernel
theorem f100_90 : zft 100 90 = some (.getfield 41, 3) := by decide +kernel
theorem f100_93 : zft 100 93 = some (.aload_n 0, 1) := by decide +kernel
theorem f100_94 : zft 100 94 = some (.getfield 94, 3) := by decide +kernel
theorem f100_97 : zft 100 97 = some (.iconst 0, 1) := by decide +kernel
theorem f100_98 : zft 100 98 = some (.iastore, 1) := by decide +kernel
theorem f100_99 : zft 100 99 = some (.aload_n 0, 1) := by decide +kernel
theorem f100_100 : zft 100 100 = some (.dup, 1) := by decide +kernel
theorem f100_101 : zft 100 101 = some (.getfield 94, 3) := by decide +kernel
theorem f100_104 : zft 100 104 = some (.iconst 1, 1) := by decide +kernel
theorem f100_105 : zft 100 105 = some (.iadd, 1) := by decide +kernel
theorem f100_106 : zft 100 106 = some (.putfield 94, 3) := by decide +kernel
theorem f100_109 : zft 100 109 = some (.aload_n 0, 1) := by decide +kernel
theorem f100_110 : zft 100 110 = some (.getfield 94, 3) := by decide +kernel
theorem f100_113 : zft 100 113 = some (.iconst 1, 1) := by decide +kernel
theorem f100_114 : zft 100 114 = some (.isub, 1) := by decide +kernel
theorem f100_115 : zft 100 115 = some (.ireturn, 1) := by decide +kernel
theorem o100 : zo 100 = 7 := by decide +kernel
theorem p100 : zp 100 = 3 := by decide +kernel
theorem n100 : zn 100 = 4 := by decide +kernel
theorem v100 : zr 100 = (some .int) := by decide +kernel
theorem f101_0 : zft 101 0 = some (.aload_n 0, 1) := by decide +kernel
theorem f101_1 : zft 101 1 = some (.iload_n 1, 1) := by decide +kernel
theorem f101_2 : zft 101 2 = some (.invokevirtual 125, 3) := by decide +kernel
theorem f101_5 : zft 101 5 = some (.ifCond .eq 29, 3) := by decide +kernel
theorem f101_8 : zft 101 8 = some (.aload_n 0, 1) := by decide +kernel
theorem f101_9 : zft 101 9 = some (.iload_n 2, 1) := by decide +kernel
theorem f101_10 : zft 101 10 = some (.invokevirtual 97, 3) := by decide +kernel
theorem f101_13 : zft 101 13 = some (.ifCond .eq 21, 3) := by decide +kernel
theorem f101_16 : zft 101 16 = some (.aload_n 0, 1) := by decide +kernel
theorem f101_17 : zft 101 17 = some (.getfield 32, 3) := by decide +kernel
theorem f101_20 : zft 101 20 = some (.iload_n 1, 1) := by decide +kernel
theorem f101_21 : zft 101 21 = some (.iaload, 1) := by decide +kernel
theorem f101_22 : zft 101 22 = some (.aload_n 0, 1) := by decide +kernel
theorem f101_23 : zft 101 23 = some (.getfield 35, 3) := by decide +kernel
theorem f101_26 : zft 101 26 = some (.iload_n 1, 1) := by decide +kernel
theorem f101_27 : zft 101 27 = some (.iaload, 1) := by decide +kernel
theorem f101_28 : zft 101 28 = some (.iadd, 1) := by decide +kernel
theorem f101_29 : zft 101 29 = some (.bipush 39, 2) := by decide +kernel
theorem f101_31 : zft 101 31 = some (.if_icmp .le 6, 3) := by decide +kernel
theorem f101_34 : zft 101 34 = some (.bipush (-2), 2) := by decide +kernel
theorem f101_36 : zft 101 36 = some (.ireturn, 1) := by decide +kernel
theorem f101_37 : zft 101 37 = some (.aload_n 0, 1) := by decide +kernel
theorem f101_38 : zft 101 38 = some (.getfield 41, 3) := by decide +kernel
theorem f101_41 : zft 101 41 = some (.iload_n 1, 1) := by decide +kernel
theorem f101_42 : zft 101 42 = some (.iaload, 1) := by decide +kernel
theorem f101_43 : zft 101 43 = some (.ifCond .eq 6, 3) := by decide +kernel
theorem f101_46 : zft 101 46 = some (.bipush (-3), 2) := by decide +kernel
theorem f101_48 : zft 101 48 = some (.ireturn, 1) := by decide +kernel
theorem f101_49 : zft 101 49 = some (.aload_n 0, 1) := by decide +kernel
theorem f101_50 : zft 101 50 = some (.getfield 35, 3) := by decide +kernel
theorem f101_53 : zft 101 53 = some (.iload_n 1, 1) := by decide +kernel
theorem f101_54 : zft 101 54 = some (.iaload, 1) := by decide +kernel
theorem f101_55 : zft 101 55 = some (.bipush 7, 2) := by decide +kernel
theorem f101_57 : zft 101 57 = some (.if_icmp .ne 6, 3) := by decide +kernel
theorem f101_60 : zft 101 60 = some (.bipush (-4), 2) := by decide +kernel
theorem f101_62 : zft 101 62 = some (.ireturn, 1) := by decide +kernel
theorem f101_63 : zft 101 63 = some (.aload_n 0, 1) := by decide +kernel
theorem f101_64 : zft 101 64 = some (.getfield 38, 3) := by decide +kernel
theorem f101_67 : zft 101 67 = some (.bipush 7, 2) := by decide +kernel
theorem f101_69 : zft 101 69 = some (.iload_n 1, 1) := by decide +kernel
theorem f101_70 : zft 101 70 = some (.imul, 1) := by decide +kernel
theorem f101_71 : zft 101 71 = some (.aload_n 0, 1) := by decide +kernel
theorem f101_72 : zft 101 72 = some (.getfield 35, 3) := by decide +kernel
theorem f101_75 : zft 101 75 = some (.iload_n 1, 1) := by decide +kernel
theorem f101_76 : zft 101 76 = some (.iaload, 1) := by decide +kernel
theorem f101_77 : zft 101 77 = some (.iadd, 1) := by decide +kernel
theorem f101_78 : zft 101 78 = some (.iload_n 2, 1) := by decide +kernel
theorem f101_79 : zft 101 79 = some (.iastore, 1) := by decide +kernel
theorem f101_80 : zft 101 80 = some (.aload_n 0, 1) := by decide +kernel
theorem f101_81 : zft 101 81 = some (.getfield 35, 3) := by decide +kernel
theorem f101_84 : zft 101 84 = some (.iload_n 1, 1) := by decide +kernel
theorem f101_85 : zft 101 85 = some (.dup2, 1) := by decide +kernel
theorem f101_86 : zft 101 86 = some (.iaload, 1) := by decide +kernel
theorem f101_87 : zft 101 87 = some (.iconst 1, 1) := by decide +kernel
theorem f101_88 : zft 101 88 = some (.iadd, 1) := by decide +kernel
theorem f101_89 : zft 101 89 = some (.iastore, 1) := by decide +kernel
theorem f101_90 : zft 101 90 = some (.aload_n 0, 1) := by decide +kernel
theorem f101_91 : zft 101 91 = some (.getfield 35, 3) := by decide +kernel
theorem f101_94 : zft 101 94 = some (.iload_n 1, 1) := by decide +kernel
theorem f101_95 : zft 101 95 = some (.iaload, 1) := by decide +kernel
theorem f101_96 : zft 101 96 = some (.ireturn, 1) := by decide +kernel
theorem o101 : zo 101 = 7 := by decide +kernel
theorem p101 : zp 101 = 2 := by decide +kernel
theorem n101 : zn 101 = 3 := by decide +kernel
theorem v101 : zr 101 = (some .int) := by decide +kernel
theorem f102_0 : zft 102 0 = some (.iload_n 1, 1) := by decide +kernel
theorem f102_1 : zft 102 1 = some (.iload_n 2, 1) := by decide +kernel
theorem f102_2 : zft 102 2 = some (.if_icmp .eq 17, 3) := by decide +kernel
theorem f102_5 : zft 102 5 = some (.aload_n 0, 1) := by decide +kernel
theorem f102_6 : zft 102 6 = some (.getfield 26, 3) := by decide +kernel
theorem f102_9 : zft 102 9 = some (.bipush 12, 2) := by decide +kernel
theorem f102_11 : zft 102 11 = some (.iload_n 1, 1) := by decide +kernel
theorem f102_12 : zft 102 12 = some (.imul, 1) := by decide +kernel
theorem f102_13 : zft 102 13 = some (.iload_n 2, 1) := by decide +kernel
theorem f102_14 : zft 102 14 = some (.iadd, 1) := by decide +kernel
theorem f102_15 : zft 102 15 = some (.iaload, 1) := by decide +kernel
theorem f102_16 : zft 102 16 = some (.ifCond .le 7, 3) := by decide +kernel
theorem f102_19 : zft 102 19 = some (.iconst 1, 1) := by decide +kernel
theorem f102_20 : zft 102 20 = some (.goto 4, 3) := by decide +kernel
theorem f102_23 : zft 102 23 = some (.iconst 0, 1) := by decide +kernel
theorem f102_24 : zft 102 24 = some (.ireturn, 1) := by decide +kernel
theorem o102 : zo 102 = 7 := by decide +kernel
theorem p102 : zp 102 = 2 := by decide +kernel
theorem n102 : zn 102 = 3 := by decide +kernel
theorem v102 : zr 102 = (some .boolean) := by decide +kernel
theorem f103_0 : zft 103 0 = some (.aload_n 0, 1) := by decide +kernel
theorem f103_1 : zft 103 1 = some (.getfield 19, 3) := by decide +kernel
theorem f103_4 : zft 103 4 = some (.bipush 40, 2) := by decide +kernel
theorem f103_6 : zft 103 6 = some (.iload_n 1, 1) := by decide +kernel
theorem f103_7 : zft 103 7 = some (.imul, 1) := by decide +kernel
theorem f103_8 : zft 103 8 = some (.iload_n 2, 1) := by decide +kernel
theorem f103_9 : zft 103 9 = some (.iadd, 1) := by decide +kernel
theorem f103_10 : zft 103 10 = some (.baload, 1) := by decide +kernel
theorem f103_11 : zft 103 11 = some (.ifCond .ne 17, 3) := by decide +kernel
theorem f103_14 : zft 103 14 = some (.aload_n 0, 1) := by decide +kernel
theorem f103_15 : zft 103 15 = some (.iload_n 1, 1) := by decide +kernel
theorem f103_16 : zft 103 16 = some (.iload_n 2, 1) := by decide +kernel
theorem f103_17 : zft 103 17 = some (.invokevirtual 115, 3) := by decide +kernel
theorem f103_20 : zft 103 20 = some (.iload_n 3, 1) := by decide +kernel
theorem f103_21 : zft 103 21 = some (.if_icmp .lt 7, 3) := by decide +kernel
theorem f103_24 : zft 103 24 = some (.iconst 1, 1) := by decide +kernel
theorem f103_25 : zft 103 25 = some (.goto 4, 3) := by decide +kernel
theorem f103_28 : zft 103 28 = some (.iconst 0, 1) := by decide +kernel
theorem f103_29 : zft 103 29 = some (.ireturn, 1) := by decide +kernel
theorem o103 : zo 103 = 7 := by decide +kernel
theorem p103 : zp 103 = 3 := by decide +kernel
theorem n103 : zn 103 = 4 := by decide +kernel
theorem v103 : zr 103 = (some .boolean) := by decide +kernel
theorem f104_0 : zft 104 0 = some (.iconst 0, 1) := by decide +kernel
theorem f104_1 : zft 104 1 = some (.istore_n 2, 1) := by decide +kernel
theorem f104_2 : zft 104 2 = some (.iload_n 2, 1) := by decide +kernel
theorem f104_3 : zft 104 3 = some (.aload_n 0, 1) := by decide +kernel
theorem f104_4 : zft 104 4 = some (.getfield 35, 3) := by decide +kernel
theorem f104_7 : zft 104 7 = some (.iload_n 1, 1) := by decide +kernel
theorem f104_8 : zft 104 8 = some (.iaload, 1) := by decide +kernel
theorem f104_9 : zft 104 9 = some (.if_icmp .ge 70, 3) := by decide +kernel
theorem f104_12 : zft 104 12 = some (.aload_n 0, 1) := by decide +kernel
theorem f104_13 : zft 104 13 = some (.getfield 38, 3) := by decide +kernel
theorem f104_16 : zft 104 16 = some (.bipush 7, 2) := by decide +kernel
theorem f104_18 : zft 104 18 = some (.iload_n 1, 1) := by decide +kernel
theorem f104_19 : zft 104 19 = some (.imul, 1) := by decide +kernel
theorem f104_20 : zft 104 20 = some (.iload_n 2, 1) := by decide +kernel
theorem f104_21 : zft 104 21 = some (.iadd, 1) := by decide +kernel
theorem f104_22 : zft 104 22 = some (.iaload, 1) := by decide +kernel
theorem f104_23 : zft 104 23 = some (.istore_n 3, 1) := by decide +kernel
theorem f104_24 : zft 104 24 = some (.iload_n 2, 1) := by decide +kernel
theorem f104_25 : zft 104 25 = some (.ifCond .le 24, 3) := by decide +kernel
theorem f104_28 : zft 104 28 = some (.aload_n 0, 1) := by decide +kernel
theorem f104_29 : zft 104 29 = some (.aload_n 0, 1) := by decide +kernel
theorem f104_30 : zft 104 30 = some (.getfield 38, 3) := by decide +kernel
theorem f104_33 : zft 104 33 = some (.bipush 7, 2) := by decide +kernel
theorem f104_35 : zft 104 35 = some (.iload_n 1, 1) := by decide +kernel
theorem f104_36 : zft 104 36 = some (.imul, 1) := by decide +kernel
theorem f104_37 : zft 104 37 = some (.iload_n 2, 1) := by decide +kernel
theorem f104_38 : zft 104 38 = some (.iadd, 1) := by decide +kernel
theorem f104_39 : zft 104 39 = some (.iconst 1, 1) := by decide +kernel
theorem f104_40 : zft 104 40 = some (.isub, 1) := by decide +kernel
theorem f104_41 : zft 104 41 = some (.iaload, 1) := by decide +kernel
theorem f104_42 : zft 104 42 = some (.iload_n 3, 1) := by decide +kernel
theorem f104_43 : zft 104 43 = some (.invokevirtual 128, 3) := by decide +kernel
theorem f104_46 : zft 104 46 = some (.ifCond .eq 25, 3) := by decide +kernel
theorem f104_49 : zft 104 49 = some (.aload_n 0, 1) := by decide +kernel
theorem f104_50 : zft 104 50 = some (.iload_n 3, 1) := by decide +kernel
theorem f104_51 : zft 104 51 = some (.aload_n 0, 1) := by decide +kernel
theorem f104_52 : zft 104 52 = some (.getfield 32, 3) := by decide +kernel
theorem f104_55 : zft 104 55 = some (.iload_n 1, 1) := by decide +kernel
theorem f104_56 : zft 104 56 = some (.iaload, 1) := by decide +kernel
theorem f104_57 : zft 104 57 = some (.iload_n 2, 1) := by decide +kernel
theorem f104_58 : zft 104 58 = some (.iadd, 1) := by decide +kernel
theorem f104_59 : zft 104 59 = some (.aload_n 0, 1) := by decide +kernel
theorem f104_60 : zft 104 60 = some (.getfield 29, 3) := by decide +kernel
theorem f104_63 : zft 104 63 = some (.iload_n 1, 1) := by decide +kernel
theorem f104_64 : zft 104 64 = some (.iaload, 1) := by decide +kernel
theorem f104_65 : zft 104 65 = some (.invokevirtual 132, 3) := by decide +kernel
theorem f104_68 : zft 104 68 = some (.ifCond .ne 5, 3) := by decide +kernel
theorem f104_71 : zft 104 71 = some (.iload_n 2, 1) := by decide +kernel
theorem f104_72 : zft 104 72 = some (.ireturn, 1) := by decide +kernel
theorem f104_73 : zft 104 73 = some (.iinc 2 1, 3) := by decide +kernel
theorem f104_76 : zft 104 76 = some (.goto (-74), 3) := by decide +kernel
theorem f104_79 : zft 104 79 = some (.iconst (-1), 1) := by decide +kernel
theorem f104_80 : zft 104 80 = some (.ireturn, 1) := by decide +kernel
theorem o104 : zo 104 = 7 := by decide +kernel
theorem p104 : zp 104 = 1 := by decide +kernel
theorem n104 : zn 104 = 4 := by decide +kernel
theorem v104 : zr 104 = (some .int) := by decide +kernel
theorem f105_0 : zft 105 0 = some (.iconst 0, 1) := by decide +kernel
theorem f105_1 : zft 105 1 = some (.istore_n 2, 1) := by decide +kernel
theorem f105_2 : zft 105 2 = some (.iload_n 2, 1) := by decide +kernel
theorem f105_3 : zft 105 3 = some (.aload_n 0, 1) := by decide +kernel
theorem f105_4 : zft 105 4 = some (.getfield 35, 3) := by decide +kernel
theorem f105_7 : zft 105 7 = some (.iload_n 1, 1) := by decide +kernel
theorem f105_8 : zft 105 8 = some (.iaload, 1) := by decide +kernel
theorem f105_9 : zft 105 9 = some (.if_icmp .ge 15, 3) := by decide +kernel
theorem f105_12 : zft 105 12 = some (.aload_n 0, 1) := by decide +kernel
theorem f105_13 : zft 105 13 = some (.iload_n 1, 1) := by decide +kernel
theorem f105_14 : zft 105 14 = some (.iload_n 2, 1) := by decide +kernel
theorem f105_15 : zft 105 15 = some (.invokevirtual 135, 3) := by decide +kernel
theorem f105_18 : zft 105 18 = some (.iinc 2 1, 3) := by decide +kernel
theorem f105_21 : zft 105 21 = some (.goto (-19), 3) := by decide +kernel
theorem f105_24 : zft 105 24 = some (.aload_n 0, 1) := by decide +kernel
theorem f105_25 : zft 105 25 = some (.getfield 41, 3) := by decide +kernel
theorem f105_28 : zft 105 28 = some (.iload_n 1, 1) := by decide +kernel
theorem f105_29 : zft 105 29 = some (.iconst 1, 1) := by decide +kernel
theorem f105_30 : zft 105 30 = some (.iastore, 1) := by decide +kernel
theorem f105_31 : zft 105 31 = some (.return_, 1) := by decide +kernel
theorem o105 : zo 105 = 7 := by decide +kernel
theorem p105 : zp 105 = 1 := by decide +kernel
theorem n105 : zn 105 = 3 := by decide +kernel
theorem v105 : zr 105 = none := by decide +kernel
theorem f106_0 : zft 106 0 = some (.aload_n 0, 1) := by decide +kernel
theorem f106_1 : zft 106 1 = some (.iload_n 1, 1) := by decide +kernel
theorem f106_2 : zft 106 2 = some (.invokevirtual 125, 3) := by decide +kernel
theorem f106_5 : zft 106 5 = some (.ifCond .ne 6, 3) := by decide +kernel
theorem f106_8 : zft 106 8 = some (.bipush (-2), 2) := by decide +kernel
theorem f106_10 : zft 106 10 = some (.ireturn, 1) := by decide +kernel
theorem f106_11 : zft 106 11 = some (.aload_n 0, 1) := by decide +kernel
theorem f106_12 : zft 106 12 = some (.getfield 41, 3) := by decide +kernel
theorem f106_15 : zft 106 15 = some (.iload_n 1, 1) := by decide +kernel
theorem f106_16 : zft 106 16 = some (.iaload, 1) := by decide +kernel
theorem f106_17 : zft 106 17 = some (.ifCond .ne 16, 3) := by decide +kernel
theorem f106_20 : zft 106 20 = some (.aload_n 0, 1) := by decide +kernel
theorem f106_21 : zft 106 21 = some (.getfield 32, 3) := by decide +kernel
theorem f106_24 : zft 106 24 = some (.iload_n 1, 1) := by decide +kernel
theorem f106_25 : zft 106 25 = some (.iaload, 1) := by decide +kernel
theorem f106_26 : zft 106 26 = some (.aload_n 0, 1) := by decide +kernel
theorem f106_27 : zft 106 27 = some (.getfield 122, 3) := by decide +kernel
theorem f106_30 : zft 106 30 = some (.if_icmp .ge 8, 3) := by decide +kernel
theorem f106_33 : zft 106 33 = some (.bipush (-3), 2) := by decide +kernel
theorem f106_35 : zft 106 35 = some (.goto 4, 3) := by decide +kernel
theorem f106_38 : zft 106 38 = some (.iconst 0, 1) := by decide +kernel
theorem f106_39 : zft 106 39 = some (.ireturn, 1) := by decide +kernel
theorem o106 : zo 106 = 7 := by decide +kernel
theorem p106 : zp 106 = 1 := by decide +kernel
theorem n106 : zn 106 = 2 := by decide +kernel
theorem v106 : zr 106 = (some .int) := by decide +kernel
theorem f107_0 : zft 107 0 = some (.aload_n 0, 1) := by decide +kernel
theorem f107_1 : zft 107 1 = some (.iload_n 1, 1) := by decide +kernel
theorem f107_2 : zft 107 2 = some (.invokevirtual 139, 3) := by decide +kernel
theorem f107_5 : zft 107 5 = some (.istore_n 2, 1) := by decide +kernel
theorem f107_6 : zft 107 6 = some (.iload_n 2, 1) := by decide +kernel
theorem f107_7 : zft 107 7 = some (.ifCond .eq 5, 3) := by decide +kernel
theorem f107_10 : zft 107 10 = some (.iload_n 2, 1) := by decide +kernel
theorem f107_11 : zft 107 11 = some (.ireturn, 1) := by decide +kernel
theorem f107_12 : zft 107 12 = some (.aload_n 0, 1) := by decide +kernel
theorem f107_13 : zft 107 13 = some (.iload_n 1, 1) := by decide +kernel
theorem f107_14 : zft 107 14 = some (.invokevirtual 143, 3) := by decide +kernel
theorem f107_17 : zft 107 17 = some (.istore_n 3, 1) := by decide +kernel
theorem f107_18 : zft 107 18 = some (.iload_n 3, 1) := by decide +kernel
theorem f107_19 : zft 107 19 = some (.iconst (-1), 1) := by decide +kernel
theorem f107_20 : zft 107 20 = some (.if_icmp .ne 8, 3) := by decide +kernel
theorem f107_23 : zft 107 23 = some (.aload_n 0, 1) := by decide +kernel
theorem f107_24 : zft 107 24 = some (.iload_n 1, 1) := by decide +kernel
theorem f107_25 : zft 107 25 = some (.invokevirtual 146, 3) := by decide +kernel
theorem f107_28 : zft 107 28 = some (.iload_n 3, 1) := by decide +kernel
theorem f107_29 : zft 107 29 = some (.ireturn, 1) := by decide +kernel
theorem o107 : zo 107 = 7 := by decide +kernel
theorem p107 : zp 107 = 1 := by decide +kernel
theorem n107 : zn 107 = 4 := by decide +kernel
theorem v107 : zr 107 = (some .int) := by decide +kernel
