theorem dM_as_5 : decode cM_as 5 = .ok (.iload_n 1, 1) := by decide +kernel
theorem dM_as_6 : decode cM_as 6 = .ok (.invokestatic 129, 3) := by decide +kernel
theorem dM_as_9 : decode cM_as 9 = .ok (.ifCond .eq 15, 3) := by decide +kernel
theorem dM_as_12 : decode cM_as 12 = .ok (.iload_n 2, 1) := by decide +kernel
theorem dM_as_13 : decode cM_as 13 = .ok (.i2l, 1) := by decide +kernel
theorem dM_as_14 : decode cM_as 14 = .ok (.lconst 0, 1) := by decide +kernel
theorem dM_as_15 : decode cM_as 15 = .ok (.ldc2_w 99, 3) := by decide +kernel
theorem dM_as_18 : decode cM_as 18 = .ok (.invokestatic 71, 3) := by decide +kernel
theorem dM_as_21 : decode cM_as 21 = .ok (.ifCond .ne 6, 3) := by decide +kernel
theorem dM_as_24 : decode cM_as 24 = .ok (.ldc 90, 2) := by decide +kernel
theorem dM_as_26 : decode cM_as 26 = .ok (.ireturn, 1) := by decide +kernel
theorem dM_as_27 : decode cM_as 27 = .ok (.aload_n 0, 1) := by decide +kernel
theorem dM_as_28 : decode cM_as 28 = .ok (.iload_n 1, 1) := by decide +kernel
theorem dM_as_29 : decode cM_as 29 = .ok (.invokevirtual 149, 3) := by decide +kernel
theorem dM_as_32 : decode cM_as 32 = .ok (.istore_n 3, 1) := by decide +kernel
theorem dM_as_33 : decode cM_as 33 = .ok (.iload_n 3, 1) := by decide +kernel
theorem dM_as_34 : decode cM_as 34 = .ok (.ifCond .ge 7, 3) := by decide +kernel
theorem dM_as_37 : decode cM_as 37 = .ok (.iload_n 3, 1) := by decide +kernel
theorem dM_as_38 : decode cM_as 38 = .ok (.goto 29, 3) := by decide +kernel
theorem dM_as_41 : decode cM_as 41 = .ok (.aload_n 0, 1) := by decide +kernel
theorem dM_as_42 : decode cM_as 42 = .ok (.iload_n 1, 1) := by decide +kernel
theorem dM_as_43 : decode cM_as 43 = .ok (.invokevirtual 126, 3) := by decide +kernel
theorem dM_as_46 : decode cM_as 46 = .ok (.iload_n 2, 1) := by decide +kernel
theorem dM_as_47 : decode cM_as 47 = .ok (.invokestatic 152, 3) := by decide +kernel
theorem dM_as_50 : decode cM_as 50 = .ok (.ifCond .eq 12, 3) := by decide +kernel
theorem dM_as_53 : decode cM_as 53 = .ok (.aload_n 0, 1) := by decide +kernel
theorem dM_as_54 : decode cM_as 54 = .ok (.getfield 37, 3) := by decide +kernel
theorem dM_as_57 : decode cM_as 57 = .ok (.iload_n 1, 1) := by decide +kernel
theorem dM_as_58 : decode cM_as 58 = .ok (.iaload, 1) := by decide +kernel
theorem dM_as_59 : decode cM_as 59 = .ok (.goto 8, 3) := by decide +kernel
theorem dM_as_62 : decode cM_as 62 = .ok (.aload_n 0, 1) := by decide +kernel
theorem dM_as_63 : decode cM_as 63 = .ok (.iconst 3, 1) := by decide +kernel
theorem dM_as_64 : decode cM_as 64 = .ok (.invokevirtual 119, 3) := by decide +kernel
theorem dM_as_67 : decode cM_as 67 = .ok (.ireturn, 1) := by decide +kernel
theorem dM_began_0 : decode cM_began 0 = .ok (.aload_n 0, 1) := by decide +kernel
theorem dM_began_1 : decode cM_began 1 = .ok (.getfield 156, 3) := by decide +kernel
theorem dM_began_4 : decode cM_began 4 = .ok (.bipush 16, 2) := by decide +kernel
theorem dM_began_6 : decode cM_began 6 = .ok (.if_icmp .ge 23, 3) := by decide +kernel
theorem dM_began_9 : decode cM_began 9 = .ok (.aload_n 0, 1) := by decide +kernel
theorem dM_began_10 : decode cM_began 10 = .ok (.getfield 46, 3) := by decide +kernel
theorem dM_began_13 : decode cM_began 13 = .ok (.aload_n 0, 1) := by decide +kernel
theorem dM_began_14 : decode cM_began 14 = .ok (.getfield 156, 3) := by decide +kernel
theorem dM_began_17 : decode cM_began 17 = .ok (.iload_n 1, 1) := by decide +kernel
theorem dM_began_18 : decode cM_began 18 = .ok (.iastore, 1) := by decide +kernel
theorem dM_began_19 : decode cM_began 19 = .ok (.aload_n 0, 1) := by decide +kernel
theorem dM_began_20 : decode cM_began 20 = .ok (.dup, 1) := by decide +kernel
theorem dM_began_21 : decode cM_began 21 = .ok (.getfield 156, 3) := by decide +kernel
theorem dM_began_24 : decode cM_began 24 = .ok (.iconst 1, 1) := by decide +kernel
theorem dM_began_25 : decode cM_began 25 = .ok (.iadd, 1) := by decide +kernel
theorem dM_began_26 : decode cM_began 26 = .ok (.putfield 156, 3) := by decide +kernel
theorem dM_began_29 : decode cM_began 29 = .ok (.return_, 1) := by decide +kernel
theorem dM_sized_0 : decode cM_sized 0 = .ok (.iload_n 2, 1) := by decide +kernel
theorem dM_sized_1 : decode cM_sized 1 = .ok (.iconst 2, 1) := by decide +kernel
theorem dM_sized_2 : decode cM_sized 2 = .ok (.if_icmp .ne 9, 3) := by decide +kernel
theorem dM_sized_5 : decode cM_sized 5 = .ok (.aload_n 0, 1) := by decide +kernel
theorem dM_sized_6 : decode cM_sized 6 = .ok (.bipush 12, 2) := by decide +kernel
theorem dM_sized_8 : decode cM_sized 8 = .ok (.invokevirtual 159, 3) := by decide +kernel
theorem dM_sized_11 : decode cM_sized 11 = .ok (.iload_n 2, 1) := by decide +kernel
theorem dM_sized_12 : decode cM_sized 12 = .ok (.iconst 1, 1) := by decide +kernel
theorem dM_sized_13 : decode cM_sized 13 = .ok (.invokestatic 152, 3) := by decide +kernel
theorem dM_sized_16 : decode cM_sized 16 = .ok (.ifCond .eq 9, 3) := by decide +kernel
theorem dM_sized_19 : decode cM_sized 19 = .ok (.aload_n 0, 1) := by decide +kernel
theorem dM_sized_20 : decode cM_sized 20 = .ok (.bipush 11, 2) := by decide +kernel
theorem dM_sized_22 : decode cM_sized 22 = .ok (.invokevirtual 159, 3) := by decide +kernel
theorem dM_sized_25 : decode cM_sized 25 = .ok (.aload_n 0, 1) := by decide +kernel
theorem dM_sized_26 : decode cM_sized 26 = .ok (.bipush 10, 2) := by decide +kernel
theorem dM_sized_28 : decode cM_sized 28 = .ok (.invokevirtual 159, 3) := by decide +kernel
theorem dM_sized_31 : decode cM_sized 31 = .ok (.aload_n 0, 1) := by decide +kernel
theorem dM_sized_32 : decode cM_sized 32 = .ok (.getfield 37, 3) := by decide +kernel
theorem dM_sized_35 : decode cM_sized 35 = .ok (.iload_n 1, 1) := by decide +kernel
theorem dM_sized_36 : decode cM_sized 36 = .ok (.iaload, 1) := by decide +kernel
theorem dM_sized_37 : decode cM_sized 37 = .ok (.iload_n 2, 1) := by decide +kernel
theorem dM_sized_38 : decode cM_sized 38 = .ok (.iconst 1, 1) := by decide +kernel
theorem dM_sized_39 : decode cM_sized 39 = .ok (.invokestatic 152, 3) := by decide +kernel
theorem dM_sized_42 : decode cM_sized 42 = .ok (.ifCond .eq 8, 3) := by decide +kernel
theorem dM_sized_45 : decode cM_sized 45 = .ok (.bipush 100, 2) := by decide +kernel
theorem dM_sized_47 : decode cM_sized 47 = .ok (.goto 4, 3) := by decide +kernel
theorem dM_sized_50 : decode cM_sized 50 = .ok (.iconst 0, 1) := by decide +kernel
theorem dM_sized_51 : decode cM_sized 51 = .ok (.iadd, 1) := by decide +kernel
theorem dM_sized_52 : decode cM_sized 52 = .ok (.istore_n 3, 1) := by decide +kernel
theorem dM_sized_53 : decode cM_sized 53 = .ok (.iload_n 2, 1) := by decide +kernel
theorem dM_sized_54 : decode cM_sized 54 = .ok (.iconst 2, 1) := by decide +kernel
theorem dM_sized_55 : decode cM_sized 55 = .ok (.if_icmp .ne 9, 3) := by decide +kernel
theorem dM_sized_58 : decode cM_sized 58 = .ok (.iconst 2, 1) := by decide +kernel
theorem dM_sized_59 : decode cM_sized 59 = .ok (.iload_n 3, 1) := by decide +kernel
theorem dM_sized_60 : decode cM_sized 60 = .ok (.imul, 1) := by decide +kernel
theorem dM_sized_61 : decode cM_sized 61 = .ok (.goto 4, 3) := by decide +kernel
theorem dM_sized_64 : decode cM_sized 64 = .ok (.iload_n 3, 1) := by decide +kernel
theorem dM_sized_65 : decode cM_sized 65 = .ok (.ireturn, 1) := by decide +kernel
theorem dM_weightOf_0 : decode cM_weightOf 0 = .ok (.aload_n 0, 1) := by decide +kernel
theorem dM_weightOf_1 : decode cM_weightOf 1 = .ok (.getfield 37, 3) := by decide +kernel
theorem dM_weightOf_4 : decode cM_weightOf 4 = .ok (.iload_n 1, 1) := by decide +kernel
theorem dM_weightOf_5 : decode cM_weightOf 5 = .ok (.iaload, 1) := by decide +kernel
theorem dM_weightOf_6 : decode cM_weightOf 6 = .ok (.istore_n 3, 1) := by decide +kernel
theorem dM_weightOf_7 : decode cM_weightOf 7 = .ok (.iconst 0, 1) := by decide +kernel
theorem dM_weightOf_8 : decode cM_weightOf 8 = .ok (.istore 4, 2) := by decide +kernel
theorem dM_weightOf_10 : decode cM_weightOf 10 = .ok (.iload 4, 2) := by decide +kernel
theorem dM_weightOf_12 : decode cM_weightOf 12 = .ok (.bipush 48, 2) := by decide +kernel
theorem dM_weightOf_14 : decode cM_weightOf 14 = .ok (.if_icmp .ge 17, 3) := by decide +kernel
theorem dM_weightOf_17 : decode cM_weightOf 17 = .ok (.aload_n 0, 1) := by decide +kernel
theorem dM_weightOf_18 : decode cM_weightOf 18 = .ok (.getfield 49, 3) := by decide +kernel
theorem dM_weightOf_21 : decode cM_weightOf 21 = .ok (.iload 4, 2) := by decide +kernel
theorem dM_weightOf_23 : decode cM_weightOf 23 = .ok (.lconst 1, 1) := by decide +kernel
theorem dM_weightOf_24 : decode cM_weightOf 24 = .ok (.lastore, 1) := by decide +kernel
theorem dM_weightOf_25 : decode cM_weightOf 25 = .ok (.iinc 4 1, 3) := by decide +kernel
theorem dM_weightOf_28 : decode cM_weightOf 28 = .ok (.goto (-18), 3) := by decide +kernel
theorem dM_weightOf_31 : decode cM_weightOf 31 = .ok (.aload_n 0, 1) := by decide +kernel
theorem dM_weightOf_32 : decode cM_weightOf 32 = .ok (.getfield 17, 3) := by decide +kernel
theorem dM_weightOf_35 : decode cM_weightOf 35 = .ok (.iload_n 2, 1) := by decide +kernel
theorem dM_weightOf_36 : decode cM_weightOf 36 = .ok (.iaload, 1) := by decide +kernel
theorem dM_weightOf_37 : decode cM_weightOf 37 = .ok (.iconst 1, 1) := by decide +kernel
theorem dM_weightOf_38 : decode cM_weightOf 38 = .ok (.isub, 1) := by decide +kernel
theorem dM_weightOf_39 : decode cM_weightOf 39 = .ok (.istore 4, 2) := by decide +kernel
theorem dM_weightOf_41 : decode cM_weightOf 41 = .ok (.iload 4, 2) := by decide +kernel
theorem dM_weightOf_43 : decode cM_weightOf 43 = .ok (.ifCond .le 161, 3) := by decide +kernel
theorem dM_weightOf_46 : decode cM_weightOf 46 = .ok (.iload 4, 2) := by decide +kernel
theorem dM_weightOf_48 : decode cM_weightOf 48 = .ok (.iconst 1, 1) := by decide +kernel
theorem dM_weightOf_49 : decode cM_weightOf 49 = .ok (.isub, 1) := by decide +kernel
theorem dM_weightOf_50 : decode cM_weightOf 50 = .ok (.istore 5, 2) := by decide +kernel
theorem dM_weightOf_52 : decode cM_weightOf 52 = .ok (.aload_n 0, 1) := by decide +kernel
theorem dM_weightOf_53 : decode cM_weightOf 53 = .ok (.getfield 21, 3) := by decide +kernel
theorem dM_weightOf_56 : decode cM_weightOf 56 = .ok (.bipush 6, 2) := by decide +kernel
theorem dM_weightOf_58 : decode cM_weightOf 58 = .ok (.iload_n 2, 1) := by decide +kernel
theorem dM_weightOf_59 : decode cM_weightOf 59 = .ok (.imul, 1) := by decide +kernel
theorem dM_weightOf_60 : decode cM_weightOf 60 = .ok (.iload 5, 2) := by decide +kernel
theorem dM_weightOf_62 : decode cM_weightOf 62 = .ok (.iadd, 1) := by decide +kernel
theorem dM_weightOf_63 : decode cM_weightOf 63 = .ok (.iaload, 1) := by decide +kernel
theorem dM_weightOf_64 : decode cM_weightOf 64 = .ok (.aload_n 0, 1) := by decide +kernel
theorem dM_weightOf_65 : decode cM_weightOf 65 = .ok (.getfield 21, 3) := by decide +kernel
theorem dM_weightOf_68 : decode cM_weightOf 68 = .ok (.bipush 6, 2) := by decide +kernel
theorem dM_weightOf_70 : decode cM_weightOf 70 = .ok (.iload_n 2, 1) := by decide +kernel
theorem dM_weightOf_71 : decode cM_weightOf 71 = .ok (.imul, 1) := by decide +kernel
theorem dM_weightOf_72 : decode cM_weightOf 72 = .ok (.iload 4, 2) := by decide +kernel
theorem dM_weightOf_74 : decode cM_weightOf 74 = .ok (.iadd, 1) := by decide +kernel
theorem dM_weightOf_75 : decode cM_weightOf 75 = .ok (.iaload, 1) := by decide +kernel
theorem dM_weightOf_76 : decode cM_weightOf 76 = .ok (.iconst 1, 1) := by decide +kernel
theorem dM_weightOf_77 : decode cM_weightOf 77 = .ok (.isub, 1) := by decide +kernel
theorem dM_weightOf_78 : decode cM_weightOf 78 = .ok (.if_icmp .eq 9, 3) := by decide +kernel
theorem dM_weightOf_81 : decode cM_weightOf 81 = .ok (.iinc 5 (-1), 3) := by decide +kernel
theorem dM_weightOf_84 : decode cM_weightOf 84 = .ok (.goto (-32), 3) := by decide +kernel
theorem dM_weightOf_87 : decode cM_weightOf 87 = .ok (.iconst 0, 1) := by decide +kernel
theorem dM_weightOf_88 : decode cM_weightOf 88 = .ok (.istore 6, 2) := by decide +kernel
theorem dM_weightOf_90 : decode cM_weightOf 90 = .ok (.iload 6, 2) := by decide +kernel
theorem dM_weightOf_92 : decode cM_weightOf 92 = .ok (.iload_n 3, 1) := by decide +kernel
theorem dM_weightOf_93 : decode cM_weightOf 93 = .ok (.if_icmp .ge 105, 3) := by decide +kernel
theorem dM_weightOf_96 : decode cM_weightOf 96 = .ok (.lconst 0, 1) := by decide +kernel
theorem dM_weightOf_97 : decode cM_weightOf 97 = .ok (.lstore 7, 2) := by decide +kernel
theorem dM_weightOf_99 : decode cM_weightOf 99 = .ok (.iconst 0, 1) := by decide +kernel
theorem dM_weightOf_100 : decode cM_weightOf 100 = .ok (.istore 9, 2) := by decide +kernel
theorem dM_weightOf_102 : decode cM_weightOf 102 = .ok (.iload 9, 2) := by decide +kernel
theorem dM_weightOf_104 : decode cM_weightOf 104 = .ok (.iload_n 3, 1) := by decide +kernel
theorem dM_weightOf_105 : decode cM_weightOf 105 = .ok (.if_icmp .ge 52, 3) := by decide +kernel
theorem dM_weightOf_108 : decode cM_weightOf 108 = .ok (.lload 7, 2) := by decide +kernel
theorem dM_weightOf_110 : decode cM_weightOf 110 = .ok (.aload_n 0, 1) := by decide +kernel
theorem dM_weightOf_111 : decode cM_weightOf 111 = .ok (.getfield 40, 3) := by decide +kernel
theorem dM_weightOf_114 : decode cM_weightOf 114 = .ok (.bipush 64, 2) := by decide +kernel
theorem dM_weightOf_116 : decode cM_weightOf 116 = .ok (.iload_n 1, 1) := by decide +kernel
theorem dM_weightOf_117 : decode cM_weightOf 117 = .ok (.imul, 1) := by decide +kernel
theorem dM_weightOf_118 : decode cM_weightOf 118 = .ok (.bipush 8, 2) := by decide +kernel
theorem dM_weightOf_120 : decode cM_weightOf 120 = .ok (.iload 6, 2) := by decide +kernel
theorem dM_weightOf_122 : decode cM_weightOf 122 = .ok (.imul, 1) := by decide +kernel
theorem dM_weightOf_123 : decode cM_weightOf 123 = .ok (.iadd, 1) := by decide +kernel
theorem dM_weightOf_124 : decode cM_weightOf 124 = .ok (.iload 9, 2) := by decide +kernel
theorem dM_weightOf_126 : decode cM_weightOf 126 = .ok (.iadd, 1) := by decide +kernel
theorem dM_weightOf_127 : decode cM_weightOf 127 = .ok (.laload, 1) := by decide +kernel
theorem dM_weightOf_128 : decode cM_weightOf 128 = .ok (.aload_n 0, 1) := by decide +kernel
theorem dM_weightOf_129 : decode cM_weightOf 129 = .ok (.getfield 49, 3) := by decide +kernel
theorem dM_weightOf_132 : decode cM_weightOf 132 = .ok (.bipush 8, 2) := by decide +kernel
theorem dM_weightOf_134 : decode cM_weightOf 134 = .ok (.iload 4, 2) := by decide +kernel
theorem dM_weightOf_136 : decode cM_weightOf 136 = .ok (.imul, 1) := by decide +kernel
theorem dM_weightOf_137 : decode cM_weightOf 137 = .ok (.iload 9, 2) := by decide +kernel
theorem dM_weightOf_139 : decode cM_weightOf 139 = .ok (.iadd, 1) := by decide +kernel
theorem dM_weightOf_140 : decode cM_weightOf 140 = .ok (.laload, 1) := by decide +kernel
theorem dM_weightOf_141 : decode cM_weightOf 141 = .ok (.lmul, 1) := by decide +kernel
theorem dM_weightOf_142 : decode cM_weightOf 142 = .ok (.ladd, 1) := by decide +kernel
theorem dM_weightOf_143 : decode cM_weightOf 143 = .ok (.aload_n 0, 1) := by decide +kernel
theorem dM_weightOf_144 : decode cM_weightOf 144 = .ok (.getfield 80, 3) := by decide +kernel
theorem dM_weightOf_147 : decode cM_weightOf 147 = .ok (.i2l, 1) := by decide +kernel
theorem dM_weightOf_148 : decode cM_weightOf 148 = .ok (.lrem, 1) := by decide +kernel
theorem dM_weightOf_149 : decode cM_weightOf 149 = .ok (.lstore 7, 2) := by decide +kernel
theorem dM_weightOf_151 : decode cM_weightOf 151 = .ok (.iinc 9 1, 3) := by decide +kernel
theorem dM_weightOf_154 : decode cM_weightOf 154 = .ok (.goto (-52), 3) := by decide +kernel
theorem dM_weightOf_157 : decode cM_weightOf 157 = .ok (.aload_n 0, 1) := by decide +kernel
theorem dM_weightOf_158 : decode cM_weightOf 158 = .ok (.getfield 49, 3) := by decide +kernel
theorem dM_weightOf_161 : decode cM_weightOf 161 = .ok (.bipush 8, 2) := by decide +kernel
theorem dM_weightOf_163 : decode cM_weightOf 163 = .ok (.iload 5, 2) := by decide +kernel
theorem dM_weightOf_165 : decode cM_weightOf 165 = .ok (.imul, 1) := by decide +kernel
theorem dM_weightOf_166 : decode cM_weightOf 166 = .ok (.iload 6, 2) := by decide +kernel
theorem dM_weightOf_168 : decode cM_weightOf 168 = .ok (.iadd, 1) := by decide +kernel
theorem dM_weightOf_169 : decode cM_weightOf 169 = .ok (.aload_n 0, 1) := by decide +kernel
theorem dM_weightOf_170 : decode cM_weightOf 170 = .ok (.getfield 49, 3) := by decide +kernel
theorem dM_weightOf_173 : decode cM_weightOf 173 = .ok (.bipush 8, 2) := by decide +kernel
theorem dM_weightOf_175 : decode cM_weightOf 175 = .ok (.iload 5, 2) := by decide +kernel
theorem dM_weightOf_177 : decode cM_weightOf 177 = .ok (.imul, 1) := by decide +kernel
theorem dM_weightOf_178 : decode cM_weightOf 178 = .ok (.iload 6, 2) := by decide +kernel
theorem dM_weightOf_180 : decode cM_weightOf 180 = .ok (.iadd, 1) := by decide +kernel
theorem dM_weightOf_181 : decode cM_weightOf 181 = .ok (.laload, 1) := by decide +kernel
theorem dM_weightOf_182 : decode cM_weightOf 182 = .ok (.lload 7, 2) := by decide +kernel
theorem dM_weightOf_184 : decode cM_weightOf 184 = .ok (.lmul, 1) := by decide +kernel
theorem dM_weightOf_185 : decode cM_weightOf 185 = .ok (.aload_n 0, 1) := by decide +kernel
theorem dM_weightOf_186 : decode cM_weightOf 186 = .ok (.getfield 80, 3) := by decide +kernel
theorem dM_weightOf_189 : decode cM_weightOf 189 = .ok (.i2l, 1) := by decide +kernel
theorem dM_weightOf_190 : decode cM_weightOf 190 = .ok (.lrem, 1) := by decide +kernel
theorem dM_weightOf_191 : decode cM_weightOf 191 = .ok (.lastore, 1) := by decide +kernel
theorem dM_weightOf_192 : decode cM_weightOf 192 = .ok (.iinc 6 1, 3) := by decide +kernel
theorem dM_weightOf_195 : decode cM_weightOf 195 = .ok (.goto (-105), 3) := by decide +kernel
theorem dM_weightOf_198 : decode cM_weightOf 198 = .ok (.iinc 4 (-1), 3) := by decide +kernel
theorem dM_weightOf_201 : decode cM_weightOf 201 = .ok (.goto (-160), 3) := by decide +kernel
theorem dM_weightOf_204 : decode cM_weightOf 204 = .ok (.lconst 0, 1) := by decide +kernel
theorem dM_weightOf_205 : decode cM_weightOf 205 = .ok (.lstore 4, 2) := by decide +kernel
theorem dM_weightOf_207 : decode cM_weightOf 207 = .ok (.iconst 0, 1) := by decide +kernel
theorem dM_weightOf_208 : decode cM_weightOf 208 = .ok (.istore 6, 2) := by decide +kernel
theorem dM_weightOf_210 : decode cM_weightOf 210 = .ok (.iload 6, 2) := by decide +kernel
theorem dM_weightOf_212 : decode cM_weightOf 212 = .ok (.iload_n 3, 1) := by decide +kernel
theorem dM_weightOf_213 : decode cM_weightOf 213 = .ok (.if_icmp .ge 40, 3) := by decide +kernel
theorem dM_weightOf_216 : decode cM_weightOf 216 = .ok (.lload 4, 2) := by decide +kernel
theorem dM_weightOf_218 : decode cM_weightOf 218 = .ok (.aload_n 0, 1) := by decide +kernel
theorem dM_weightOf_219 : decode cM_weightOf 219 = .ok (.getfield 43, 3) := by decide +kernel
theorem dM_weightOf_222 : decode cM_weightOf 222 = .ok (.bipush 8, 2) := by decide +kernel
theorem dM_weightOf_224 : decode cM_weightOf 224 = .ok (.iload_n 1, 1) := by decide +kernel
theorem dM_weightOf_225 : decode cM_weightOf 225 = .ok (.imul, 1) := by decide +kernel
theorem dM_weightOf_226 : decode cM_weightOf 226 = .ok (.iload 6, 2) := by decide +kernel
theorem dM_weightOf_228 : decode cM_weightOf 228 = .ok (.iadd, 1) := by decide +kernel
theorem dM_weightOf_229 : decode cM_weightOf 229 = .ok (.laload, 1) := by decide +kernel
theorem dM_weightOf_230 : decode cM_weightOf 230 = .ok (.aload_n 0, 1) := by decide +kernel
theorem dM_weightOf_231 : decode cM_weightOf 231 = .ok (.getfield 49, 3) := by decide +kernel
theorem dM_weightOf_234 : decode cM_weightOf 234 = .ok (.iload 6, 2) := by decide +kernel
theorem dM_weightOf_236 : decode cM_weightOf 236 = .ok (.laload, 1) := by decide +kernel
theorem dM_weightOf_237 : decode cM_weightOf 237 = .ok (.lmul, 1) := by decide +kernel
theorem dM_weightOf_238 : decode cM_weightOf 238 = .ok (.ladd, 1) := by decide +kernel
theorem dM_weightOf_239 : decode cM_weightOf 239 = .ok (.aload_n 0, 1) := by decide +kernel
theorem dM_weightOf_240 : decode cM_weightOf 240 = .ok (.getfield 80, 3) := by decide +kernel
theorem dM_weightOf_243 : decode cM_weightOf 243 = .ok (.i2l, 1) := by decide +kernel
theorem dM_weightOf_244 : decode cM_weightOf 244 = .ok (.lrem, 1) := by decide +kernel
theorem dM_weightOf_245 : decode cM_weightOf 245 = .ok (.lstore 4, 2) := by decide +kernel
theorem dM_weightOf_247 : decode cM_weightOf 247 = .ok (.iinc 6 1, 3) := by decide +kernel
theorem dM_weightOf_250 : decode cM_weightOf 250 = .ok (.goto (-40), 3) := by decide +kernel
theorem dM_weightOf_253 : decode cM_weightOf 253 = .ok (.lload 4, 2) := by decide +kernel
theorem dM_weightOf_255 : decode cM_weightOf 255 = .ok (.lreturn, 1) := by decide +kernel
theorem dM_fits_0 : decode cM_fits 0 = .ok (.aload_n 0, 1) := by decide +kernel
theorem dM_fits_1 : decode cM_fits 1 = .ok (.iload_n 1, 1) := by decide +kernel
theorem dM_fits_2 : decode cM_fits 2 = .ok (.iload_n 2, 1) := by decide +kernel
theorem dM_fits_3 : decode cM_fits 3 = .ok (.invokevirtual 168, 3) := by decide +kernel
theorem dM_fits_6 : decode cM_fits 6 = .ok (.aload_n 0, 1) := by decide +kernel
theorem dM_fits_7 : decode cM_fits 7 = .ok (.iload_n 2, 1) := by decide +kernel
theorem dM_fits_8 : decode cM_fits 8 = .ok (.invokevirtual 105, 3) := by decide +kernel
theorem dM_fits_11 : decode cM_fits 11 = .ok (.i2l, 1) := by decide +kernel
theorem dM_fits_12 : decode cM_fits 12 = .ok (.lmul, 1) := by decide +kernel
theorem dM_fits_13 : decode cM_fits 13 = .ok (.aload_n 0, 1) := by decide +kernel
theorem dM_fits_14 : decode cM_fits 14 = .ok (.getfield 80, 3) := by decide +kernel
theorem dM_fits_17 : decode cM_fits 17 = .ok (.i2l, 1) := by decide +kernel
theorem dM_fits_18 : decode cM_fits 18 = .ok (.lrem, 1) := by decide +kernel
theorem dM_fits_19 : decode cM_fits 19 = .ok (.lconst 1, 1) := by decide +kernel
theorem dM_fits_20 : decode cM_fits 20 = .ok (.lcmp, 1) := by decide +kernel
theorem dM_fits_21 : decode cM_fits 21 = .ok (.ifCond .ne 7, 3) := by decide +kernel
theorem dM_fits_24 : decode cM_fits 24 = .ok (.iconst 1, 1) := by decide +kernel
theorem dM_fits_25 : decode cM_fits 25 = .ok (.goto 4, 3) := by decide +kernel
theorem dM_fits_28 : decode cM_fits 28 = .ok (.iconst 0, 1) := by decide +kernel
theorem dM_fits_29 : decode cM_fits 29 = .ok (.ireturn, 1) := by decide +kernel
theorem dM_firstNot_0 : decode cM_firstNot 0 = .ok (.iconst 0, 1) := by decide +kernel
theorem dM_firstNot_1 : decode cM_firstNot 1 = .ok (.istore_n 2, 1) := by decide +kernel
theorem dM_firstNot_2 : decode cM_firstNot 2 = .ok (.iload_n 2, 1) := by decide +kernel
theorem dM_firstNot_3 : decode cM_firstNot 3 = .ok (.bipush 37, 2) := by decide +kernel
theorem dM_firstNot_5 : decode cM_firstNot 5 = .ok (.if_icmp .ge 20, 3) := by decide +kernel
theorem dM_firstNot_8 : decode cM_firstNot 8 = .ok (.aload_n 0, 1) := by decide +kernel
theorem dM_firstNot_9 : decode cM_firstNot 9 = .ok (.iload_n 1, 1) := by decide +kernel
theorem dM_firstNot_10 : decode cM_firstNot 10 = .ok (.iload_n 2, 1) := by decide +kernel
theorem dM_firstNot_11 : decode cM_firstNot 11 = .ok (.invokevirtual 172, 3) := by decide +kernel
theorem dM_firstNot_14 : decode cM_firstNot 14 = .ok (.ifCond .ne 5, 3) := by decide +kernel
theorem dM_firstNot_17 : decode cM_firstNot 17 = .ok (.iload_n 2, 1) := by decide +kernel
theorem dM_firstNot_18 : decode cM_firstNot 18 = .ok (.ireturn, 1) := by decide +kernel
theorem dM_firstNot_19 : decode cM_firstNot 19 = .ok (.iinc 2 1, 3) := by decide +kernel
theorem dM_firstNot_22 : decode cM_firstNot 22 = .ok (.goto (-20), 3) := by decide +kernel
theorem dM_firstNot_25 : decode cM_firstNot 25 = .ok (.ldc 95, 2) := by decide +kernel
theorem dM_firstNot_27 : decode cM_firstNot 27 = .ok (.ireturn, 1) := by decide +kernel
theorem dM_orderOf_0 : decode cM_orderOf 0 = .ok (.aload_n 0, 1) := by decide +kernel
theorem dM_orderOf_1 : decode cM_orderOf 1 = .ok (.iload_n 1, 1) := by decide +kernel
theorem dM_orderOf_2 : decode cM_orderOf 2 = .ok (.invokevirtual 175, 3) := by decide +kernel
theorem dM_orderOf_5 : decode cM_orderOf 5 = .ok (.istore_n 2, 1) := by decide +kernel
theorem dM_orderOf_6 : decode cM_orderOf 6 = .ok (.iload_n 2, 1) := by decide +kernel
theorem dM_orderOf_7 : decode cM_orderOf 7 = .ok (.ldc 95, 2) := by decide +kernel
theorem dM_orderOf_9 : decode cM_orderOf 9 = .ok (.if_icmp .ne 8, 3) := by decide +kernel
theorem dM_orderOf_12 : decode cM_orderOf 12 = .ok (.bipush 6, 2) := by decide +kernel
theorem dM_orderOf_14 : decode cM_orderOf 14 = .ok (.goto 11, 3) := by decide +kernel
theorem dM_orderOf_17 : decode cM_orderOf 17 = .ok (.aload_n 0, 1) := by decide +kernel
theorem dM_orderOf_18 : decode cM_orderOf 18 = .ok (.getfield 17, 3) := by decide +kernel
theorem dM_orderOf_21 : decode cM_orderOf 21 = .ok (.iload_n 2, 1) := by decide +kernel
theorem dM_orderOf_22 : decode cM_orderOf 22 = .ok (.iaload, 1) := by decide +kernel
theorem dM_orderOf_23 : decode cM_orderOf 23 = .ok (.iconst 1, 1) := by decide +kernel
theorem dM_orderOf_24 : decode cM_orderOf 24 = .ok (.isub, 1) := by decide +kernel
theorem dM_orderOf_25 : decode cM_orderOf 25 = .ok (.ireturn, 1) := by decide +kernel
theorem dM_ask_0 : decode cM_ask 0 = .ok (.aload_n 0, 1) := by decide +kernel
theorem dM_ask_1 : decode cM_ask 1 = .ok (.iconst 0, 1) := by decide +kernel
theorem dM_ask_2 : decode cM_ask 2 = .ok (.putfield 1, 3) := by decide +kernel
theorem dM_ask_5 : decode cM_ask 5 = .ok (.iload_n 1, 1) := by decide +kernel
theorem dM_ask_6 : decode cM_ask 6 = .ok (.invokestatic 129, 3) := by decide +kernel
theorem dM_ask_9 : decode cM_ask 9 = .ok (.ifCond .eq 13, 3) := by decide +kernel
theorem dM_ask_12 : decode cM_ask 12 = .ok (.iload_n 2, 1) := by decide +kernel
theorem dM_ask_13 : decode cM_ask 13 = .ok (.i2l, 1) := by decide +kernel
theorem dM_ask_14 : decode cM_ask 14 = .ok (.lconst 0, 1) := by decide +kernel
theorem dM_ask_15 : decode cM_ask 15 = .ok (.lconst 1, 1) := by decide +kernel
theorem dM_ask_16 : decode cM_ask 16 = .ok (.invokestatic 71, 3) := by decide +kernel
theorem dM_ask_19 : decode cM_ask 19 = .ok (.ifCond .ne 6, 3) := by decide +kernel
theorem dM_ask_22 : decode cM_ask 22 = .ok (.ldc 90, 2) := by decide +kernel
theorem dM_ask_24 : decode cM_ask 24 = .ok (.ireturn, 1) := by decide +kernel
theorem dM_ask_25 : decode cM_ask 25 = .ok (.aload_n 0, 1) := by decide +kernel
theorem dM_ask_26 : decode cM_ask 26 = .ok (.iconst 0, 1) := by decide +kernel
theorem dM_ask_27 : decode cM_ask 27 = .ok (.putfield 156, 3) := by decide +kernel
theorem dM_ask_30 : decode cM_ask 30 = .ok (.aload_n 0, 1) := by decide +kernel
theorem dM_ask_31 : decode cM_ask 31 = .ok (.iload_n 1, 1) := by decide +kernel
theorem dM_ask_32 : decode cM_ask 32 = .ok (.invokevirtual 149, 3) := by decide +kernel
theorem dM_ask_35 : decode cM_ask 35 = .ok (.istore_n 3, 1) := by decide +kernel
theorem dM_ask_36 : decode cM_ask 36 = .ok (.iload_n 3, 1) := by decide +kernel
theorem dM_ask_37 : decode cM_ask 37 = .ok (.ifCond .ge 5, 3) := by decide +kernel
theorem dM_ask_40 : decode cM_ask 40 = .ok (.iload_n 3, 1) := by decide +kernel
theorem dM_ask_41 : decode cM_ask 41 = .ok (.ireturn, 1) := by decide +kernel
theorem dM_ask_42 : decode cM_ask 42 = .ok (.aload_n 0, 1) := by decide +kernel
theorem dM_ask_43 : decode cM_ask 43 = .ok (.iload_n 1, 1) := by decide +kernel
theorem dM_ask_44 : decode cM_ask 44 = .ok (.invokevirtual 126, 3) := by decide +kernel
theorem dM_ask_47 : decode cM_ask 47 = .ok (.istore 4, 2) := by decide +kernel
theorem dM_ask_49 : decode cM_ask 49 = .ok (.iload 4, 2) := by decide +kernel
theorem dM_ask_51 : decode cM_ask 51 = .ok (.iconst 3, 1) := by decide +kernel
theorem dM_ask_52 : decode cM_ask 52 = .ok (.if_icmp .ne 49, 3) := by decide +kernel
theorem dM_ask_55 : decode cM_ask 55 = .ok (.iconst 0, 1) := by decide +kernel
theorem dM_ask_56 : decode cM_ask 56 = .ok (.istore 5, 2) := by decide +kernel
theorem dM_ask_58 : decode cM_ask 58 = .ok (.iload_n 2, 1) := by decide +kernel
theorem dM_ask_59 : decode cM_ask 59 = .ok (.ifCond .ne 18, 3) := by decide +kernel
theorem dM_ask_62 : decode cM_ask 62 = .ok (.aload_n 0, 1) := by decide +kernel
theorem dM_ask_63 : decode cM_ask 63 = .ok (.bipush 13, 2) := by decide +kernel
theorem dM_ask_65 : decode cM_ask 65 = .ok (.invokevirtual 159, 3) := by decide +kernel
theorem dM_ask_68 : decode cM_ask 68 = .ok (.aload_n 0, 1) := by decide +kernel
theorem dM_ask_69 : decode cM_ask 69 = .ok (.iload_n 1, 1) := by decide +kernel
theorem dM_ask_70 : decode cM_ask 70 = .ok (.iload 4, 2) := by decide +kernel
theorem dM_ask_72 : decode cM_ask 72 = .ok (.invokevirtual 162, 3) := by decide +kernel
theorem dM_ask_75 : decode cM_ask 75 = .ok (.istore 5, 2) := by decide +kernel
theorem dM_ask_77 : decode cM_ask 77 = .ok (.aload_n 0, 1) := by decide +kernel
theorem dM_ask_78 : decode cM_ask 78 = .ok (.bipush 22, 2) := by decide +kernel
theorem dM_ask_80 : decode cM_ask 80 = .ok (.invokevirtual 159, 3) := by decide +kernel
theorem dM_ask_83 : decode cM_ask 83 = .ok (.aload_n 0, 1) := by decide +kernel
theorem dM_ask_84 : decode cM_ask 84 = .ok (.bipush 20, 2) := by decide +kernel
theorem dM_ask_86 : decode cM_ask 86 = .ok (.invokevirtual 159, 3) := by decide +kernel
theorem dM_ask_89 : decode cM_ask 89 = .ok (.iload 5, 2) := by decide +kernel
theorem dM_ask_91 : decode cM_ask 91 = .ok (.aload_n 0, 1) := by decide +kernel
theorem dM_ask_92 : decode cM_ask 92 = .ok (.iload_n 1, 1) := by decide +kernel
theorem dM_ask_93 : decode cM_ask 93 = .ok (.invokevirtual 165, 3) := by decide +kernel
theorem dM_ask_96 : decode cM_ask 96 = .ok (.iadd, 1) := by decide +kernel
theorem dM_ask_97 : decode cM_ask 97 = .ok (.bipush 10, 2) := by decide +kernel
theorem dM_ask_99 : decode cM_ask 99 = .ok (.iadd, 1) := by decide +kernel
theorem dM_ask_100 : decode cM_ask 100 = .ok (.ireturn, 1) := by decide +kernel
theorem dM_ask_101 : decode cM_ask 101 = .ok (.iload_n 2, 1) := by decide +kernel
theorem dM_ask_102 : decode cM_ask 102 = .ok (.ifCond .ne 11, 3) := by decide +kernel
theorem dM_ask_105 : decode cM_ask 105 = .ok (.aload_n 0, 1) := by decide +kernel
theorem dM_ask_106 : decode cM_ask 106 = .ok (.iload_n 1, 1) := by decide +kernel
theorem dM_ask_107 : decode cM_ask 107 = .ok (.iload 4, 2) := by decide +kernel
theorem dM_ask_109 : decode cM_ask 109 = .ok (.invokevirtual 162, 3) := by decide +kernel
theorem dM_ask_112 : decode cM_ask 112 = .ok (.ireturn, 1) := by decide +kernel
theorem dM_ask_113 : decode cM_ask 113 = .ok (.iload 4, 2) := by decide +kernel
theorem dM_ask_115 : decode cM_ask 115 = .ok (.iconst 1, 1) := by decide +kernel
theorem dM_ask_116 : decode cM_ask 116 = .ok (.invokestatic 152, 3) := by decide +kernel
theorem dM_ask_119 : decode cM_ask 119 = .ok (.ifCond .eq 9, 3) := by decide +kernel
theorem dM_ask_122 : decode cM_ask 122 = .ok (.aload_n 0, 1) := by decide +kernel
theorem dM_ask_123 : decode cM_ask 123 = .ok (.bipush 21, 2) := by decide +kernel
theorem dM_ask_125 : decode cM_ask 125 = .ok (.invokevirtual 159, 3) := by decide +kernel
theorem dM_ask_128 : decode cM_ask 128 = .ok (.aload_n 0, 1) := by decide +kernel
theorem dM_ask_129 : decode cM_ask 129 = .ok (.bipush 20, 2) := by decide +kernel
theorem dM_ask_131 : decode cM_ask 131 = .ok (.invokevirtual 159, 3) := by decide +kernel
theorem dM_ask_134 : decode cM_ask 134 = .ok (.aload_n 0, 1) := by decide +kernel
theorem dM_ask_135 : decode cM_ask 135 = .ok (.iload_n 1, 1) := by decide +kernel
theorem dM_ask_136 : decode cM_ask 136 = .ok (.invokevirtual 165, 3) := by decide +kernel
theorem dM_ask_139 : decode cM_ask 139 = .ok (.iload 4, 2) := by decide +kernel
theorem dM_ask_141 : decode cM_ask 141 = .ok (.iconst 1, 1) := by decide +kernel
theorem dM_ask_142 : decode cM_ask 142 = .ok (.invokestatic 152, 3) := by decide +kernel
theorem dM_ask_145 : decode cM_ask 145 = .ok (.ifCond .eq 13, 3) := by decide +kernel
theorem dM_ask_148 : decode cM_ask 148 = .ok (.aload_n 0, 1) := by decide +kernel
theorem dM_ask_149 : decode cM_ask 149 = .ok (.iload_n 1, 1) := by decide +kernel
theorem dM_ask_150 : decode cM_ask 150 = .ok (.iload 4, 2) := by decide +kernel
theorem dM_ask_152 : decode cM_ask 152 = .ok (.invokevirtual 162, 3) := by decide +kernel
theorem dM_ask_155 : decode cM_ask 155 = .ok (.goto 4, 3) := by decide +kernel
theorem dM_ask_158 : decode cM_ask 158 = .ok (.iconst 0, 1) := by decide +kernel
theorem dM_ask_159 : decode cM_ask 159 = .ok (.iadd, 1) := by decide +kernel
theorem dM_ask_160 : decode cM_ask 160 = .ok (.ireturn, 1) := by decide +kernel
theorem dM_trace_0 : decode cM_trace 0 = .ok (.aload_n 0, 1) := by decide +kernel
theorem dM_trace_1 : decode cM_trace 1 = .ok (.iconst 0, 1) := by decide +kernel
theorem dM_trace_2 : decode cM_trace 2 = .ok (.putfield 1, 3) := by decide +kernel
theorem dM_trace_5 : decode cM_trace 5 = .ok (.iload_n 1, 1) := by decide +kernel
theorem dM_trace_6 : decode cM_trace 6 = .ok (.i2l, 1) := by decide +kernel
theorem dM_trace_7 : decode cM_trace 7 = .ok (.lconst 0, 1) := by decide +kernel
theorem dM_trace_8 : decode cM_trace 8 = .ok (.aload_n 0, 1) := by decide +kernel
theorem dM_trace_9 : decode cM_trace 9 = .ok (.getfield 156, 3) := by decide +kernel
theorem dM_trace_12 : decode cM_trace 12 = .ok (.iconst 1, 1) := by decide +kernel
theorem dM_trace_13 : decode cM_trace 13 = .ok (.isub, 1) := by decide +kernel
theorem dM_trace_14 : decode cM_trace 14 = .ok (.i2l, 1) := by decide +kernel
theorem dM_trace_15 : decode cM_trace 15 = .ok (.invokestatic 71, 3) := by decide +kernel
theorem dM_trace_18 : decode cM_trace 18 = .ok (.ifCond .eq 12, 3) := by decide +kernel
theorem dM_trace_21 : decode cM_trace 21 = .ok (.aload_n 0, 1) := by decide +kernel
theorem dM_trace_22 : decode cM_trace 22 = .ok (.getfield 46, 3) := by decide +kernel
theorem dM_trace_25 : decode cM_trace 25 = .ok (.iload_n 1, 1) := by decide +kernel
theorem dM_trace_26 : decode cM_trace 26 = .ok (.iaload, 1) := by decide +kernel
theorem dM_trace_27 : decode cM_trace 27 = .ok (.goto 5, 3) := by decide +kernel
theorem dM_trace_30 : decode cM_trace 30 = .ok (.ldc 95, 2) := by decide +kernel
theorem dM_trace_32 : decode cM_trace 32 = .ok (.ireturn, 1) := by decide +kernel
theorem dM_weight_0 : decode cM_weight 0 = .ok (.aload_n 0, 1) := by decide +kernel
theorem dM_weight_1 : decode cM_weight 1 = .ok (.iconst 0, 1) := by decide +kernel
theorem dM_weight_2 : decode cM_weight 2 = .ok (.putfield 1, 3) := by decide +kernel
theorem dM_weight_5 : decode cM_weight 5 = .ok (.iload_n 1, 1) := by decide +kernel
theorem dM_weight_6 : decode cM_weight 6 = .ok (.invokestatic 129, 3) := by decide +kernel
theorem dM_weight_9 : decode cM_weight 9 = .ok (.ifCond .eq 10, 3) := by decide +kernel
theorem dM_weight_12 : decode cM_weight 12 = .ok (.iload_n 2, 1) := by decide +kernel
theorem dM_weight_13 : decode cM_weight 13 = .ok (.invokestatic 96, 3) := by decide +kernel
theorem dM_weight_16 : decode cM_weight 16 = .ok (.ifCond .ne 6, 3) := by decide +kernel
theorem dM_weight_19 : decode cM_weight 19 = .ok (.ldc 90, 2) := by decide +kernel
theorem dM_weight_21 : decode cM_weight 21 = .ok (.ireturn, 1) := by decide +kernel
theorem dM_weight_22 : decode cM_weight 22 = .ok (.aload_n 0, 1) := by decide +kernel
theorem dM_weight_23 : decode cM_weight 23 = .ok (.iload_n 1, 1) := by decide +kernel
theorem dM_weight_24 : decode cM_weight 24 = .ok (.invokevirtual 149, 3) := by decide +kernel
theorem dM_weight_27 : decode cM_weight 27 = .ok (.istore_n 3, 1) := by decide +kernel
theorem dM_weight_28 : decode cM_weight 28 = .ok (.iload_n 3, 1) := by decide +kernel
theorem dM_weight_29 : decode cM_weight 29 = .ok (.ifCond .ge 7, 3) := by decide +kernel
theorem dM_weight_32 : decode cM_weight 32 = .ok (.iload_n 3, 1) := by decide +kernel
theorem dM_weight_33 : decode cM_weight 33 = .ok (.goto 10, 3) := by decide +kernel
theorem dM_weight_36 : decode cM_weight 36 = .ok (.aload_n 0, 1) := by decide +kernel
theorem dM_weight_37 : decode cM_weight 37 = .ok (.iload_n 1, 1) := by decide +kernel
theorem dM_weight_38 : decode cM_weight 38 = .ok (.iload_n 2, 1) := by decide +kernel
theorem dM_weight_39 : decode cM_weight 39 = .ok (.invokevirtual 168, 3) := by decide +kernel
theorem dM_weight_42 : decode cM_weight 42 = .ok (.l2i, 1) := by decide +kernel
theorem dM_weight_43 : decode cM_weight 43 = .ok (.ireturn, 1) := by decide +kernel
theorem dM_order_0 : decode cM_order 0 = .ok (.aload_n 0, 1) := by decide +kernel
theorem dM_order_1 : decode cM_order 1 = .ok (.iconst 0, 1) := by decide +kernel
theorem dM_order_2 : decode cM_order 2 = .ok (.putfield 1, 3) := by decide +kernel
theorem dM_order_5 : decode cM_order 5 = .ok (.iload_n 1, 1) := by decide +kernel
theorem dM_order_6 : decode cM_order 6 = .ok (.invokestatic 129, 3) := by decide +kernel
theorem dM_order_9 : decode cM_order 9 = .ok (.ifCond .eq 13, 3) := by decide +kernel
theorem dM_order_12 : decode cM_order 12 = .ok (.iload_n 2, 1) := by decide +kernel
theorem dM_order_13 : decode cM_order 13 = .ok (.i2l, 1) := by decide +kernel
theorem dM_order_14 : decode cM_order 14 = .ok (.lconst 0, 1) := by decide +kernel
theorem dM_order_15 : decode cM_order 15 = .ok (.lconst 1, 1) := by decide +kernel
theorem dM_order_16 : decode cM_order 16 = .ok (.invokestatic 71, 3) := by decide +kernel
theorem dM_order_19 : decode cM_order 19 = .ok (.ifCond .ne 6, 3) := by decide +kernel
theorem dM_order_22 : decode cM_order 22 = .ok (.ldc 90, 2) := by decide +kernel
theorem dM_order_24 : decode cM_order 24 = .ok (.ireturn, 1) := by decide +kernel
theorem dM_order_25 : decode cM_order 25 = .ok (.aload_n 0, 1) := by decide +kernel
theorem dM_order_26 : decode cM_order 26 = .ok (.iload_n 1, 1) := by decide +kernel
theorem dM_order_27 : decode cM_order 27 = .ok (.invokevirtual 149, 3) := by decide +kernel
theorem dM_order_30 : decode cM_order 30 = .ok (.istore_n 3, 1) := by decide +kernel
theorem dM_order_31 : decode cM_order 31 = .ok (.iload_n 3, 1) := by decide +kernel
theorem dM_order_32 : decode cM_order 32 = .ok (.ifCond .ge 7, 3) := by decide +kernel
theorem dM_order_35 : decode cM_order 35 = .ok (.iload_n 3, 1) := by decide +kernel
theorem dM_order_36 : decode cM_order 36 = .ok (.goto 20, 3) := by decide +kernel
theorem dM_order_39 : decode cM_order 39 = .ok (.iload_n 2, 1) := by decide +kernel
theorem dM_order_40 : decode cM_order 40 = .ok (.ifCond .ne 11, 3) := by decide +kernel
theorem dM_order_43 : decode cM_order 43 = .ok (.aload_n 0, 1) := by decide +kernel
theorem dM_order_44 : decode cM_order 44 = .ok (.iload_n 1, 1) := by decide +kernel
theorem dM_order_45 : decode cM_order 45 = .ok (.invokevirtual 165, 3) := by decide +kernel
theorem dM_order_48 : decode cM_order 48 = .ok (.goto 8, 3) := by decide +kernel
theorem dM_order_51 : decode cM_order 51 = .ok (.aload_n 0, 1) := by decide +kernel
theorem dM_order_52 : decode cM_order 52 = .ok (.iload_n 1, 1) := by decide +kernel
theorem dM_order_53 : decode cM_order 53 = .ok (.invokevirtual 175, 3) := by decide +kernel
theorem dM_order_56 : decode cM_order 56 = .ok (.ireturn, 1) := by decide +kernel
theorem dM_share_0 : decode cM_share 0 = .ok (.aload_n 0, 1) := by decide +kernel
theorem dM_share_1 : decode cM_share 1 = .ok (.iconst 0, 1) := by decide +kernel
theorem dM_share_2 : decode cM_share 2 = .ok (.putfield 1, 3) := by decide +kernel
theorem dM_share_5 : decode cM_share 5 = .ok (.iload_n 1, 1) := by decide +kernel
theorem dM_share_6 : decode cM_share 6 = .ok (.invokestatic 129, 3) := by decide +kernel
theorem dM_share_9 : decode cM_share 9 = .ok (.ifCond .eq 25, 3) := by decide +kernel
theorem dM_share_12 : decode cM_share 12 = .ok (.iload_n 2, 1) := by decide +kernel
theorem dM_share_13 : decode cM_share 13 = .ok (.i2l, 1) := by decide +kernel
theorem dM_share_14 : decode cM_share 14 = .ok (.lconst 0, 1) := by decide +kernel
theorem dM_share_15 : decode cM_share 15 = .ok (.lconst 1, 1) := by decide +kernel
theorem dM_share_16 : decode cM_share 16 = .ok (.invokestatic 71, 3) := by decide +kernel
theorem dM_share_19 : decode cM_share 19 = .ok (.ifCond .eq 15, 3) := by decide +kernel
theorem dM_share_22 : decode cM_share 22 = .ok (.iload_n 3, 1) := by decide +kernel
theorem dM_share_23 : decode cM_share 23 = .ok (.i2l, 1) := by decide +kernel
theorem dM_share_24 : decode cM_share 24 = .ok (.lconst 0, 1) := by decide +kernel
theorem dM_share_25 : decode cM_share 25 = .ok (.ldc2_w 178, 3) := by decide +kernel
theorem dM_share_28 : decode cM_share 28 = .ok (.invokestatic 71, 3) := by decide +kernel
theorem dM_share_31 : decode cM_share 31 = .ok (.ifCond .ne 6, 3) := by decide +kernel
theorem dM_share_34 : decode cM_share 34 = .ok (.ldc 90, 2) := by decide +kernel
theorem dM_share_36 : decode cM_share 36 = .ok (.ireturn, 1) := by decide +kernel
theorem dM_share_37 : decode cM_share 37 = .ok (.aload_n 0, 1) := by decide +kernel
theorem dM_share_38 : decode cM_share 38 = .ok (.iload_n 1, 1) := by decide +kernel
theorem dM_share_39 : decode cM_share 39 = .ok (.invokevirtual 149, 3) := by decide +kernel
theorem dM_share_42 : decode cM_share 42 = .ok (.istore 4, 2) := by decide +kernel
theorem dM_share_44 : decode cM_share 44 = .ok (.iload 4, 2) := by decide +kernel
theorem dM_share_46 : decode cM_share 46 = .ok (.ifCond .ge 6, 3) := by decide +kernel
theorem dM_share_49 : decode cM_share 49 = .ok (.iload 4, 2) := by decide +kernel
theorem dM_share_51 : decode cM_share 51 = .ok (.ireturn, 1) := by decide +kernel
theorem dM_share_52 : decode cM_share 52 = .ok (.aload_n 0, 1) := by decide +kernel
theorem dM_share_53 : decode cM_share 53 = .ok (.getfield 37, 3) := by decide +kernel
theorem dM_share_56 : decode cM_share 56 = .ok (.iload_n 1, 1) := by decide +kernel
theorem dM_share_57 : decode cM_share 57 = .ok (.iaload, 1) := by decide +kernel
theorem dM_share_58 : decode cM_share 58 = .ok (.istore 5, 2) := by decide +kernel
theorem dM_share_60 : decode cM_share 60 = .ok (.iconst 0, 1) := by decide +kernel
theorem dM_share_61 : decode cM_share 61 = .ok (.istore 6, 2) := by decide +kernel
theorem dM_share_63 : decode cM_share 63 = .ok (.iload 6, 2) := by decide +kernel
theorem dM_share_65 : decode cM_share 65 = .ok (.bipush 8, 2) := by decide +kernel
theorem dM_share_67 : decode cM_share 67 = .ok (.if_icmp .ge 161, 3) := by decide +kernel
theorem dM_share_70 : decode cM_share 70 = .ok (.iconst 0, 1) := by decide +kernel
theorem dM_share_71 : decode cM_share 71 = .ok (.istore 7, 2) := by decide +kernel
theorem dM_share_73 : decode cM_share 73 = .ok (.iload 7, 2) := by decide +kernel
theorem dM_share_75 : decode cM_share 75 = .ok (.bipush 8, 2) := by decide +kernel
theorem dM_share_77 : decode cM_share 77 = .ok (.if_icmp .ge 145, 3) := by decide +kernel
theorem dM_share_80 : decode cM_share 80 = .ok (.iload 6, 2) := by decide +kernel
theorem dM_share_82 : decode cM_share 82 = .ok (.iload 5, 2) := by decide +kernel
theorem dM_share_84 : decode cM_share 84 = .ok (.if_icmp .ge 14, 3) := by decide +kernel
theorem dM_share_87 : decode cM_share 87 = .ok (.iload 7, 2) := by decide +kernel
theorem dM_share_89 : decode cM_share 89 = .ok (.iload 5, 2) := by decide +kernel
theorem dM_share_91 : decode cM_share 91 = .ok (.if_icmp .ge 7, 3) := by decide +kernel
theorem dM_share_94 : decode cM_share 94 = .ok (.iconst 1, 1) := by decide +kernel
theorem dM_share_95 : decode cM_share 95 = .ok (.goto 4, 3) := by decide +kernel
theorem dM_share_98 : decode cM_share 98 = .ok (.iconst 0, 1) := by decide +kernel
theorem dM_share_99 : decode cM_share 99 = .ok (.istore 8, 2) := by decide +kernel
theorem dM_share_101 : decode cM_share 101 = .ok (.aload_n 0, 1) := by decide +kernel
theorem dM_share_102 : decode cM_share 102 = .ok (.getfield 52, 3) := by decide +kernel
theorem dM_share_105 : decode cM_share 105 = .ok (.bipush 8, 2) := by decide +kernel
theorem dM_share_107 : decode cM_share 107 = .ok (.iload 6, 2) := by decide +kernel
theorem dM_share_109 : decode cM_share 109 = .ok (.imul, 1) := by decide +kernel
theorem dM_share_110 : decode cM_share 110 = .ok (.iload 7, 2) := by decide +kernel
theorem dM_share_112 : decode cM_share 112 = .ok (.iadd, 1) := by decide +kernel
theorem dM_share_113 : decode cM_share 113 = .ok (.iload 8, 2) := by decide +kernel
theorem dM_share_115 : decode cM_share 115 = .ok (.ifCond .ne 7, 3) := by decide +kernel
theorem dM_share_118 : decode cM_share 118 = .ok (.lconst 0, 1) := by decide +kernel
theorem dM_share_119 : decode cM_share 119 = .ok (.goto 71, 3) := by decide +kernel
theorem dM_share_122 : decode cM_share 122 = .ok (.iload_n 2, 1) := by decide +kernel
theorem dM_share_123 : decode cM_share 123 = .ok (.ifCond .ne 49, 3) := by decide +kernel
theorem dM_share_126 : decode cM_share 126 = .ok (.aload_n 0, 1) := by decide +kernel
theorem dM_share_127 : decode cM_share 127 = .ok (.getfield 40, 3) := by decide +kernel
theorem dM_share_130 : decode cM_share 130 = .ok (.bipush 64, 2) := by decide +kernel
theorem dM_share_132 : decode cM_share 132 = .ok (.iload_n 1, 1) := by decide +kernel
theorem dM_share_133 : decode cM_share 133 = .ok (.imul, 1) := by decide +kernel
theorem dM_share_134 : decode cM_share 134 = .ok (.bipush 8, 2) := by decide +kernel
theorem dM_share_136 : decode cM_share 136 = .ok (.iload 6, 2) := by decide +kernel
theorem dM_share_138 : decode cM_share 138 = .ok (.imul, 1) := by decide +kernel
theorem dM_share_139 : decode cM_share 139 = .ok (.iadd, 1) := by decide +kernel
theorem dM_share_140 : decode cM_share 140 = .ok (.iload 7, 2) := by decide +kernel
theorem dM_share_142 : decode cM_share 142 = .ok (.iadd, 1) := by decide +kernel
theorem dM_share_143 : decode cM_share 143 = .ok (.laload, 1) := by decide +kernel
theorem dM_share_144 : decode cM_share 144 = .ok (.aload_n 0, 1) := by decide +kernel
theorem dM_share_145 : decode cM_share 145 = .ok (.getfield 80, 3) := by decide +kernel
theorem dM_share_148 : decode cM_share 148 = .ok (.i2l, 1) := by decide +kernel
theorem dM_share_149 : decode cM_share 149 = .ok (.ladd, 1) := by decide +kernel
theorem dM_share_150 : decode cM_share 150 = .ok (.aload_n 0, 1) := by decide +kernel
theorem dM_share_151 : decode cM_share 151 = .ok (.getfield 43, 3) := by decide +kernel
theorem dM_share_154 : decode cM_share 154 = .ok (.bipush 8, 2) := by decide +kernel
theorem dM_share_156 : decode cM_share 156 = .ok (.iload_n 1, 1) := by decide +kernel
theorem dM_share_157 : decode cM_share 157 = .ok (.imul, 1) := by decide +kernel
theorem dM_share_158 : decode cM_share 158 = .ok (.iload 7, 2) := by decide +kernel
theorem dM_share_160 : decode cM_share 160 = .ok (.iadd, 1) := by decide +kernel
theorem dM_share_161 : decode cM_share 161 = .ok (.laload, 1) := by decide +kernel
theorem dM_share_162 : decode cM_share 162 = .ok (.lsub, 1) := by decide +kernel
theorem dM_share_163 : decode cM_share 163 = .ok (.aload_n 0, 1) := by decide +kernel
theorem dM_share_164 : decode cM_share 164 = .ok (.getfield 80, 3) := by decide +kernel
theorem dM_share_167 : decode cM_share 167 = .ok (.i2l, 1) := by decide +kernel
theorem dM_share_168 : decode cM_share 168 = .ok (.lrem, 1) := by decide +kernel
theorem dM_share_169 : decode cM_share 169 = .ok (.goto 21, 3) := by decide +kernel
theorem dM_share_172 : decode cM_share 172 = .ok (.aload_n 0, 1) := by decide +kernel
theorem dM_share_173 : decode cM_share 173 = .ok (.getfield 40, 3) := by decide +kernel
theorem dM_share_176 : decode cM_share 176 = .ok (.bipush 64, 2) := by decide +kernel
theorem dM_share_178 : decode cM_share 178 = .ok (.iload_n 1, 1) := by decide +kernel
theorem dM_share_179 : decode cM_share 179 = .ok (.imul, 1) := by decide +kernel
theorem dM_share_180 : decode cM_share 180 = .ok (.bipush 8, 2) := by decide +kernel
theorem dM_share_182 : decode cM_share 182 = .ok (.iload 6, 2) := by decide +kernel
theorem dM_share_184 : decode cM_share 184 = .ok (.imul, 1) := by decide +kernel
theorem dM_share_185 : decode cM_share 185 = .ok (.iadd, 1) := by decide +kernel
theorem dM_share_186 : decode cM_share 186 = .ok (.iload 7, 2) := by decide +kernel
theorem dM_share_188 : decode cM_share 188 = .ok (.iadd, 1) := by decide +kernel
theorem dM_share_189 : decode cM_share 189 = .ok (.laload, 1) := by decide +kernel
theorem dM_share_190 : decode cM_share 190 = .ok (.lastore, 1) := by decide +kernel
theorem dM_share_191 : decode cM_share 191 = .ok (.aload_n 0, 1) := by decide +kernel
theorem dM_share_192 : decode cM_share 192 = .ok (.getfield 55, 3) := by decide +kernel
theorem dM_share_195 : decode cM_share 195 = .ok (.bipush 8, 2) := by decide +kernel
theorem dM_share_197 : decode cM_share 197 = .ok (.iload 6, 2) := by decide +kernel
theorem dM_share_199 : decode cM_share 199 = .ok (.imul, 1) := by decide +kernel
theorem dM_share_200 : decode cM_share 200 = .ok (.iload 7, 2) := by decide +kernel
theorem dM_share_202 : decode cM_share 202 = .ok (.iadd, 1) := by decide +kernel
theorem dM_share_203 : decode cM_share 203 = .ok (.iload 6, 2) := by decide +kernel
theorem dM_share_205 : decode cM_share 205 = .ok (.iload 7, 2) := by decide +kernel
theorem dM_share_207 : decode cM_share 207 = .ok (.if_icmp .ne 7, 3) := by decide +kernel
theorem dM_share_210 : decode cM_share 210 = .ok (.lconst 1, 1) := by decide +kernel
theorem dM_share_211 : decode cM_share 211 = .ok (.goto 4, 3) := by decide +kernel
theorem dM_share_214 : decode cM_share 214 = .ok (.lconst 0, 1) := by decide +kernel
theorem dM_share_215 : decode cM_share 215 = .ok (.lastore, 1) := by decide +kernel
theorem dM_share_216 : decode cM_share 216 = .ok (.iinc 7 1, 3) := by decide +kernel
theorem dM_share_219 : decode cM_share 219 = .ok (.goto (-146), 3) := by decide +kernel
theorem dM_share_222 : decode cM_share 222 = .ok (.iinc 6 1, 3) := by decide +kernel
theorem dM_share_225 : decode cM_share 225 = .ok (.goto (-162), 3) := by decide +kernel
theorem dM_share_228 : decode cM_share 228 = .ok (.aload_n 0, 1) := by decide +kernel
theorem dM_share_229 : decode cM_share 229 = .ok (.getfield 64, 3) := by decide +kernel
theorem dM_share_232 : decode cM_share 232 = .ok (.iconst 0, 1) := by decide +kernel
theorem dM_share_233 : decode cM_share 233 = .ok (.lconst 1, 1) := by decide +kernel
theorem dM_share_234 : decode cM_share 234 = .ok (.lastore, 1) := by decide +kernel
theorem dM_share_235 : decode cM_share 235 = .ok (.iconst 1, 1) := by decide +kernel
theorem dM_share_236 : decode cM_share 236 = .ok (.istore 6, 2) := by decide +kernel
theorem dM_share_238 : decode cM_share 238 = .ok (.iload 6, 2) := by decide +kernel
theorem dM_share_240 : decode cM_share 240 = .ok (.iload 5, 2) := by decide +kernel
theorem dM_share_242 : decode cM_share 242 = .ok (.if_icmp .gt 279, 3) := by decide +kernel
theorem dM_share_245 : decode cM_share 245 = .ok (.iconst 0, 1) := by decide +kernel
theorem dM_share_246 : decode cM_share 246 = .ok (.istore 7, 2) := by decide +kernel
theorem dM_share_248 : decode cM_share 248 = .ok (.iload 7, 2) := by decide +kernel
theorem dM_share_250 : decode cM_share 250 = .ok (.bipush 8, 2) := by decide +kernel
theorem dM_share_252 : decode cM_share 252 = .ok (.if_icmp .ge 97, 3) := by decide +kernel
theorem dM_share_255 : decode cM_share 255 = .ok (.iconst 0, 1) := by decide +kernel
theorem dM_share_256 : decode cM_share 256 = .ok (.istore 8, 2) := by decide +kernel
theorem dM_share_258 : decode cM_share 258 = .ok (.iload 8, 2) := by decide +kernel
theorem dM_share_260 : decode cM_share 260 = .ok (.bipush 8, 2) := by decide +kernel
theorem dM_share_262 : decode cM_share 262 = .ok (.if_icmp .ge 81, 3) := by decide +kernel
theorem dM_share_265 : decode cM_share 265 = .ok (.lconst 0, 1) := by decide +kernel
theorem dM_share_266 : decode cM_share 266 = .ok (.lstore 9, 2) := by decide +kernel
theorem dM_share_268 : decode cM_share 268 = .ok (.iconst 0, 1) := by decide +kernel
theorem dM_share_269 : decode cM_share 269 = .ok (.istore 11, 2) := by decide +kernel
theorem dM_share_271 : decode cM_share 271 = .ok (.iload 11, 2) := by decide +kernel
theorem dM_share_273 : decode cM_share 273 = .ok (.bipush 8, 2) := by decide +kernel
theorem dM_share_275 : decode cM_share 275 = .ok (.if_icmp .ge 47, 3) := by decide +kernel
theorem dM_share_278 : decode cM_share 278 = .ok (.lload 9, 2) := by decide +kernel
theorem dM_share_280 : decode cM_share 280 = .ok (.aload_n 0, 1) := by decide +kernel
theorem dM_share_281 : decode cM_share 281 = .ok (.getfield 55, 3) := by decide +kernel
theorem dM_share_284 : decode cM_share 284 = .ok (.bipush 8, 2) := by decide +kernel
theorem dM_share_286 : decode cM_share 286 = .ok (.iload 7, 2) := by decide +kernel
theorem dM_share_288 : decode cM_share 288 = .ok (.imul, 1) := by decide +kernel
theorem dM_share_289 : decode cM_share 289 = .ok (.iload 11, 2) := by decide +kernel
theorem dM_share_291 : decode cM_share 291 = .ok (.iadd, 1) := by decide +kernel
theorem dM_share_292 : decode cM_share 292 = .ok (.laload, 1) := by decide +kernel
theorem dM_share_293 : decode cM_share 293 = .ok (.aload_n 0, 1) := by decide +kernel
theorem dM_share_294 : decode cM_share 294 = .ok (.getfield 52, 3) := by decide +kernel
theorem dM_share_297 : decode cM_share 297 = .ok (.bipush 8, 2) := by decide +kernel
theorem dM_share_299 : decode cM_share 299 = .ok (.iload 11, 2) := by decide +kernel
theorem dM_share_301 : decode cM_share 301 = .ok (.imul, 1) := by decide +kernel
theorem dM_share_302 : decode cM_share 302 = .ok (.iload 8, 2) := by decide +kernel
theorem dM_share_304 : decode cM_share 304 = .ok (.iadd, 1) := by decide +kernel
theorem dM_share_305 : decode cM_share 305 = .ok (.laload, 1) := by decide +kernel
theorem dM_share_306 : decode cM_share 306 = .ok (.lmul, 1) := by decide +kernel
theorem dM_share_307 : decode cM_share 307 = .ok (.ladd, 1) := by decide +kernel
theorem dM_share_308 : decode cM_share 308 = .ok (.aload_n 0, 1) := by decide +kernel
theorem dM_share_309 : decode cM_share 309 = .ok (.getfield 80, 3) := by decide +kernel
theorem dM_share_312 : decode cM_share 312 = .ok (.i2l, 1) := by decide +kernel
theorem dM_share_313 : decode cM_share 313 = .ok (.lrem, 1) := by decide +kernel
theorem dM_share_314 : decode cM_share 314 = .ok (.lstore 9, 2) := by decide +kernel
theorem dM_share_316 : decode cM_share 316 = .ok (.iinc 11 1, 3) := by decide +kernel
theorem dM_share_319 : decode cM_share 319 = .ok (.goto (-48), 3) := by decide +kernel
theorem dM_share_322 : decode cM_share 322 = .ok (.aload_n 0, 1) := by decide +kernel
theorem dM_share_323 : decode cM_share 323 = .ok (.getfield 58, 3) := by decide +kernel
theorem dM_share_326 : decode cM_share 326 = .ok (.bipush 8, 2) := by decide +kernel
theorem dM_share_328 : decode cM_share 328 = .ok (.iload 7, 2) := by decide +kernel
theorem dM_share_330 : decode cM_share 330 = .ok (.imul, 1) := by decide +kernel
theorem dM_share_331 : decode cM_share 331 = .ok (.iload 8, 2) := by decide +kernel
theorem dM_share_333 : decode cM_share 333 = .ok (.iadd, 1) := by decide +kernel
theorem dM_share_334 : decode cM_share 334 = .ok (.lload 9, 2) := by decide +kernel
theorem dM_share_336 : decode cM_share 336 = .ok (.lastore, 1) := by decide +kernel
theorem dM_share_337 : decode cM_share 337 = .ok (.iinc 8 1, 3) := by decide +kernel
theorem dM_share_340 : decode cM_share 340 = .ok (.goto (-82), 3) := by decide +kernel
theorem dM_share_343 : decode cM_share 343 = .ok (.iinc 7 1, 3) := by decide +kernel
theorem dM_share_346 : decode cM_share 346 = .ok (.goto (-98), 3) := by decide +kernel
theorem dM_share_349 : decode cM_share 349 = .ok (.aload_n 0, 1) := by decide +kernel
theorem dM_share_350 : decode cM_share 350 = .ok (.getfield 61, 3) := by decide +kernel
theorem dM_share_353 : decode cM_share 353 = .ok (.iload 6, 2) := by decide +kernel
theorem dM_share_355 : decode cM_share 355 = .ok (.lconst 0, 1) := by decide +kernel
theorem dM_share_356 : decode cM_share 356 = .ok (.lastore, 1) := by decide +kernel
theorem dM_share_357 : decode cM_share 357 = .ok (.iconst 0, 1) := by decide +kernel
theorem dM_share_358 : decode cM_share 358 = .ok (.istore 7, 2) := by decide +kernel
theorem dM_share_360 : decode cM_share 360 = .ok (.iload 7, 2) := by decide +kernel
theorem dM_share_362 : decode cM_share 362 = .ok (.bipush 64, 2) := by decide +kernel
theorem dM_share_364 : decode cM_share 364 = .ok (.if_icmp .ge 68, 3) := by decide +kernel
theorem dM_share_367 : decode cM_share 367 = .ok (.aload_n 0, 1) := by decide +kernel
theorem dM_share_368 : decode cM_share 368 = .ok (.getfield 55, 3) := by decide +kernel
theorem dM_share_371 : decode cM_share 371 = .ok (.iload 7, 2) := by decide +kernel
theorem dM_share_373 : decode cM_share 373 = .ok (.aload_n 0, 1) := by decide +kernel
theorem dM_share_374 : decode cM_share 374 = .ok (.getfield 58, 3) := by decide +kernel
theorem dM_share_377 : decode cM_share 377 = .ok (.iload 7, 2) := by decide +kernel
theorem dM_share_379 : decode cM_share 379 = .ok (.laload, 1) := by decide +kernel
theorem dM_share_380 : decode cM_share 380 = .ok (.lastore, 1) := by decide +kernel
theorem dM_share_381 : decode cM_share 381 = .ok (.aload_n 0, 1) := by decide +kernel
theorem dM_share_382 : decode cM_share 382 = .ok (.getfield 61, 3) := by decide +kernel
theorem dM_share_385 : decode cM_share 385 = .ok (.iload 6, 2) := by decide +kernel
theorem dM_share_387 : decode cM_share 387 = .ok (.aload_n 0, 1) := by decide +kernel
theorem dM_share_388 : decode cM_share 388 = .ok (.getfield 61, 3) := by decide +kernel
theorem dM_share_391 : decode cM_share 391 = .ok (.iload 6, 2) := by decide +kernel
theorem dM_share_393 : decode cM_share 393 = .ok (.laload, 1) := by decide +kernel
theorem dM_share_394 : decode cM_share 394 = .ok (.iload 7, 2) := by decide +kernel
theorem dM_share_396 : decode cM_share 396 = .ok (.bipush 8, 2) := by decide +kernel
theorem dM_share_398 : decode cM_share 398 = .ok (.idiv, 1) := by decide +kernel
theorem dM_share_399 : decode cM_share 399 = .ok (.iload 7, 2) := by decide +kernel
theorem dM_share_401 : decode cM_share 401 = .ok (.bipush 8, 2) := by decide +kernel
theorem dM_share_403 : decode cM_share 403 = .ok (.irem, 1) := by decide +kernel
theorem dM_share_404 : decode cM_share 404 = .ok (.if_icmp .ne 13, 3) := by decide +kernel
theorem dM_share_407 : decode cM_share 407 = .ok (.aload_n 0, 1) := by decide +kernel
theorem dM_share_408 : decode cM_share 408 = .ok (.getfield 58, 3) := by decide +kernel
theorem dM_share_411 : decode cM_share 411 = .ok (.iload 7, 2) := by decide +kernel
theorem dM_share_413 : decode cM_share 413 = .ok (.laload, 1) := by decide +kernel
theorem dM_share_414 : decode cM_share 414 = .ok (.goto 4, 3) := by decide +kernel
theorem dM_share_417 : decode cM_share 417 = .ok (.lconst 0, 1) := by decide +kernel
theorem dM_share_418 : decode cM_share 418 = .ok (.ladd, 1) := by decide +kernel
theorem dM_share_419 : decode cM_share 419 = .ok (.aload_n 0, 1) := by decide +kernel
theorem dM_share_420 : decode cM_share 420 = .ok (.getfield 80, 3) := by decide +kernel
theorem dM_share_423 : decode cM_share 423 = .ok (.i2l, 1) := by decide +kernel
theorem dM_share_424 : decode cM_share 424 = .ok (.lrem, 1) := by decide +kernel
theorem dM_share_425 : decode cM_share 425 = .ok (.lastore, 1) := by decide +kernel
theorem dM_share_426 : decode cM_share 426 = .ok (.iinc 7 1, 3) := by decide +kernel
theorem dM_share_429 : decode cM_share 429 = .ok (.goto (-69), 3) := by decide +kernel
theorem dM_share_432 : decode cM_share 432 = .ok (.lconst 0, 1) := by decide +kernel
theorem dM_share_433 : decode cM_share 433 = .ok (.lstore 7, 2) := by decide +kernel
theorem dM_share_435 : decode cM_share 435 = .ok (.iconst 1, 1) := by decide +kernel
theorem dM_share_436 : decode cM_share 436 = .ok (.istore 9, 2) := by decide +kernel
theorem dM_share_438 : decode cM_share 438 = .ok (.iload 9, 2) := by decide +kernel
theorem dM_share_440 : decode cM_share 440 = .ok (.iload 6, 2) := by decide +kernel
theorem dM_share_442 : decode cM_share 442 = .ok (.if_icmp .gt 38, 3) := by decide +kernel
theorem dM_share_445 : decode cM_share 445 = .ok (.lload 7, 2) := by decide +kernel
theorem dM_share_447 : decode cM_share 447 = .ok (.aload_n 0, 1) := by decide +kernel
theorem dM_share_448 : decode cM_share 448 = .ok (.getfield 64, 3) := by decide +kernel
theorem dM_share_451 : decode cM_share 451 = .ok (.iload 6, 2) := by decide +kernel
theorem dM_share_453 : decode cM_share 453 = .ok (.iload 9, 2) := by decide +kernel
theorem dM_share_455 : decode cM_share 455 = .ok (.isub, 1) := by decide +kernel
theorem dM_share_456 : decode cM_share 456 = .ok (.laload, 1) := by decide +kernel
theorem dM_share_457 : decode cM_share 457 = .ok (.aload_n 0, 1) := by decide +kernel
theorem dM_share_458 : decode cM_share 458 = .ok (.getfield 61, 3) := by decide +kernel
theorem dM_share_461 : decode cM_share 461 = .ok (.iload 9, 2) := by decide +kernel
theorem dM_share_463 : decode cM_share 463 = .ok (.laload, 1) := by decide +kernel
theorem dM_share_464 : decode cM_share 464 = .ok (.lmul, 1) := by decide +kernel
theorem dM_share_465 : decode cM_share 465 = .ok (.ladd, 1) := by decide +kernel
theorem dM_share_466 : decode cM_share 466 = .ok (.aload_n 0, 1) := by decide +kernel
theorem dM_share_467 : decode cM_share 467 = .ok (.getfield 80, 3) := by decide +kernel
theorem dM_share_470 : decode cM_share 470 = .ok (.i2l, 1) := by decide +kernel
theorem dM_share_471 : decode cM_share 471 = .ok (.lrem, 1) := by decide +kernel
theorem dM_share_472 : decode cM_share 472 = .ok (.lstore 7, 2) := by decide +kernel
theorem dM_share_474 : decode cM_share 474 = .ok (.iinc 9 1, 3) := by decide +kernel
theorem dM_share_477 : decode cM_share 477 = .ok (.goto (-39), 3) := by decide +kernel
theorem dM_share_480 : decode cM_share 480 = .ok (.aload_n 0, 1) := by decide +kernel
theorem dM_share_481 : decode cM_share 481 = .ok (.getfield 64, 3) := by decide +kernel
theorem dM_share_484 : decode cM_share 484 = .ok (.iload 6, 2) := by decide +kernel
theorem dM_share_486 : decode cM_share 486 = .ok (.aload_n 0, 1) := by decide +kernel
theorem dM_share_487 : decode cM_share 487 = .ok (.getfield 80, 3) := by decide +kernel
theorem dM_share_490 : decode cM_share 490 = .ok (.i2l, 1) := by decide +kernel
theorem dM_share_491 : decode cM_share 491 = .ok (.lload 7, 2) := by decide +kernel
theorem dM_share_493 : decode cM_share 493 = .ok (.lsub, 1) := by decide +kernel
theorem dM_share_494 : decode cM_share 494 = .ok (.aload_n 0, 1) := by decide +kernel
theorem dM_share_495 : decode cM_share 495 = .ok (.getfield 80, 3) := by decide +kernel
theorem dM_share_498 : decode cM_share 498 = .ok (.i2l, 1) := by decide +kernel
theorem dM_share_499 : decode cM_share 499 = .ok (.lrem, 1) := by decide +kernel
theorem dM_share_500 : decode cM_share 500 = .ok (.aload_n 0, 1) := by decide +kernel
theorem dM_share_501 : decode cM_share 501 = .ok (.iload 6, 2) := by decide +kernel
theorem dM_share_503 : decode cM_share 503 = .ok (.i2l, 1) := by decide +kernel
theorem dM_share_504 : decode cM_share 504 = .ok (.invokevirtual 142, 3) := by decide +kernel
theorem dM_share_507 : decode cM_share 507 = .ok (.lmul, 1) := by decide +kernel
theorem dM_share_508 : decode cM_share 508 = .ok (.aload_n 0, 1) := by decide +kernel
theorem dM_share_509 : decode cM_share 509 = .ok (.getfield 80, 3) := by decide +kernel
theorem dM_share_512 : decode cM_share 512 = .ok (.i2l, 1) := by decide +kernel
theorem dM_share_513 : decode cM_share 513 = .ok (.lrem, 1) := by decide +kernel
theorem dM_share_514 : decode cM_share 514 = .ok (.lastore, 1) := by decide +kernel
theorem dM_share_515 : decode cM_share 515 = .ok (.iinc 6 1, 3) := by decide +kernel
theorem dM_share_518 : decode cM_share 518 = .ok (.goto (-280), 3) := by decide +kernel
theorem dM_share_521 : decode cM_share 521 = .ok (.iload_n 3, 1) := by decide +kernel
theorem dM_share_522 : decode cM_share 522 = .ok (.iload 5, 2) := by decide +kernel
theorem dM_share_524 : decode cM_share 524 = .ok (.if_icmp .le 7, 3) := by decide +kernel
theorem dM_share_527 : decode cM_share 527 = .ok (.iconst 0, 1) := by decide +kernel
theorem dM_share_528 : decode cM_share 528 = .ok (.goto 10, 3) := by decide +kernel
theorem dM_share_531 : decode cM_share 531 = .ok (.aload_n 0, 1) := by decide +kernel
theorem dM_share_532 : decode cM_share 532 = .ok (.getfield 64, 3) := by decide +kernel
theorem dM_share_535 : decode cM_share 535 = .ok (.iload_n 3, 1) := by decide +kernel
theorem dM_share_536 : decode cM_share 536 = .ok (.laload, 1) := by decide +kernel
theorem dM_share_537 : decode cM_share 537 = .ok (.l2i, 1) := by decide +kernel
theorem dM_share_538 : decode cM_share 538 = .ok (.ireturn, 1) := by decide +kernel
theorem dM_power_0 : decode cM_power 0 = .ok (.lconst 1, 1) := by decide +kernel
theorem dM_power_1 : decode cM_power 1 = .ok (.lstore 4, 2) := by decide +kernel
theorem dM_power_3 : decode cM_power 3 = .ok (.iconst 0, 1) := by decide +kernel
theorem dM_power_4 : decode cM_power 4 = .ok (.istore 6, 2) := by decide +kernel
theorem dM_power_6 : decode cM_power 6 = .ok (.iload 6, 2) := by decide +kernel
theorem dM_power_8 : decode cM_power 8 = .ok (.iload_n 3, 1) := by decide +kernel
theorem dM_power_9 : decode cM_power 9 = .ok (.if_icmp .ge 21, 3) := by decide +kernel
theorem dM_power_12 : decode cM_power 12 = .ok (.lload 4, 2) := by decide +kernel
theorem dM_power_14 : decode cM_power 14 = .ok (.lload_n 1, 1) := by decide +kernel
theorem dM_power_15 : decode cM_power 15 = .ok (.lmul, 1) := by decide +kernel
theorem dM_power_16 : decode cM_power 16 = .ok (.aload_n 0, 1) := by decide +kernel
theorem dM_power_17 : decode cM_power 17 = .ok (.getfield 80, 3) := by decide +kernel
theorem dM_power_20 : decode cM_power 20 = .ok (.i2l, 1) := by decide +kernel
theorem dM_power_21 : decode cM_power 21 = .ok (.lrem, 1) := by decide +kernel
theorem dM_power_22 : decode cM_power 22 = .ok (.lstore 4, 2) := by decide +kernel
theorem dM_power_24 : decode cM_power 24 = .ok (.iinc 6 1, 3) := by decide +kernel
theorem dM_power_27 : decode cM_power 27 = .ok (.goto (-21), 3) := by decide +kernel
theorem dM_power_30 : decode cM_power 30 = .ok (.lload 4, 2) := by decide +kernel
theorem dM_power_32 : decode cM_power 32 = .ok (.lreturn, 1) := by decide +kernel
theorem dM_ride_0 : decode cM_ride 0 = .ok (.aload_n 0, 1) := by decide +kernel
theorem dM_ride_1 : decode cM_ride 1 = .ok (.iconst 0, 1) := by decide +kernel
theorem dM_ride_2 : decode cM_ride 2 = .ok (.putfield 1, 3) := by decide +kernel
theorem dM_ride_5 : decode cM_ride 5 = .ok (.iload_n 1, 1) := by decide +kernel
theorem dM_ride_6 : decode cM_ride 6 = .ok (.invokestatic 129, 3) := by decide +kernel
theorem dM_ride_9 : decode cM_ride 9 = .ok (.ifCond .eq 44, 3) := by decide +kernel
theorem dM_ride_12 : decode cM_ride 12 = .ok (.iload_n 2, 1) := by decide +kernel
theorem dM_ride_13 : decode cM_ride 13 = .ok (.i2l, 1) := by decide +kernel
theorem dM_ride_14 : decode cM_ride 14 = .ok (.lconst 0, 1) := by decide +kernel
theorem dM_ride_15 : decode cM_ride 15 = .ok (.ldc2_w 124, 3) := by decide +kernel
theorem dM_ride_18 : decode cM_ride 18 = .ok (.invokestatic 71, 3) := by decide +kernel
theorem dM_ride_21 : decode cM_ride 21 = .ok (.ifCond .eq 32, 3) := by decide +kernel
theorem dM_ride_24 : decode cM_ride 24 = .ok (.iload_n 3, 1) := by decide +kernel
theorem dM_ride_25 : decode cM_ride 25 = .ok (.i2l, 1) := by decide +kernel
theorem dM_ride_26 : decode cM_ride 26 = .ok (.lconst 0, 1) := by decide +kernel
theorem dM_ride_27 : decode cM_ride 27 = .ok (.ldc2_w 180, 3) := by decide +kernel
theorem dM_ride_30 : decode cM_ride 30 = .ok (.invokestatic 71, 3) := by decide +kernel
theorem dM_ride_33 : decode cM_ride 33 = .ok (.ifCond .eq 20, 3) := by decide +kernel
theorem dM_ride_36 : decode cM_ride 36 = .ok (.iload 4, 2) := by decide +kernel
theorem dM_ride_38 : decode cM_ride 38 = .ok (.i2l, 1) := by decide +kernel
theorem dM_ride_39 : decode cM_ride 39 = .ok (.lconst 0, 1) := by decide +kernel
theorem dM_ride_40 : decode cM_ride 40 = .ok (.aload_n 0, 1) := by decide +kernel
theorem dM_ride_41 : decode cM_ride 41 = .ok (.getfield 80, 3) := by decide +kernel
theorem dM_ride_44 : decode cM_ride 44 = .ok (.iconst 1, 1) := by decide +kernel
theorem dM_ride_45 : decode cM_ride 45 = .ok (.isub, 1) := by decide +kernel
theorem dM_ride_46 : decode cM_ride 46 = .ok (.i2l, 1) := by decide +kernel
theorem dM_ride_47 : decode cM_ride 47 = .ok (.invokestatic 71, 3) := by decide +kernel
theorem dM_ride_50 : decode cM_ride 50 = .ok (.ifCond .ne 6, 3) := by decide +kernel
theorem dM_ride_53 : decode cM_ride 53 = .ok (.ldc 90, 2) := by decide +kernel
theorem dM_ride_55 : decode cM_ride 55 = .ok (.ireturn, 1) := by decide +kernel
theorem dM_ride_56 : decode cM_ride 56 = .ok (.aload_n 0, 1) := by decide +kernel
theorem dM_ride_57 : decode cM_ride 57 = .ok (.iload_n 1, 1) := by decide +kernel
theorem dM_ride_58 : decode cM_ride 58 = .ok (.invokevirtual 149, 3) := by decide +kernel
theorem dM_ride_61 : decode cM_ride 61 = .ok (.istore 5, 2) := by decide +kernel
theorem dM_ride_63 : decode cM_ride 63 = .ok (.iload 5, 2) := by decide +kernel
theorem dM_ride_65 : decode cM_ride 65 = .ok (.ifCond .ge 6, 3) := by decide +kernel
theorem dM_ride_68 : decode cM_ride 68 = .ok (.iload 5, 2) := by decide +kernel
theorem dM_ride_70 : decode cM_ride 70 = .ok (.ireturn, 1) := by decide +kernel
theorem dM_ride_71 : decode cM_ride 71 = .ok (.aload_n 0, 1) := by decide +kernel
theorem dM_ride_72 : decode cM_ride 72 = .ok (.getfield 37, 3) := by decide +kernel
theorem dM_ride_75 : decode cM_ride 75 = .ok (.iload_n 1, 1) := by decide +kernel
theorem dM_ride_76 : decode cM_ride 76 = .ok (.iaload, 1) := by decide +kernel
theorem dM_ride_77 : decode cM_ride 77 = .ok (.istore 6, 2) := by decide +kernel
theorem dM_ride_79 : decode cM_ride 79 = .ok (.lconst 0, 1) := by decide +kernel
theorem dM_ride_80 : decode cM_ride 80 = .ok (.lstore 7, 2) := by decide +kernel
theorem dM_ride_82 : decode cM_ride 82 = .ok (.lconst 0, 1) := by decide +kernel
theorem dM_ride_83 : decode cM_ride 83 = .ok (.lstore 9, 2) := by decide +kernel
theorem dM_ride_85 : decode cM_ride 85 = .ok (.iconst 0, 1) := by decide +kernel
theorem dM_ride_86 : decode cM_ride 86 = .ok (.istore 11, 2) := by decide +kernel
theorem dM_ride_88 : decode cM_ride 88 = .ok (.iload 11, 2) := by decide +kernel
theorem dM_ride_90 : decode cM_ride 90 = .ok (.iload_n 3, 1) := by decide +kernel
theorem dM_ride_91 : decode cM_ride 91 = .ok (.if_icmp .ge 151, 3) := by decide +kernel
theorem dM_ride_94 : decode cM_ride 94 = .ok (.lconst 0, 1) := by decide +kernel
theorem dM_ride_95 : decode cM_ride 95 = .ok (.lstore 12, 2) := by decide +kernel
theorem dM_ride_97 : decode cM_ride 97 = .ok (.iconst 0, 1) := by decide +kernel
theorem dM_ride_98 : decode cM_ride 98 = .ok (.istore 14, 2) := by decide +kernel
theorem dM_ride_100 : decode cM_ride 100 = .ok (.iload 14, 2) := by decide +kernel
theorem dM_ride_102 : decode cM_ride 102 = .ok (.iload 6, 2) := by decide +kernel
theorem dM_ride_104 : decode cM_ride 104 = .ok (.if_icmp .ge 101, 3) := by decide +kernel
theorem dM_ride_107 : decode cM_ride 107 = .ok (.lconst 0, 1) := by decide +kernel
theorem dM_ride_108 : decode cM_ride 108 = .ok (.lstore 15, 2) := by decide +kernel
theorem dM_ride_110 : decode cM_ride 110 = .ok (.iconst 0, 1) := by decide +kernel
theorem dM_ride_111 : decode cM_ride 111 = .ok (.istore 17, 2) := by decide +kernel
theorem dM_ride_113 : decode cM_ride 113 = .ok (.iload 17, 2) := by decide +kernel
theorem dM_ride_115 : decode cM_ride 115 = .ok (.iload 6, 2) := by decide +kernel
theorem dM_ride_117 : decode cM_ride 117 = .ok (.if_icmp .ge 38, 3) := by decide +kernel
theorem dM_ride_120 : decode cM_ride 120 = .ok (.lload 15, 2) := by decide +kernel
theorem dM_ride_122 : decode cM_ride 122 = .ok (.aload_n 0, 1) := by decide +kernel
theorem dM_ride_123 : decode cM_ride 123 = .ok (.getfield 40, 3) := by decide +kernel
theorem dM_ride_126 : decode cM_ride 126 = .ok (.bipush 64, 2) := by decide +kernel
theorem dM_ride_128 : decode cM_ride 128 = .ok (.iload_n 1, 1) := by decide +kernel
theorem dM_ride_129 : decode cM_ride 129 = .ok (.imul, 1) := by decide +kernel
theorem dM_ride_130 : decode cM_ride 130 = .ok (.bipush 8, 2) := by decide +kernel
theorem dM_ride_132 : decode cM_ride 132 = .ok (.iload 14, 2) := by decide +kernel
theorem dM_ride_134 : decode cM_ride 134 = .ok (.imul, 1) := by decide +kernel
theorem dM_ride_135 : decode cM_ride 135 = .ok (.iadd, 1) := by decide +kernel
theorem dM_ride_136 : decode cM_ride 136 = .ok (.iload 17, 2) := by decide +kernel
theorem dM_ride_138 : decode cM_ride 138 = .ok (.iadd, 1) := by decide +kernel
theorem dM_ride_139 : decode cM_ride 139 = .ok (.laload, 1) := by decide +kernel
theorem dM_ride_140 : decode cM_ride 140 = .ok (.ladd, 1) := by decide +kernel
theorem dM_ride_141 : decode cM_ride 141 = .ok (.aload_n 0, 1) := by decide +kernel
theorem dM_ride_142 : decode cM_ride 142 = .ok (.getfield 80, 3) := by decide +kernel
theorem dM_ride_145 : decode cM_ride 145 = .ok (.i2l, 1) := by decide +kernel
theorem dM_ride_146 : decode cM_ride 146 = .ok (.lrem, 1) := by decide +kernel
theorem dM_ride_147 : decode cM_ride 147 = .ok (.lstore 15, 2) := by decide +kernel
theorem dM_ride_149 : decode cM_ride 149 = .ok (.iinc 17 1, 3) := by decide +kernel
theorem dM_ride_152 : decode cM_ride 152 = .ok (.goto (-39), 3) := by decide +kernel
theorem dM_ride_155 : decode cM_ride 155 = .ok (.lload 12, 2) := by decide +kernel
theorem dM_ride_157 : decode cM_ride 157 = .ok (.aload_n 0, 1) := by decide +kernel
theorem dM_ride_158 : decode cM_ride 158 = .ok (.getfield 43, 3) := by decide +kernel
theorem dM_ride_161 : decode cM_ride 161 = .ok (.bipush 8, 2) := by decide +kernel
theorem dM_ride_163 : decode cM_ride 163 = .ok (.iload_n 1, 1) := by decide +kernel
theorem dM_ride_164 : decode cM_ride 164 = .ok (.imul, 1) := by decide +kernel
theorem dM_ride_165 : decode cM_ride 165 = .ok (.iload 14, 2) := by decide +kernel
theorem dM_ride_167 : decode cM_ride 167 = .ok (.iadd, 1) := by decide +kernel
theorem dM_ride_168 : decode cM_ride 168 = .ok (.laload, 1) := by decide +kernel
theorem dM_ride_169 : decode cM_ride 169 = .ok (.aload_n 0, 1) := by decide +kernel
theorem dM_ride_170 : decode cM_ride 170 = .ok (.lload 7, 2) := by decide +kernel
theorem dM_ride_172 : decode cM_ride 172 = .ok (.lload 15, 2) := by decide +kernel
theorem dM_ride_174 : decode cM_ride 174 = .ok (.iload 4, 2) := by decide +kernel
theorem dM_ride_176 : decode cM_ride 176 = .ok (.i2l, 1) := by decide +kernel
theorem dM_ride_177 : decode cM_ride 177 = .ok (.lmul, 1) := by decide +kernel
theorem dM_ride_178 : decode cM_ride 178 = .ok (.ladd, 1) := by decide +kernel
theorem dM_ride_179 : decode cM_ride 179 = .ok (.aload_n 0, 1) := by decide +kernel
theorem dM_ride_180 : decode cM_ride 180 = .ok (.getfield 80, 3) := by decide +kernel
theorem dM_ride_183 : decode cM_ride 183 = .ok (.i2l, 1) := by decide +kernel
theorem dM_ride_184 : decode cM_ride 184 = .ok (.lrem, 1) := by decide +kernel
theorem dM_ride_185 : decode cM_ride 185 = .ok (.iload_n 2, 1) := by decide +kernel
theorem dM_ride_186 : decode cM_ride 186 = .ok (.invokevirtual 182, 3) := by decide +kernel
theorem dM_ride_189 : decode cM_ride 189 = .ok (.lmul, 1) := by decide +kernel
theorem dM_ride_190 : decode cM_ride 190 = .ok (.ladd, 1) := by decide +kernel
theorem dM_ride_191 : decode cM_ride 191 = .ok (.aload_n 0, 1) := by decide +kernel
theorem dM_ride_192 : decode cM_ride 192 = .ok (.getfield 80, 3) := by decide +kernel
theorem dM_ride_195 : decode cM_ride 195 = .ok (.i2l, 1) := by decide +kernel
theorem dM_ride_196 : decode cM_ride 196 = .ok (.lrem, 1) := by decide +kernel
theorem dM_ride_197 : decode cM_ride 197 = .ok (.lstore 12, 2) := by decide +kernel
theorem dM_ride_199 : decode cM_ride 199 = .ok (.iinc 14 1, 3) := by decide +kernel
theorem dM_ride_202 : decode cM_ride 202 = .ok (.goto (-102), 3) := by decide +kernel
theorem dM_ride_205 : decode cM_ride 205 = .ok (.lload 9, 2) := by decide +kernel
theorem dM_ride_207 : decode cM_ride 207 = .ok (.lload 12, 2) := by decide +kernel
theorem dM_ride_209 : decode cM_ride 209 = .ok (.iload 4, 2) := by decide +kernel
theorem dM_ride_211 : decode cM_ride 211 = .ok (.i2l, 1) := by decide +kernel
theorem dM_ride_212 : decode cM_ride 212 = .ok (.lmul, 1) := by decide +kernel
theorem dM_ride_213 : decode cM_ride 213 = .ok (.ladd, 1) := by decide +kernel
theorem dM_ride_214 : decode cM_ride 214 = .ok (.aload_n 0, 1) := by decide +kernel
theorem dM_ride_215 : decode cM_ride 215 = .ok (.getfield 80, 3) := by decide +kernel
theorem dM_ride_218 : decode cM_ride 218 = .ok (.i2l, 1) := by decide +kernel
theorem dM_ride_219 : decode cM_ride 219 = .ok (.lrem, 1) := by decide +kernel
theorem dM_ride_220 : decode cM_ride 220 = .ok (.lstore 9, 2) := by decide +kernel
theorem dM_ride_222 : decode cM_ride 222 = .ok (.lload 7, 2) := by decide +kernel
theorem dM_ride_224 : decode cM_ride 224 = .ok (.iload 4, 2) := by decide +kernel
theorem dM_ride_226 : decode cM_ride 226 = .ok (.i2l, 1) := by decide +kernel
theorem dM_ride_227 : decode cM_ride 227 = .ok (.ladd, 1) := by decide +kernel
theorem dM_ride_228 : decode cM_ride 228 = .ok (.aload_n 0, 1) := by decide +kernel
theorem dM_ride_229 : decode cM_ride 229 = .ok (.getfield 80, 3) := by decide +kernel
theorem dM_ride_232 : decode cM_ride 232 = .ok (.i2l, 1) := by decide +kernel
theorem dM_ride_233 : decode cM_ride 233 = .ok (.lrem, 1) := by decide +kernel
theorem dM_ride_234 : decode cM_ride 234 = .ok (.lstore 7, 2) := by decide +kernel
theorem dM_ride_236 : decode cM_ride 236 = .ok (.iinc 11 1, 3) := by decide +kernel
theorem dM_ride_239 : decode cM_ride 239 = .ok (.goto (-151), 3) := by decide +kernel
theorem dM_ride_242 : decode cM_ride 242 = .ok (.lload 9, 2) := by decide +kernel
theorem dM_ride_244 : decode cM_ride 244 = .ok (.l2i, 1) := by decide +kernel
theorem dM_ride_245 : decode cM_ride 245 = .ok (.ireturn, 1) := by decide +kernel
theorem dM_alike_0 : decode cM_alike 0 = .ok (.aload_n 0, 1) := by decide +kernel
theorem dM_alike_1 : decode cM_alike 1 = .ok (.iconst 0, 1) := by decide +kernel
theorem dM_alike_2 : decode cM_alike 2 = .ok (.putfield 1, 3) := by decide +kernel
theorem dM_alike_5 : decode cM_alike 5 = .ok (.iload_n 1, 1) := by decide +kernel
theorem dM_alike_6 : decode cM_alike 6 = .ok (.invokestatic 129, 3) := by decide +kernel
theorem dM_alike_9 : decode cM_alike 9 = .ok (.ifCond .eq 22, 3) := by decide +kernel
theorem dM_alike_12 : decode cM_alike 12 = .ok (.iload_n 2, 1) := by decide +kernel
theorem dM_alike_13 : decode cM_alike 13 = .ok (.invokestatic 129, 3) := by decide +kernel
theorem dM_alike_16 : decode cM_alike 16 = .ok (.ifCond .eq 15, 3) := by decide +kernel
theorem dM_alike_19 : decode cM_alike 19 = .ok (.iload_n 3, 1) := by decide +kernel
theorem dM_alike_20 : decode cM_alike 20 = .ok (.i2l, 1) := by decide +kernel
theorem dM_alike_21 : decode cM_alike 21 = .ok (.lconst 1, 1) := by decide +kernel
theorem dM_alike_22 : decode cM_alike 22 = .ok (.ldc2_w 88, 3) := by decide +kernel
theorem dM_alike_25 : decode cM_alike 25 = .ok (.invokestatic 71, 3) := by decide +kernel
theorem dM_alike_28 : decode cM_alike 28 = .ok (.ifCond .ne 6, 3) := by decide +kernel
theorem dM_alike_31 : decode cM_alike 31 = .ok (.ldc 90, 2) := by decide +kernel
theorem dM_alike_33 : decode cM_alike 33 = .ok (.ireturn, 1) := by decide +kernel
theorem dM_alike_34 : decode cM_alike 34 = .ok (.aload_n 0, 1) := by decide +kernel
theorem dM_alike_35 : decode cM_alike 35 = .ok (.iconst 0, 1) := by decide +kernel
theorem dM_alike_36 : decode cM_alike 36 = .ok (.putfield 7, 3) := by decide +kernel
theorem dM_alike_39 : decode cM_alike 39 = .ok (.aload_n 0, 1) := by decide +kernel
theorem dM_alike_40 : decode cM_alike 40 = .ok (.getfield 37, 3) := by decide +kernel
theorem dM_alike_43 : decode cM_alike 43 = .ok (.iload_n 1, 1) := by decide +kernel
theorem dM_alike_44 : decode cM_alike 44 = .ok (.iaload, 1) := by decide +kernel
theorem dM_alike_45 : decode cM_alike 45 = .ok (.ifCond .eq 12, 3) := by decide +kernel
theorem dM_alike_48 : decode cM_alike 48 = .ok (.aload_n 0, 1) := by decide +kernel
theorem dM_alike_49 : decode cM_alike 49 = .ok (.getfield 37, 3) := by decide +kernel
theorem dM_alike_52 : decode cM_alike 52 = .ok (.iload_n 2, 1) := by decide +kernel
theorem dM_alike_53 : decode cM_alike 53 = .ok (.iaload, 1) := by decide +kernel
theorem dM_alike_54 : decode cM_alike 54 = .ok (.ifCond .ne 9, 3) := by decide +kernel
theorem dM_alike_57 : decode cM_alike 57 = .ok (.aload_n 0, 1) := by decide +kernel
theorem dM_alike_58 : decode cM_alike 58 = .ok (.iconst 1, 1) := by decide +kernel
theorem dM_alike_59 : decode cM_alike 59 = .ok (.invokevirtual 119, 3) := by decide +kernel
theorem dM_alike_62 : decode cM_alike 62 = .ok (.ireturn, 1) := by decide +kernel
theorem dM_alike_63 : decode cM_alike 63 = .ok (.iconst 1, 1) := by decide +kernel
theorem dM_alike_64 : decode cM_alike 64 = .ok (.istore 4, 2) := by decide +kernel
theorem dM_alike_66 : decode cM_alike 66 = .ok (.iconst 0, 1) := by decide +kernel
theorem dM_alike_67 : decode cM_alike 67 = .ok (.istore 5, 2) := by decide +kernel
theorem dM_alike_69 : decode cM_alike 69 = .ok (.iload 5, 2) := by decide +kernel
theorem dM_alike_71 : decode cM_alike 71 = .ok (.bipush 37, 2) := by decide +kernel
theorem dM_alike_73 : decode cM_alike 73 = .ok (.if_icmp .ge 50, 3) := by decide +kernel
theorem dM_alike_76 : decode cM_alike 76 = .ok (.iload 4, 2) := by decide +kernel
theorem dM_alike_78 : decode cM_alike 78 = .ok (.ifCond .eq 36, 3) := by decide +kernel
theorem dM_alike_81 : decode cM_alike 81 = .ok (.aload_n 0, 1) := by decide +kernel
theorem dM_alike_82 : decode cM_alike 82 = .ok (.getfield 17, 3) := by decide +kernel
theorem dM_alike_85 : decode cM_alike 85 = .ok (.iload 5, 2) := by decide +kernel
theorem dM_alike_87 : decode cM_alike 87 = .ok (.iaload, 1) := by decide +kernel
theorem dM_alike_88 : decode cM_alike 88 = .ok (.iload_n 3, 1) := by decide +kernel
theorem dM_alike_89 : decode cM_alike 89 = .ok (.if_icmp .gt 21, 3) := by decide +kernel
theorem dM_alike_92 : decode cM_alike 92 = .ok (.aload_n 0, 1) := by decide +kernel
theorem dM_alike_93 : decode cM_alike 93 = .ok (.iload_n 1, 1) := by decide +kernel
theorem dM_alike_94 : decode cM_alike 94 = .ok (.iload 5, 2) := by decide +kernel
theorem dM_alike_96 : decode cM_alike 96 = .ok (.invokevirtual 168, 3) := by decide +kernel
theorem dM_alike_99 : decode cM_alike 99 = .ok (.aload_n 0, 1) := by decide +kernel
theorem dM_alike_100 : decode cM_alike 100 = .ok (.iload_n 2, 1) := by decide +kernel
theorem dM_alike_101 : decode cM_alike 101 = .ok (.iload 5, 2) := by decide +kernel
theorem dM_alike_103 : decode cM_alike 103 = .ok (.invokevirtual 168, 3) := by decide +kernel
theorem dM_alike_106 : decode cM_alike 106 = .ok (.lcmp, 1) := by decide +kernel
theorem dM_alike_107 : decode cM_alike 107 = .ok (.ifCond .ne 7, 3) := by decide +kernel
theorem dM_alike_110 : decode cM_alike 110 = .ok (.iconst 1, 1) := by decide +kernel
theorem dM_alike_111 : decode cM_alike 111 = .ok (.goto 4, 3) := by decide +kernel
theorem dM_alike_114 : decode cM_alike 114 = .ok (.iconst 0, 1) := by decide +kernel
theorem dM_alike_115 : decode cM_alike 115 = .ok (.istore 4, 2) := by decide +kernel
theorem dM_alike_117 : decode cM_alike 117 = .ok (.iinc 5 1, 3) := by decide +kernel
theorem dM_alike_120 : decode cM_alike 120 = .ok (.goto (-51), 3) := by decide +kernel
theorem dM_alike_123 : decode cM_alike 123 = .ok (.iload 4, 2) := by decide +kernel
theorem dM_alike_125 : decode cM_alike 125 = .ok (.ifCond .eq 7, 3) := by decide +kernel
theorem dM_alike_128 : decode cM_alike 128 = .ok (.iconst 1, 1) := by decide +kernel
theorem dM_alike_129 : decode cM_alike 129 = .ok (.goto 4, 3) := by decide +kernel
theorem dM_alike_132 : decode cM_alike 132 = .ok (.iconst 0, 1) := by decide +kernel
theorem dM_alike_133 : decode cM_alike 133 = .ok (.ireturn, 1) := by decide +kernel
theorem dM_count_0 : decode cM_count 0 = .ok (.aload_n 0, 1) := by decide +kernel
theorem dM_count_1 : decode cM_count 1 = .ok (.iconst 0, 1) := by decide +kernel
theorem dM_count_2 : decode cM_count 2 = .ok (.putfield 1, 3) := by decide +kernel
theorem dM_count_5 : decode cM_count 5 = .ok (.iconst 0, 1) := by decide +kernel
theorem dM_count_6 : decode cM_count 6 = .ok (.istore_n 2, 1) := by decide +kernel
theorem dM_count_7 : decode cM_count 7 = .ok (.iload_n 1, 1) := by decide +kernel
theorem dM_count_8 : decode cM_count 8 = .ok (.tableswitch 125 0 5 #[40, 73, 73, 73, 73, 120], 40) := by decide +kernel
theorem dM_count_48 : decode cM_count 48 = .ok (.iconst 0, 1) := by decide +kernel
theorem dM_count_49 : decode cM_count 49 = .ok (.istore_n 3, 1) := by decide +kernel
theorem dM_count_50 : decode cM_count 50 = .ok (.iload_n 3, 1) := by decide +kernel
theorem dM_count_51 : decode cM_count 51 = .ok (.bipush 8, 2) := by decide +kernel
theorem dM_count_53 : decode cM_count 53 = .ok (.if_icmp .ge 26, 3) := by decide +kernel
theorem dM_count_56 : decode cM_count 56 = .ok (.iload_n 2, 1) := by decide +kernel
theorem dM_count_57 : decode cM_count 57 = .ok (.aload_n 0, 1) := by decide +kernel
theorem dM_count_58 : decode cM_count 58 = .ok (.getfield 27, 3) := by decide +kernel
theorem dM_count_61 : decode cM_count 61 = .ok (.iload_n 3, 1) := by decide +kernel
theorem dM_count_62 : decode cM_count 62 = .ok (.iaload, 1) := by decide +kernel
theorem dM_count_63 : decode cM_count 63 = .ok (.ifCond .lt 7, 3) := by decide +kernel
theorem dM_count_66 : decode cM_count 66 = .ok (.iconst 1, 1) := by decide +kernel
theorem dM_count_67 : decode cM_count 67 = .ok (.goto 4, 3) := by decide +kernel
theorem dM_count_70 : decode cM_count 70 = .ok (.iconst 0, 1) := by decide +kernel
theorem dM_count_71 : decode cM_count 71 = .ok (.iadd, 1) := by decide +kernel
theorem dM_count_72 : decode cM_count 72 = .ok (.istore_n 2, 1) := by decide +kernel
theorem dM_count_73 : decode cM_count 73 = .ok (.iinc 3 1, 3) := by decide +kernel
theorem dM_count_76 : decode cM_count 76 = .ok (.goto (-26), 3) := by decide +kernel
theorem dM_count_79 : decode cM_count 79 = .ok (.iload_n 2, 1) := by decide +kernel
theorem dM_count_80 : decode cM_count 80 = .ok (.ireturn, 1) := by decide +kernel
theorem dM_count_81 : decode cM_count 81 = .ok (.iconst 0, 1) := by decide +kernel
theorem dM_count_82 : decode cM_count 82 = .ok (.istore_n 3, 1) := by decide +kernel
theorem dM_count_83 : decode cM_count 83 = .ok (.iload_n 3, 1) := by decide +kernel
theorem dM_count_84 : decode cM_count 84 = .ok (.bipush 10, 2) := by decide +kernel
theorem dM_count_86 : decode cM_count 86 = .ok (.if_icmp .ge 40, 3) := by decide +kernel
theorem dM_count_89 : decode cM_count 89 = .ok (.iload_n 2, 1) := by decide +kernel
theorem dM_count_90 : decode cM_count 90 = .ok (.aload_n 0, 1) := by decide +kernel
theorem dM_count_91 : decode cM_count 91 = .ok (.getfield 37, 3) := by decide +kernel
theorem dM_count_94 : decode cM_count 94 = .ok (.iload_n 3, 1) := by decide +kernel
theorem dM_count_95 : decode cM_count 95 = .ok (.iaload, 1) := by decide +kernel
theorem dM_count_96 : decode cM_count 96 = .ok (.ifCond .le 21, 3) := by decide +kernel
theorem dM_count_99 : decode cM_count 99 = .ok (.aload_n 0, 1) := by decide +kernel
theorem dM_count_100 : decode cM_count 100 = .ok (.iload_n 3, 1) := by decide +kernel
theorem dM_count_101 : decode cM_count 101 = .ok (.invokevirtual 126, 3) := by decide +kernel
theorem dM_count_104 : decode cM_count 104 = .ok (.iload_n 1, 1) := by decide +kernel
theorem dM_count_105 : decode cM_count 105 = .ok (.iconst 1, 1) := by decide +kernel
theorem dM_count_106 : decode cM_count 106 = .ok (.isub, 1) := by decide +kernel
theorem dM_count_107 : decode cM_count 107 = .ok (.invokestatic 152, 3) := by decide +kernel
theorem dM_count_110 : decode cM_count 110 = .ok (.ifCond .eq 7, 3) := by decide +kernel
theorem dM_count_113 : decode cM_count 113 = .ok (.iconst 1, 1) := by decide +kernel
theorem dM_count_114 : decode cM_count 114 = .ok (.goto 4, 3) := by decide +kernel
theorem dM_count_117 : decode cM_count 117 = .ok (.iconst 0, 1) := by decide +kernel
theorem dM_count_118 : decode cM_count 118 = .ok (.iadd, 1) := by decide +kernel
theorem dM_count_119 : decode cM_count 119 = .ok (.istore_n 2, 1) := by decide +kernel
theorem dM_count_120 : decode cM_count 120 = .ok (.iinc 3 1, 3) := by decide +kernel
theorem dM_count_123 : decode cM_count 123 = .ok (.goto (-40), 3) := by decide +kernel
theorem dM_count_126 : decode cM_count 126 = .ok (.iload_n 2, 1) := by decide +kernel
theorem dM_count_127 : decode cM_count 127 = .ok (.ireturn, 1) := by decide +kernel
theorem dM_count_128 : decode cM_count 128 = .ok (.aload_n 0, 1) := by decide +kernel
theorem dM_count_129 : decode cM_count 129 = .ok (.getfield 80, 3) := by decide +kernel
theorem dM_count_132 : decode cM_count 132 = .ok (.ireturn, 1) := by decide +kernel
theorem dM_count_133 : decode cM_count 133 = .ok (.ldc 90, 2) := by decide +kernel
theorem dM_count_135 : decode cM_count 135 = .ok (.ireturn, 1) := by decide +kernel
theorem dM_status_0 : decode cM_status 0 = .ok (.aload_n 0, 1) := by decide +kernel
theorem dM_status_1 : decode cM_status 1 = .ok (.iconst 0, 1) := by decide +kernel
theorem dM_status_2 : decode cM_status 2 = .ok (.putfield 1, 3) := by decide +kernel
theorem dM_status_5 : decode cM_status 5 = .ok (.aload_n 0, 1) := by decide +kernel
theorem dM_status_6 : decode cM_status 6 = .ok (.getfield 7, 3) := by decide +kernel
theorem dM_status_9 : decode cM_status 9 = .ok (.ireturn, 1) := by decide +kernel
theorem dL_cell_0 : decode cL_cell 0 = .ok (.iload_n 1, 1) := by decide +kernel
theorem dL_cell_1 : decode cL_cell 1 = .ok (.aload_n 0, 1) := by decide +kernel
theorem dL_cell_2 : decode cL_cell 2 = .ok (.arraylength, 1) := by decide +kernel
theorem dL_cell_3 : decode cL_cell 3 = .ok (.if_icmp .ge 9, 3) := by decide +kernel
theorem dL_cell_6 : decode cL_cell 6 = .ok (.aload_n 0, 1) := by decide +kernel
theorem dL_cell_7 : decode cL_cell 7 = .ok (.iload_n 1, 1) := by decide +kernel
theorem dL_cell_8 : decode cL_cell 8 = .ok (.iaload, 1) := by decide +kernel
theorem dL_cell_9 : decode cL_cell 9 = .ok (.goto 4, 3) := by decide +kernel
theorem dL_cell_12 : decode cL_cell 12 = .ok (.iconst 0, 1) := by decide +kernel
theorem dL_cell_13 : decode cL_cell 13 = .ok (.ireturn, 1) := by decide +kernel
