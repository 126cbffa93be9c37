theorem dX_joined_49 : decode cX_joined 49 = .ok (.invokevirtual 191, 3) := by decide +kernel
theorem dX_joined_52 : decode cX_joined 52 = .ok (.invokevirtual 256, 3) := by decide +kernel
theorem dX_joined_55 : decode cX_joined 55 = .ok (.iinc 6 1, 3) := by decide +kernel
theorem dX_joined_58 : decode cX_joined 58 = .ok (.goto (-26), 3) := by decide +kernel
theorem dX_joined_61 : decode cX_joined 61 = .ok (.iload_n 3, 1) := by decide +kernel
theorem dX_joined_62 : decode cX_joined 62 = .ok (.istore 6, 2) := by decide +kernel
theorem dX_joined_64 : decode cX_joined 64 = .ok (.iload 6, 2) := by decide +kernel
theorem dX_joined_66 : decode cX_joined 66 = .ok (.aload 4, 2) := by decide +kernel
theorem dX_joined_68 : decode cX_joined 68 = .ok (.getfield 164, 3) := by decide +kernel
theorem dX_joined_71 : decode cX_joined 71 = .ok (.if_icmp .ge 24, 3) := by decide +kernel
theorem dX_joined_74 : decode cX_joined 74 = .ok (.aload 4, 2) := by decide +kernel
theorem dX_joined_76 : decode cX_joined 76 = .ok (.iload 6, 2) := by decide +kernel
theorem dX_joined_78 : decode cX_joined 78 = .ok (.iload 5, 2) := by decide +kernel
theorem dX_joined_80 : decode cX_joined 80 = .ok (.aload_n 1, 1) := by decide +kernel
theorem dX_joined_81 : decode cX_joined 81 = .ok (.iload 5, 2) := by decide +kernel
theorem dX_joined_83 : decode cX_joined 83 = .ok (.invokevirtual 187, 3) := by decide +kernel
theorem dX_joined_86 : decode cX_joined 86 = .ok (.invokevirtual 256, 3) := by decide +kernel
theorem dX_joined_89 : decode cX_joined 89 = .ok (.iinc 6 1, 3) := by decide +kernel
theorem dX_joined_92 : decode cX_joined 92 = .ok (.goto (-28), 3) := by decide +kernel
theorem dX_joined_95 : decode cX_joined 95 = .ok (.aload 4, 2) := by decide +kernel
theorem dX_joined_97 : decode cX_joined 97 = .ok (.iload 5, 2) := by decide +kernel
theorem dX_joined_99 : decode cX_joined 99 = .ok (.aload_n 1, 1) := by decide +kernel
theorem dX_joined_100 : decode cX_joined 100 = .ok (.iload 5, 2) := by decide +kernel
theorem dX_joined_102 : decode cX_joined 102 = .ok (.invokevirtual 187, 3) := by decide +kernel
theorem dX_joined_105 : decode cX_joined 105 = .ok (.invokevirtual 260, 3) := by decide +kernel
theorem dX_joined_108 : decode cX_joined 108 = .ok (.iinc 5 1, 3) := by decide +kernel
theorem dX_joined_111 : decode cX_joined 111 = .ok (.goto (-88), 3) := by decide +kernel
theorem dX_joined_114 : decode cX_joined 114 = .ok (.iconst 0, 1) := by decide +kernel
theorem dX_joined_115 : decode cX_joined 115 = .ok (.istore 5, 2) := by decide +kernel
theorem dX_joined_117 : decode cX_joined 117 = .ok (.iload 5, 2) := by decide +kernel
theorem dX_joined_119 : decode cX_joined 119 = .ok (.aload_n 2, 1) := by decide +kernel
theorem dX_joined_120 : decode cX_joined 120 = .ok (.getfield 164, 3) := by decide +kernel
theorem dX_joined_123 : decode cX_joined 123 = .ok (.if_icmp .ge 63, 3) := by decide +kernel
theorem dX_joined_126 : decode cX_joined 126 = .ok (.iconst 0, 1) := by decide +kernel
theorem dX_joined_127 : decode cX_joined 127 = .ok (.istore 6, 2) := by decide +kernel
theorem dX_joined_129 : decode cX_joined 129 = .ok (.iload 6, 2) := by decide +kernel
theorem dX_joined_131 : decode cX_joined 131 = .ok (.aload_n 2, 1) := by decide +kernel
theorem dX_joined_132 : decode cX_joined 132 = .ok (.getfield 164, 3) := by decide +kernel
theorem dX_joined_135 : decode cX_joined 135 = .ok (.if_icmp .ge 30, 3) := by decide +kernel
theorem dX_joined_138 : decode cX_joined 138 = .ok (.aload 4, 2) := by decide +kernel
theorem dX_joined_140 : decode cX_joined 140 = .ok (.iload_n 3, 1) := by decide +kernel
theorem dX_joined_141 : decode cX_joined 141 = .ok (.iload 6, 2) := by decide +kernel
theorem dX_joined_143 : decode cX_joined 143 = .ok (.iadd, 1) := by decide +kernel
theorem dX_joined_144 : decode cX_joined 144 = .ok (.iload_n 3, 1) := by decide +kernel
theorem dX_joined_145 : decode cX_joined 145 = .ok (.iload 5, 2) := by decide +kernel
theorem dX_joined_147 : decode cX_joined 147 = .ok (.iadd, 1) := by decide +kernel
theorem dX_joined_148 : decode cX_joined 148 = .ok (.aload_n 2, 1) := by decide +kernel
theorem dX_joined_149 : decode cX_joined 149 = .ok (.iload 6, 2) := by decide +kernel
theorem dX_joined_151 : decode cX_joined 151 = .ok (.iload 5, 2) := by decide +kernel
theorem dX_joined_153 : decode cX_joined 153 = .ok (.invokevirtual 191, 3) := by decide +kernel
theorem dX_joined_156 : decode cX_joined 156 = .ok (.invokevirtual 256, 3) := by decide +kernel
theorem dX_joined_159 : decode cX_joined 159 = .ok (.iinc 6 1, 3) := by decide +kernel
theorem dX_joined_162 : decode cX_joined 162 = .ok (.goto (-33), 3) := by decide +kernel
theorem dX_joined_165 : decode cX_joined 165 = .ok (.aload 4, 2) := by decide +kernel
theorem dX_joined_167 : decode cX_joined 167 = .ok (.iload_n 3, 1) := by decide +kernel
theorem dX_joined_168 : decode cX_joined 168 = .ok (.iload 5, 2) := by decide +kernel
theorem dX_joined_170 : decode cX_joined 170 = .ok (.iadd, 1) := by decide +kernel
theorem dX_joined_171 : decode cX_joined 171 = .ok (.aload_n 2, 1) := by decide +kernel
theorem dX_joined_172 : decode cX_joined 172 = .ok (.iload 5, 2) := by decide +kernel
theorem dX_joined_174 : decode cX_joined 174 = .ok (.invokevirtual 187, 3) := by decide +kernel
theorem dX_joined_177 : decode cX_joined 177 = .ok (.invokevirtual 260, 3) := by decide +kernel
theorem dX_joined_180 : decode cX_joined 180 = .ok (.iinc 5 1, 3) := by decide +kernel
theorem dX_joined_183 : decode cX_joined 183 = .ok (.goto (-66), 3) := by decide +kernel
theorem dX_joined_186 : decode cX_joined 186 = .ok (.aload 4, 2) := by decide +kernel
theorem dX_joined_188 : decode cX_joined 188 = .ok (.areturn, 1) := by decide +kernel
theorem dX_behind_0 : decode cX_behind 0 = .ok (.iload_n 1, 1) := by decide +kernel
theorem dX_behind_1 : decode cX_behind 1 = .ok (.invokestatic 143, 3) := by decide +kernel
theorem dX_behind_4 : decode cX_behind 4 = .ok (.ifCond .ne 17, 3) := by decide +kernel
theorem dX_behind_7 : decode cX_behind 7 = .ok (.iload_n 2, 1) := by decide +kernel
theorem dX_behind_8 : decode cX_behind 8 = .ok (.invokestatic 143, 3) := by decide +kernel
theorem dX_behind_11 : decode cX_behind 11 = .ok (.ifCond .ne 10, 3) := by decide +kernel
theorem dX_behind_14 : decode cX_behind 14 = .ok (.iload_n 3, 1) := by decide +kernel
theorem dX_behind_15 : decode cX_behind 15 = .ok (.invokestatic 143, 3) := by decide +kernel
theorem dX_behind_18 : decode cX_behind 18 = .ok (.ifCond .eq 6, 3) := by decide +kernel
theorem dX_behind_21 : decode cX_behind 21 = .ok (.ldc 71, 2) := by decide +kernel
theorem dX_behind_23 : decode cX_behind 23 = .ok (.ireturn, 1) := by decide +kernel
theorem dX_behind_24 : decode cX_behind 24 = .ok (.aload_n 0, 1) := by decide +kernel
theorem dX_behind_25 : decode cX_behind 25 = .ok (.getfield 59, 3) := by decide +kernel
theorem dX_behind_28 : decode cX_behind 28 = .ok (.iload_n 2, 1) := by decide +kernel
theorem dX_behind_29 : decode cX_behind 29 = .ok (.aaload, 1) := by decide +kernel
theorem dX_behind_30 : decode cX_behind 30 = .ok (.astore 4, 2) := by decide +kernel
theorem dX_behind_32 : decode cX_behind 32 = .ok (.aload_n 0, 1) := by decide +kernel
theorem dX_behind_33 : decode cX_behind 33 = .ok (.getfield 59, 3) := by decide +kernel
theorem dX_behind_36 : decode cX_behind 36 = .ok (.iload_n 3, 1) := by decide +kernel
theorem dX_behind_37 : decode cX_behind 37 = .ok (.aaload, 1) := by decide +kernel
theorem dX_behind_38 : decode cX_behind 38 = .ok (.astore 5, 2) := by decide +kernel
theorem dX_behind_40 : decode cX_behind 40 = .ok (.aload 4, 2) := by decide +kernel
theorem dX_behind_42 : decode cX_behind 42 = .ok (.ifnull 8, 3) := by decide +kernel
theorem dX_behind_45 : decode cX_behind 45 = .ok (.aload 5, 2) := by decide +kernel
theorem dX_behind_47 : decode cX_behind 47 = .ok (.ifnonnull 9, 3) := by decide +kernel
theorem dX_behind_50 : decode cX_behind 50 = .ok (.aload_n 0, 1) := by decide +kernel
theorem dX_behind_51 : decode cX_behind 51 = .ok (.iconst 1, 1) := by decide +kernel
theorem dX_behind_52 : decode cX_behind 52 = .ok (.invokevirtual 72, 3) := by decide +kernel
theorem dX_behind_55 : decode cX_behind 55 = .ok (.ireturn, 1) := by decide +kernel
theorem dX_behind_56 : decode cX_behind 56 = .ok (.aload 4, 2) := by decide +kernel
theorem dX_behind_58 : decode cX_behind 58 = .ok (.getfield 160, 3) := by decide +kernel
theorem dX_behind_61 : decode cX_behind 61 = .ok (.getfield 164, 3) := by decide +kernel
theorem dX_behind_64 : decode cX_behind 64 = .ok (.aload 5, 2) := by decide +kernel
theorem dX_behind_66 : decode cX_behind 66 = .ok (.getfield 160, 3) := by decide +kernel
theorem dX_behind_69 : decode cX_behind 69 = .ok (.getfield 164, 3) := by decide +kernel
theorem dX_behind_72 : decode cX_behind 72 = .ok (.iadd, 1) := by decide +kernel
theorem dX_behind_73 : decode cX_behind 73 = .ok (.bipush 8, 2) := by decide +kernel
theorem dX_behind_75 : decode cX_behind 75 = .ok (.if_icmp .le 6, 3) := by decide +kernel
theorem dX_behind_78 : decode cX_behind 78 = .ok (.ldc 167, 2) := by decide +kernel
theorem dX_behind_80 : decode cX_behind 80 = .ok (.ireturn, 1) := by decide +kernel
theorem dX_behind_81 : decode cX_behind 81 = .ok (.aload_n 0, 1) := by decide +kernel
theorem dX_behind_82 : decode cX_behind 82 = .ok (.iload_n 1, 1) := by decide +kernel
theorem dX_behind_83 : decode cX_behind 83 = .ok (.aload_n 0, 1) := by decide +kernel
theorem dX_behind_84 : decode cX_behind 84 = .ok (.aload 4, 2) := by decide +kernel
theorem dX_behind_86 : decode cX_behind 86 = .ok (.getfield 160, 3) := by decide +kernel
theorem dX_behind_89 : decode cX_behind 89 = .ok (.aload 5, 2) := by decide +kernel
theorem dX_behind_91 : decode cX_behind 91 = .ok (.getfield 160, 3) := by decide +kernel
theorem dX_behind_94 : decode cX_behind 94 = .ok (.invokevirtual 168, 3) := by decide +kernel
theorem dX_behind_97 : decode cX_behind 97 = .ok (.invokevirtual 156, 3) := by decide +kernel
theorem dX_behind_100 : decode cX_behind 100 = .ok (.ireturn, 1) := by decide +kernel
theorem dMo_less_0 : decode cMo_less 0 = .ok (.lload_n 1, 1) := by decide +kernel
theorem dMo_less_1 : decode cMo_less 1 = .ok (.aload_n 0, 1) := by decide +kernel
theorem dMo_less_2 : decode cMo_less 2 = .ok (.getfield 15, 3) := by decide +kernel
theorem dMo_less_5 : decode cMo_less 5 = .ok (.ladd, 1) := by decide +kernel
theorem dMo_less_6 : decode cMo_less 6 = .ok (.lload_n 3, 1) := by decide +kernel
theorem dMo_less_7 : decode cMo_less 7 = .ok (.lsub, 1) := by decide +kernel
theorem dMo_less_8 : decode cMo_less 8 = .ok (.aload_n 0, 1) := by decide +kernel
theorem dMo_less_9 : decode cMo_less 9 = .ok (.getfield 15, 3) := by decide +kernel
theorem dMo_less_12 : decode cMo_less 12 = .ok (.lrem, 1) := by decide +kernel
theorem dMo_less_13 : decode cMo_less 13 = .ok (.lreturn, 1) := by decide +kernel
theorem dX_undone_0 : decode cX_undone 0 = .ok (.new 146, 3) := by decide +kernel
theorem dX_undone_3 : decode cX_undone 3 = .ok (.dup, 1) := by decide +kernel
theorem dX_undone_4 : decode cX_undone 4 = .ok (.aload_n 1, 1) := by decide +kernel
theorem dX_undone_5 : decode cX_undone 5 = .ok (.getfield 164, 3) := by decide +kernel
theorem dX_undone_8 : decode cX_undone 8 = .ok (.invokespecial 148, 3) := by decide +kernel
theorem dX_undone_11 : decode cX_undone 11 = .ok (.astore_n 2, 1) := by decide +kernel
theorem dX_undone_12 : decode cX_undone 12 = .ok (.iconst 0, 1) := by decide +kernel
theorem dX_undone_13 : decode cX_undone 13 = .ok (.istore_n 3, 1) := by decide +kernel
theorem dX_undone_14 : decode cX_undone 14 = .ok (.iload_n 3, 1) := by decide +kernel
theorem dX_undone_15 : decode cX_undone 15 = .ok (.aload_n 1, 1) := by decide +kernel
theorem dX_undone_16 : decode cX_undone 16 = .ok (.getfield 164, 3) := by decide +kernel
theorem dX_undone_19 : decode cX_undone 19 = .ok (.if_icmp .ge 71, 3) := by decide +kernel
theorem dX_undone_22 : decode cX_undone 22 = .ok (.iconst 0, 1) := by decide +kernel
theorem dX_undone_23 : decode cX_undone 23 = .ok (.istore 4, 2) := by decide +kernel
theorem dX_undone_25 : decode cX_undone 25 = .ok (.iload 4, 2) := by decide +kernel
theorem dX_undone_27 : decode cX_undone 27 = .ok (.aload_n 1, 1) := by decide +kernel
theorem dX_undone_28 : decode cX_undone 28 = .ok (.getfield 164, 3) := by decide +kernel
theorem dX_undone_31 : decode cX_undone 31 = .ok (.if_icmp .ge 35, 3) := by decide +kernel
theorem dX_undone_34 : decode cX_undone 34 = .ok (.aload_n 2, 1) := by decide +kernel
theorem dX_undone_35 : decode cX_undone 35 = .ok (.iload 4, 2) := by decide +kernel
theorem dX_undone_37 : decode cX_undone 37 = .ok (.iload_n 3, 1) := by decide +kernel
theorem dX_undone_38 : decode cX_undone 38 = .ok (.aload_n 0, 1) := by decide +kernel
theorem dX_undone_39 : decode cX_undone 39 = .ok (.getfield 12, 3) := by decide +kernel
theorem dX_undone_42 : decode cX_undone 42 = .ok (.aload_n 1, 1) := by decide +kernel
theorem dX_undone_43 : decode cX_undone 43 = .ok (.iload 4, 2) := by decide +kernel
theorem dX_undone_45 : decode cX_undone 45 = .ok (.iload_n 3, 1) := by decide +kernel
theorem dX_undone_46 : decode cX_undone 46 = .ok (.invokevirtual 191, 3) := by decide +kernel
theorem dX_undone_49 : decode cX_undone 49 = .ok (.aload_n 1, 1) := by decide +kernel
theorem dX_undone_50 : decode cX_undone 50 = .ok (.iload_n 3, 1) := by decide +kernel
theorem dX_undone_51 : decode cX_undone 51 = .ok (.invokevirtual 187, 3) := by decide +kernel
theorem dX_undone_54 : decode cX_undone 54 = .ok (.invokevirtual 264, 3) := by decide +kernel
theorem dX_undone_57 : decode cX_undone 57 = .ok (.invokevirtual 256, 3) := by decide +kernel
theorem dX_undone_60 : decode cX_undone 60 = .ok (.iinc 4 1, 3) := by decide +kernel
theorem dX_undone_63 : decode cX_undone 63 = .ok (.goto (-38), 3) := by decide +kernel
theorem dX_undone_66 : decode cX_undone 66 = .ok (.aload_n 2, 1) := by decide +kernel
theorem dX_undone_67 : decode cX_undone 67 = .ok (.iload_n 3, 1) := by decide +kernel
theorem dX_undone_68 : decode cX_undone 68 = .ok (.aload_n 0, 1) := by decide +kernel
theorem dX_undone_69 : decode cX_undone 69 = .ok (.getfield 12, 3) := by decide +kernel
theorem dX_undone_72 : decode cX_undone 72 = .ok (.lconst 0, 1) := by decide +kernel
theorem dX_undone_73 : decode cX_undone 73 = .ok (.aload_n 1, 1) := by decide +kernel
theorem dX_undone_74 : decode cX_undone 74 = .ok (.iload_n 3, 1) := by decide +kernel
theorem dX_undone_75 : decode cX_undone 75 = .ok (.invokevirtual 187, 3) := by decide +kernel
theorem dX_undone_78 : decode cX_undone 78 = .ok (.invokevirtual 264, 3) := by decide +kernel
theorem dX_undone_81 : decode cX_undone 81 = .ok (.invokevirtual 260, 3) := by decide +kernel
theorem dX_undone_84 : decode cX_undone 84 = .ok (.iinc 3 1, 3) := by decide +kernel
theorem dX_undone_87 : decode cX_undone 87 = .ok (.goto (-73), 3) := by decide +kernel
theorem dX_undone_90 : decode cX_undone 90 = .ok (.aload_n 2, 1) := by decide +kernel
theorem dX_undone_91 : decode cX_undone 91 = .ok (.areturn, 1) := by decide +kernel
theorem dX_turned_0 : decode cX_turned 0 = .ok (.aload_n 1, 1) := by decide +kernel
theorem dX_turned_1 : decode cX_turned 1 = .ok (.getfield 164, 3) := by decide +kernel
theorem dX_turned_4 : decode cX_turned 4 = .ok (.iconst 1, 1) := by decide +kernel
theorem dX_turned_5 : decode cX_turned 5 = .ok (.isub, 1) := by decide +kernel
theorem dX_turned_6 : decode cX_turned 6 = .ok (.istore_n 2, 1) := by decide +kernel
theorem dX_turned_7 : decode cX_turned 7 = .ok (.new 146, 3) := by decide +kernel
theorem dX_turned_10 : decode cX_turned 10 = .ok (.dup, 1) := by decide +kernel
theorem dX_turned_11 : decode cX_turned 11 = .ok (.aload_n 1, 1) := by decide +kernel
theorem dX_turned_12 : decode cX_turned 12 = .ok (.getfield 164, 3) := by decide +kernel
theorem dX_turned_15 : decode cX_turned 15 = .ok (.invokespecial 148, 3) := by decide +kernel
theorem dX_turned_18 : decode cX_turned 18 = .ok (.astore_n 3, 1) := by decide +kernel
theorem dX_turned_19 : decode cX_turned 19 = .ok (.iconst 0, 1) := by decide +kernel
theorem dX_turned_20 : decode cX_turned 20 = .ok (.istore 4, 2) := by decide +kernel
theorem dX_turned_22 : decode cX_turned 22 = .ok (.iload 4, 2) := by decide +kernel
theorem dX_turned_24 : decode cX_turned 24 = .ok (.iload_n 2, 1) := by decide +kernel
theorem dX_turned_25 : decode cX_turned 25 = .ok (.if_icmp .gt 73, 3) := by decide +kernel
theorem dX_turned_28 : decode cX_turned 28 = .ok (.iconst 0, 1) := by decide +kernel
theorem dX_turned_29 : decode cX_turned 29 = .ok (.istore 5, 2) := by decide +kernel
theorem dX_turned_31 : decode cX_turned 31 = .ok (.iload 5, 2) := by decide +kernel
theorem dX_turned_33 : decode cX_turned 33 = .ok (.iload_n 2, 1) := by decide +kernel
theorem dX_turned_34 : decode cX_turned 34 = .ok (.if_icmp .gt 44, 3) := by decide +kernel
theorem dX_turned_37 : decode cX_turned 37 = .ok (.aload_n 3, 1) := by decide +kernel
theorem dX_turned_38 : decode cX_turned 38 = .ok (.iload 5, 2) := by decide +kernel
theorem dX_turned_40 : decode cX_turned 40 = .ok (.iload 4, 2) := by decide +kernel
theorem dX_turned_42 : decode cX_turned 42 = .ok (.aload_n 0, 1) := by decide +kernel
theorem dX_turned_43 : decode cX_turned 43 = .ok (.getfield 12, 3) := by decide +kernel
theorem dX_turned_46 : decode cX_turned 46 = .ok (.aload_n 1, 1) := by decide +kernel
theorem dX_turned_47 : decode cX_turned 47 = .ok (.iload_n 2, 1) := by decide +kernel
theorem dX_turned_48 : decode cX_turned 48 = .ok (.iload 4, 2) := by decide +kernel
theorem dX_turned_50 : decode cX_turned 50 = .ok (.isub, 1) := by decide +kernel
theorem dX_turned_51 : decode cX_turned 51 = .ok (.invokevirtual 187, 3) := by decide +kernel
theorem dX_turned_54 : decode cX_turned 54 = .ok (.aload_n 1, 1) := by decide +kernel
theorem dX_turned_55 : decode cX_turned 55 = .ok (.iload_n 2, 1) := by decide +kernel
theorem dX_turned_56 : decode cX_turned 56 = .ok (.iload 5, 2) := by decide +kernel
theorem dX_turned_58 : decode cX_turned 58 = .ok (.isub, 1) := by decide +kernel
theorem dX_turned_59 : decode cX_turned 59 = .ok (.iload_n 2, 1) := by decide +kernel
theorem dX_turned_60 : decode cX_turned 60 = .ok (.iload 4, 2) := by decide +kernel
theorem dX_turned_62 : decode cX_turned 62 = .ok (.isub, 1) := by decide +kernel
theorem dX_turned_63 : decode cX_turned 63 = .ok (.invokevirtual 191, 3) := by decide +kernel
theorem dX_turned_66 : decode cX_turned 66 = .ok (.invokevirtual 264, 3) := by decide +kernel
theorem dX_turned_69 : decode cX_turned 69 = .ok (.invokevirtual 256, 3) := by decide +kernel
theorem dX_turned_72 : decode cX_turned 72 = .ok (.iinc 5 1, 3) := by decide +kernel
theorem dX_turned_75 : decode cX_turned 75 = .ok (.goto (-44), 3) := by decide +kernel
theorem dX_turned_78 : decode cX_turned 78 = .ok (.aload_n 3, 1) := by decide +kernel
theorem dX_turned_79 : decode cX_turned 79 = .ok (.iload 4, 2) := by decide +kernel
theorem dX_turned_81 : decode cX_turned 81 = .ok (.aload_n 1, 1) := by decide +kernel
theorem dX_turned_82 : decode cX_turned 82 = .ok (.iload_n 2, 1) := by decide +kernel
theorem dX_turned_83 : decode cX_turned 83 = .ok (.iload 4, 2) := by decide +kernel
theorem dX_turned_85 : decode cX_turned 85 = .ok (.isub, 1) := by decide +kernel
theorem dX_turned_86 : decode cX_turned 86 = .ok (.invokevirtual 187, 3) := by decide +kernel
theorem dX_turned_89 : decode cX_turned 89 = .ok (.invokevirtual 260, 3) := by decide +kernel
theorem dX_turned_92 : decode cX_turned 92 = .ok (.iinc 4 1, 3) := by decide +kernel
theorem dX_turned_95 : decode cX_turned 95 = .ok (.goto (-73), 3) := by decide +kernel
theorem dX_turned_98 : decode cX_turned 98 = .ok (.aload_n 3, 1) := by decide +kernel
theorem dX_turned_99 : decode cX_turned 99 = .ok (.areturn, 1) := by decide +kernel
theorem dX_turn_0 : decode cX_turn 0 = .ok (.iload_n 1, 1) := by decide +kernel
theorem dX_turn_1 : decode cX_turn 1 = .ok (.invokestatic 143, 3) := by decide +kernel
theorem dX_turn_4 : decode cX_turn 4 = .ok (.ifCond .ne 19, 3) := by decide +kernel
theorem dX_turn_7 : decode cX_turn 7 = .ok (.iload_n 2, 1) := by decide +kernel
theorem dX_turn_8 : decode cX_turn 8 = .ok (.invokestatic 143, 3) := by decide +kernel
theorem dX_turn_11 : decode cX_turn 11 = .ok (.ifCond .ne 12, 3) := by decide +kernel
theorem dX_turn_14 : decode cX_turn 14 = .ok (.iload_n 3, 1) := by decide +kernel
theorem dX_turn_15 : decode cX_turn 15 = .ok (.ifCond .lt 8, 3) := by decide +kernel
theorem dX_turn_18 : decode cX_turn 18 = .ok (.iload_n 3, 1) := by decide +kernel
theorem dX_turn_19 : decode cX_turn 19 = .ok (.iconst 1, 1) := by decide +kernel
theorem dX_turn_20 : decode cX_turn 20 = .ok (.if_icmp .le 6, 3) := by decide +kernel
theorem dX_turn_23 : decode cX_turn 23 = .ok (.ldc 71, 2) := by decide +kernel
theorem dX_turn_25 : decode cX_turn 25 = .ok (.ireturn, 1) := by decide +kernel
theorem dX_turn_26 : decode cX_turn 26 = .ok (.aload_n 0, 1) := by decide +kernel
theorem dX_turn_27 : decode cX_turn 27 = .ok (.getfield 59, 3) := by decide +kernel
theorem dX_turn_30 : decode cX_turn 30 = .ok (.iload_n 2, 1) := by decide +kernel
theorem dX_turn_31 : decode cX_turn 31 = .ok (.aaload, 1) := by decide +kernel
theorem dX_turn_32 : decode cX_turn 32 = .ok (.astore 4, 2) := by decide +kernel
theorem dX_turn_34 : decode cX_turn 34 = .ok (.aload 4, 2) := by decide +kernel
theorem dX_turn_36 : decode cX_turn 36 = .ok (.ifnonnull 9, 3) := by decide +kernel
theorem dX_turn_39 : decode cX_turn 39 = .ok (.aload_n 0, 1) := by decide +kernel
theorem dX_turn_40 : decode cX_turn 40 = .ok (.iconst 1, 1) := by decide +kernel
theorem dX_turn_41 : decode cX_turn 41 = .ok (.invokevirtual 72, 3) := by decide +kernel
theorem dX_turn_44 : decode cX_turn 44 = .ok (.ireturn, 1) := by decide +kernel
theorem dX_turn_45 : decode cX_turn 45 = .ok (.aload_n 0, 1) := by decide +kernel
theorem dX_turn_46 : decode cX_turn 46 = .ok (.iload_n 1, 1) := by decide +kernel
theorem dX_turn_47 : decode cX_turn 47 = .ok (.iload_n 3, 1) := by decide +kernel
theorem dX_turn_48 : decode cX_turn 48 = .ok (.ifCond .ne 15, 3) := by decide +kernel
theorem dX_turn_51 : decode cX_turn 51 = .ok (.aload_n 0, 1) := by decide +kernel
theorem dX_turn_52 : decode cX_turn 52 = .ok (.aload 4, 2) := by decide +kernel
theorem dX_turn_54 : decode cX_turn 54 = .ok (.getfield 160, 3) := by decide +kernel
theorem dX_turn_57 : decode cX_turn 57 = .ok (.invokevirtual 172, 3) := by decide +kernel
theorem dX_turn_60 : decode cX_turn 60 = .ok (.goto 12, 3) := by decide +kernel
theorem dX_turn_63 : decode cX_turn 63 = .ok (.aload_n 0, 1) := by decide +kernel
theorem dX_turn_64 : decode cX_turn 64 = .ok (.aload 4, 2) := by decide +kernel
theorem dX_turn_66 : decode cX_turn 66 = .ok (.getfield 160, 3) := by decide +kernel
theorem dX_turn_69 : decode cX_turn 69 = .ok (.invokevirtual 176, 3) := by decide +kernel
theorem dX_turn_72 : decode cX_turn 72 = .ok (.invokevirtual 156, 3) := by decide +kernel
theorem dX_turn_75 : decode cX_turn 75 = .ok (.ireturn, 1) := by decide +kernel
theorem dX_scaled_0 : decode cX_scaled 0 = .ok (.new 146, 3) := by decide +kernel
theorem dX_scaled_3 : decode cX_scaled 3 = .ok (.dup, 1) := by decide +kernel
theorem dX_scaled_4 : decode cX_scaled 4 = .ok (.aload_n 1, 1) := by decide +kernel
theorem dX_scaled_5 : decode cX_scaled 5 = .ok (.getfield 164, 3) := by decide +kernel
theorem dX_scaled_8 : decode cX_scaled 8 = .ok (.invokespecial 148, 3) := by decide +kernel
theorem dX_scaled_11 : decode cX_scaled 11 = .ok (.astore_n 3, 1) := by decide +kernel
theorem dX_scaled_12 : decode cX_scaled 12 = .ok (.iconst 0, 1) := by decide +kernel
theorem dX_scaled_13 : decode cX_scaled 13 = .ok (.istore 4, 2) := by decide +kernel
theorem dX_scaled_15 : decode cX_scaled 15 = .ok (.iload 4, 2) := by decide +kernel
theorem dX_scaled_17 : decode cX_scaled 17 = .ok (.aload_n 3, 1) := by decide +kernel
theorem dX_scaled_18 : decode cX_scaled 18 = .ok (.getfield 149, 3) := by decide +kernel
theorem dX_scaled_21 : decode cX_scaled 21 = .ok (.arraylength, 1) := by decide +kernel
theorem dX_scaled_22 : decode cX_scaled 22 = .ok (.if_icmp .ge 34, 3) := by decide +kernel
theorem dX_scaled_25 : decode cX_scaled 25 = .ok (.aload_n 3, 1) := by decide +kernel
theorem dX_scaled_26 : decode cX_scaled 26 = .ok (.getfield 149, 3) := by decide +kernel
theorem dX_scaled_29 : decode cX_scaled 29 = .ok (.iload 4, 2) := by decide +kernel
theorem dX_scaled_31 : decode cX_scaled 31 = .ok (.aload_n 0, 1) := by decide +kernel
theorem dX_scaled_32 : decode cX_scaled 32 = .ok (.getfield 12, 3) := by decide +kernel
theorem dX_scaled_35 : decode cX_scaled 35 = .ok (.iload_n 2, 1) := by decide +kernel
theorem dX_scaled_36 : decode cX_scaled 36 = .ok (.i2l, 1) := by decide +kernel
theorem dX_scaled_37 : decode cX_scaled 37 = .ok (.aload_n 1, 1) := by decide +kernel
theorem dX_scaled_38 : decode cX_scaled 38 = .ok (.getfield 149, 3) := by decide +kernel
theorem dX_scaled_41 : decode cX_scaled 41 = .ok (.iload 4, 2) := by decide +kernel
theorem dX_scaled_43 : decode cX_scaled 43 = .ok (.iaload, 1) := by decide +kernel
theorem dX_scaled_44 : decode cX_scaled 44 = .ok (.i2l, 1) := by decide +kernel
theorem dX_scaled_45 : decode cX_scaled 45 = .ok (.invokevirtual 252, 3) := by decide +kernel
theorem dX_scaled_48 : decode cX_scaled 48 = .ok (.l2i, 1) := by decide +kernel
theorem dX_scaled_49 : decode cX_scaled 49 = .ok (.iastore, 1) := by decide +kernel
theorem dX_scaled_50 : decode cX_scaled 50 = .ok (.iinc 4 1, 3) := by decide +kernel
theorem dX_scaled_53 : decode cX_scaled 53 = .ok (.goto (-38), 3) := by decide +kernel
theorem dX_scaled_56 : decode cX_scaled 56 = .ok (.aload_n 3, 1) := by decide +kernel
theorem dX_scaled_57 : decode cX_scaled 57 = .ok (.areturn, 1) := by decide +kernel
theorem dX_scale_0 : decode cX_scale 0 = .ok (.iload_n 1, 1) := by decide +kernel
theorem dX_scale_1 : decode cX_scale 1 = .ok (.invokestatic 143, 3) := by decide +kernel
theorem dX_scale_4 : decode cX_scale 4 = .ok (.ifCond .ne 27, 3) := by decide +kernel
theorem dX_scale_7 : decode cX_scale 7 = .ok (.iload_n 2, 1) := by decide +kernel
theorem dX_scale_8 : decode cX_scale 8 = .ok (.invokestatic 143, 3) := by decide +kernel
theorem dX_scale_11 : decode cX_scale 11 = .ok (.ifCond .ne 20, 3) := by decide +kernel
theorem dX_scale_14 : decode cX_scale 14 = .ok (.iload_n 3, 1) := by decide +kernel
theorem dX_scale_15 : decode cX_scale 15 = .ok (.ifCond .lt 16, 3) := by decide +kernel
theorem dX_scale_18 : decode cX_scale 18 = .ok (.iload_n 3, 1) := by decide +kernel
theorem dX_scale_19 : decode cX_scale 19 = .ok (.i2l, 1) := by decide +kernel
theorem dX_scale_20 : decode cX_scale 20 = .ok (.aload_n 0, 1) := by decide +kernel
theorem dX_scale_21 : decode cX_scale 21 = .ok (.getfield 12, 3) := by decide +kernel
theorem dX_scale_24 : decode cX_scale 24 = .ok (.getfield 179, 3) := by decide +kernel
theorem dX_scale_27 : decode cX_scale 27 = .ok (.lcmp, 1) := by decide +kernel
theorem dX_scale_28 : decode cX_scale 28 = .ok (.ifCond .lt 6, 3) := by decide +kernel
theorem dX_scale_31 : decode cX_scale 31 = .ok (.ldc 71, 2) := by decide +kernel
theorem dX_scale_33 : decode cX_scale 33 = .ok (.ireturn, 1) := by decide +kernel
theorem dX_scale_34 : decode cX_scale 34 = .ok (.aload_n 0, 1) := by decide +kernel
theorem dX_scale_35 : decode cX_scale 35 = .ok (.getfield 59, 3) := by decide +kernel
theorem dX_scale_38 : decode cX_scale 38 = .ok (.iload_n 2, 1) := by decide +kernel
theorem dX_scale_39 : decode cX_scale 39 = .ok (.aaload, 1) := by decide +kernel
theorem dX_scale_40 : decode cX_scale 40 = .ok (.astore 4, 2) := by decide +kernel
theorem dX_scale_42 : decode cX_scale 42 = .ok (.aload 4, 2) := by decide +kernel
theorem dX_scale_44 : decode cX_scale 44 = .ok (.ifnonnull 9, 3) := by decide +kernel
theorem dX_scale_47 : decode cX_scale 47 = .ok (.aload_n 0, 1) := by decide +kernel
theorem dX_scale_48 : decode cX_scale 48 = .ok (.iconst 1, 1) := by decide +kernel
theorem dX_scale_49 : decode cX_scale 49 = .ok (.invokevirtual 72, 3) := by decide +kernel
theorem dX_scale_52 : decode cX_scale 52 = .ok (.ireturn, 1) := by decide +kernel
theorem dX_scale_53 : decode cX_scale 53 = .ok (.aload_n 0, 1) := by decide +kernel
theorem dX_scale_54 : decode cX_scale 54 = .ok (.iload_n 1, 1) := by decide +kernel
theorem dX_scale_55 : decode cX_scale 55 = .ok (.aload_n 0, 1) := by decide +kernel
theorem dX_scale_56 : decode cX_scale 56 = .ok (.aload 4, 2) := by decide +kernel
theorem dX_scale_58 : decode cX_scale 58 = .ok (.getfield 160, 3) := by decide +kernel
theorem dX_scale_61 : decode cX_scale 61 = .ok (.iload_n 3, 1) := by decide +kernel
theorem dX_scale_62 : decode cX_scale 62 = .ok (.invokevirtual 183, 3) := by decide +kernel
theorem dX_scale_65 : decode cX_scale 65 = .ok (.invokevirtual 156, 3) := by decide +kernel
theorem dX_scale_68 : decode cX_scale 68 = .ok (.ireturn, 1) := by decide +kernel
theorem dX_clear_0 : decode cX_clear 0 = .ok (.iload_n 1, 1) := by decide +kernel
theorem dX_clear_1 : decode cX_clear 1 = .ok (.invokestatic 143, 3) := by decide +kernel
theorem dX_clear_4 : decode cX_clear 4 = .ok (.ifCond .eq 6, 3) := by decide +kernel
theorem dX_clear_7 : decode cX_clear 7 = .ok (.ldc 71, 2) := by decide +kernel
theorem dX_clear_9 : decode cX_clear 9 = .ok (.ireturn, 1) := by decide +kernel
theorem dX_clear_10 : decode cX_clear 10 = .ok (.aload_n 0, 1) := by decide +kernel
theorem dX_clear_11 : decode cX_clear 11 = .ok (.getfield 59, 3) := by decide +kernel
theorem dX_clear_14 : decode cX_clear 14 = .ok (.iload_n 1, 1) := by decide +kernel
theorem dX_clear_15 : decode cX_clear 15 = .ok (.aaload, 1) := by decide +kernel
theorem dX_clear_16 : decode cX_clear 16 = .ok (.ifnonnull 7, 3) := by decide +kernel
theorem dX_clear_19 : decode cX_clear 19 = .ok (.iconst 0, 1) := by decide +kernel
theorem dX_clear_20 : decode cX_clear 20 = .ok (.goto 4, 3) := by decide +kernel
theorem dX_clear_23 : decode cX_clear 23 = .ok (.iconst 1, 1) := by decide +kernel
theorem dX_clear_24 : decode cX_clear 24 = .ok (.istore_n 2, 1) := by decide +kernel
theorem dX_clear_25 : decode cX_clear 25 = .ok (.aload_n 0, 1) := by decide +kernel
theorem dX_clear_26 : decode cX_clear 26 = .ok (.getfield 59, 3) := by decide +kernel
theorem dX_clear_29 : decode cX_clear 29 = .ok (.iload_n 1, 1) := by decide +kernel
theorem dX_clear_30 : decode cX_clear 30 = .ok (.aconst_null, 1) := by decide +kernel
theorem dX_clear_31 : decode cX_clear 31 = .ok (.aastore, 1) := by decide +kernel
theorem dX_clear_32 : decode cX_clear 32 = .ok (.iload_n 2, 1) := by decide +kernel
theorem dX_clear_33 : decode cX_clear 33 = .ok (.ireturn, 1) := by decide +kernel
theorem dX_number_0 : decode cX_number 0 = .ok (.iload_n 1, 1) := by decide +kernel
theorem dX_number_1 : decode cX_number 1 = .ok (.invokestatic 143, 3) := by decide +kernel
theorem dX_number_4 : decode cX_number 4 = .ok (.ifCond .eq 6, 3) := by decide +kernel
theorem dX_number_7 : decode cX_number 7 = .ok (.ldc 71, 2) := by decide +kernel
theorem dX_number_9 : decode cX_number 9 = .ok (.ireturn, 1) := by decide +kernel
theorem dX_number_10 : decode cX_number 10 = .ok (.aload_n 0, 1) := by decide +kernel
theorem dX_number_11 : decode cX_number 11 = .ok (.getfield 59, 3) := by decide +kernel
theorem dX_number_14 : decode cX_number 14 = .ok (.iload_n 1, 1) := by decide +kernel
theorem dX_number_15 : decode cX_number 15 = .ok (.aaload, 1) := by decide +kernel
theorem dX_number_16 : decode cX_number 16 = .ok (.astore 4, 2) := by decide +kernel
theorem dX_number_18 : decode cX_number 18 = .ok (.aload 4, 2) := by decide +kernel
theorem dX_number_20 : decode cX_number 20 = .ok (.ifnonnull 9, 3) := by decide +kernel
theorem dX_number_23 : decode cX_number 23 = .ok (.aload_n 0, 1) := by decide +kernel
theorem dX_number_24 : decode cX_number 24 = .ok (.iconst 1, 1) := by decide +kernel
theorem dX_number_25 : decode cX_number 25 = .ok (.invokevirtual 72, 3) := by decide +kernel
theorem dX_number_28 : decode cX_number 28 = .ok (.ireturn, 1) := by decide +kernel
theorem dX_number_29 : decode cX_number 29 = .ok (.aload 4, 2) := by decide +kernel
theorem dX_number_31 : decode cX_number 31 = .ok (.getfield 160, 3) := by decide +kernel
theorem dX_number_34 : decode cX_number 34 = .ok (.getfield 164, 3) := by decide +kernel
theorem dX_number_37 : decode cX_number 37 = .ok (.istore 5, 2) := by decide +kernel
theorem dX_number_39 : decode cX_number 39 = .ok (.iload_n 2, 1) := by decide +kernel
theorem dX_number_40 : decode cX_number 40 = .ok (.iconst (-1), 1) := by decide +kernel
theorem dX_number_41 : decode cX_number 41 = .ok (.if_icmp .ne 10, 3) := by decide +kernel
theorem dX_number_44 : decode cX_number 44 = .ok (.aload_n 0, 1) := by decide +kernel
theorem dX_number_45 : decode cX_number 45 = .ok (.iload 5, 2) := by decide +kernel
theorem dX_number_47 : decode cX_number 47 = .ok (.invokevirtual 80, 3) := by decide +kernel
theorem dX_number_50 : decode cX_number 50 = .ok (.ireturn, 1) := by decide +kernel
theorem dX_number_51 : decode cX_number 51 = .ok (.iload_n 2, 1) := by decide +kernel
theorem dX_number_52 : decode cX_number 52 = .ok (.ifCond .lt 19, 3) := by decide +kernel
theorem dX_number_55 : decode cX_number 55 = .ok (.iload_n 2, 1) := by decide +kernel
theorem dX_number_56 : decode cX_number 56 = .ok (.iload 5, 2) := by decide +kernel
theorem dX_number_58 : decode cX_number 58 = .ok (.if_icmp .gt 13, 3) := by decide +kernel
theorem dX_number_61 : decode cX_number 61 = .ok (.iload_n 3, 1) := by decide +kernel
theorem dX_number_62 : decode cX_number 62 = .ok (.ifCond .lt 9, 3) := by decide +kernel
theorem dX_number_65 : decode cX_number 65 = .ok (.iload_n 3, 1) := by decide +kernel
theorem dX_number_66 : decode cX_number 66 = .ok (.iload 5, 2) := by decide +kernel
theorem dX_number_68 : decode cX_number 68 = .ok (.if_icmp .lt 6, 3) := by decide +kernel
theorem dX_number_71 : decode cX_number 71 = .ok (.ldc 71, 2) := by decide +kernel
theorem dX_number_73 : decode cX_number 73 = .ok (.ireturn, 1) := by decide +kernel
theorem dX_number_74 : decode cX_number 74 = .ok (.aload_n 0, 1) := by decide +kernel
theorem dX_number_75 : decode cX_number 75 = .ok (.iload_n 2, 1) := by decide +kernel
theorem dX_number_76 : decode cX_number 76 = .ok (.iload 5, 2) := by decide +kernel
theorem dX_number_78 : decode cX_number 78 = .ok (.if_icmp .ne 15, 3) := by decide +kernel
theorem dX_number_81 : decode cX_number 81 = .ok (.aload 4, 2) := by decide +kernel
theorem dX_number_83 : decode cX_number 83 = .ok (.getfield 160, 3) := by decide +kernel
theorem dX_number_86 : decode cX_number 86 = .ok (.iload_n 3, 1) := by decide +kernel
theorem dX_number_87 : decode cX_number 87 = .ok (.invokevirtual 187, 3) := by decide +kernel
theorem dX_number_90 : decode cX_number 90 = .ok (.goto 13, 3) := by decide +kernel
theorem dX_number_93 : decode cX_number 93 = .ok (.aload 4, 2) := by decide +kernel
theorem dX_number_95 : decode cX_number 95 = .ok (.getfield 160, 3) := by decide +kernel
theorem dX_number_98 : decode cX_number 98 = .ok (.iload_n 2, 1) := by decide +kernel
theorem dX_number_99 : decode cX_number 99 = .ok (.iload_n 3, 1) := by decide +kernel
theorem dX_number_100 : decode cX_number 100 = .ok (.invokevirtual 191, 3) := by decide +kernel
theorem dX_number_103 : decode cX_number 103 = .ok (.l2i, 1) := by decide +kernel
theorem dX_number_104 : decode cX_number 104 = .ok (.invokevirtual 80, 3) := by decide +kernel
theorem dX_number_107 : decode cX_number 107 = .ok (.ireturn, 1) := by decide +kernel
theorem dX_kind_0 : decode cX_kind 0 = .ok (.iload_n 1, 1) := by decide +kernel
theorem dX_kind_1 : decode cX_kind 1 = .ok (.invokestatic 143, 3) := by decide +kernel
theorem dX_kind_4 : decode cX_kind 4 = .ok (.ifCond .eq 6, 3) := by decide +kernel
theorem dX_kind_7 : decode cX_kind 7 = .ok (.ldc 71, 2) := by decide +kernel
theorem dX_kind_9 : decode cX_kind 9 = .ok (.ireturn, 1) := by decide +kernel
theorem dX_kind_10 : decode cX_kind 10 = .ok (.aload_n 0, 1) := by decide +kernel
theorem dX_kind_11 : decode cX_kind 11 = .ok (.getfield 59, 3) := by decide +kernel
theorem dX_kind_14 : decode cX_kind 14 = .ok (.iload_n 1, 1) := by decide +kernel
theorem dX_kind_15 : decode cX_kind 15 = .ok (.aaload, 1) := by decide +kernel
theorem dX_kind_16 : decode cX_kind 16 = .ok (.astore_n 2, 1) := by decide +kernel
theorem dX_kind_17 : decode cX_kind 17 = .ok (.aload_n 2, 1) := by decide +kernel
theorem dX_kind_18 : decode cX_kind 18 = .ok (.ifnonnull 11, 3) := by decide +kernel
theorem dX_kind_21 : decode cX_kind 21 = .ok (.aload_n 0, 1) := by decide +kernel
theorem dX_kind_22 : decode cX_kind 22 = .ok (.iconst 1, 1) := by decide +kernel
theorem dX_kind_23 : decode cX_kind 23 = .ok (.invokevirtual 72, 3) := by decide +kernel
theorem dX_kind_26 : decode cX_kind 26 = .ok (.goto 11, 3) := by decide +kernel
theorem dX_kind_29 : decode cX_kind 29 = .ok (.aload_n 0, 1) := by decide +kernel
theorem dX_kind_30 : decode cX_kind 30 = .ok (.aload_n 2, 1) := by decide +kernel
theorem dX_kind_31 : decode cX_kind 31 = .ok (.invokevirtual 195, 3) := by decide +kernel
theorem dX_kind_34 : decode cX_kind 34 = .ok (.invokevirtual 80, 3) := by decide +kernel
theorem dX_kind_37 : decode cX_kind 37 = .ok (.ireturn, 1) := by decide +kernel
theorem dX_noKind_0 : decode cX_noKind 0 = .ok (.iload_n 0, 1) := by decide +kernel
theorem dX_noKind_1 : decode cX_noKind 1 = .ok (.ifCond .lt 8, 3) := by decide +kernel
theorem dX_noKind_4 : decode cX_noKind 4 = .ok (.iload_n 0, 1) := by decide +kernel
theorem dX_noKind_5 : decode cX_noKind 5 = .ok (.iconst 3, 1) := by decide +kernel
theorem dX_noKind_6 : decode cX_noKind 6 = .ok (.if_icmp .le 7, 3) := by decide +kernel
theorem dX_noKind_9 : decode cX_noKind 9 = .ok (.iconst 1, 1) := by decide +kernel
theorem dX_noKind_10 : decode cX_noKind 10 = .ok (.goto 4, 3) := by decide +kernel
theorem dX_noKind_13 : decode cX_noKind 13 = .ok (.iconst 0, 1) := by decide +kernel
theorem dX_noKind_14 : decode cX_noKind 14 = .ok (.ireturn, 1) := by decide +kernel
theorem dX_belongs_0 : decode cX_belongs 0 = .ok (.iload_n 1, 1) := by decide +kernel
theorem dX_belongs_1 : decode cX_belongs 1 = .ok (.tableswitch 56 0 3 #[31, 41, 46, 51], 31) := by decide +kernel
theorem dX_belongs_32 : decode cX_belongs 32 = .ok (.aload_n 0, 1) := by decide +kernel
theorem dX_belongs_33 : decode cX_belongs 33 = .ok (.ifnull 7, 3) := by decide +kernel
theorem dX_belongs_36 : decode cX_belongs 36 = .ok (.iconst 1, 1) := by decide +kernel
theorem dX_belongs_37 : decode cX_belongs 37 = .ok (.goto 4, 3) := by decide +kernel
theorem dX_belongs_40 : decode cX_belongs 40 = .ok (.iconst 0, 1) := by decide +kernel
theorem dX_belongs_41 : decode cX_belongs 41 = .ok (.ireturn, 1) := by decide +kernel
theorem dX_belongs_42 : decode cX_belongs 42 = .ok (.aload_n 0, 1) := by decide +kernel
theorem dX_belongs_43 : decode cX_belongs 43 = .ok (.instanceof 293, 3) := by decide +kernel
theorem dX_belongs_46 : decode cX_belongs 46 = .ok (.ireturn, 1) := by decide +kernel
theorem dX_belongs_47 : decode cX_belongs 47 = .ok (.aload_n 0, 1) := by decide +kernel
theorem dX_belongs_48 : decode cX_belongs 48 = .ok (.instanceof 281, 3) := by decide +kernel
theorem dX_belongs_51 : decode cX_belongs 51 = .ok (.ireturn, 1) := by decide +kernel
theorem dX_belongs_52 : decode cX_belongs 52 = .ok (.aload_n 0, 1) := by decide +kernel
theorem dX_belongs_53 : decode cX_belongs 53 = .ok (.instanceof 290, 3) := by decide +kernel
theorem dX_belongs_56 : decode cX_belongs 56 = .ok (.ireturn, 1) := by decide +kernel
theorem dX_belongs_57 : decode cX_belongs 57 = .ok (.iconst 0, 1) := by decide +kernel
theorem dX_belongs_58 : decode cX_belongs 58 = .ok (.ireturn, 1) := by decide +kernel
theorem dX_is_0 : decode cX_is 0 = .ok (.iload_n 1, 1) := by decide +kernel
theorem dX_is_1 : decode cX_is 1 = .ok (.invokestatic 143, 3) := by decide +kernel
theorem dX_is_4 : decode cX_is 4 = .ok (.ifCond .ne 10, 3) := by decide +kernel
theorem dX_is_7 : decode cX_is 7 = .ok (.iload_n 2, 1) := by decide +kernel
theorem dX_is_8 : decode cX_is 8 = .ok (.invokestatic 199, 3) := by decide +kernel
theorem dX_is_11 : decode cX_is 11 = .ok (.ifCond .eq 6, 3) := by decide +kernel
theorem dX_is_14 : decode cX_is 14 = .ok (.ldc 71, 2) := by decide +kernel
theorem dX_is_16 : decode cX_is 16 = .ok (.ireturn, 1) := by decide +kernel
theorem dX_is_17 : decode cX_is 17 = .ok (.aload_n 0, 1) := by decide +kernel
theorem dX_is_18 : decode cX_is 18 = .ok (.getfield 59, 3) := by decide +kernel
theorem dX_is_21 : decode cX_is 21 = .ok (.iload_n 1, 1) := by decide +kernel
theorem dX_is_22 : decode cX_is 22 = .ok (.aaload, 1) := by decide +kernel
theorem dX_is_23 : decode cX_is 23 = .ok (.iload_n 2, 1) := by decide +kernel
theorem dX_is_24 : decode cX_is 24 = .ok (.invokestatic 202, 3) := by decide +kernel
theorem dX_is_27 : decode cX_is 27 = .ok (.ifCond .eq 7, 3) := by decide +kernel
theorem dX_is_30 : decode cX_is 30 = .ok (.iconst 1, 1) := by decide +kernel
theorem dX_is_31 : decode cX_is 31 = .ok (.goto 4, 3) := by decide +kernel
theorem dX_is_34 : decode cX_is 34 = .ok (.iconst 0, 1) := by decide +kernel
theorem dX_is_35 : decode cX_is 35 = .ok (.ireturn, 1) := by decide +kernel
theorem dX_as_0 : decode cX_as 0 = .ok (.iload_n 1, 1) := by decide +kernel
theorem dX_as_1 : decode cX_as 1 = .ok (.invokestatic 143, 3) := by decide +kernel
theorem dX_as_4 : decode cX_as 4 = .ok (.ifCond .ne 10, 3) := by decide +kernel
theorem dX_as_7 : decode cX_as 7 = .ok (.iload_n 2, 1) := by decide +kernel
theorem dX_as_8 : decode cX_as 8 = .ok (.invokestatic 199, 3) := by decide +kernel
theorem dX_as_11 : decode cX_as 11 = .ok (.ifCond .eq 6, 3) := by decide +kernel
theorem dX_as_14 : decode cX_as 14 = .ok (.ldc 71, 2) := by decide +kernel
theorem dX_as_16 : decode cX_as 16 = .ok (.ireturn, 1) := by decide +kernel
theorem dX_as_17 : decode cX_as 17 = .ok (.aload_n 0, 1) := by decide +kernel
theorem dX_as_18 : decode cX_as 18 = .ok (.getfield 59, 3) := by decide +kernel
theorem dX_as_21 : decode cX_as 21 = .ok (.iload_n 1, 1) := by decide +kernel
theorem dX_as_22 : decode cX_as 22 = .ok (.aaload, 1) := by decide +kernel
theorem dX_as_23 : decode cX_as 23 = .ok (.astore_n 3, 1) := by decide +kernel
theorem dX_as_24 : decode cX_as 24 = .ok (.aload_n 3, 1) := by decide +kernel
theorem dX_as_25 : decode cX_as 25 = .ok (.ifnonnull 9, 3) := by decide +kernel
theorem dX_as_28 : decode cX_as 28 = .ok (.aload_n 0, 1) := by decide +kernel
theorem dX_as_29 : decode cX_as 29 = .ok (.iconst 1, 1) := by decide +kernel
theorem dX_as_30 : decode cX_as 30 = .ok (.invokevirtual 72, 3) := by decide +kernel
theorem dX_as_33 : decode cX_as 33 = .ok (.ireturn, 1) := by decide +kernel
theorem dX_as_34 : decode cX_as 34 = .ok (.aload_n 3, 1) := by decide +kernel
theorem dX_as_35 : decode cX_as 35 = .ok (.iload_n 2, 1) := by decide +kernel
theorem dX_as_36 : decode cX_as 36 = .ok (.invokestatic 202, 3) := by decide +kernel
theorem dX_as_39 : decode cX_as 39 = .ok (.ifCond .eq 17, 3) := by decide +kernel
theorem dX_as_42 : decode cX_as 42 = .ok (.aload_n 0, 1) := by decide +kernel
theorem dX_as_43 : decode cX_as 43 = .ok (.aload_n 3, 1) := by decide +kernel
theorem dX_as_44 : decode cX_as 44 = .ok (.getfield 160, 3) := by decide +kernel
theorem dX_as_47 : decode cX_as 47 = .ok (.getfield 164, 3) := by decide +kernel
theorem dX_as_50 : decode cX_as 50 = .ok (.invokevirtual 80, 3) := by decide +kernel
theorem dX_as_53 : decode cX_as 53 = .ok (.goto 8, 3) := by decide +kernel
theorem dX_as_56 : decode cX_as 56 = .ok (.aload_n 0, 1) := by decide +kernel
theorem dX_as_57 : decode cX_as 57 = .ok (.iconst 3, 1) := by decide +kernel
theorem dX_as_58 : decode cX_as 58 = .ok (.invokevirtual 72, 3) := by decide +kernel
theorem dX_as_61 : decode cX_as 61 = .ok (.ireturn, 1) := by decide +kernel
theorem dTr_begin_0 : decode cTr_begin 0 = .ok (.aload_n 0, 1) := by decide +kernel
theorem dTr_begin_1 : decode cTr_begin 1 = .ok (.getfield 13, 3) := by decide +kernel
theorem dTr_begin_4 : decode cTr_begin 4 = .ok (.bipush 16, 2) := by decide +kernel
theorem dTr_begin_6 : decode cTr_begin 6 = .ok (.if_icmp .ge 23, 3) := by decide +kernel
theorem dTr_begin_9 : decode cTr_begin 9 = .ok (.aload_n 0, 1) := by decide +kernel
theorem dTr_begin_10 : decode cTr_begin 10 = .ok (.getfield 9, 3) := by decide +kernel
theorem dTr_begin_13 : decode cTr_begin 13 = .ok (.aload_n 0, 1) := by decide +kernel
theorem dTr_begin_14 : decode cTr_begin 14 = .ok (.getfield 13, 3) := by decide +kernel
theorem dTr_begin_17 : decode cTr_begin 17 = .ok (.iload_n 1, 1) := by decide +kernel
theorem dTr_begin_18 : decode cTr_begin 18 = .ok (.iastore, 1) := by decide +kernel
theorem dTr_begin_19 : decode cTr_begin 19 = .ok (.aload_n 0, 1) := by decide +kernel
theorem dTr_begin_20 : decode cTr_begin 20 = .ok (.dup, 1) := by decide +kernel
theorem dTr_begin_21 : decode cTr_begin 21 = .ok (.getfield 13, 3) := by decide +kernel
theorem dTr_begin_24 : decode cTr_begin 24 = .ok (.iconst 1, 1) := by decide +kernel
theorem dTr_begin_25 : decode cTr_begin 25 = .ok (.iadd, 1) := by decide +kernel
theorem dTr_begin_26 : decode cTr_begin 26 = .ok (.putfield 13, 3) := by decide +kernel
theorem dTr_begin_29 : decode cTr_begin 29 = .ok (.return_, 1) := by decide +kernel
theorem dTa_size_0 : decode cTa_size 0 = .ok (.aload_n 1, 1) := by decide +kernel
theorem dTa_size_1 : decode cTa_size 1 = .ok (.bipush 10, 2) := by decide +kernel
theorem dTa_size_3 : decode cTa_size 3 = .ok (.invokevirtual 26, 3) := by decide +kernel
theorem dTa_size_6 : decode cTa_size 6 = .ok (.aload_n 0, 1) := by decide +kernel
theorem dTa_size_7 : decode cTa_size 7 = .ok (.getfield 9, 3) := by decide +kernel
theorem dTa_size_10 : decode cTa_size 10 = .ok (.getfield 32, 3) := by decide +kernel
theorem dTa_size_13 : decode cTa_size 13 = .ok (.ireturn, 1) := by decide +kernel
theorem dLo_size_0 : decode cLo_size 0 = .ok (.aload_n 1, 1) := by decide +kernel
theorem dLo_size_1 : decode cLo_size 1 = .ok (.bipush 11, 2) := by decide +kernel
theorem dLo_size_3 : decode cLo_size 3 = .ok (.invokevirtual 9, 3) := by decide +kernel
theorem dLo_size_6 : decode cLo_size 6 = .ok (.aload_n 0, 1) := by decide +kernel
theorem dLo_size_7 : decode cLo_size 7 = .ok (.aload_n 1, 1) := by decide +kernel
theorem dLo_size_8 : decode cLo_size 8 = .ok (.invokespecial 15, 3) := by decide +kernel
theorem dLo_size_11 : decode cLo_size 11 = .ok (.bipush 100, 2) := by decide +kernel
theorem dLo_size_13 : decode cLo_size 13 = .ok (.iadd, 1) := by decide +kernel
theorem dLo_size_14 : decode cLo_size 14 = .ok (.ireturn, 1) := by decide +kernel
theorem dPl_size_0 : decode cPl_size 0 = .ok (.aload_n 1, 1) := by decide +kernel
theorem dPl_size_1 : decode cPl_size 1 = .ok (.bipush 12, 2) := by decide +kernel
theorem dPl_size_3 : decode cPl_size 3 = .ok (.invokevirtual 9, 3) := by decide +kernel
theorem dPl_size_6 : decode cPl_size 6 = .ok (.iconst 2, 1) := by decide +kernel
theorem dPl_size_7 : decode cPl_size 7 = .ok (.aload_n 0, 1) := by decide +kernel
theorem dPl_size_8 : decode cPl_size 8 = .ok (.aload_n 1, 1) := by decide +kernel
theorem dPl_size_9 : decode cPl_size 9 = .ok (.invokespecial 15, 3) := by decide +kernel
theorem dPl_size_12 : decode cPl_size 12 = .ok (.imul, 1) := by decide +kernel
theorem dPl_size_13 : decode cPl_size 13 = .ok (.ireturn, 1) := by decide +kernel
theorem dTa_mark_0 : decode cTa_mark 0 = .ok (.aload_n 1, 1) := by decide +kernel
theorem dTa_mark_1 : decode cTa_mark 1 = .ok (.bipush 20, 2) := by decide +kernel
theorem dTa_mark_3 : decode cTa_mark 3 = .ok (.invokevirtual 26, 3) := by decide +kernel
theorem dTa_mark_6 : decode cTa_mark 6 = .ok (.aload_n 0, 1) := by decide +kernel
theorem dTa_mark_7 : decode cTa_mark 7 = .ok (.getfield 23, 3) := by decide +kernel
theorem dTa_mark_10 : decode cTa_mark 10 = .ok (.ireturn, 1) := by decide +kernel
theorem dKe_mark_0 : decode cKe_mark 0 = .ok (.aload_n 1, 1) := by decide +kernel
theorem dKe_mark_1 : decode cKe_mark 1 = .ok (.bipush 22, 2) := by decide +kernel
theorem dKe_mark_3 : decode cKe_mark 3 = .ok (.invokevirtual 9, 3) := by decide +kernel
theorem dKe_mark_6 : decode cKe_mark 6 = .ok (.aload_n 0, 1) := by decide +kernel
theorem dKe_mark_7 : decode cKe_mark 7 = .ok (.aload_n 1, 1) := by decide +kernel
theorem dKe_mark_8 : decode cKe_mark 8 = .ok (.invokespecial 24, 3) := by decide +kernel
theorem dKe_mark_11 : decode cKe_mark 11 = .ok (.bipush 10, 2) := by decide +kernel
theorem dKe_mark_13 : decode cKe_mark 13 = .ok (.iadd, 1) := by decide +kernel
theorem dKe_mark_14 : decode cKe_mark 14 = .ok (.ireturn, 1) := by decide +kernel
theorem dKe_size_0 : decode cKe_size 0 = .ok (.aload_n 1, 1) := by decide +kernel
theorem dKe_size_1 : decode cKe_size 1 = .ok (.bipush 13, 2) := by decide +kernel
theorem dKe_size_3 : decode cKe_size 3 = .ok (.invokevirtual 9, 3) := by decide +kernel
theorem dKe_size_6 : decode cKe_size 6 = .ok (.aload_n 0, 1) := by decide +kernel
theorem dKe_size_7 : decode cKe_size 7 = .ok (.aload_n 1, 1) := by decide +kernel
theorem dKe_size_8 : decode cKe_size 8 = .ok (.invokespecial 15, 3) := by decide +kernel
theorem dKe_size_11 : decode cKe_size 11 = .ok (.aload_n 0, 1) := by decide +kernel
theorem dKe_size_12 : decode cKe_size 12 = .ok (.aload_n 1, 1) := by decide +kernel
theorem dKe_size_13 : decode cKe_size 13 = .ok (.invokevirtual 19, 3) := by decide +kernel
theorem dKe_size_16 : decode cKe_size 16 = .ok (.iadd, 1) := by decide +kernel
theorem dKe_size_17 : decode cKe_size 17 = .ok (.ireturn, 1) := by decide +kernel
theorem dLo_mark_0 : decode cLo_mark 0 = .ok (.aload_n 1, 1) := by decide +kernel
theorem dLo_mark_1 : decode cLo_mark 1 = .ok (.bipush 21, 2) := by decide +kernel
theorem dLo_mark_3 : decode cLo_mark 3 = .ok (.invokevirtual 9, 3) := by decide +kernel
theorem dLo_mark_6 : decode cLo_mark 6 = .ok (.aload_n 0, 1) := by decide +kernel
theorem dLo_mark_7 : decode cLo_mark 7 = .ok (.aload_n 1, 1) := by decide +kernel
theorem dLo_mark_8 : decode cLo_mark 8 = .ok (.invokespecial 19, 3) := by decide +kernel
theorem dLo_mark_11 : decode cLo_mark 11 = .ok (.aload_n 0, 1) := by decide +kernel
theorem dLo_mark_12 : decode cLo_mark 12 = .ok (.aload_n 1, 1) := by decide +kernel
theorem dLo_mark_13 : decode cLo_mark 13 = .ok (.invokevirtual 22, 3) := by decide +kernel
theorem dLo_mark_16 : decode cLo_mark 16 = .ok (.iadd, 1) := by decide +kernel
theorem dLo_mark_17 : decode cLo_mark 17 = .ok (.ireturn, 1) := by decide +kernel
theorem dX_ask_0 : decode cX_ask 0 = .ok (.iload_n 1, 1) := by decide +kernel
theorem dX_ask_1 : decode cX_ask 1 = .ok (.invokestatic 143, 3) := by decide +kernel
theorem dX_ask_4 : decode cX_ask 4 = .ok (.ifCond .ne 12, 3) := by decide +kernel
theorem dX_ask_7 : decode cX_ask 7 = .ok (.iload_n 2, 1) := by decide +kernel
theorem dX_ask_8 : decode cX_ask 8 = .ok (.ifCond .lt 8, 3) := by decide +kernel
theorem dX_ask_11 : decode cX_ask 11 = .ok (.iload_n 2, 1) := by decide +kernel
theorem dX_ask_12 : decode cX_ask 12 = .ok (.iconst 1, 1) := by decide +kernel
theorem dX_ask_13 : decode cX_ask 13 = .ok (.if_icmp .le 6, 3) := by decide +kernel
theorem dX_ask_16 : decode cX_ask 16 = .ok (.ldc 71, 2) := by decide +kernel
theorem dX_ask_18 : decode cX_ask 18 = .ok (.ireturn, 1) := by decide +kernel
theorem dX_ask_19 : decode cX_ask 19 = .ok (.aload_n 0, 1) := by decide +kernel
theorem dX_ask_20 : decode cX_ask 20 = .ok (.getfield 46, 3) := by decide +kernel
theorem dX_ask_23 : decode cX_ask 23 = .ok (.iconst 0, 1) := by decide +kernel
theorem dX_ask_24 : decode cX_ask 24 = .ok (.putfield 206, 3) := by decide +kernel
theorem dX_ask_27 : decode cX_ask 27 = .ok (.aload_n 0, 1) := by decide +kernel
theorem dX_ask_28 : decode cX_ask 28 = .ok (.getfield 59, 3) := by decide +kernel
theorem dX_ask_31 : decode cX_ask 31 = .ok (.iload_n 1, 1) := by decide +kernel
theorem dX_ask_32 : decode cX_ask 32 = .ok (.aaload, 1) := by decide +kernel
theorem dX_ask_33 : decode cX_ask 33 = .ok (.astore_n 3, 1) := by decide +kernel
theorem dX_ask_34 : decode cX_ask 34 = .ok (.aload_n 3, 1) := by decide +kernel
theorem dX_ask_35 : decode cX_ask 35 = .ok (.ifnonnull 9, 3) := by decide +kernel
theorem dX_ask_38 : decode cX_ask 38 = .ok (.aload_n 0, 1) := by decide +kernel
theorem dX_ask_39 : decode cX_ask 39 = .ok (.iconst 1, 1) := by decide +kernel
theorem dX_ask_40 : decode cX_ask 40 = .ok (.invokevirtual 72, 3) := by decide +kernel
theorem dX_ask_43 : decode cX_ask 43 = .ok (.ireturn, 1) := by decide +kernel
theorem dX_ask_44 : decode cX_ask 44 = .ok (.aload_n 0, 1) := by decide +kernel
theorem dX_ask_45 : decode cX_ask 45 = .ok (.iload_n 2, 1) := by decide +kernel
theorem dX_ask_46 : decode cX_ask 46 = .ok (.ifCond .ne 14, 3) := by decide +kernel
theorem dX_ask_49 : decode cX_ask 49 = .ok (.aload_n 3, 1) := by decide +kernel
theorem dX_ask_50 : decode cX_ask 50 = .ok (.aload_n 0, 1) := by decide +kernel
theorem dX_ask_51 : decode cX_ask 51 = .ok (.getfield 46, 3) := by decide +kernel
theorem dX_ask_54 : decode cX_ask 54 = .ok (.invokevirtual 207, 3) := by decide +kernel
theorem dX_ask_57 : decode cX_ask 57 = .ok (.goto 11, 3) := by decide +kernel
theorem dX_ask_60 : decode cX_ask 60 = .ok (.aload_n 3, 1) := by decide +kernel
theorem dX_ask_61 : decode cX_ask 61 = .ok (.aload_n 0, 1) := by decide +kernel
theorem dX_ask_62 : decode cX_ask 62 = .ok (.getfield 46, 3) := by decide +kernel
theorem dX_ask_65 : decode cX_ask 65 = .ok (.invokevirtual 211, 3) := by decide +kernel
theorem dX_ask_68 : decode cX_ask 68 = .ok (.invokevirtual 80, 3) := by decide +kernel
theorem dX_ask_71 : decode cX_ask 71 = .ok (.ireturn, 1) := by decide +kernel
theorem dX_trace_0 : decode cX_trace 0 = .ok (.iload_n 1, 1) := by decide +kernel
theorem dX_trace_1 : decode cX_trace 1 = .ok (.ifCond .lt 14, 3) := by decide +kernel
theorem dX_trace_4 : decode cX_trace 4 = .ok (.iload_n 1, 1) := by decide +kernel
theorem dX_trace_5 : decode cX_trace 5 = .ok (.aload_n 0, 1) := by decide +kernel
theorem dX_trace_6 : decode cX_trace 6 = .ok (.getfield 46, 3) := by decide +kernel
theorem dX_trace_9 : decode cX_trace 9 = .ok (.getfield 206, 3) := by decide +kernel
theorem dX_trace_12 : decode cX_trace 12 = .ok (.if_icmp .lt 8, 3) := by decide +kernel
theorem dX_trace_15 : decode cX_trace 15 = .ok (.ldc 135, 2) := by decide +kernel
theorem dX_trace_17 : decode cX_trace 17 = .ok (.goto 12, 3) := by decide +kernel
theorem dX_trace_20 : decode cX_trace 20 = .ok (.aload_n 0, 1) := by decide +kernel
theorem dX_trace_21 : decode cX_trace 21 = .ok (.getfield 46, 3) := by decide +kernel
theorem dX_trace_24 : decode cX_trace 24 = .ok (.getfield 214, 3) := by decide +kernel
theorem dX_trace_27 : decode cX_trace 27 = .ok (.iload_n 1, 1) := by decide +kernel
theorem dX_trace_28 : decode cX_trace 28 = .ok (.iaload, 1) := by decide +kernel
theorem dX_trace_29 : decode cX_trace 29 = .ok (.ireturn, 1) := by decide +kernel
theorem dX_weight_0 : decode cX_weight 0 = .ok (.iload_n 1, 1) := by decide +kernel
theorem dX_weight_1 : decode cX_weight 1 = .ok (.invokestatic 143, 3) := by decide +kernel
theorem dX_weight_4 : decode cX_weight 4 = .ok (.ifCond .ne 10, 3) := by decide +kernel
theorem dX_weight_7 : decode cX_weight 7 = .ok (.iload_n 2, 1) := by decide +kernel
theorem dX_weight_8 : decode cX_weight 8 = .ok (.invokestatic 119, 3) := by decide +kernel
theorem dX_weight_11 : decode cX_weight 11 = .ok (.ifCond .eq 6, 3) := by decide +kernel
theorem dX_weight_14 : decode cX_weight 14 = .ok (.ldc 71, 2) := by decide +kernel
theorem dX_weight_16 : decode cX_weight 16 = .ok (.ireturn, 1) := by decide +kernel
theorem dX_weight_17 : decode cX_weight 17 = .ok (.aload_n 0, 1) := by decide +kernel
theorem dX_weight_18 : decode cX_weight 18 = .ok (.getfield 59, 3) := by decide +kernel
theorem dX_weight_21 : decode cX_weight 21 = .ok (.iload_n 1, 1) := by decide +kernel
theorem dX_weight_22 : decode cX_weight 22 = .ok (.aaload, 1) := by decide +kernel
theorem dX_weight_23 : decode cX_weight 23 = .ok (.astore_n 3, 1) := by decide +kernel
theorem dX_weight_24 : decode cX_weight 24 = .ok (.aload_n 3, 1) := by decide +kernel
theorem dX_weight_25 : decode cX_weight 25 = .ok (.ifnonnull 11, 3) := by decide +kernel
theorem dX_weight_28 : decode cX_weight 28 = .ok (.aload_n 0, 1) := by decide +kernel
theorem dX_weight_29 : decode cX_weight 29 = .ok (.iconst 1, 1) := by decide +kernel
theorem dX_weight_30 : decode cX_weight 30 = .ok (.invokevirtual 72, 3) := by decide +kernel
theorem dX_weight_33 : decode cX_weight 33 = .ok (.goto 13, 3) := by decide +kernel
theorem dX_weight_36 : decode cX_weight 36 = .ok (.aload_n 0, 1) := by decide +kernel
theorem dX_weight_37 : decode cX_weight 37 = .ok (.aload_n 3, 1) := by decide +kernel
theorem dX_weight_38 : decode cX_weight 38 = .ok (.getfield 217, 3) := by decide +kernel
theorem dX_weight_41 : decode cX_weight 41 = .ok (.iload_n 2, 1) := by decide +kernel
theorem dX_weight_42 : decode cX_weight 42 = .ok (.iaload, 1) := by decide +kernel
theorem dX_weight_43 : decode cX_weight 43 = .ok (.invokevirtual 80, 3) := by decide +kernel
theorem dX_weight_46 : decode cX_weight 46 = .ok (.ireturn, 1) := by decide +kernel
theorem dX_order_0 : decode cX_order 0 = .ok (.iload_n 1, 1) := by decide +kernel
theorem dX_order_1 : decode cX_order 1 = .ok (.invokestatic 143, 3) := by decide +kernel
theorem dX_order_4 : decode cX_order 4 = .ok (.ifCond .ne 12, 3) := by decide +kernel
theorem dX_order_7 : decode cX_order 7 = .ok (.iload_n 2, 1) := by decide +kernel
theorem dX_order_8 : decode cX_order 8 = .ok (.ifCond .lt 8, 3) := by decide +kernel
theorem dX_order_11 : decode cX_order 11 = .ok (.iload_n 2, 1) := by decide +kernel
theorem dX_order_12 : decode cX_order 12 = .ok (.iconst 1, 1) := by decide +kernel
theorem dX_order_13 : decode cX_order 13 = .ok (.if_icmp .le 6, 3) := by decide +kernel
theorem dX_order_16 : decode cX_order 16 = .ok (.ldc 71, 2) := by decide +kernel
theorem dX_order_18 : decode cX_order 18 = .ok (.ireturn, 1) := by decide +kernel
theorem dX_order_19 : decode cX_order 19 = .ok (.aload_n 0, 1) := by decide +kernel
theorem dX_order_20 : decode cX_order 20 = .ok (.getfield 59, 3) := by decide +kernel
theorem dX_order_23 : decode cX_order 23 = .ok (.iload_n 1, 1) := by decide +kernel
theorem dX_order_24 : decode cX_order 24 = .ok (.aaload, 1) := by decide +kernel
theorem dX_order_25 : decode cX_order 25 = .ok (.astore_n 3, 1) := by decide +kernel
theorem dX_order_26 : decode cX_order 26 = .ok (.aload_n 3, 1) := by decide +kernel
theorem dX_order_27 : decode cX_order 27 = .ok (.ifnonnull 9, 3) := by decide +kernel
theorem dX_order_30 : decode cX_order 30 = .ok (.aload_n 0, 1) := by decide +kernel
theorem dX_order_31 : decode cX_order 31 = .ok (.iconst 1, 1) := by decide +kernel
theorem dX_order_32 : decode cX_order 32 = .ok (.invokevirtual 72, 3) := by decide +kernel
theorem dX_order_35 : decode cX_order 35 = .ok (.ireturn, 1) := by decide +kernel
theorem dX_order_36 : decode cX_order 36 = .ok (.aload_n 0, 1) := by decide +kernel
theorem dX_order_37 : decode cX_order 37 = .ok (.iload_n 2, 1) := by decide +kernel
theorem dX_order_38 : decode cX_order 38 = .ok (.ifCond .ne 10, 3) := by decide +kernel
theorem dX_order_41 : decode cX_order 41 = .ok (.aload_n 3, 1) := by decide +kernel
theorem dX_order_42 : decode cX_order 42 = .ok (.getfield 220, 3) := by decide +kernel
theorem dX_order_45 : decode cX_order 45 = .ok (.goto 7, 3) := by decide +kernel
theorem dX_order_48 : decode cX_order 48 = .ok (.aload_n 3, 1) := by decide +kernel
theorem dX_order_49 : decode cX_order 49 = .ok (.getfield 223, 3) := by decide +kernel
theorem dX_order_52 : decode cX_order 52 = .ok (.invokevirtual 80, 3) := by decide +kernel
theorem dX_order_55 : decode cX_order 55 = .ok (.ireturn, 1) := by decide +kernel
theorem dSh_clearFactor_0 : decode cSh_clearFactor 0 = .ok (.iconst 0, 1) := by decide +kernel
theorem dSh_clearFactor_1 : decode cSh_clearFactor 1 = .ok (.istore_n 1, 1) := by decide +kernel
theorem dSh_clearFactor_2 : decode cSh_clearFactor 2 = .ok (.iload_n 1, 1) := by decide +kernel
theorem dSh_clearFactor_3 : decode cSh_clearFactor 3 = .ok (.aload_n 0, 1) := by decide +kernel
theorem dSh_clearFactor_4 : decode cSh_clearFactor 4 = .ok (.getfield 9, 3) := by decide +kernel
theorem dSh_clearFactor_7 : decode cSh_clearFactor 7 = .ok (.arraylength, 1) := by decide +kernel
theorem dSh_clearFactor_8 : decode cSh_clearFactor 8 = .ok (.if_icmp .ge 16, 3) := by decide +kernel
theorem dSh_clearFactor_11 : decode cSh_clearFactor 11 = .ok (.aload_n 0, 1) := by decide +kernel
theorem dSh_clearFactor_12 : decode cSh_clearFactor 12 = .ok (.getfield 9, 3) := by decide +kernel
theorem dSh_clearFactor_15 : decode cSh_clearFactor 15 = .ok (.iload_n 1, 1) := by decide +kernel
theorem dSh_clearFactor_16 : decode cSh_clearFactor 16 = .ok (.lconst 0, 1) := by decide +kernel
theorem dSh_clearFactor_17 : decode cSh_clearFactor 17 = .ok (.lastore, 1) := by decide +kernel
theorem dSh_clearFactor_18 : decode cSh_clearFactor 18 = .ok (.iinc 1 1, 3) := by decide +kernel
theorem dSh_clearFactor_21 : decode cSh_clearFactor 21 = .ok (.goto (-19), 3) := by decide +kernel
theorem dSh_clearFactor_24 : decode cSh_clearFactor 24 = .ok (.return_, 1) := by decide +kernel
theorem dSh_addToDiagonal_0 : decode cSh_addToDiagonal 0 = .ok (.iconst 0, 1) := by decide +kernel
theorem dSh_addToDiagonal_1 : decode cSh_addToDiagonal 1 = .ok (.istore 4, 2) := by decide +kernel
theorem dSh_addToDiagonal_3 : decode cSh_addToDiagonal 3 = .ok (.iload 4, 2) := by decide +kernel
theorem dSh_addToDiagonal_5 : decode cSh_addToDiagonal 5 = .ok (.iload_n 1, 1) := by decide +kernel
theorem dSh_addToDiagonal_6 : decode cSh_addToDiagonal 6 = .ok (.if_icmp .ge 41, 3) := by decide +kernel
theorem dSh_addToDiagonal_9 : decode cSh_addToDiagonal 9 = .ok (.iload 4, 2) := by decide +kernel
theorem dSh_addToDiagonal_11 : decode cSh_addToDiagonal 11 = .ok (.bipush 8, 2) := by decide +kernel
theorem dSh_addToDiagonal_13 : decode cSh_addToDiagonal 13 = .ok (.imul, 1) := by decide +kernel
theorem dSh_addToDiagonal_14 : decode cSh_addToDiagonal 14 = .ok (.iload 4, 2) := by decide +kernel
theorem dSh_addToDiagonal_16 : decode cSh_addToDiagonal 16 = .ok (.iadd, 1) := by decide +kernel
theorem dSh_addToDiagonal_17 : decode cSh_addToDiagonal 17 = .ok (.istore 5, 2) := by decide +kernel
theorem dSh_addToDiagonal_19 : decode cSh_addToDiagonal 19 = .ok (.aload_n 0, 1) := by decide +kernel
theorem dSh_addToDiagonal_20 : decode cSh_addToDiagonal 20 = .ok (.getfield 9, 3) := by decide +kernel
theorem dSh_addToDiagonal_23 : decode cSh_addToDiagonal 23 = .ok (.iload 5, 2) := by decide +kernel
theorem dSh_addToDiagonal_25 : decode cSh_addToDiagonal 25 = .ok (.aload_n 0, 1) := by decide +kernel
theorem dSh_addToDiagonal_26 : decode cSh_addToDiagonal 26 = .ok (.getfield 18, 3) := by decide +kernel
theorem dSh_addToDiagonal_29 : decode cSh_addToDiagonal 29 = .ok (.aload_n 0, 1) := by decide +kernel
theorem dSh_addToDiagonal_30 : decode cSh_addToDiagonal 30 = .ok (.getfield 9, 3) := by decide +kernel
theorem dSh_addToDiagonal_33 : decode cSh_addToDiagonal 33 = .ok (.iload 5, 2) := by decide +kernel
theorem dSh_addToDiagonal_35 : decode cSh_addToDiagonal 35 = .ok (.laload, 1) := by decide +kernel
theorem dSh_addToDiagonal_36 : decode cSh_addToDiagonal 36 = .ok (.lload_n 2, 1) := by decide +kernel
theorem dSh_addToDiagonal_37 : decode cSh_addToDiagonal 37 = .ok (.invokevirtual 59, 3) := by decide +kernel
theorem dSh_addToDiagonal_40 : decode cSh_addToDiagonal 40 = .ok (.lastore, 1) := by decide +kernel
theorem dSh_addToDiagonal_41 : decode cSh_addToDiagonal 41 = .ok (.iinc 4 1, 3) := by decide +kernel
theorem dSh_addToDiagonal_44 : decode cSh_addToDiagonal 44 = .ok (.goto (-41), 3) := by decide +kernel
theorem dSh_addToDiagonal_47 : decode cSh_addToDiagonal 47 = .ok (.return_, 1) := by decide +kernel
theorem dSh_multiply_0 : decode cSh_multiply 0 = .ok (.iconst 0, 1) := by decide +kernel
theorem dSh_multiply_1 : decode cSh_multiply 1 = .ok (.istore_n 2, 1) := by decide +kernel
theorem dSh_multiply_2 : decode cSh_multiply 2 = .ok (.iload_n 2, 1) := by decide +kernel
theorem dSh_multiply_3 : decode cSh_multiply 3 = .ok (.aload_n 1, 1) := by decide +kernel
theorem dSh_multiply_4 : decode cSh_multiply 4 = .ok (.getfield 22, 3) := by decide +kernel
theorem dSh_multiply_7 : decode cSh_multiply 7 = .ok (.if_icmp .ge 96, 3) := by decide +kernel
theorem dSh_multiply_10 : decode cSh_multiply 10 = .ok (.iconst 0, 1) := by decide +kernel
theorem dSh_multiply_11 : decode cSh_multiply 11 = .ok (.istore_n 3, 1) := by decide +kernel
theorem dSh_multiply_12 : decode cSh_multiply 12 = .ok (.iload_n 3, 1) := by decide +kernel
theorem dSh_multiply_13 : decode cSh_multiply 13 = .ok (.aload_n 1, 1) := by decide +kernel
theorem dSh_multiply_14 : decode cSh_multiply 14 = .ok (.getfield 22, 3) := by decide +kernel
theorem dSh_multiply_17 : decode cSh_multiply 17 = .ok (.if_icmp .ge 80, 3) := by decide +kernel
theorem dSh_multiply_20 : decode cSh_multiply 20 = .ok (.lconst 0, 1) := by decide +kernel
theorem dSh_multiply_21 : decode cSh_multiply 21 = .ok (.lstore 4, 2) := by decide +kernel
theorem dSh_multiply_23 : decode cSh_multiply 23 = .ok (.iconst 0, 1) := by decide +kernel
theorem dSh_multiply_24 : decode cSh_multiply 24 = .ok (.istore 6, 2) := by decide +kernel
theorem dSh_multiply_26 : decode cSh_multiply 26 = .ok (.iload 6, 2) := by decide +kernel
theorem dSh_multiply_28 : decode cSh_multiply 28 = .ok (.aload_n 1, 1) := by decide +kernel
theorem dSh_multiply_29 : decode cSh_multiply 29 = .ok (.getfield 22, 3) := by decide +kernel
theorem dSh_multiply_32 : decode cSh_multiply 32 = .ok (.if_icmp .ge 46, 3) := by decide +kernel
theorem dSh_multiply_35 : decode cSh_multiply 35 = .ok (.aload_n 0, 1) := by decide +kernel
theorem dSh_multiply_36 : decode cSh_multiply 36 = .ok (.getfield 18, 3) := by decide +kernel
theorem dSh_multiply_39 : decode cSh_multiply 39 = .ok (.lload 4, 2) := by decide +kernel
theorem dSh_multiply_41 : decode cSh_multiply 41 = .ok (.aload_n 0, 1) := by decide +kernel
theorem dSh_multiply_42 : decode cSh_multiply 42 = .ok (.getfield 18, 3) := by decide +kernel
theorem dSh_multiply_45 : decode cSh_multiply 45 = .ok (.aload_n 1, 1) := by decide +kernel
theorem dSh_multiply_46 : decode cSh_multiply 46 = .ok (.iload_n 2, 1) := by decide +kernel
theorem dSh_multiply_47 : decode cSh_multiply 47 = .ok (.iload 6, 2) := by decide +kernel
theorem dSh_multiply_49 : decode cSh_multiply 49 = .ok (.invokevirtual 62, 3) := by decide +kernel
theorem dSh_multiply_52 : decode cSh_multiply 52 = .ok (.aload_n 0, 1) := by decide +kernel
theorem dSh_multiply_53 : decode cSh_multiply 53 = .ok (.getfield 9, 3) := by decide +kernel
theorem dSh_multiply_56 : decode cSh_multiply 56 = .ok (.iload 6, 2) := by decide +kernel
theorem dSh_multiply_58 : decode cSh_multiply 58 = .ok (.bipush 8, 2) := by decide +kernel
theorem dSh_multiply_60 : decode cSh_multiply 60 = .ok (.imul, 1) := by decide +kernel
theorem dSh_multiply_61 : decode cSh_multiply 61 = .ok (.iload_n 3, 1) := by decide +kernel
theorem dSh_multiply_62 : decode cSh_multiply 62 = .ok (.iadd, 1) := by decide +kernel
theorem dSh_multiply_63 : decode cSh_multiply 63 = .ok (.laload, 1) := by decide +kernel
theorem dSh_multiply_64 : decode cSh_multiply 64 = .ok (.invokevirtual 53, 3) := by decide +kernel
theorem dSh_multiply_67 : decode cSh_multiply 67 = .ok (.invokevirtual 59, 3) := by decide +kernel
theorem dSh_multiply_70 : decode cSh_multiply 70 = .ok (.lstore 4, 2) := by decide +kernel
theorem dSh_multiply_72 : decode cSh_multiply 72 = .ok (.iinc 6 1, 3) := by decide +kernel
theorem dSh_multiply_75 : decode cSh_multiply 75 = .ok (.goto (-49), 3) := by decide +kernel
theorem dSh_multiply_78 : decode cSh_multiply 78 = .ok (.aload_n 0, 1) := by decide +kernel
theorem dSh_multiply_79 : decode cSh_multiply 79 = .ok (.getfield 15, 3) := by decide +kernel
theorem dSh_multiply_82 : decode cSh_multiply 82 = .ok (.iload_n 2, 1) := by decide +kernel
theorem dSh_multiply_83 : decode cSh_multiply 83 = .ok (.bipush 8, 2) := by decide +kernel
theorem dSh_multiply_85 : decode cSh_multiply 85 = .ok (.imul, 1) := by decide +kernel
theorem dSh_multiply_86 : decode cSh_multiply 86 = .ok (.iload_n 3, 1) := by decide +kernel
theorem dSh_multiply_87 : decode cSh_multiply 87 = .ok (.iadd, 1) := by decide +kernel
theorem dSh_multiply_88 : decode cSh_multiply 88 = .ok (.lload 4, 2) := by decide +kernel
theorem dSh_multiply_90 : decode cSh_multiply 90 = .ok (.lastore, 1) := by decide +kernel
theorem dSh_multiply_91 : decode cSh_multiply 91 = .ok (.iinc 3 1, 3) := by decide +kernel
theorem dSh_multiply_94 : decode cSh_multiply 94 = .ok (.goto (-82), 3) := by decide +kernel
theorem dSh_multiply_97 : decode cSh_multiply 97 = .ok (.iinc 2 1, 3) := by decide +kernel
theorem dSh_multiply_100 : decode cSh_multiply 100 = .ok (.goto (-98), 3) := by decide +kernel
theorem dSh_multiply_103 : decode cSh_multiply 103 = .ok (.return_, 1) := by decide +kernel
theorem dSh_diagonalSum_0 : decode cSh_diagonalSum 0 = .ok (.lconst 0, 1) := by decide +kernel
theorem dSh_diagonalSum_1 : decode cSh_diagonalSum 1 = .ok (.lstore_n 2, 1) := by decide +kernel
theorem dSh_diagonalSum_2 : decode cSh_diagonalSum 2 = .ok (.iconst 0, 1) := by decide +kernel
theorem dSh_diagonalSum_3 : decode cSh_diagonalSum 3 = .ok (.istore 4, 2) := by decide +kernel
theorem dSh_diagonalSum_5 : decode cSh_diagonalSum 5 = .ok (.iload 4, 2) := by decide +kernel
theorem dSh_diagonalSum_7 : decode cSh_diagonalSum 7 = .ok (.iload_n 1, 1) := by decide +kernel
theorem dSh_diagonalSum_8 : decode cSh_diagonalSum 8 = .ok (.if_icmp .ge 31, 3) := by decide +kernel
theorem dSh_diagonalSum_11 : decode cSh_diagonalSum 11 = .ok (.aload_n 0, 1) := by decide +kernel
theorem dSh_diagonalSum_12 : decode cSh_diagonalSum 12 = .ok (.getfield 18, 3) := by decide +kernel
theorem dSh_diagonalSum_15 : decode cSh_diagonalSum 15 = .ok (.lload_n 2, 1) := by decide +kernel
theorem dSh_diagonalSum_16 : decode cSh_diagonalSum 16 = .ok (.aload_n 0, 1) := by decide +kernel
theorem dSh_diagonalSum_17 : decode cSh_diagonalSum 17 = .ok (.getfield 15, 3) := by decide +kernel
theorem dSh_diagonalSum_20 : decode cSh_diagonalSum 20 = .ok (.iload 4, 2) := by decide +kernel
theorem dSh_diagonalSum_22 : decode cSh_diagonalSum 22 = .ok (.bipush 8, 2) := by decide +kernel
theorem dSh_diagonalSum_24 : decode cSh_diagonalSum 24 = .ok (.imul, 1) := by decide +kernel
theorem dSh_diagonalSum_25 : decode cSh_diagonalSum 25 = .ok (.iload 4, 2) := by decide +kernel
theorem dSh_diagonalSum_27 : decode cSh_diagonalSum 27 = .ok (.iadd, 1) := by decide +kernel
theorem dSh_diagonalSum_28 : decode cSh_diagonalSum 28 = .ok (.laload, 1) := by decide +kernel
theorem dSh_diagonalSum_29 : decode cSh_diagonalSum 29 = .ok (.invokevirtual 59, 3) := by decide +kernel
theorem dSh_diagonalSum_32 : decode cSh_diagonalSum 32 = .ok (.lstore_n 2, 1) := by decide +kernel
theorem dSh_diagonalSum_33 : decode cSh_diagonalSum 33 = .ok (.iinc 4 1, 3) := by decide +kernel
theorem dSh_diagonalSum_36 : decode cSh_diagonalSum 36 = .ok (.goto (-31), 3) := by decide +kernel
theorem dSh_diagonalSum_39 : decode cSh_diagonalSum 39 = .ok (.lload_n 2, 1) := by decide +kernel
theorem dSh_diagonalSum_40 : decode cSh_diagonalSum 40 = .ok (.lreturn, 1) := by decide +kernel
theorem dSh_keepProduct_0 : decode cSh_keepProduct 0 = .ok (.aload_n 0, 1) := by decide +kernel
theorem dSh_keepProduct_1 : decode cSh_keepProduct 1 = .ok (.getfield 15, 3) := by decide +kernel
theorem dSh_keepProduct_4 : decode cSh_keepProduct 4 = .ok (.iconst 0, 1) := by decide +kernel
theorem dSh_keepProduct_5 : decode cSh_keepProduct 5 = .ok (.aload_n 0, 1) := by decide +kernel
theorem dSh_keepProduct_6 : decode cSh_keepProduct 6 = .ok (.getfield 9, 3) := by decide +kernel
theorem dSh_keepProduct_9 : decode cSh_keepProduct 9 = .ok (.iconst 0, 1) := by decide +kernel
theorem dSh_keepProduct_10 : decode cSh_keepProduct 10 = .ok (.aload_n 0, 1) := by decide +kernel
theorem dSh_keepProduct_11 : decode cSh_keepProduct 11 = .ok (.getfield 9, 3) := by decide +kernel
theorem dSh_keepProduct_14 : decode cSh_keepProduct 14 = .ok (.arraylength, 1) := by decide +kernel
theorem dSh_keepProduct_15 : decode cSh_keepProduct 15 = .ok (.invokestatic 66, 3) := by decide +kernel
theorem dSh_keepProduct_18 : decode cSh_keepProduct 18 = .ok (.return_, 1) := by decide +kernel
theorem dSh_coefficient_0 : decode cSh_coefficient 0 = .ok (.iload_n 2, 1) := by decide +kernel
theorem dSh_coefficient_1 : decode cSh_coefficient 1 = .ok (.aload_n 1, 1) := by decide +kernel
theorem dSh_coefficient_2 : decode cSh_coefficient 2 = .ok (.getfield 22, 3) := by decide +kernel
theorem dSh_coefficient_5 : decode cSh_coefficient 5 = .ok (.if_icmp .le 5, 3) := by decide +kernel
theorem dSh_coefficient_8 : decode cSh_coefficient 8 = .ok (.iconst 0, 1) := by decide +kernel
theorem dSh_coefficient_9 : decode cSh_coefficient 9 = .ok (.ireturn, 1) := by decide +kernel
theorem dSh_coefficient_10 : decode cSh_coefficient 10 = .ok (.lconst 1, 1) := by decide +kernel
theorem dSh_coefficient_11 : decode cSh_coefficient 11 = .ok (.lstore_n 3, 1) := by decide +kernel
theorem dSh_coefficient_12 : decode cSh_coefficient 12 = .ok (.aload_n 0, 1) := by decide +kernel
theorem dSh_coefficient_13 : decode cSh_coefficient 13 = .ok (.invokevirtual 28, 3) := by decide +kernel
theorem dSh_coefficient_16 : decode cSh_coefficient 16 = .ok (.iconst 1, 1) := by decide +kernel
theorem dSh_coefficient_17 : decode cSh_coefficient 17 = .ok (.istore 5, 2) := by decide +kernel
theorem dSh_coefficient_19 : decode cSh_coefficient 19 = .ok (.iload 5, 2) := by decide +kernel
theorem dSh_coefficient_21 : decode cSh_coefficient 21 = .ok (.iload_n 2, 1) := by decide +kernel
theorem dSh_coefficient_22 : decode cSh_coefficient 22 = .ok (.if_icmp .gt 61, 3) := by decide +kernel
theorem dSh_coefficient_25 : decode cSh_coefficient 25 = .ok (.aload_n 0, 1) := by decide +kernel
theorem dSh_coefficient_26 : decode cSh_coefficient 26 = .ok (.aload_n 1, 1) := by decide +kernel
theorem dSh_coefficient_27 : decode cSh_coefficient 27 = .ok (.getfield 22, 3) := by decide +kernel
theorem dSh_coefficient_30 : decode cSh_coefficient 30 = .ok (.lload_n 3, 1) := by decide +kernel
theorem dSh_coefficient_31 : decode cSh_coefficient 31 = .ok (.invokevirtual 31, 3) := by decide +kernel
theorem dSh_coefficient_34 : decode cSh_coefficient 34 = .ok (.aload_n 0, 1) := by decide +kernel
theorem dSh_coefficient_35 : decode cSh_coefficient 35 = .ok (.aload_n 1, 1) := by decide +kernel
theorem dSh_coefficient_36 : decode cSh_coefficient 36 = .ok (.invokevirtual 35, 3) := by decide +kernel
theorem dSh_coefficient_39 : decode cSh_coefficient 39 = .ok (.aload_n 0, 1) := by decide +kernel
theorem dSh_coefficient_40 : decode cSh_coefficient 40 = .ok (.getfield 18, 3) := by decide +kernel
theorem dSh_coefficient_43 : decode cSh_coefficient 43 = .ok (.aload_n 0, 1) := by decide +kernel
theorem dSh_coefficient_44 : decode cSh_coefficient 44 = .ok (.getfield 18, 3) := by decide +kernel
theorem dSh_coefficient_47 : decode cSh_coefficient 47 = .ok (.lconst 0, 1) := by decide +kernel
theorem dSh_coefficient_48 : decode cSh_coefficient 48 = .ok (.aload_n 0, 1) := by decide +kernel
theorem dSh_coefficient_49 : decode cSh_coefficient 49 = .ok (.aload_n 1, 1) := by decide +kernel
theorem dSh_coefficient_50 : decode cSh_coefficient 50 = .ok (.getfield 22, 3) := by decide +kernel
theorem dSh_coefficient_53 : decode cSh_coefficient 53 = .ok (.invokevirtual 39, 3) := by decide +kernel
theorem dSh_coefficient_56 : decode cSh_coefficient 56 = .ok (.invokevirtual 43, 3) := by decide +kernel
theorem dSh_coefficient_59 : decode cSh_coefficient 59 = .ok (.aload_n 0, 1) := by decide +kernel
theorem dSh_coefficient_60 : decode cSh_coefficient 60 = .ok (.getfield 18, 3) := by decide +kernel
theorem dSh_coefficient_63 : decode cSh_coefficient 63 = .ok (.iload 5, 2) := by decide +kernel
theorem dSh_coefficient_65 : decode cSh_coefficient 65 = .ok (.i2l, 1) := by decide +kernel
theorem dSh_coefficient_66 : decode cSh_coefficient 66 = .ok (.invokevirtual 49, 3) := by decide +kernel
theorem dSh_coefficient_69 : decode cSh_coefficient 69 = .ok (.invokevirtual 53, 3) := by decide +kernel
theorem dSh_coefficient_72 : decode cSh_coefficient 72 = .ok (.lstore_n 3, 1) := by decide +kernel
theorem dSh_coefficient_73 : decode cSh_coefficient 73 = .ok (.aload_n 0, 1) := by decide +kernel
theorem dSh_coefficient_74 : decode cSh_coefficient 74 = .ok (.invokevirtual 56, 3) := by decide +kernel
theorem dSh_coefficient_77 : decode cSh_coefficient 77 = .ok (.iinc 5 1, 3) := by decide +kernel
theorem dSh_coefficient_80 : decode cSh_coefficient 80 = .ok (.goto (-61), 3) := by decide +kernel
theorem dSh_coefficient_83 : decode cSh_coefficient 83 = .ok (.lload_n 3, 1) := by decide +kernel
theorem dSh_coefficient_84 : decode cSh_coefficient 84 = .ok (.l2i, 1) := by decide +kernel
theorem dSh_coefficient_85 : decode cSh_coefficient 85 = .ok (.ireturn, 1) := by decide +kernel
theorem dX_share_0 : decode cX_share 0 = .ok (.iload_n 1, 1) := by decide +kernel
theorem dX_share_1 : decode cX_share 1 = .ok (.invokestatic 143, 3) := by decide +kernel
theorem dX_share_4 : decode cX_share 4 = .ok (.ifCond .ne 22, 3) := by decide +kernel
theorem dX_share_7 : decode cX_share 7 = .ok (.iload_n 2, 1) := by decide +kernel
theorem dX_share_8 : decode cX_share 8 = .ok (.ifCond .lt 18, 3) := by decide +kernel
theorem dX_share_11 : decode cX_share 11 = .ok (.iload_n 2, 1) := by decide +kernel
theorem dX_share_12 : decode cX_share 12 = .ok (.iconst 1, 1) := by decide +kernel
theorem dX_share_13 : decode cX_share 13 = .ok (.if_icmp .gt 13, 3) := by decide +kernel
theorem dX_share_16 : decode cX_share 16 = .ok (.iload_n 3, 1) := by decide +kernel
theorem dX_share_17 : decode cX_share 17 = .ok (.ifCond .lt 9, 3) := by decide +kernel
theorem dX_share_20 : decode cX_share 20 = .ok (.iload_n 3, 1) := by decide +kernel
theorem dX_share_21 : decode cX_share 21 = .ok (.bipush 8, 2) := by decide +kernel
theorem dX_share_23 : decode cX_share 23 = .ok (.if_icmp .le 6, 3) := by decide +kernel
theorem dX_share_26 : decode cX_share 26 = .ok (.ldc 71, 2) := by decide +kernel
theorem dX_share_28 : decode cX_share 28 = .ok (.ireturn, 1) := by decide +kernel
theorem dX_share_29 : decode cX_share 29 = .ok (.aload_n 0, 1) := by decide +kernel
theorem dX_share_30 : decode cX_share 30 = .ok (.getfield 59, 3) := by decide +kernel
theorem dX_share_33 : decode cX_share 33 = .ok (.iload_n 1, 1) := by decide +kernel
theorem dX_share_34 : decode cX_share 34 = .ok (.aaload, 1) := by decide +kernel
theorem dX_share_35 : decode cX_share 35 = .ok (.astore 4, 2) := by decide +kernel
theorem dX_share_37 : decode cX_share 37 = .ok (.aload 4, 2) := by decide +kernel
theorem dX_share_39 : decode cX_share 39 = .ok (.ifnonnull 9, 3) := by decide +kernel
theorem dX_share_42 : decode cX_share 42 = .ok (.aload_n 0, 1) := by decide +kernel
theorem dX_share_43 : decode cX_share 43 = .ok (.iconst 1, 1) := by decide +kernel
theorem dX_share_44 : decode cX_share 44 = .ok (.invokevirtual 72, 3) := by decide +kernel
theorem dX_share_47 : decode cX_share 47 = .ok (.ireturn, 1) := by decide +kernel
theorem dX_share_48 : decode cX_share 48 = .ok (.aload_n 0, 1) := by decide +kernel
theorem dX_share_49 : decode cX_share 49 = .ok (.aload_n 0, 1) := by decide +kernel
theorem dX_share_50 : decode cX_share 50 = .ok (.getfield 39, 3) := by decide +kernel
theorem dX_share_53 : decode cX_share 53 = .ok (.iload_n 2, 1) := by decide +kernel
theorem dX_share_54 : decode cX_share 54 = .ok (.ifCond .ne 15, 3) := by decide +kernel
theorem dX_share_57 : decode cX_share 57 = .ok (.aload_n 0, 1) := by decide +kernel
theorem dX_share_58 : decode cX_share 58 = .ok (.aload 4, 2) := by decide +kernel
theorem dX_share_60 : decode cX_share 60 = .ok (.getfield 160, 3) := by decide +kernel
theorem dX_share_63 : decode cX_share 63 = .ok (.invokevirtual 172, 3) := by decide +kernel
theorem dX_share_66 : decode cX_share 66 = .ok (.goto 8, 3) := by decide +kernel
theorem dX_share_69 : decode cX_share 69 = .ok (.aload 4, 2) := by decide +kernel
theorem dX_share_71 : decode cX_share 71 = .ok (.getfield 160, 3) := by decide +kernel
theorem dX_share_74 : decode cX_share 74 = .ok (.iload_n 3, 1) := by decide +kernel
theorem dX_share_75 : decode cX_share 75 = .ok (.invokevirtual 226, 3) := by decide +kernel
theorem dX_share_78 : decode cX_share 78 = .ok (.invokevirtual 80, 3) := by decide +kernel
theorem dX_share_81 : decode cX_share 81 = .ok (.ireturn, 1) := by decide +kernel
theorem dX_rowSum_0 : decode cX_rowSum 0 = .ok (.lconst 0, 1) := by decide +kernel
theorem dX_rowSum_1 : decode cX_rowSum 1 = .ok (.lstore_n 3, 1) := by decide +kernel
theorem dX_rowSum_2 : decode cX_rowSum 2 = .ok (.iconst 0, 1) := by decide +kernel
theorem dX_rowSum_3 : decode cX_rowSum 3 = .ok (.istore 5, 2) := by decide +kernel
theorem dX_rowSum_5 : decode cX_rowSum 5 = .ok (.iload 5, 2) := by decide +kernel
theorem dX_rowSum_7 : decode cX_rowSum 7 = .ok (.aload_n 1, 1) := by decide +kernel
theorem dX_rowSum_8 : decode cX_rowSum 8 = .ok (.getfield 164, 3) := by decide +kernel
theorem dX_rowSum_11 : decode cX_rowSum 11 = .ok (.if_icmp .ge 25, 3) := by decide +kernel
theorem dX_rowSum_14 : decode cX_rowSum 14 = .ok (.aload_n 0, 1) := by decide +kernel
theorem dX_rowSum_15 : decode cX_rowSum 15 = .ok (.getfield 12, 3) := by decide +kernel
theorem dX_rowSum_18 : decode cX_rowSum 18 = .ok (.lload_n 3, 1) := by decide +kernel
theorem dX_rowSum_19 : decode cX_rowSum 19 = .ok (.aload_n 1, 1) := by decide +kernel
theorem dX_rowSum_20 : decode cX_rowSum 20 = .ok (.iload_n 2, 1) := by decide +kernel
theorem dX_rowSum_21 : decode cX_rowSum 21 = .ok (.iload 5, 2) := by decide +kernel
theorem dX_rowSum_23 : decode cX_rowSum 23 = .ok (.invokevirtual 191, 3) := by decide +kernel
theorem dX_rowSum_26 : decode cX_rowSum 26 = .ok (.invokevirtual 297, 3) := by decide +kernel
theorem dX_rowSum_29 : decode cX_rowSum 29 = .ok (.lstore_n 3, 1) := by decide +kernel
theorem dX_rowSum_30 : decode cX_rowSum 30 = .ok (.iinc 5 1, 3) := by decide +kernel
theorem dX_rowSum_33 : decode cX_rowSum 33 = .ok (.goto (-28), 3) := by decide +kernel
theorem dX_rowSum_36 : decode cX_rowSum 36 = .ok (.lload_n 3, 1) := by decide +kernel
theorem dX_rowSum_37 : decode cX_rowSum 37 = .ok (.lreturn, 1) := by decide +kernel
theorem dX_ridden_0 : decode cX_ridden 0 = .ok (.iconst 0, 1) := by decide +kernel
theorem dX_ridden_1 : decode cX_ridden 1 = .ok (.istore 5, 2) := by decide +kernel
theorem dX_ridden_3 : decode cX_ridden 3 = .ok (.iload 5, 2) := by decide +kernel
theorem dX_ridden_5 : decode cX_ridden 5 = .ok (.aload_n 1, 1) := by decide +kernel
theorem dX_ridden_6 : decode cX_ridden 6 = .ok (.getfield 164, 3) := by decide +kernel
theorem dX_ridden_9 : decode cX_ridden 9 = .ok (.if_icmp .ge 33, 3) := by decide +kernel
theorem dX_ridden_12 : decode cX_ridden 12 = .ok (.aload_n 0, 1) := by decide +kernel
theorem dX_ridden_13 : decode cX_ridden 13 = .ok (.getfield 63, 3) := by decide +kernel
theorem dX_ridden_16 : decode cX_ridden 16 = .ok (.iload 5, 2) := by decide +kernel
theorem dX_ridden_18 : decode cX_ridden 18 = .ok (.aload_n 0, 1) := by decide +kernel
theorem dX_ridden_19 : decode cX_ridden 19 = .ok (.getfield 12, 3) := by decide +kernel
theorem dX_ridden_22 : decode cX_ridden 22 = .ok (.aload_n 0, 1) := by decide +kernel
theorem dX_ridden_23 : decode cX_ridden 23 = .ok (.aload_n 1, 1) := by decide +kernel
theorem dX_ridden_24 : decode cX_ridden 24 = .ok (.iload 5, 2) := by decide +kernel
theorem dX_ridden_26 : decode cX_ridden 26 = .ok (.invokevirtual 300, 3) := by decide +kernel
theorem dX_ridden_29 : decode cX_ridden 29 = .ok (.iload 4, 2) := by decide +kernel
theorem dX_ridden_31 : decode cX_ridden 31 = .ok (.i2l, 1) := by decide +kernel
theorem dX_ridden_32 : decode cX_ridden 32 = .ok (.invokevirtual 252, 3) := by decide +kernel
theorem dX_ridden_35 : decode cX_ridden 35 = .ok (.lastore, 1) := by decide +kernel
theorem dX_ridden_36 : decode cX_ridden 36 = .ok (.iinc 5 1, 3) := by decide +kernel
theorem dX_ridden_39 : decode cX_ridden 39 = .ok (.goto (-36), 3) := by decide +kernel
theorem dX_ridden_42 : decode cX_ridden 42 = .ok (.lconst 0, 1) := by decide +kernel
theorem dX_ridden_43 : decode cX_ridden 43 = .ok (.lstore 5, 2) := by decide +kernel
theorem dX_ridden_45 : decode cX_ridden 45 = .ok (.lconst 0, 1) := by decide +kernel
theorem dX_ridden_46 : decode cX_ridden 46 = .ok (.lstore 7, 2) := by decide +kernel
theorem dX_ridden_48 : decode cX_ridden 48 = .ok (.iconst 0, 1) := by decide +kernel
theorem dX_ridden_49 : decode cX_ridden 49 = .ok (.istore 9, 2) := by decide +kernel
theorem dX_ridden_51 : decode cX_ridden 51 = .ok (.iload 9, 2) := by decide +kernel
theorem dX_ridden_53 : decode cX_ridden 53 = .ok (.iload_n 3, 1) := by decide +kernel
theorem dX_ridden_54 : decode cX_ridden 54 = .ok (.if_icmp .ge 120, 3) := by decide +kernel
theorem dX_ridden_57 : decode cX_ridden 57 = .ok (.lconst 0, 1) := by decide +kernel
theorem dX_ridden_58 : decode cX_ridden 58 = .ok (.lstore 10, 2) := by decide +kernel
theorem dX_ridden_60 : decode cX_ridden 60 = .ok (.iconst 0, 1) := by decide +kernel
theorem dX_ridden_61 : decode cX_ridden 61 = .ok (.istore 12, 2) := by decide +kernel
theorem dX_ridden_63 : decode cX_ridden 63 = .ok (.iload 12, 2) := by decide +kernel
theorem dX_ridden_65 : decode cX_ridden 65 = .ok (.aload_n 1, 1) := by decide +kernel
theorem dX_ridden_66 : decode cX_ridden 66 = .ok (.getfield 164, 3) := by decide +kernel
theorem dX_ridden_69 : decode cX_ridden 69 = .ok (.if_icmp .ge 62, 3) := by decide +kernel
theorem dX_ridden_72 : decode cX_ridden 72 = .ok (.aload_n 0, 1) := by decide +kernel
theorem dX_ridden_73 : decode cX_ridden 73 = .ok (.getfield 12, 3) := by decide +kernel
theorem dX_ridden_76 : decode cX_ridden 76 = .ok (.aload_n 0, 1) := by decide +kernel
theorem dX_ridden_77 : decode cX_ridden 77 = .ok (.getfield 12, 3) := by decide +kernel
theorem dX_ridden_80 : decode cX_ridden 80 = .ok (.lload 5, 2) := by decide +kernel
theorem dX_ridden_82 : decode cX_ridden 82 = .ok (.aload_n 0, 1) := by decide +kernel
theorem dX_ridden_83 : decode cX_ridden 83 = .ok (.getfield 63, 3) := by decide +kernel
theorem dX_ridden_86 : decode cX_ridden 86 = .ok (.iload 12, 2) := by decide +kernel
theorem dX_ridden_88 : decode cX_ridden 88 = .ok (.laload, 1) := by decide +kernel
theorem dX_ridden_89 : decode cX_ridden 89 = .ok (.invokevirtual 297, 3) := by decide +kernel
theorem dX_ridden_92 : decode cX_ridden 92 = .ok (.iload_n 2, 1) := by decide +kernel
theorem dX_ridden_93 : decode cX_ridden 93 = .ok (.i2l, 1) := by decide +kernel
theorem dX_ridden_94 : decode cX_ridden 94 = .ok (.invokevirtual 304, 3) := by decide +kernel
theorem dX_ridden_97 : decode cX_ridden 97 = .ok (.lstore 13, 2) := by decide +kernel
theorem dX_ridden_99 : decode cX_ridden 99 = .ok (.aload_n 0, 1) := by decide +kernel
theorem dX_ridden_100 : decode cX_ridden 100 = .ok (.getfield 12, 3) := by decide +kernel
theorem dX_ridden_103 : decode cX_ridden 103 = .ok (.lload 10, 2) := by decide +kernel
theorem dX_ridden_105 : decode cX_ridden 105 = .ok (.aload_n 0, 1) := by decide +kernel
theorem dX_ridden_106 : decode cX_ridden 106 = .ok (.getfield 12, 3) := by decide +kernel
theorem dX_ridden_109 : decode cX_ridden 109 = .ok (.aload_n 1, 1) := by decide +kernel
theorem dX_ridden_110 : decode cX_ridden 110 = .ok (.iload 12, 2) := by decide +kernel
theorem dX_ridden_112 : decode cX_ridden 112 = .ok (.invokevirtual 187, 3) := by decide +kernel
theorem dX_ridden_115 : decode cX_ridden 115 = .ok (.lload 13, 2) := by decide +kernel
theorem dX_ridden_117 : decode cX_ridden 117 = .ok (.invokevirtual 252, 3) := by decide +kernel
theorem dX_ridden_120 : decode cX_ridden 120 = .ok (.invokevirtual 297, 3) := by decide +kernel
theorem dX_ridden_123 : decode cX_ridden 123 = .ok (.lstore 10, 2) := by decide +kernel
theorem dX_ridden_125 : decode cX_ridden 125 = .ok (.iinc 12 1, 3) := by decide +kernel
theorem dX_ridden_128 : decode cX_ridden 128 = .ok (.goto (-65), 3) := by decide +kernel
theorem dX_ridden_131 : decode cX_ridden 131 = .ok (.aload_n 0, 1) := by decide +kernel
theorem dX_ridden_132 : decode cX_ridden 132 = .ok (.getfield 12, 3) := by decide +kernel
theorem dX_ridden_135 : decode cX_ridden 135 = .ok (.lload 7, 2) := by decide +kernel
theorem dX_ridden_137 : decode cX_ridden 137 = .ok (.aload_n 0, 1) := by decide +kernel
theorem dX_ridden_138 : decode cX_ridden 138 = .ok (.getfield 12, 3) := by decide +kernel
theorem dX_ridden_141 : decode cX_ridden 141 = .ok (.iload 4, 2) := by decide +kernel
theorem dX_ridden_143 : decode cX_ridden 143 = .ok (.i2l, 1) := by decide +kernel
theorem dX_ridden_144 : decode cX_ridden 144 = .ok (.lload 10, 2) := by decide +kernel
theorem dX_ridden_146 : decode cX_ridden 146 = .ok (.invokevirtual 252, 3) := by decide +kernel
theorem dX_ridden_149 : decode cX_ridden 149 = .ok (.invokevirtual 297, 3) := by decide +kernel
theorem dX_ridden_152 : decode cX_ridden 152 = .ok (.lstore 7, 2) := by decide +kernel
theorem dX_ridden_154 : decode cX_ridden 154 = .ok (.aload_n 0, 1) := by decide +kernel
theorem dX_ridden_155 : decode cX_ridden 155 = .ok (.getfield 12, 3) := by decide +kernel
theorem dX_ridden_158 : decode cX_ridden 158 = .ok (.lload 5, 2) := by decide +kernel
theorem dX_ridden_160 : decode cX_ridden 160 = .ok (.iload 4, 2) := by decide +kernel
theorem dX_ridden_162 : decode cX_ridden 162 = .ok (.i2l, 1) := by decide +kernel
theorem dX_ridden_163 : decode cX_ridden 163 = .ok (.invokevirtual 297, 3) := by decide +kernel
theorem dX_ridden_166 : decode cX_ridden 166 = .ok (.lstore 5, 2) := by decide +kernel
theorem dX_ridden_168 : decode cX_ridden 168 = .ok (.iinc 9 1, 3) := by decide +kernel
theorem dX_ridden_171 : decode cX_ridden 171 = .ok (.goto (-120), 3) := by decide +kernel
theorem dX_ridden_174 : decode cX_ridden 174 = .ok (.lload 7, 2) := by decide +kernel
theorem dX_ridden_176 : decode cX_ridden 176 = .ok (.lreturn, 1) := by decide +kernel
theorem dX_ride_0 : decode cX_ride 0 = .ok (.iload_n 1, 1) := by decide +kernel
theorem dX_ride_1 : decode cX_ride 1 = .ok (.invokestatic 143, 3) := by decide +kernel
theorem dX_ride_4 : decode cX_ride 4 = .ok (.ifCond .ne 13, 3) := by decide +kernel
theorem dX_ride_7 : decode cX_ride 7 = .ok (.iload_n 2, 1) := by decide +kernel
theorem dX_ride_8 : decode cX_ride 8 = .ok (.ifCond .lt 9, 3) := by decide +kernel
theorem dX_ride_11 : decode cX_ride 11 = .ok (.iload_n 2, 1) := by decide +kernel
theorem dX_ride_12 : decode cX_ride 12 = .ok (.bipush 9, 2) := by decide +kernel
theorem dX_ride_14 : decode cX_ride 14 = .ok (.if_icmp .le 6, 3) := by decide +kernel
theorem dX_ride_17 : decode cX_ride 17 = .ok (.ldc 71, 2) := by decide +kernel
theorem dX_ride_19 : decode cX_ride 19 = .ok (.ireturn, 1) := by decide +kernel
theorem dX_ride_20 : decode cX_ride 20 = .ok (.iload_n 3, 1) := by decide +kernel
theorem dX_ride_21 : decode cX_ride 21 = .ok (.ifCond .lt 29, 3) := by decide +kernel
theorem dX_ride_24 : decode cX_ride 24 = .ok (.iload_n 3, 1) := by decide +kernel
theorem dX_ride_25 : decode cX_ride 25 = .ok (.sipush 1000, 3) := by decide +kernel
theorem dX_ride_28 : decode cX_ride 28 = .ok (.if_icmp .gt 22, 3) := by decide +kernel
theorem dX_ride_31 : decode cX_ride 31 = .ok (.iload 4, 2) := by decide +kernel
theorem dX_ride_33 : decode cX_ride 33 = .ok (.ifCond .lt 17, 3) := by decide +kernel
theorem dX_ride_36 : decode cX_ride 36 = .ok (.iload 4, 2) := by decide +kernel
theorem dX_ride_38 : decode cX_ride 38 = .ok (.i2l, 1) := by decide +kernel
theorem dX_ride_39 : decode cX_ride 39 = .ok (.aload_n 0, 1) := by decide +kernel
theorem dX_ride_40 : decode cX_ride 40 = .ok (.getfield 12, 3) := by decide +kernel
theorem dX_ride_43 : decode cX_ride 43 = .ok (.getfield 179, 3) := by decide +kernel
theorem dX_ride_46 : decode cX_ride 46 = .ok (.lcmp, 1) := by decide +kernel
theorem dX_ride_47 : decode cX_ride 47 = .ok (.ifCond .lt 6, 3) := by decide +kernel
theorem dX_ride_50 : decode cX_ride 50 = .ok (.ldc 71, 2) := by decide +kernel
theorem dX_ride_52 : decode cX_ride 52 = .ok (.ireturn, 1) := by decide +kernel
theorem dX_ride_53 : decode cX_ride 53 = .ok (.aload_n 0, 1) := by decide +kernel
theorem dX_ride_54 : decode cX_ride 54 = .ok (.getfield 59, 3) := by decide +kernel
theorem dX_ride_57 : decode cX_ride 57 = .ok (.iload_n 1, 1) := by decide +kernel
theorem dX_ride_58 : decode cX_ride 58 = .ok (.aaload, 1) := by decide +kernel
theorem dX_ride_59 : decode cX_ride 59 = .ok (.astore 5, 2) := by decide +kernel
theorem dX_ride_61 : decode cX_ride 61 = .ok (.aload 5, 2) := by decide +kernel
theorem dX_ride_63 : decode cX_ride 63 = .ok (.ifnonnull 11, 3) := by decide +kernel
theorem dX_ride_66 : decode cX_ride 66 = .ok (.aload_n 0, 1) := by decide +kernel
theorem dX_ride_67 : decode cX_ride 67 = .ok (.iconst 1, 1) := by decide +kernel
theorem dX_ride_68 : decode cX_ride 68 = .ok (.invokevirtual 72, 3) := by decide +kernel
theorem dX_ride_71 : decode cX_ride 71 = .ok (.goto 21, 3) := by decide +kernel
theorem dX_ride_74 : decode cX_ride 74 = .ok (.aload_n 0, 1) := by decide +kernel
theorem dX_ride_75 : decode cX_ride 75 = .ok (.aload_n 0, 1) := by decide +kernel
theorem dX_ride_76 : decode cX_ride 76 = .ok (.aload 5, 2) := by decide +kernel
theorem dX_ride_78 : decode cX_ride 78 = .ok (.getfield 160, 3) := by decide +kernel
theorem dX_ride_81 : decode cX_ride 81 = .ok (.iload_n 2, 1) := by decide +kernel
theorem dX_ride_82 : decode cX_ride 82 = .ok (.iload_n 3, 1) := by decide +kernel
theorem dX_ride_83 : decode cX_ride 83 = .ok (.iload 4, 2) := by decide +kernel
theorem dX_ride_85 : decode cX_ride 85 = .ok (.invokevirtual 230, 3) := by decide +kernel
theorem dX_ride_88 : decode cX_ride 88 = .ok (.l2i, 1) := by decide +kernel
theorem dX_ride_89 : decode cX_ride 89 = .ok (.invokevirtual 80, 3) := by decide +kernel
theorem dX_ride_92 : decode cX_ride 92 = .ok (.ireturn, 1) := by decide +kernel
theorem dX_sameWeights_0 : decode cX_sameWeights 0 = .ok (.iconst 0, 1) := by decide +kernel
theorem dX_sameWeights_1 : decode cX_sameWeights 1 = .ok (.istore 4, 2) := by decide +kernel
theorem dX_sameWeights_3 : decode cX_sameWeights 3 = .ok (.iload 4, 2) := by decide +kernel
theorem dX_sameWeights_5 : decode cX_sameWeights 5 = .ok (.bipush 37, 2) := by decide +kernel
theorem dX_sameWeights_7 : decode cX_sameWeights 7 = .ok (.if_icmp .ge 36, 3) := by decide +kernel
theorem dX_sameWeights_10 : decode cX_sameWeights 10 = .ok (.aload_n 0, 1) := by decide +kernel
theorem dX_sameWeights_11 : decode cX_sameWeights 11 = .ok (.getfield 21, 3) := by decide +kernel
theorem dX_sameWeights_14 : decode cX_sameWeights 14 = .ok (.getfield 122, 3) := by decide +kernel
theorem dX_sameWeights_17 : decode cX_sameWeights 17 = .ok (.iload 4, 2) := by decide +kernel
theorem dX_sameWeights_19 : decode cX_sameWeights 19 = .ok (.iaload, 1) := by decide +kernel
theorem dX_sameWeights_20 : decode cX_sameWeights 20 = .ok (.iload_n 3, 1) := by decide +kernel
theorem dX_sameWeights_21 : decode cX_sameWeights 21 = .ok (.if_icmp .gt 22, 3) := by decide +kernel
theorem dX_sameWeights_24 : decode cX_sameWeights 24 = .ok (.aload_n 1, 1) := by decide +kernel
theorem dX_sameWeights_25 : decode cX_sameWeights 25 = .ok (.iload 4, 2) := by decide +kernel
theorem dX_sameWeights_27 : decode cX_sameWeights 27 = .ok (.iaload, 1) := by decide +kernel
theorem dX_sameWeights_28 : decode cX_sameWeights 28 = .ok (.aload_n 2, 1) := by decide +kernel
theorem dX_sameWeights_29 : decode cX_sameWeights 29 = .ok (.iload 4, 2) := by decide +kernel
theorem dX_sameWeights_31 : decode cX_sameWeights 31 = .ok (.iaload, 1) := by decide +kernel
theorem dX_sameWeights_32 : decode cX_sameWeights 32 = .ok (.if_icmp .eq 5, 3) := by decide +kernel
theorem dX_sameWeights_35 : decode cX_sameWeights 35 = .ok (.iconst 0, 1) := by decide +kernel
theorem dX_sameWeights_36 : decode cX_sameWeights 36 = .ok (.ireturn, 1) := by decide +kernel
theorem dX_sameWeights_37 : decode cX_sameWeights 37 = .ok (.iinc 4 1, 3) := by decide +kernel
theorem dX_sameWeights_40 : decode cX_sameWeights 40 = .ok (.goto (-37), 3) := by decide +kernel
theorem dX_sameWeights_43 : decode cX_sameWeights 43 = .ok (.iconst 1, 1) := by decide +kernel
theorem dX_sameWeights_44 : decode cX_sameWeights 44 = .ok (.ireturn, 1) := by decide +kernel
theorem dX_alike_0 : decode cX_alike 0 = .ok (.iload_n 1, 1) := by decide +kernel
theorem dX_alike_1 : decode cX_alike 1 = .ok (.invokestatic 143, 3) := by decide +kernel
theorem dX_alike_4 : decode cX_alike 4 = .ok (.ifCond .ne 21, 3) := by decide +kernel
theorem dX_alike_7 : decode cX_alike 7 = .ok (.iload_n 2, 1) := by decide +kernel
theorem dX_alike_8 : decode cX_alike 8 = .ok (.invokestatic 143, 3) := by decide +kernel
theorem dX_alike_11 : decode cX_alike 11 = .ok (.ifCond .ne 14, 3) := by decide +kernel
theorem dX_alike_14 : decode cX_alike 14 = .ok (.iload_n 3, 1) := by decide +kernel
theorem dX_alike_15 : decode cX_alike 15 = .ok (.iconst 1, 1) := by decide +kernel
theorem dX_alike_16 : decode cX_alike 16 = .ok (.if_icmp .lt 9, 3) := by decide +kernel
theorem dX_alike_19 : decode cX_alike 19 = .ok (.iload_n 3, 1) := by decide +kernel
theorem dX_alike_20 : decode cX_alike 20 = .ok (.bipush 6, 2) := by decide +kernel
theorem dX_alike_22 : decode cX_alike 22 = .ok (.if_icmp .le 6, 3) := by decide +kernel
theorem dX_alike_25 : decode cX_alike 25 = .ok (.ldc 71, 2) := by decide +kernel
theorem dX_alike_27 : decode cX_alike 27 = .ok (.ireturn, 1) := by decide +kernel
theorem dX_alike_28 : decode cX_alike 28 = .ok (.aload_n 0, 1) := by decide +kernel
theorem dX_alike_29 : decode cX_alike 29 = .ok (.getfield 59, 3) := by decide +kernel
theorem dX_alike_32 : decode cX_alike 32 = .ok (.iload_n 1, 1) := by decide +kernel
theorem dX_alike_33 : decode cX_alike 33 = .ok (.aaload, 1) := by decide +kernel
theorem dX_alike_34 : decode cX_alike 34 = .ok (.astore 4, 2) := by decide +kernel
theorem dX_alike_36 : decode cX_alike 36 = .ok (.aload_n 0, 1) := by decide +kernel
theorem dX_alike_37 : decode cX_alike 37 = .ok (.getfield 59, 3) := by decide +kernel
theorem dX_alike_40 : decode cX_alike 40 = .ok (.iload_n 2, 1) := by decide +kernel
theorem dX_alike_41 : decode cX_alike 41 = .ok (.aaload, 1) := by decide +kernel
theorem dX_alike_42 : decode cX_alike 42 = .ok (.astore 5, 2) := by decide +kernel
theorem dX_alike_44 : decode cX_alike 44 = .ok (.aload 4, 2) := by decide +kernel
theorem dX_alike_46 : decode cX_alike 46 = .ok (.ifnull 8, 3) := by decide +kernel
theorem dX_alike_49 : decode cX_alike 49 = .ok (.aload 5, 2) := by decide +kernel
theorem dX_alike_51 : decode cX_alike 51 = .ok (.ifnonnull 9, 3) := by decide +kernel
theorem dX_alike_54 : decode cX_alike 54 = .ok (.aload_n 0, 1) := by decide +kernel
theorem dX_alike_55 : decode cX_alike 55 = .ok (.iconst 1, 1) := by decide +kernel
theorem dX_alike_56 : decode cX_alike 56 = .ok (.invokevirtual 72, 3) := by decide +kernel
theorem dX_alike_59 : decode cX_alike 59 = .ok (.ireturn, 1) := by decide +kernel
theorem dX_alike_60 : decode cX_alike 60 = .ok (.aload_n 0, 1) := by decide +kernel
theorem dX_alike_61 : decode cX_alike 61 = .ok (.aload_n 0, 1) := by decide +kernel
theorem dX_alike_62 : decode cX_alike 62 = .ok (.aload 4, 2) := by decide +kernel
theorem dX_alike_64 : decode cX_alike 64 = .ok (.getfield 217, 3) := by decide +kernel
theorem dX_alike_67 : decode cX_alike 67 = .ok (.aload 5, 2) := by decide +kernel
theorem dX_alike_69 : decode cX_alike 69 = .ok (.getfield 217, 3) := by decide +kernel
theorem dX_alike_72 : decode cX_alike 72 = .ok (.iload_n 3, 1) := by decide +kernel
theorem dX_alike_73 : decode cX_alike 73 = .ok (.invokevirtual 234, 3) := by decide +kernel
theorem dX_alike_76 : decode cX_alike 76 = .ok (.ifCond .eq 7, 3) := by decide +kernel
theorem dX_alike_79 : decode cX_alike 79 = .ok (.iconst 1, 1) := by decide +kernel
theorem dX_alike_80 : decode cX_alike 80 = .ok (.goto 4, 3) := by decide +kernel
theorem dX_alike_83 : decode cX_alike 83 = .ok (.iconst 0, 1) := by decide +kernel
theorem dX_alike_84 : decode cX_alike 84 = .ok (.invokevirtual 80, 3) := by decide +kernel
theorem dX_alike_87 : decode cX_alike 87 = .ok (.ireturn, 1) := by decide +kernel
theorem dX_sheetsThere_0 : decode cX_sheetsThere 0 = .ok (.iconst 0, 1) := by decide +kernel
theorem dX_sheetsThere_1 : decode cX_sheetsThere 1 = .ok (.istore_n 1, 1) := by decide +kernel
theorem dX_sheetsThere_2 : decode cX_sheetsThere 2 = .ok (.iconst 0, 1) := by decide +kernel
theorem dX_sheetsThere_3 : decode cX_sheetsThere 3 = .ok (.istore_n 2, 1) := by decide +kernel
theorem dX_sheetsThere_4 : decode cX_sheetsThere 4 = .ok (.iload_n 2, 1) := by decide +kernel
theorem dX_sheetsThere_5 : decode cX_sheetsThere 5 = .ok (.bipush 8, 2) := by decide +kernel
theorem dX_sheetsThere_7 : decode cX_sheetsThere 7 = .ok (.if_icmp .ge 24, 3) := by decide +kernel
theorem dX_sheetsThere_10 : decode cX_sheetsThere 10 = .ok (.aload_n 0, 1) := by decide +kernel
theorem dX_sheetsThere_11 : decode cX_sheetsThere 11 = .ok (.getfield 52, 3) := by decide +kernel
theorem dX_sheetsThere_14 : decode cX_sheetsThere 14 = .ok (.iload_n 2, 1) := by decide +kernel
theorem dX_sheetsThere_15 : decode cX_sheetsThere 15 = .ok (.aaload, 1) := by decide +kernel
theorem dX_sheetsThere_16 : decode cX_sheetsThere 16 = .ok (.invokevirtual 85, 3) := by decide +kernel
theorem dX_sheetsThere_19 : decode cX_sheetsThere 19 = .ok (.ifCond .ne 6, 3) := by decide +kernel
theorem dX_sheetsThere_22 : decode cX_sheetsThere 22 = .ok (.iinc 1 1, 3) := by decide +kernel
theorem dX_sheetsThere_25 : decode cX_sheetsThere 25 = .ok (.iinc 2 1, 3) := by decide +kernel
theorem dX_sheetsThere_28 : decode cX_sheetsThere 28 = .ok (.goto (-24), 3) := by decide +kernel
theorem dX_sheetsThere_31 : decode cX_sheetsThere 31 = .ok (.iload_n 1, 1) := by decide +kernel
theorem dX_sheetsThere_32 : decode cX_sheetsThere 32 = .ok (.ireturn, 1) := by decide +kernel
theorem dX_tablesOf_0 : decode cX_tablesOf 0 = .ok (.iconst 0, 1) := by decide +kernel
theorem dX_tablesOf_1 : decode cX_tablesOf 1 = .ok (.istore_n 2, 1) := by decide +kernel
theorem dX_tablesOf_2 : decode cX_tablesOf 2 = .ok (.iconst 0, 1) := by decide +kernel
theorem dX_tablesOf_3 : decode cX_tablesOf 3 = .ok (.istore_n 3, 1) := by decide +kernel
theorem dX_tablesOf_4 : decode cX_tablesOf 4 = .ok (.iload_n 3, 1) := by decide +kernel
theorem dX_tablesOf_5 : decode cX_tablesOf 5 = .ok (.bipush 10, 2) := by decide +kernel
theorem dX_tablesOf_7 : decode cX_tablesOf 7 = .ok (.if_icmp .ge 25, 3) := by decide +kernel
theorem dX_tablesOf_10 : decode cX_tablesOf 10 = .ok (.aload_n 0, 1) := by decide +kernel
theorem dX_tablesOf_11 : decode cX_tablesOf 11 = .ok (.getfield 59, 3) := by decide +kernel
theorem dX_tablesOf_14 : decode cX_tablesOf 14 = .ok (.iload_n 3, 1) := by decide +kernel
theorem dX_tablesOf_15 : decode cX_tablesOf 15 = .ok (.aaload, 1) := by decide +kernel
theorem dX_tablesOf_16 : decode cX_tablesOf 16 = .ok (.iload_n 1, 1) := by decide +kernel
theorem dX_tablesOf_17 : decode cX_tablesOf 17 = .ok (.invokestatic 202, 3) := by decide +kernel
theorem dX_tablesOf_20 : decode cX_tablesOf 20 = .ok (.ifCond .eq 6, 3) := by decide +kernel
theorem dX_tablesOf_23 : decode cX_tablesOf 23 = .ok (.iinc 2 1, 3) := by decide +kernel
theorem dX_tablesOf_26 : decode cX_tablesOf 26 = .ok (.iinc 3 1, 3) := by decide +kernel
theorem dX_tablesOf_29 : decode cX_tablesOf 29 = .ok (.goto (-25), 3) := by decide +kernel
theorem dX_tablesOf_32 : decode cX_tablesOf 32 = .ok (.iload_n 2, 1) := by decide +kernel
theorem dX_tablesOf_33 : decode cX_tablesOf 33 = .ok (.ireturn, 1) := by decide +kernel
theorem dX_count_0 : decode cX_count 0 = .ok (.iload_n 1, 1) := by decide +kernel
theorem dX_count_1 : decode cX_count 1 = .ok (.tableswitch 77 0 5 #[39, 44, 50, 56, 62, 68], 39) := by decide +kernel
theorem dX_count_40 : decode cX_count 40 = .ok (.aload_n 0, 1) := by decide +kernel
theorem dX_count_41 : decode cX_count 41 = .ok (.invokevirtual 238, 3) := by decide +kernel
theorem dX_count_44 : decode cX_count 44 = .ok (.ireturn, 1) := by decide +kernel
theorem dX_count_45 : decode cX_count 45 = .ok (.aload_n 0, 1) := by decide +kernel
theorem dX_count_46 : decode cX_count 46 = .ok (.iconst 0, 1) := by decide +kernel
theorem dX_count_47 : decode cX_count 47 = .ok (.invokevirtual 241, 3) := by decide +kernel
theorem dX_count_50 : decode cX_count 50 = .ok (.ireturn, 1) := by decide +kernel
theorem dX_count_51 : decode cX_count 51 = .ok (.aload_n 0, 1) := by decide +kernel
theorem dX_count_52 : decode cX_count 52 = .ok (.iconst 1, 1) := by decide +kernel
theorem dX_count_53 : decode cX_count 53 = .ok (.invokevirtual 241, 3) := by decide +kernel
theorem dX_count_56 : decode cX_count 56 = .ok (.ireturn, 1) := by decide +kernel
theorem dX_count_57 : decode cX_count 57 = .ok (.aload_n 0, 1) := by decide +kernel
theorem dX_count_58 : decode cX_count 58 = .ok (.iconst 2, 1) := by decide +kernel
theorem dX_count_59 : decode cX_count 59 = .ok (.invokevirtual 241, 3) := by decide +kernel
theorem dX_count_62 : decode cX_count 62 = .ok (.ireturn, 1) := by decide +kernel
theorem dX_count_63 : decode cX_count 63 = .ok (.aload_n 0, 1) := by decide +kernel
theorem dX_count_64 : decode cX_count 64 = .ok (.iconst 3, 1) := by decide +kernel
theorem dX_count_65 : decode cX_count 65 = .ok (.invokevirtual 241, 3) := by decide +kernel
theorem dX_count_68 : decode cX_count 68 = .ok (.ireturn, 1) := by decide +kernel
theorem dX_count_69 : decode cX_count 69 = .ok (.aload_n 0, 1) := by decide +kernel
theorem dX_count_70 : decode cX_count 70 = .ok (.getfield 12, 3) := by decide +kernel
theorem dX_count_73 : decode cX_count 73 = .ok (.getfield 179, 3) := by decide +kernel
theorem dX_count_76 : decode cX_count 76 = .ok (.l2i, 1) := by decide +kernel
theorem dX_count_77 : decode cX_count 77 = .ok (.ireturn, 1) := by decide +kernel
theorem dX_count_78 : decode cX_count 78 = .ok (.ldc 71, 2) := by decide +kernel
theorem dX_count_80 : decode cX_count 80 = .ok (.ireturn, 1) := by decide +kernel
theorem dX_status_0 : decode cX_status 0 = .ok (.aload_n 0, 1) := by decide +kernel
theorem dX_status_1 : decode cX_status 1 = .ok (.getfield 93, 3) := by decide +kernel
theorem dX_status_4 : decode cX_status 4 = .ok (.ireturn, 1) := by decide +kernel
theorem dM_in_0 : decode cM_in 0 = .ok (.lload_n 0, 1) := by decide +kernel
theorem dM_in_1 : decode cM_in 1 = .ok (.lload_n 2, 1) := by decide +kernel
theorem dM_in_2 : decode cM_in 2 = .ok (.lcmp, 1) := by decide +kernel
theorem dM_in_3 : decode cM_in 3 = .ok (.ifCond .lt 14, 3) := by decide +kernel
theorem dM_in_6 : decode cM_in 6 = .ok (.lload_n 0, 1) := by decide +kernel
theorem dM_in_7 : decode cM_in 7 = .ok (.lload 4, 2) := by decide +kernel
theorem dM_in_9 : decode cM_in 9 = .ok (.lcmp, 1) := by decide +kernel
theorem dM_in_10 : decode cM_in 10 = .ok (.ifCond .gt 7, 3) := by decide +kernel
theorem dM_in_13 : decode cM_in 13 = .ok (.iconst 1, 1) := by decide +kernel
theorem dM_in_14 : decode cM_in 14 = .ok (.goto 4, 3) := by decide +kernel
theorem dM_in_17 : decode cM_in 17 = .ok (.iconst 0, 1) := by decide +kernel
theorem dM_in_18 : decode cM_in 18 = .ok (.ireturn, 1) := by decide +kernel
theorem dM_found_0 : decode cM_found 0 = .ok (.aload_n 0, 1) := by decide +kernel
theorem dM_found_1 : decode cM_found 1 = .ok (.iload_n 1, 1) := by decide +kernel
theorem dM_found_2 : decode cM_found 2 = .ok (.putfield 7, 3) := by decide +kernel
theorem dM_found_5 : decode cM_found 5 = .ok (.ldc 10, 2) := by decide +kernel
theorem dM_found_7 : decode cM_found 7 = .ok (.iload_n 1, 1) := by decide +kernel
theorem dM_found_8 : decode cM_found 8 = .ok (.isub, 1) := by decide +kernel
theorem dM_found_9 : decode cM_found 9 = .ok (.ireturn, 1) := by decide +kernel
theorem dM_isPrime_0 : decode cM_isPrime 0 = .ok (.iload_n 0, 1) := by decide +kernel
theorem dM_isPrime_1 : decode cM_isPrime 1 = .ok (.iconst 1, 1) := by decide +kernel
theorem dM_isPrime_2 : decode cM_isPrime 2 = .ok (.if_icmp .le 7, 3) := by decide +kernel
theorem dM_isPrime_5 : decode cM_isPrime 5 = .ok (.iconst 1, 1) := by decide +kernel
theorem dM_isPrime_6 : decode cM_isPrime 6 = .ok (.goto 4, 3) := by decide +kernel
theorem dM_isPrime_9 : decode cM_isPrime 9 = .ok (.iconst 0, 1) := by decide +kernel
theorem dM_isPrime_10 : decode cM_isPrime 10 = .ok (.istore_n 1, 1) := by decide +kernel
theorem dM_isPrime_11 : decode cM_isPrime 11 = .ok (.iconst 2, 1) := by decide +kernel
theorem dM_isPrime_12 : decode cM_isPrime 12 = .ok (.istore_n 2, 1) := by decide +kernel
theorem dM_isPrime_13 : decode cM_isPrime 13 = .ok (.iload_n 2, 1) := by decide +kernel
theorem dM_isPrime_14 : decode cM_isPrime 14 = .ok (.i2l, 1) := by decide +kernel
theorem dM_isPrime_15 : decode cM_isPrime 15 = .ok (.iload_n 2, 1) := by decide +kernel
theorem dM_isPrime_16 : decode cM_isPrime 16 = .ok (.i2l, 1) := by decide +kernel
theorem dM_isPrime_17 : decode cM_isPrime 17 = .ok (.lmul, 1) := by decide +kernel
theorem dM_isPrime_18 : decode cM_isPrime 18 = .ok (.iload_n 0, 1) := by decide +kernel
theorem dM_isPrime_19 : decode cM_isPrime 19 = .ok (.i2l, 1) := by decide +kernel
theorem dM_isPrime_20 : decode cM_isPrime 20 = .ok (.lcmp, 1) := by decide +kernel
theorem dM_isPrime_21 : decode cM_isPrime 21 = .ok (.ifCond .gt 25, 3) := by decide +kernel
theorem dM_isPrime_24 : decode cM_isPrime 24 = .ok (.iload_n 1, 1) := by decide +kernel
theorem dM_isPrime_25 : decode cM_isPrime 25 = .ok (.ifCond .eq 21, 3) := by decide +kernel
theorem dM_isPrime_28 : decode cM_isPrime 28 = .ok (.iload_n 0, 1) := by decide +kernel
theorem dM_isPrime_29 : decode cM_isPrime 29 = .ok (.iload_n 2, 1) := by decide +kernel
theorem dM_isPrime_30 : decode cM_isPrime 30 = .ok (.irem, 1) := by decide +kernel
theorem dM_isPrime_31 : decode cM_isPrime 31 = .ok (.ifCond .eq 7, 3) := by decide +kernel
theorem dM_isPrime_34 : decode cM_isPrime 34 = .ok (.iconst 1, 1) := by decide +kernel
theorem dM_isPrime_35 : decode cM_isPrime 35 = .ok (.goto 4, 3) := by decide +kernel
theorem dM_isPrime_38 : decode cM_isPrime 38 = .ok (.iconst 0, 1) := by decide +kernel
theorem dM_isPrime_39 : decode cM_isPrime 39 = .ok (.istore_n 1, 1) := by decide +kernel
theorem dM_isPrime_40 : decode cM_isPrime 40 = .ok (.iinc 2 1, 3) := by decide +kernel
theorem dM_isPrime_43 : decode cM_isPrime 43 = .ok (.goto (-30), 3) := by decide +kernel
theorem dM_isPrime_46 : decode cM_isPrime 46 = .ok (.iload_n 1, 1) := by decide +kernel
theorem dM_isPrime_47 : decode cM_isPrime 47 = .ok (.ireturn, 1) := by decide +kernel
theorem dM_follow_0 : decode cM_follow 0 = .ok (.aload_n 0, 1) := by decide +kernel
theorem dM_follow_1 : decode cM_follow 1 = .ok (.getfield 17, 3) := by decide +kernel
theorem dM_follow_4 : decode cM_follow 4 = .ok (.iload_n 1, 1) := by decide +kernel
theorem dM_follow_5 : decode cM_follow 5 = .ok (.iaload, 1) := by decide +kernel
theorem dM_follow_6 : decode cM_follow 6 = .ok (.istore_n 2, 1) := by decide +kernel
theorem dM_follow_7 : decode cM_follow 7 = .ok (.iload_n 2, 1) := by decide +kernel
theorem dM_follow_8 : decode cM_follow 8 = .ok (.iconst 1, 1) := by decide +kernel
theorem dM_follow_9 : decode cM_follow 9 = .ok (.isub, 1) := by decide +kernel
theorem dM_follow_10 : decode cM_follow 10 = .ok (.istore_n 3, 1) := by decide +kernel
theorem dM_follow_11 : decode cM_follow 11 = .ok (.iload_n 3, 1) := by decide +kernel
theorem dM_follow_12 : decode cM_follow 12 = .ok (.ifCond .le 24, 3) := by decide +kernel
theorem dM_follow_15 : decode cM_follow 15 = .ok (.aload_n 0, 1) := by decide +kernel
theorem dM_follow_16 : decode cM_follow 16 = .ok (.getfield 21, 3) := by decide +kernel
theorem dM_follow_19 : decode cM_follow 19 = .ok (.bipush 6, 2) := by decide +kernel
theorem dM_follow_21 : decode cM_follow 21 = .ok (.iload_n 1, 1) := by decide +kernel
theorem dM_follow_22 : decode cM_follow 22 = .ok (.imul, 1) := by decide +kernel
theorem dM_follow_23 : decode cM_follow 23 = .ok (.iload_n 3, 1) := by decide +kernel
theorem dM_follow_24 : decode cM_follow 24 = .ok (.iadd, 1) := by decide +kernel
theorem dM_follow_25 : decode cM_follow 25 = .ok (.iaload, 1) := by decide +kernel
theorem dM_follow_26 : decode cM_follow 26 = .ok (.iconst 2, 1) := by decide +kernel
theorem dM_follow_27 : decode cM_follow 27 = .ok (.if_icmp .ge 9, 3) := by decide +kernel
theorem dM_follow_30 : decode cM_follow 30 = .ok (.iinc 3 (-1), 3) := by decide +kernel
theorem dM_follow_33 : decode cM_follow 33 = .ok (.goto (-22), 3) := by decide +kernel
theorem dM_follow_36 : decode cM_follow 36 = .ok (.iload_n 3, 1) := by decide +kernel
theorem dM_follow_37 : decode cM_follow 37 = .ok (.ifCond .gt 5, 3) := by decide +kernel
theorem dM_follow_40 : decode cM_follow 40 = .ok (.iconst 0, 1) := by decide +kernel
theorem dM_follow_41 : decode cM_follow 41 = .ok (.ireturn, 1) := by decide +kernel
theorem dM_follow_42 : decode cM_follow 42 = .ok (.iload_n 3, 1) := by decide +kernel
theorem dM_follow_43 : decode cM_follow 43 = .ok (.iconst 1, 1) := by decide +kernel
theorem dM_follow_44 : decode cM_follow 44 = .ok (.isub, 1) := by decide +kernel
theorem dM_follow_45 : decode cM_follow 45 = .ok (.istore 4, 2) := by decide +kernel
theorem dM_follow_47 : decode cM_follow 47 = .ok (.aload_n 0, 1) := by decide +kernel
theorem dM_follow_48 : decode cM_follow 48 = .ok (.getfield 21, 3) := by decide +kernel
theorem dM_follow_51 : decode cM_follow 51 = .ok (.bipush 6, 2) := by decide +kernel
theorem dM_follow_53 : decode cM_follow 53 = .ok (.iload_n 1, 1) := by decide +kernel
theorem dM_follow_54 : decode cM_follow 54 = .ok (.imul, 1) := by decide +kernel
theorem dM_follow_55 : decode cM_follow 55 = .ok (.iload 4, 2) := by decide +kernel
theorem dM_follow_57 : decode cM_follow 57 = .ok (.iadd, 1) := by decide +kernel
theorem dM_follow_58 : decode cM_follow 58 = .ok (.iaload, 1) := by decide +kernel
theorem dM_follow_59 : decode cM_follow 59 = .ok (.aload_n 0, 1) := by decide +kernel
theorem dM_follow_60 : decode cM_follow 60 = .ok (.getfield 21, 3) := by decide +kernel
theorem dM_follow_63 : decode cM_follow 63 = .ok (.bipush 6, 2) := by decide +kernel
theorem dM_follow_65 : decode cM_follow 65 = .ok (.iload_n 1, 1) := by decide +kernel
theorem dM_follow_66 : decode cM_follow 66 = .ok (.imul, 1) := by decide +kernel
theorem dM_follow_67 : decode cM_follow 67 = .ok (.iload_n 3, 1) := by decide +kernel
theorem dM_follow_68 : decode cM_follow 68 = .ok (.iadd, 1) := by decide +kernel
theorem dM_follow_69 : decode cM_follow 69 = .ok (.iaload, 1) := by decide +kernel
theorem dM_follow_70 : decode cM_follow 70 = .ok (.iconst 1, 1) := by decide +kernel
theorem dM_follow_71 : decode cM_follow 71 = .ok (.isub, 1) := by decide +kernel
theorem dM_follow_72 : decode cM_follow 72 = .ok (.if_icmp .eq 9, 3) := by decide +kernel
theorem dM_follow_75 : decode cM_follow 75 = .ok (.iinc 4 (-1), 3) := by decide +kernel
theorem dM_follow_78 : decode cM_follow 78 = .ok (.goto (-31), 3) := by decide +kernel
theorem dM_follow_81 : decode cM_follow 81 = .ok (.iconst 0, 1) := by decide +kernel
theorem dM_follow_82 : decode cM_follow 82 = .ok (.istore 5, 2) := by decide +kernel
theorem dM_follow_84 : decode cM_follow 84 = .ok (.iload 5, 2) := by decide +kernel
theorem dM_follow_86 : decode cM_follow 86 = .ok (.iload_n 2, 1) := by decide +kernel
theorem dM_follow_87 : decode cM_follow 87 = .ok (.if_icmp .ge 64, 3) := by decide +kernel
theorem dM_follow_90 : decode cM_follow 90 = .ok (.bipush 6, 2) := by decide +kernel
theorem dM_follow_92 : decode cM_follow 92 = .ok (.iload_n 1, 1) := by decide +kernel
theorem dM_follow_93 : decode cM_follow 93 = .ok (.imul, 1) := by decide +kernel
theorem dM_follow_94 : decode cM_follow 94 = .ok (.bipush 6, 2) := by decide +kernel
theorem dM_follow_96 : decode cM_follow 96 = .ok (.iadd, 1) := by decide +kernel
theorem dM_follow_97 : decode cM_follow 97 = .ok (.istore 6, 2) := by decide +kernel
theorem dM_follow_99 : decode cM_follow 99 = .ok (.aload_n 0, 1) := by decide +kernel
theorem dM_follow_100 : decode cM_follow 100 = .ok (.getfield 21, 3) := by decide +kernel
theorem dM_follow_103 : decode cM_follow 103 = .ok (.iload 6, 2) := by decide +kernel
theorem dM_follow_105 : decode cM_follow 105 = .ok (.iload 5, 2) := by decide +kernel
theorem dM_follow_107 : decode cM_follow 107 = .ok (.iadd, 1) := by decide +kernel
theorem dM_follow_108 : decode cM_follow 108 = .ok (.iload 5, 2) := by decide +kernel
theorem dM_follow_110 : decode cM_follow 110 = .ok (.iload_n 3, 1) := by decide +kernel
theorem dM_follow_111 : decode cM_follow 111 = .ok (.if_icmp .ge 18, 3) := by decide +kernel
theorem dM_follow_114 : decode cM_follow 114 = .ok (.aload_n 0, 1) := by decide +kernel
theorem dM_follow_115 : decode cM_follow 115 = .ok (.getfield 21, 3) := by decide +kernel
theorem dM_follow_118 : decode cM_follow 118 = .ok (.bipush 6, 2) := by decide +kernel
theorem dM_follow_120 : decode cM_follow 120 = .ok (.iload_n 1, 1) := by decide +kernel
theorem dM_follow_121 : decode cM_follow 121 = .ok (.imul, 1) := by decide +kernel
theorem dM_follow_122 : decode cM_follow 122 = .ok (.iload 5, 2) := by decide +kernel
theorem dM_follow_124 : decode cM_follow 124 = .ok (.iadd, 1) := by decide +kernel
theorem dM_follow_125 : decode cM_follow 125 = .ok (.iaload, 1) := by decide +kernel
theorem dM_follow_126 : decode cM_follow 126 = .ok (.goto 18, 3) := by decide +kernel
theorem dM_follow_129 : decode cM_follow 129 = .ok (.aload_n 0, 1) := by decide +kernel
theorem dM_follow_130 : decode cM_follow 130 = .ok (.getfield 21, 3) := by decide +kernel
theorem dM_follow_133 : decode cM_follow 133 = .ok (.iload 6, 2) := by decide +kernel
theorem dM_follow_135 : decode cM_follow 135 = .ok (.iload 5, 2) := by decide +kernel
theorem dM_follow_137 : decode cM_follow 137 = .ok (.iadd, 1) := by decide +kernel
theorem dM_follow_138 : decode cM_follow 138 = .ok (.iload_n 3, 1) := by decide +kernel
theorem dM_follow_139 : decode cM_follow 139 = .ok (.isub, 1) := by decide +kernel
theorem dM_follow_140 : decode cM_follow 140 = .ok (.iload 4, 2) := by decide +kernel
theorem dM_follow_142 : decode cM_follow 142 = .ok (.iadd, 1) := by decide +kernel
theorem dM_follow_143 : decode cM_follow 143 = .ok (.iaload, 1) := by decide +kernel
theorem dM_follow_144 : decode cM_follow 144 = .ok (.iastore, 1) := by decide +kernel
theorem dM_follow_145 : decode cM_follow 145 = .ok (.iinc 5 1, 3) := by decide +kernel
theorem dM_follow_148 : decode cM_follow 148 = .ok (.goto (-64), 3) := by decide +kernel
theorem dM_follow_151 : decode cM_follow 151 = .ok (.iconst 1, 1) := by decide +kernel
theorem dM_follow_152 : decode cM_follow 152 = .ok (.ireturn, 1) := by decide +kernel
theorem dM_init_0 : decode cM_init 0 = .ok (.aload_n 0, 1) := by decide +kernel
theorem dM_init_1 : decode cM_init 1 = .ok (.invokespecial 11, 3) := by decide +kernel
theorem dM_init_4 : decode cM_init 4 = .ok (.aload_n 0, 1) := by decide +kernel
theorem dM_init_5 : decode cM_init 5 = .ok (.bipush 38, 2) := by decide +kernel
theorem dM_init_7 : decode cM_init 7 = .ok (.newarray .int, 2) := by decide +kernel
theorem dM_init_9 : decode cM_init 9 = .ok (.putfield 17, 3) := by decide +kernel
theorem dM_init_12 : decode cM_init 12 = .ok (.aload_n 0, 1) := by decide +kernel
theorem dM_init_13 : decode cM_init 13 = .ok (.sipush 234, 3) := by decide +kernel
theorem dM_init_16 : decode cM_init 16 = .ok (.newarray .int, 2) := by decide +kernel
theorem dM_init_18 : decode cM_init 18 = .ok (.putfield 21, 3) := by decide +kernel
theorem dM_init_21 : decode cM_init 21 = .ok (.aload_n 0, 1) := by decide +kernel
theorem dM_init_22 : decode cM_init 22 = .ok (.bipush 6, 2) := by decide +kernel
theorem dM_init_24 : decode cM_init 24 = .ok (.newarray .int, 2) := by decide +kernel
theorem dM_init_26 : decode cM_init 26 = .ok (.putfield 24, 3) := by decide +kernel
theorem dM_init_29 : decode cM_init 29 = .ok (.aload_n 0, 1) := by decide +kernel
theorem dM_init_30 : decode cM_init 30 = .ok (.bipush 8, 2) := by decide +kernel
theorem dM_init_32 : decode cM_init 32 = .ok (.newarray .int, 2) := by decide +kernel
theorem dM_init_34 : decode cM_init 34 = .ok (.dup, 1) := by decide +kernel
theorem dM_init_35 : decode cM_init 35 = .ok (.iconst 0, 1) := by decide +kernel
theorem dM_init_36 : decode cM_init 36 = .ok (.iconst (-1), 1) := by decide +kernel
theorem dM_init_37 : decode cM_init 37 = .ok (.iastore, 1) := by decide +kernel
theorem dM_init_38 : decode cM_init 38 = .ok (.dup, 1) := by decide +kernel
theorem dM_init_39 : decode cM_init 39 = .ok (.iconst 1, 1) := by decide +kernel
theorem dM_init_40 : decode cM_init 40 = .ok (.iconst (-1), 1) := by decide +kernel
theorem dM_init_41 : decode cM_init 41 = .ok (.iastore, 1) := by decide +kernel
theorem dM_init_42 : decode cM_init 42 = .ok (.dup, 1) := by decide +kernel
theorem dM_init_43 : decode cM_init 43 = .ok (.iconst 2, 1) := by decide +kernel
theorem dM_init_44 : decode cM_init 44 = .ok (.iconst (-1), 1) := by decide +kernel
theorem dM_init_45 : decode cM_init 45 = .ok (.iastore, 1) := by decide +kernel
theorem dM_init_46 : decode cM_init 46 = .ok (.dup, 1) := by decide +kernel
theorem dM_init_47 : decode cM_init 47 = .ok (.iconst 3, 1) := by decide +kernel
theorem dM_init_48 : decode cM_init 48 = .ok (.iconst (-1), 1) := by decide +kernel
theorem dM_init_49 : decode cM_init 49 = .ok (.iastore, 1) := by decide +kernel
theorem dM_init_50 : decode cM_init 50 = .ok (.dup, 1) := by decide +kernel
theorem dM_init_51 : decode cM_init 51 = .ok (.iconst 4, 1) := by decide +kernel
theorem dM_init_52 : decode cM_init 52 = .ok (.iconst (-1), 1) := by decide +kernel
theorem dM_init_53 : decode cM_init 53 = .ok (.iastore, 1) := by decide +kernel
theorem dM_init_54 : decode cM_init 54 = .ok (.dup, 1) := by decide +kernel
theorem dM_init_55 : decode cM_init 55 = .ok (.iconst 5, 1) := by decide +kernel
theorem dM_init_56 : decode cM_init 56 = .ok (.iconst (-1), 1) := by decide +kernel
theorem dM_init_57 : decode cM_init 57 = .ok (.iastore, 1) := by decide +kernel
theorem dM_init_58 : decode cM_init 58 = .ok (.dup, 1) := by decide +kernel
theorem dM_init_59 : decode cM_init 59 = .ok (.bipush 6, 2) := by decide +kernel
theorem dM_init_61 : decode cM_init 61 = .ok (.iconst (-1), 1) := by decide +kernel
theorem dM_init_62 : decode cM_init 62 = .ok (.iastore, 1) := by decide +kernel
theorem dM_init_63 : decode cM_init 63 = .ok (.dup, 1) := by decide +kernel
theorem dM_init_64 : decode cM_init 64 = .ok (.bipush 7, 2) := by decide +kernel
theorem dM_init_66 : decode cM_init 66 = .ok (.iconst (-1), 1) := by decide +kernel
theorem dM_init_67 : decode cM_init 67 = .ok (.iastore, 1) := by decide +kernel
theorem dM_init_68 : decode cM_init 68 = .ok (.putfield 27, 3) := by decide +kernel
theorem dM_init_71 : decode cM_init 71 = .ok (.aload_n 0, 1) := by decide +kernel
theorem dM_init_72 : decode cM_init 72 = .ok (.bipush 8, 2) := by decide +kernel
theorem dM_init_74 : decode cM_init 74 = .ok (.newarray .int, 2) := by decide +kernel
theorem dM_init_76 : decode cM_init 76 = .ok (.putfield 30, 3) := by decide +kernel
theorem dM_init_79 : decode cM_init 79 = .ok (.aload_n 0, 1) := by decide +kernel
theorem dM_init_80 : decode cM_init 80 = .ok (.sipush 640, 3) := by decide +kernel
theorem dM_init_83 : decode cM_init 83 = .ok (.newarray .long, 2) := by decide +kernel
theorem dM_init_85 : decode cM_init 85 = .ok (.putfield 33, 3) := by decide +kernel
theorem dM_init_88 : decode cM_init 88 = .ok (.aload_n 0, 1) := by decide +kernel
theorem dM_init_89 : decode cM_init 89 = .ok (.bipush 11, 2) := by decide +kernel
theorem dM_init_91 : decode cM_init 91 = .ok (.newarray .int, 2) := by decide +kernel
theorem dM_init_93 : decode cM_init 93 = .ok (.putfield 37, 3) := by decide +kernel
theorem dM_init_96 : decode cM_init 96 = .ok (.aload_n 0, 1) := by decide +kernel
theorem dM_init_97 : decode cM_init 97 = .ok (.sipush 704, 3) := by decide +kernel
theorem dM_init_100 : decode cM_init 100 = .ok (.newarray .long, 2) := by decide +kernel
theorem dM_init_102 : decode cM_init 102 = .ok (.putfield 40, 3) := by decide +kernel
theorem dM_init_105 : decode cM_init 105 = .ok (.aload_n 0, 1) := by decide +kernel
theorem dM_init_106 : decode cM_init 106 = .ok (.bipush 88, 2) := by decide +kernel
theorem dM_init_108 : decode cM_init 108 = .ok (.newarray .long, 2) := by decide +kernel
theorem dM_init_110 : decode cM_init 110 = .ok (.putfield 43, 3) := by decide +kernel
theorem dM_init_113 : decode cM_init 113 = .ok (.aload_n 0, 1) := by decide +kernel
theorem dM_init_114 : decode cM_init 114 = .ok (.bipush 16, 2) := by decide +kernel
theorem dM_init_116 : decode cM_init 116 = .ok (.newarray .int, 2) := by decide +kernel
theorem dM_init_118 : decode cM_init 118 = .ok (.putfield 46, 3) := by decide +kernel
theorem dM_init_121 : decode cM_init 121 = .ok (.aload_n 0, 1) := by decide +kernel
theorem dM_init_122 : decode cM_init 122 = .ok (.bipush 48, 2) := by decide +kernel
theorem dM_init_124 : decode cM_init 124 = .ok (.newarray .long, 2) := by decide +kernel
theorem dM_init_126 : decode cM_init 126 = .ok (.putfield 49, 3) := by decide +kernel
theorem dM_init_129 : decode cM_init 129 = .ok (.aload_n 0, 1) := by decide +kernel
theorem dM_init_130 : decode cM_init 130 = .ok (.bipush 64, 2) := by decide +kernel
theorem dM_init_132 : decode cM_init 132 = .ok (.newarray .long, 2) := by decide +kernel
theorem dM_init_134 : decode cM_init 134 = .ok (.putfield 52, 3) := by decide +kernel
theorem dM_init_137 : decode cM_init 137 = .ok (.aload_n 0, 1) := by decide +kernel
theorem dM_init_138 : decode cM_init 138 = .ok (.bipush 64, 2) := by decide +kernel
theorem dM_init_140 : decode cM_init 140 = .ok (.newarray .long, 2) := by decide +kernel
theorem dM_init_142 : decode cM_init 142 = .ok (.putfield 55, 3) := by decide +kernel
theorem dM_init_145 : decode cM_init 145 = .ok (.aload_n 0, 1) := by decide +kernel
theorem dM_init_146 : decode cM_init 146 = .ok (.bipush 64, 2) := by decide +kernel
theorem dM_init_148 : decode cM_init 148 = .ok (.newarray .long, 2) := by decide +kernel
theorem dM_init_150 : decode cM_init 150 = .ok (.putfield 58, 3) := by decide +kernel
theorem dM_init_153 : decode cM_init 153 = .ok (.aload_n 0, 1) := by decide +kernel
theorem dM_init_154 : decode cM_init 154 = .ok (.bipush 9, 2) := by decide +kernel
theorem dM_init_156 : decode cM_init 156 = .ok (.newarray .long, 2) := by decide +kernel
theorem dM_init_158 : decode cM_init 158 = .ok (.putfield 61, 3) := by decide +kernel
theorem dM_init_161 : decode cM_init 161 = .ok (.aload_n 0, 1) := by decide +kernel
theorem dM_init_162 : decode cM_init 162 = .ok (.bipush 9, 2) := by decide +kernel
theorem dM_init_164 : decode cM_init 164 = .ok (.newarray .long, 2) := by decide +kernel
theorem dM_init_166 : decode cM_init 166 = .ok (.putfield 64, 3) := by decide +kernel
theorem dM_init_169 : decode cM_init 169 = .ok (.aload_n 0, 1) := by decide +kernel
theorem dM_init_170 : decode cM_init 170 = .ok (.iload_n 1, 1) := by decide +kernel
theorem dM_init_171 : decode cM_init 171 = .ok (.i2l, 1) := by decide +kernel
theorem dM_init_172 : decode cM_init 172 = .ok (.ldc2_w 67, 3) := by decide +kernel
theorem dM_init_175 : decode cM_init 175 = .ok (.ldc2_w 69, 3) := by decide +kernel
theorem dM_init_178 : decode cM_init 178 = .ok (.invokestatic 71, 3) := by decide +kernel
theorem dM_init_181 : decode cM_init 181 = .ok (.ifCond .eq 14, 3) := by decide +kernel
theorem dM_init_184 : decode cM_init 184 = .ok (.iload_n 1, 1) := by decide +kernel
theorem dM_init_185 : decode cM_init 185 = .ok (.invokestatic 75, 3) := by decide +kernel
theorem dM_init_188 : decode cM_init 188 = .ok (.ifCond .eq 7, 3) := by decide +kernel
theorem dM_init_191 : decode cM_init 191 = .ok (.iload_n 1, 1) := by decide +kernel
theorem dM_init_192 : decode cM_init 192 = .ok (.goto 5, 3) := by decide +kernel
theorem dM_init_195 : decode cM_init 195 = .ok (.ldc 79, 2) := by decide +kernel
theorem dM_init_197 : decode cM_init 197 = .ok (.putfield 80, 3) := by decide +kernel
theorem dM_init_200 : decode cM_init 200 = .ok (.iconst 0, 1) := by decide +kernel
theorem dM_init_201 : decode cM_init 201 = .ok (.istore_n 2, 1) := by decide +kernel
theorem dM_init_202 : decode cM_init 202 = .ok (.iconst 1, 1) := by decide +kernel
theorem dM_init_203 : decode cM_init 203 = .ok (.istore_n 3, 1) := by decide +kernel
theorem dM_init_204 : decode cM_init 204 = .ok (.iload_n 3, 1) := by decide +kernel
theorem dM_init_205 : decode cM_init 205 = .ok (.bipush 6, 2) := by decide +kernel
theorem dM_init_207 : decode cM_init 207 = .ok (.if_icmp .gt 66, 3) := by decide +kernel
theorem dM_init_210 : decode cM_init 210 = .ok (.iconst 0, 1) := by decide +kernel
theorem dM_init_211 : decode cM_init 211 = .ok (.istore 4, 2) := by decide +kernel
theorem dM_init_213 : decode cM_init 213 = .ok (.iload 4, 2) := by decide +kernel
theorem dM_init_215 : decode cM_init 215 = .ok (.iload_n 3, 1) := by decide +kernel
theorem dM_init_216 : decode cM_init 216 = .ok (.if_icmp .ge 23, 3) := by decide +kernel
theorem dM_init_219 : decode cM_init 219 = .ok (.aload_n 0, 1) := by decide +kernel
theorem dM_init_220 : decode cM_init 220 = .ok (.getfield 21, 3) := by decide +kernel
theorem dM_init_223 : decode cM_init 223 = .ok (.bipush 6, 2) := by decide +kernel
theorem dM_init_225 : decode cM_init 225 = .ok (.iload_n 2, 1) := by decide +kernel
theorem dM_init_226 : decode cM_init 226 = .ok (.imul, 1) := by decide +kernel
theorem dM_init_227 : decode cM_init 227 = .ok (.iload 4, 2) := by decide +kernel
theorem dM_init_229 : decode cM_init 229 = .ok (.iadd, 1) := by decide +kernel
theorem dM_init_230 : decode cM_init 230 = .ok (.iload 4, 2) := by decide +kernel
theorem dM_init_232 : decode cM_init 232 = .ok (.iastore, 1) := by decide +kernel
theorem dM_init_233 : decode cM_init 233 = .ok (.iinc 4 1, 3) := by decide +kernel
theorem dM_init_236 : decode cM_init 236 = .ok (.goto (-23), 3) := by decide +kernel
theorem dM_init_239 : decode cM_init 239 = .ok (.iconst 1, 1) := by decide +kernel
theorem dM_init_240 : decode cM_init 240 = .ok (.istore 4, 2) := by decide +kernel
theorem dM_init_242 : decode cM_init 242 = .ok (.iload 4, 2) := by decide +kernel
theorem dM_init_244 : decode cM_init 244 = .ok (.ifCond .eq 23, 3) := by decide +kernel
theorem dM_init_247 : decode cM_init 247 = .ok (.aload_n 0, 1) := by decide +kernel
theorem dM_init_248 : decode cM_init 248 = .ok (.getfield 17, 3) := by decide +kernel
theorem dM_init_251 : decode cM_init 251 = .ok (.iload_n 2, 1) := by decide +kernel
theorem dM_init_252 : decode cM_init 252 = .ok (.iload_n 3, 1) := by decide +kernel
theorem dM_init_253 : decode cM_init 253 = .ok (.iastore, 1) := by decide +kernel
theorem dM_init_254 : decode cM_init 254 = .ok (.aload_n 0, 1) := by decide +kernel
theorem dM_init_255 : decode cM_init 255 = .ok (.iload_n 2, 1) := by decide +kernel
theorem dM_init_256 : decode cM_init 256 = .ok (.invokevirtual 83, 3) := by decide +kernel
theorem dM_init_259 : decode cM_init 259 = .ok (.istore 4, 2) := by decide +kernel
theorem dM_init_261 : decode cM_init 261 = .ok (.iinc 2 1, 3) := by decide +kernel
theorem dM_init_264 : decode cM_init 264 = .ok (.goto (-22), 3) := by decide +kernel
theorem dM_init_267 : decode cM_init 267 = .ok (.iinc 3 1, 3) := by decide +kernel
theorem dM_init_270 : decode cM_init 270 = .ok (.goto (-66), 3) := by decide +kernel
theorem dM_init_273 : decode cM_init 273 = .ok (.return_, 1) := by decide +kernel
theorem dM_isTree_0 : decode cM_isTree 0 = .ok (.iload_n 0, 1) := by decide +kernel
theorem dM_isTree_1 : decode cM_isTree 1 = .ok (.i2l, 1) := by decide +kernel
theorem dM_isTree_2 : decode cM_isTree 2 = .ok (.lconst 0, 1) := by decide +kernel
theorem dM_isTree_3 : decode cM_isTree 3 = .ok (.ldc2_w 86, 3) := by decide +kernel
theorem dM_isTree_6 : decode cM_isTree 6 = .ok (.invokestatic 71, 3) := by decide +kernel
theorem dM_isTree_9 : decode cM_isTree 9 = .ok (.ireturn, 1) := by decide +kernel
theorem dM_trees_0 : decode cM_trees 0 = .ok (.aload_n 0, 1) := by decide +kernel
theorem dM_trees_1 : decode cM_trees 1 = .ok (.iconst 0, 1) := by decide +kernel
theorem dM_trees_2 : decode cM_trees 2 = .ok (.putfield 1, 3) := by decide +kernel
theorem dM_trees_5 : decode cM_trees 5 = .ok (.iload_n 1, 1) := by decide +kernel
theorem dM_trees_6 : decode cM_trees 6 = .ok (.i2l, 1) := by decide +kernel
theorem dM_trees_7 : decode cM_trees 7 = .ok (.lconst 1, 1) := by decide +kernel
theorem dM_trees_8 : decode cM_trees 8 = .ok (.ldc2_w 88, 3) := by decide +kernel
theorem dM_trees_11 : decode cM_trees 11 = .ok (.invokestatic 71, 3) := by decide +kernel
theorem dM_trees_14 : decode cM_trees 14 = .ok (.ifCond .ne 6, 3) := by decide +kernel
theorem dM_trees_17 : decode cM_trees 17 = .ok (.ldc 90, 2) := by decide +kernel
theorem dM_trees_19 : decode cM_trees 19 = .ok (.ireturn, 1) := by decide +kernel
theorem dM_trees_20 : decode cM_trees 20 = .ok (.iconst 0, 1) := by decide +kernel
theorem dM_trees_21 : decode cM_trees 21 = .ok (.istore_n 2, 1) := by decide +kernel
theorem dM_trees_22 : decode cM_trees 22 = .ok (.iconst 0, 1) := by decide +kernel
theorem dM_trees_23 : decode cM_trees 23 = .ok (.istore_n 3, 1) := by decide +kernel
theorem dM_trees_24 : decode cM_trees 24 = .ok (.iload_n 3, 1) := by decide +kernel
theorem dM_trees_25 : decode cM_trees 25 = .ok (.bipush 37, 2) := by decide +kernel
theorem dM_trees_27 : decode cM_trees 27 = .ok (.if_icmp .ge 27, 3) := by decide +kernel
theorem dM_trees_30 : decode cM_trees 30 = .ok (.iload_n 2, 1) := by decide +kernel
theorem dM_trees_31 : decode cM_trees 31 = .ok (.aload_n 0, 1) := by decide +kernel
theorem dM_trees_32 : decode cM_trees 32 = .ok (.getfield 17, 3) := by decide +kernel
theorem dM_trees_35 : decode cM_trees 35 = .ok (.iload_n 3, 1) := by decide +kernel
theorem dM_trees_36 : decode cM_trees 36 = .ok (.iaload, 1) := by decide +kernel
theorem dM_trees_37 : decode cM_trees 37 = .ok (.iload_n 1, 1) := by decide +kernel
theorem dM_trees_38 : decode cM_trees 38 = .ok (.if_icmp .ne 7, 3) := by decide +kernel
theorem dM_trees_41 : decode cM_trees 41 = .ok (.iconst 1, 1) := by decide +kernel
theorem dM_trees_42 : decode cM_trees 42 = .ok (.goto 4, 3) := by decide +kernel
theorem dM_trees_45 : decode cM_trees 45 = .ok (.iconst 0, 1) := by decide +kernel
theorem dM_trees_46 : decode cM_trees 46 = .ok (.iadd, 1) := by decide +kernel
theorem dM_trees_47 : decode cM_trees 47 = .ok (.istore_n 2, 1) := by decide +kernel
theorem dM_trees_48 : decode cM_trees 48 = .ok (.iinc 3 1, 3) := by decide +kernel
theorem dM_trees_51 : decode cM_trees 51 = .ok (.goto (-27), 3) := by decide +kernel
theorem dM_trees_54 : decode cM_trees 54 = .ok (.iload_n 2, 1) := by decide +kernel
theorem dM_trees_55 : decode cM_trees 55 = .ok (.ireturn, 1) := by decide +kernel
theorem dM_endOf_0 : decode cM_endOf 0 = .ok (.iload_n 2, 1) := by decide +kernel
theorem dM_endOf_1 : decode cM_endOf 1 = .ok (.iconst 1, 1) := by decide +kernel
theorem dM_endOf_2 : decode cM_endOf 2 = .ok (.iadd, 1) := by decide +kernel
theorem dM_endOf_3 : decode cM_endOf 3 = .ok (.istore_n 3, 1) := by decide +kernel
theorem dM_endOf_4 : decode cM_endOf 4 = .ok (.iload_n 3, 1) := by decide +kernel
theorem dM_endOf_5 : decode cM_endOf 5 = .ok (.aload_n 0, 1) := by decide +kernel
theorem dM_endOf_6 : decode cM_endOf 6 = .ok (.getfield 17, 3) := by decide +kernel
theorem dM_endOf_9 : decode cM_endOf 9 = .ok (.iload_n 1, 1) := by decide +kernel
theorem dM_endOf_10 : decode cM_endOf 10 = .ok (.iaload, 1) := by decide +kernel
theorem dM_endOf_11 : decode cM_endOf 11 = .ok (.if_icmp .ge 34, 3) := by decide +kernel
theorem dM_endOf_14 : decode cM_endOf 14 = .ok (.aload_n 0, 1) := by decide +kernel
theorem dM_endOf_15 : decode cM_endOf 15 = .ok (.getfield 21, 3) := by decide +kernel
theorem dM_endOf_18 : decode cM_endOf 18 = .ok (.bipush 6, 2) := by decide +kernel
theorem dM_endOf_20 : decode cM_endOf 20 = .ok (.iload_n 1, 1) := by decide +kernel
theorem dM_endOf_21 : decode cM_endOf 21 = .ok (.imul, 1) := by decide +kernel
theorem dM_endOf_22 : decode cM_endOf 22 = .ok (.iload_n 3, 1) := by decide +kernel
theorem dM_endOf_23 : decode cM_endOf 23 = .ok (.iadd, 1) := by decide +kernel
theorem dM_endOf_24 : decode cM_endOf 24 = .ok (.iaload, 1) := by decide +kernel
theorem dM_endOf_25 : decode cM_endOf 25 = .ok (.aload_n 0, 1) := by decide +kernel
theorem dM_endOf_26 : decode cM_endOf 26 = .ok (.getfield 21, 3) := by decide +kernel
theorem dM_endOf_29 : decode cM_endOf 29 = .ok (.bipush 6, 2) := by decide +kernel
theorem dM_endOf_31 : decode cM_endOf 31 = .ok (.iload_n 1, 1) := by decide +kernel
theorem dM_endOf_32 : decode cM_endOf 32 = .ok (.imul, 1) := by decide +kernel
theorem dM_endOf_33 : decode cM_endOf 33 = .ok (.iload_n 2, 1) := by decide +kernel
theorem dM_endOf_34 : decode cM_endOf 34 = .ok (.iadd, 1) := by decide +kernel
theorem dM_endOf_35 : decode cM_endOf 35 = .ok (.iaload, 1) := by decide +kernel
theorem dM_endOf_36 : decode cM_endOf 36 = .ok (.if_icmp .le 9, 3) := by decide +kernel
theorem dM_endOf_39 : decode cM_endOf 39 = .ok (.iinc 3 1, 3) := by decide +kernel
theorem dM_endOf_42 : decode cM_endOf 42 = .ok (.goto (-38), 3) := by decide +kernel
theorem dM_endOf_45 : decode cM_endOf 45 = .ok (.iload_n 3, 1) := by decide +kernel
theorem dM_endOf_46 : decode cM_endOf 46 = .ok (.ireturn, 1) := by decide +kernel
theorem dM_symmetry_0 : decode cM_symmetry 0 = .ok (.iconst 1, 1) := by decide +kernel
theorem dM_symmetry_1 : decode cM_symmetry 1 = .ok (.istore_n 2, 1) := by decide +kernel
theorem dM_symmetry_2 : decode cM_symmetry 2 = .ok (.iconst 0, 1) := by decide +kernel
theorem dM_symmetry_3 : decode cM_symmetry 3 = .ok (.istore_n 3, 1) := by decide +kernel
theorem dM_symmetry_4 : decode cM_symmetry 4 = .ok (.iload_n 3, 1) := by decide +kernel
theorem dM_symmetry_5 : decode cM_symmetry 5 = .ok (.aload_n 0, 1) := by decide +kernel
theorem dM_symmetry_6 : decode cM_symmetry 6 = .ok (.getfield 17, 3) := by decide +kernel
theorem dM_symmetry_9 : decode cM_symmetry 9 = .ok (.iload_n 1, 1) := by decide +kernel
theorem dM_symmetry_10 : decode cM_symmetry 10 = .ok (.iaload, 1) := by decide +kernel
theorem dM_symmetry_11 : decode cM_symmetry 11 = .ok (.if_icmp .ge 165, 3) := by decide +kernel
theorem dM_symmetry_14 : decode cM_symmetry 14 = .ok (.aload_n 0, 1) := by decide +kernel
theorem dM_symmetry_15 : decode cM_symmetry 15 = .ok (.iload_n 1, 1) := by decide +kernel
theorem dM_symmetry_16 : decode cM_symmetry 16 = .ok (.iload_n 3, 1) := by decide +kernel
theorem dM_symmetry_17 : decode cM_symmetry 17 = .ok (.invokevirtual 91, 3) := by decide +kernel
theorem dM_symmetry_20 : decode cM_symmetry 20 = .ok (.istore 4, 2) := by decide +kernel
theorem dM_symmetry_22 : decode cM_symmetry 22 = .ok (.iconst 0, 1) := by decide +kernel
theorem dM_symmetry_23 : decode cM_symmetry 23 = .ok (.istore 5, 2) := by decide +kernel
theorem dM_symmetry_25 : decode cM_symmetry 25 = .ok (.ldc 95, 2) := by decide +kernel
theorem dM_symmetry_27 : decode cM_symmetry 27 = .ok (.istore 6, 2) := by decide +kernel
theorem dM_symmetry_29 : decode cM_symmetry 29 = .ok (.iload_n 3, 1) := by decide +kernel
theorem dM_symmetry_30 : decode cM_symmetry 30 = .ok (.iconst 1, 1) := by decide +kernel
theorem dM_symmetry_31 : decode cM_symmetry 31 = .ok (.iadd, 1) := by decide +kernel
theorem dM_symmetry_32 : decode cM_symmetry 32 = .ok (.istore 7, 2) := by decide +kernel
theorem dM_symmetry_34 : decode cM_symmetry 34 = .ok (.iload 7, 2) := by decide +kernel
theorem dM_symmetry_36 : decode cM_symmetry 36 = .ok (.iload 4, 2) := by decide +kernel
theorem dM_symmetry_38 : decode cM_symmetry 38 = .ok (.if_icmp .ge 132, 3) := by decide +kernel
theorem dM_symmetry_41 : decode cM_symmetry 41 = .ok (.aload_n 0, 1) := by decide +kernel
theorem dM_symmetry_42 : decode cM_symmetry 42 = .ok (.iload_n 1, 1) := by decide +kernel
theorem dM_symmetry_43 : decode cM_symmetry 43 = .ok (.iload 7, 2) := by decide +kernel
theorem dM_symmetry_45 : decode cM_symmetry 45 = .ok (.invokevirtual 91, 3) := by decide +kernel
theorem dM_symmetry_48 : decode cM_symmetry 48 = .ok (.istore 8, 2) := by decide +kernel
theorem dM_symmetry_50 : decode cM_symmetry 50 = .ok (.iload 6, 2) := by decide +kernel
theorem dM_symmetry_52 : decode cM_symmetry 52 = .ok (.ldc 95, 2) := by decide +kernel
theorem dM_symmetry_54 : decode cM_symmetry 54 = .ok (.if_icmp .eq 20, 3) := by decide +kernel
theorem dM_symmetry_57 : decode cM_symmetry 57 = .ok (.iload 8, 2) := by decide +kernel
theorem dM_symmetry_59 : decode cM_symmetry 59 = .ok (.iload 7, 2) := by decide +kernel
theorem dM_symmetry_61 : decode cM_symmetry 61 = .ok (.isub, 1) := by decide +kernel
theorem dM_symmetry_62 : decode cM_symmetry 62 = .ok (.iload 7, 2) := by decide +kernel
theorem dM_symmetry_64 : decode cM_symmetry 64 = .ok (.iload 6, 2) := by decide +kernel
theorem dM_symmetry_66 : decode cM_symmetry 66 = .ok (.isub, 1) := by decide +kernel
theorem dM_symmetry_67 : decode cM_symmetry 67 = .ok (.if_icmp .ne 7, 3) := by decide +kernel
theorem dM_symmetry_70 : decode cM_symmetry 70 = .ok (.iconst 1, 1) := by decide +kernel
theorem dM_symmetry_71 : decode cM_symmetry 71 = .ok (.goto 4, 3) := by decide +kernel
theorem dM_symmetry_74 : decode cM_symmetry 74 = .ok (.iconst 0, 1) := by decide +kernel
theorem dM_symmetry_75 : decode cM_symmetry 75 = .ok (.istore 9, 2) := by decide +kernel
theorem dM_symmetry_77 : decode cM_symmetry 77 = .ok (.iload 7, 2) := by decide +kernel
theorem dM_symmetry_79 : decode cM_symmetry 79 = .ok (.istore 10, 2) := by decide +kernel
theorem dM_symmetry_81 : decode cM_symmetry 81 = .ok (.iload 10, 2) := by decide +kernel
theorem dM_symmetry_83 : decode cM_symmetry 83 = .ok (.iload 8, 2) := by decide +kernel
theorem dM_symmetry_85 : decode cM_symmetry 85 = .ok (.if_icmp .ge 54, 3) := by decide +kernel
theorem dM_symmetry_88 : decode cM_symmetry 88 = .ok (.iload 9, 2) := by decide +kernel
theorem dM_symmetry_90 : decode cM_symmetry 90 = .ok (.ifCond .eq 49, 3) := by decide +kernel
theorem dM_symmetry_93 : decode cM_symmetry 93 = .ok (.aload_n 0, 1) := by decide +kernel
theorem dM_symmetry_94 : decode cM_symmetry 94 = .ok (.getfield 21, 3) := by decide +kernel
theorem dM_symmetry_97 : decode cM_symmetry 97 = .ok (.bipush 6, 2) := by decide +kernel
theorem dM_symmetry_99 : decode cM_symmetry 99 = .ok (.iload_n 1, 1) := by decide +kernel
theorem dM_symmetry_100 : decode cM_symmetry 100 = .ok (.imul, 1) := by decide +kernel
theorem dM_symmetry_101 : decode cM_symmetry 101 = .ok (.iload 10, 2) := by decide +kernel
theorem dM_symmetry_103 : decode cM_symmetry 103 = .ok (.iadd, 1) := by decide +kernel
theorem dM_symmetry_104 : decode cM_symmetry 104 = .ok (.iaload, 1) := by decide +kernel
theorem dM_symmetry_105 : decode cM_symmetry 105 = .ok (.aload_n 0, 1) := by decide +kernel
theorem dM_symmetry_106 : decode cM_symmetry 106 = .ok (.getfield 21, 3) := by decide +kernel
theorem dM_symmetry_109 : decode cM_symmetry 109 = .ok (.bipush 6, 2) := by decide +kernel
theorem dM_symmetry_111 : decode cM_symmetry 111 = .ok (.iload_n 1, 1) := by decide +kernel
theorem dM_symmetry_112 : decode cM_symmetry 112 = .ok (.imul, 1) := by decide +kernel
theorem dM_symmetry_113 : decode cM_symmetry 113 = .ok (.iload 10, 2) := by decide +kernel
theorem dM_symmetry_115 : decode cM_symmetry 115 = .ok (.iadd, 1) := by decide +kernel
theorem dM_symmetry_116 : decode cM_symmetry 116 = .ok (.iload 7, 2) := by decide +kernel
theorem dM_symmetry_118 : decode cM_symmetry 118 = .ok (.isub, 1) := by decide +kernel
theorem dM_symmetry_119 : decode cM_symmetry 119 = .ok (.iload 6, 2) := by decide +kernel
theorem dM_symmetry_121 : decode cM_symmetry 121 = .ok (.iadd, 1) := by decide +kernel
theorem dM_symmetry_122 : decode cM_symmetry 122 = .ok (.iaload, 1) := by decide +kernel
theorem dM_symmetry_123 : decode cM_symmetry 123 = .ok (.if_icmp .ne 7, 3) := by decide +kernel
theorem dM_symmetry_126 : decode cM_symmetry 126 = .ok (.iconst 1, 1) := by decide +kernel
theorem dM_symmetry_127 : decode cM_symmetry 127 = .ok (.goto 4, 3) := by decide +kernel
theorem dM_symmetry_130 : decode cM_symmetry 130 = .ok (.iconst 0, 1) := by decide +kernel
theorem dM_symmetry_131 : decode cM_symmetry 131 = .ok (.istore 9, 2) := by decide +kernel
theorem dM_symmetry_133 : decode cM_symmetry 133 = .ok (.iinc 10 1, 3) := by decide +kernel
theorem dM_symmetry_136 : decode cM_symmetry 136 = .ok (.goto (-55), 3) := by decide +kernel
theorem dM_symmetry_139 : decode cM_symmetry 139 = .ok (.iload 9, 2) := by decide +kernel
theorem dM_symmetry_141 : decode cM_symmetry 141 = .ok (.ifCond .eq 10, 3) := by decide +kernel
theorem dM_symmetry_144 : decode cM_symmetry 144 = .ok (.iload 5, 2) := by decide +kernel
theorem dM_symmetry_146 : decode cM_symmetry 146 = .ok (.iconst 1, 1) := by decide +kernel
theorem dM_symmetry_147 : decode cM_symmetry 147 = .ok (.iadd, 1) := by decide +kernel
theorem dM_symmetry_148 : decode cM_symmetry 148 = .ok (.goto 4, 3) := by decide +kernel
theorem dM_symmetry_151 : decode cM_symmetry 151 = .ok (.iconst 1, 1) := by decide +kernel
theorem dM_symmetry_152 : decode cM_symmetry 152 = .ok (.istore 5, 2) := by decide +kernel
theorem dM_symmetry_154 : decode cM_symmetry 154 = .ok (.iload_n 2, 1) := by decide +kernel
theorem dM_symmetry_155 : decode cM_symmetry 155 = .ok (.iload 5, 2) := by decide +kernel
theorem dM_symmetry_157 : decode cM_symmetry 157 = .ok (.imul, 1) := by decide +kernel
theorem dM_symmetry_158 : decode cM_symmetry 158 = .ok (.istore_n 2, 1) := by decide +kernel
theorem dM_symmetry_159 : decode cM_symmetry 159 = .ok (.iload 7, 2) := by decide +kernel
theorem dM_symmetry_161 : decode cM_symmetry 161 = .ok (.istore 6, 2) := by decide +kernel
theorem dM_symmetry_163 : decode cM_symmetry 163 = .ok (.iload 8, 2) := by decide +kernel
theorem dM_symmetry_165 : decode cM_symmetry 165 = .ok (.istore 7, 2) := by decide +kernel
theorem dM_symmetry_167 : decode cM_symmetry 167 = .ok (.goto (-133), 3) := by decide +kernel
theorem dM_symmetry_170 : decode cM_symmetry 170 = .ok (.iinc 3 1, 3) := by decide +kernel
theorem dM_symmetry_173 : decode cM_symmetry 173 = .ok (.goto (-169), 3) := by decide +kernel
theorem dM_symmetry_176 : decode cM_symmetry 176 = .ok (.iload_n 2, 1) := by decide +kernel
theorem dM_symmetry_177 : decode cM_symmetry 177 = .ok (.ireturn, 1) := by decide +kernel
theorem dM_density_0 : decode cM_density 0 = .ok (.iconst 1, 1) := by decide +kernel
theorem dM_density_1 : decode cM_density 1 = .ok (.istore_n 2, 1) := by decide +kernel
theorem dM_density_2 : decode cM_density 2 = .ok (.iconst 0, 1) := by decide +kernel
theorem dM_density_3 : decode cM_density 3 = .ok (.istore_n 3, 1) := by decide +kernel
theorem dM_density_4 : decode cM_density 4 = .ok (.iload_n 3, 1) := by decide +kernel
theorem dM_density_5 : decode cM_density 5 = .ok (.aload_n 0, 1) := by decide +kernel
theorem dM_density_6 : decode cM_density 6 = .ok (.getfield 17, 3) := by decide +kernel
theorem dM_density_9 : decode cM_density 9 = .ok (.iload_n 1, 1) := by decide +kernel
theorem dM_density_10 : decode cM_density 10 = .ok (.iaload, 1) := by decide +kernel
