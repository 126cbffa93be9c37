theorem dM_density_11 : decode cM_density 11 = .ok (.if_icmp .ge 20, 3) := by decide +kernel
theorem dM_density_14 : decode cM_density 14 = .ok (.iload_n 2, 1) := by decide +kernel
theorem dM_density_15 : decode cM_density 15 = .ok (.aload_n 0, 1) := by decide +kernel
theorem dM_density_16 : decode cM_density 16 = .ok (.iload_n 1, 1) := by decide +kernel
theorem dM_density_17 : decode cM_density 17 = .ok (.iload_n 3, 1) := by decide +kernel
theorem dM_density_18 : decode cM_density 18 = .ok (.invokevirtual 91, 3) := by decide +kernel
theorem dM_density_21 : decode cM_density 21 = .ok (.iload_n 3, 1) := by decide +kernel
theorem dM_density_22 : decode cM_density 22 = .ok (.isub, 1) := by decide +kernel
theorem dM_density_23 : decode cM_density 23 = .ok (.imul, 1) := by decide +kernel
theorem dM_density_24 : decode cM_density 24 = .ok (.istore_n 2, 1) := by decide +kernel
theorem dM_density_25 : decode cM_density 25 = .ok (.iinc 3 1, 3) := by decide +kernel
theorem dM_density_28 : decode cM_density 28 = .ok (.goto (-24), 3) := by decide +kernel
theorem dM_density_31 : decode cM_density 31 = .ok (.iload_n 2, 1) := by decide +kernel
theorem dM_density_32 : decode cM_density 32 = .ok (.ireturn, 1) := by decide +kernel
theorem dM_tree_0 : decode cM_tree 0 = .ok (.aload_n 0, 1) := by decide +kernel
theorem dM_tree_1 : decode cM_tree 1 = .ok (.iconst 0, 1) := by decide +kernel
theorem dM_tree_2 : decode cM_tree 2 = .ok (.putfield 1, 3) := by decide +kernel
theorem dM_tree_5 : decode cM_tree 5 = .ok (.iload_n 1, 1) := by decide +kernel
theorem dM_tree_6 : decode cM_tree 6 = .ok (.invokestatic 96, 3) := by decide +kernel
theorem dM_tree_9 : decode cM_tree 9 = .ok (.ifCond .eq 15, 3) := by decide +kernel
theorem dM_tree_12 : decode cM_tree 12 = .ok (.iload_n 2, 1) := by decide +kernel
theorem dM_tree_13 : decode cM_tree 13 = .ok (.i2l, 1) := by decide +kernel
theorem dM_tree_14 : decode cM_tree 14 = .ok (.lconst 0, 1) := by decide +kernel
theorem dM_tree_15 : decode cM_tree 15 = .ok (.ldc2_w 99, 3) := by decide +kernel
theorem dM_tree_18 : decode cM_tree 18 = .ok (.invokestatic 71, 3) := by decide +kernel
theorem dM_tree_21 : decode cM_tree 21 = .ok (.ifCond .ne 6, 3) := by decide +kernel
theorem dM_tree_24 : decode cM_tree 24 = .ok (.ldc 90, 2) := by decide +kernel
theorem dM_tree_26 : decode cM_tree 26 = .ok (.ireturn, 1) := by decide +kernel
theorem dM_tree_27 : decode cM_tree 27 = .ok (.iconst 0, 1) := by decide +kernel
theorem dM_tree_28 : decode cM_tree 28 = .ok (.istore_n 3, 1) := by decide +kernel
theorem dM_tree_29 : decode cM_tree 29 = .ok (.iconst 0, 1) := by decide +kernel
theorem dM_tree_30 : decode cM_tree 30 = .ok (.istore 4, 2) := by decide +kernel
theorem dM_tree_32 : decode cM_tree 32 = .ok (.iload 4, 2) := by decide +kernel
theorem dM_tree_34 : decode cM_tree 34 = .ok (.aload_n 0, 1) := by decide +kernel
theorem dM_tree_35 : decode cM_tree 35 = .ok (.getfield 17, 3) := by decide +kernel
theorem dM_tree_38 : decode cM_tree 38 = .ok (.iload_n 1, 1) := by decide +kernel
theorem dM_tree_39 : decode cM_tree 39 = .ok (.iaload, 1) := by decide +kernel
theorem dM_tree_40 : decode cM_tree 40 = .ok (.if_icmp .ge 33, 3) := by decide +kernel
theorem dM_tree_43 : decode cM_tree 43 = .ok (.iload_n 3, 1) := by decide +kernel
theorem dM_tree_44 : decode cM_tree 44 = .ok (.aload_n 0, 1) := by decide +kernel
theorem dM_tree_45 : decode cM_tree 45 = .ok (.getfield 21, 3) := by decide +kernel
theorem dM_tree_48 : decode cM_tree 48 = .ok (.bipush 6, 2) := by decide +kernel
theorem dM_tree_50 : decode cM_tree 50 = .ok (.iload_n 1, 1) := by decide +kernel
theorem dM_tree_51 : decode cM_tree 51 = .ok (.imul, 1) := by decide +kernel
theorem dM_tree_52 : decode cM_tree 52 = .ok (.iload 4, 2) := by decide +kernel
theorem dM_tree_54 : decode cM_tree 54 = .ok (.iadd, 1) := by decide +kernel
theorem dM_tree_55 : decode cM_tree 55 = .ok (.iaload, 1) := by decide +kernel
theorem dM_tree_56 : decode cM_tree 56 = .ok (.iconst 1, 1) := by decide +kernel
theorem dM_tree_57 : decode cM_tree 57 = .ok (.if_icmp .ne 7, 3) := by decide +kernel
theorem dM_tree_60 : decode cM_tree 60 = .ok (.iconst 1, 1) := by decide +kernel
theorem dM_tree_61 : decode cM_tree 61 = .ok (.goto 4, 3) := by decide +kernel
theorem dM_tree_64 : decode cM_tree 64 = .ok (.iconst 0, 1) := by decide +kernel
theorem dM_tree_65 : decode cM_tree 65 = .ok (.iadd, 1) := by decide +kernel
theorem dM_tree_66 : decode cM_tree 66 = .ok (.istore_n 3, 1) := by decide +kernel
theorem dM_tree_67 : decode cM_tree 67 = .ok (.iinc 4 1, 3) := by decide +kernel
theorem dM_tree_70 : decode cM_tree 70 = .ok (.goto (-38), 3) := by decide +kernel
theorem dM_tree_73 : decode cM_tree 73 = .ok (.iload_n 2, 1) := by decide +kernel
theorem dM_tree_74 : decode cM_tree 74 = .ok (.ifCond .ne 12, 3) := by decide +kernel
theorem dM_tree_77 : decode cM_tree 77 = .ok (.aload_n 0, 1) := by decide +kernel
theorem dM_tree_78 : decode cM_tree 78 = .ok (.getfield 17, 3) := by decide +kernel
theorem dM_tree_81 : decode cM_tree 81 = .ok (.iload_n 1, 1) := by decide +kernel
theorem dM_tree_82 : decode cM_tree 82 = .ok (.iaload, 1) := by decide +kernel
theorem dM_tree_83 : decode cM_tree 83 = .ok (.goto 30, 3) := by decide +kernel
theorem dM_tree_86 : decode cM_tree 86 = .ok (.iload_n 2, 1) := by decide +kernel
theorem dM_tree_87 : decode cM_tree 87 = .ok (.iconst 1, 1) := by decide +kernel
theorem dM_tree_88 : decode cM_tree 88 = .ok (.if_icmp .ne 11, 3) := by decide +kernel
theorem dM_tree_91 : decode cM_tree 91 = .ok (.aload_n 0, 1) := by decide +kernel
theorem dM_tree_92 : decode cM_tree 92 = .ok (.iload_n 1, 1) := by decide +kernel
theorem dM_tree_93 : decode cM_tree 93 = .ok (.invokevirtual 101, 3) := by decide +kernel
theorem dM_tree_96 : decode cM_tree 96 = .ok (.goto 17, 3) := by decide +kernel
theorem dM_tree_99 : decode cM_tree 99 = .ok (.iload_n 2, 1) := by decide +kernel
theorem dM_tree_100 : decode cM_tree 100 = .ok (.iconst 2, 1) := by decide +kernel
theorem dM_tree_101 : decode cM_tree 101 = .ok (.if_icmp .ne 11, 3) := by decide +kernel
theorem dM_tree_104 : decode cM_tree 104 = .ok (.aload_n 0, 1) := by decide +kernel
theorem dM_tree_105 : decode cM_tree 105 = .ok (.iload_n 1, 1) := by decide +kernel
theorem dM_tree_106 : decode cM_tree 106 = .ok (.invokevirtual 105, 3) := by decide +kernel
theorem dM_tree_109 : decode cM_tree 109 = .ok (.goto 4, 3) := by decide +kernel
theorem dM_tree_112 : decode cM_tree 112 = .ok (.iload_n 3, 1) := by decide +kernel
theorem dM_tree_113 : decode cM_tree 113 = .ok (.ireturn, 1) := by decide +kernel
theorem dM_level_0 : decode cM_level 0 = .ok (.aload_n 0, 1) := by decide +kernel
theorem dM_level_1 : decode cM_level 1 = .ok (.iconst 0, 1) := by decide +kernel
theorem dM_level_2 : decode cM_level 2 = .ok (.putfield 1, 3) := by decide +kernel
theorem dM_level_5 : decode cM_level 5 = .ok (.iload_n 1, 1) := by decide +kernel
theorem dM_level_6 : decode cM_level 6 = .ok (.invokestatic 96, 3) := by decide +kernel
theorem dM_level_9 : decode cM_level 9 = .ok (.ifCond .ne 8, 3) := by decide +kernel
theorem dM_level_12 : decode cM_level 12 = .ok (.ldc 90, 2) := by decide +kernel
theorem dM_level_14 : decode cM_level 14 = .ok (.goto 37, 3) := by decide +kernel
theorem dM_level_17 : decode cM_level 17 = .ok (.iload_n 2, 1) := by decide +kernel
theorem dM_level_18 : decode cM_level 18 = .ok (.i2l, 1) := by decide +kernel
theorem dM_level_19 : decode cM_level 19 = .ok (.lconst 0, 1) := by decide +kernel
theorem dM_level_20 : decode cM_level 20 = .ok (.aload_n 0, 1) := by decide +kernel
theorem dM_level_21 : decode cM_level 21 = .ok (.getfield 17, 3) := by decide +kernel
theorem dM_level_24 : decode cM_level 24 = .ok (.iload_n 1, 1) := by decide +kernel
theorem dM_level_25 : decode cM_level 25 = .ok (.iaload, 1) := by decide +kernel
theorem dM_level_26 : decode cM_level 26 = .ok (.iconst 1, 1) := by decide +kernel
theorem dM_level_27 : decode cM_level 27 = .ok (.isub, 1) := by decide +kernel
theorem dM_level_28 : decode cM_level 28 = .ok (.i2l, 1) := by decide +kernel
theorem dM_level_29 : decode cM_level 29 = .ok (.invokestatic 71, 3) := by decide +kernel
theorem dM_level_32 : decode cM_level 32 = .ok (.ifCond .eq 17, 3) := by decide +kernel
theorem dM_level_35 : decode cM_level 35 = .ok (.aload_n 0, 1) := by decide +kernel
theorem dM_level_36 : decode cM_level 36 = .ok (.getfield 21, 3) := by decide +kernel
theorem dM_level_39 : decode cM_level 39 = .ok (.bipush 6, 2) := by decide +kernel
theorem dM_level_41 : decode cM_level 41 = .ok (.iload_n 1, 1) := by decide +kernel
theorem dM_level_42 : decode cM_level 42 = .ok (.imul, 1) := by decide +kernel
theorem dM_level_43 : decode cM_level 43 = .ok (.iload_n 2, 1) := by decide +kernel
theorem dM_level_44 : decode cM_level 44 = .ok (.iadd, 1) := by decide +kernel
theorem dM_level_45 : decode cM_level 45 = .ok (.iaload, 1) := by decide +kernel
theorem dM_level_46 : decode cM_level 46 = .ok (.goto 5, 3) := by decide +kernel
theorem dM_level_49 : decode cM_level 49 = .ok (.ldc 95, 2) := by decide +kernel
theorem dM_level_51 : decode cM_level 51 = .ok (.ireturn, 1) := by decide +kernel
theorem dM_isGreater_0 : decode cM_isGreater 0 = .ok (.iload_n 2, 1) := by decide +kernel
theorem dM_isGreater_1 : decode cM_isGreater 1 = .ok (.istore 5, 2) := by decide +kernel
theorem dM_isGreater_3 : decode cM_isGreater 3 = .ok (.iload 5, 2) := by decide +kernel
theorem dM_isGreater_5 : decode cM_isGreater 5 = .ok (.iload_n 3, 1) := by decide +kernel
theorem dM_isGreater_6 : decode cM_isGreater 6 = .ok (.if_icmp .ge 86, 3) := by decide +kernel
theorem dM_isGreater_9 : decode cM_isGreater 9 = .ok (.iload 5, 2) := by decide +kernel
theorem dM_isGreater_11 : decode cM_isGreater 11 = .ok (.iload_n 2, 1) := by decide +kernel
theorem dM_isGreater_12 : decode cM_isGreater 12 = .ok (.isub, 1) := by decide +kernel
theorem dM_isGreater_13 : decode cM_isGreater 13 = .ok (.aload_n 0, 1) := by decide +kernel
theorem dM_isGreater_14 : decode cM_isGreater 14 = .ok (.getfield 17, 3) := by decide +kernel
theorem dM_isGreater_17 : decode cM_isGreater 17 = .ok (.iload 4, 2) := by decide +kernel
theorem dM_isGreater_19 : decode cM_isGreater 19 = .ok (.iaload, 1) := by decide +kernel
theorem dM_isGreater_20 : decode cM_isGreater 20 = .ok (.if_icmp .ge 23, 3) := by decide +kernel
theorem dM_isGreater_23 : decode cM_isGreater 23 = .ok (.aload_n 0, 1) := by decide +kernel
theorem dM_isGreater_24 : decode cM_isGreater 24 = .ok (.getfield 21, 3) := by decide +kernel
theorem dM_isGreater_27 : decode cM_isGreater 27 = .ok (.bipush 6, 2) := by decide +kernel
theorem dM_isGreater_29 : decode cM_isGreater 29 = .ok (.iload 4, 2) := by decide +kernel
theorem dM_isGreater_31 : decode cM_isGreater 31 = .ok (.imul, 1) := by decide +kernel
theorem dM_isGreater_32 : decode cM_isGreater 32 = .ok (.iload 5, 2) := by decide +kernel
theorem dM_isGreater_34 : decode cM_isGreater 34 = .ok (.iadd, 1) := by decide +kernel
theorem dM_isGreater_35 : decode cM_isGreater 35 = .ok (.iload_n 2, 1) := by decide +kernel
theorem dM_isGreater_36 : decode cM_isGreater 36 = .ok (.isub, 1) := by decide +kernel
theorem dM_isGreater_37 : decode cM_isGreater 37 = .ok (.iaload, 1) := by decide +kernel
theorem dM_isGreater_38 : decode cM_isGreater 38 = .ok (.iconst 1, 1) := by decide +kernel
theorem dM_isGreater_39 : decode cM_isGreater 39 = .ok (.iadd, 1) := by decide +kernel
theorem dM_isGreater_40 : decode cM_isGreater 40 = .ok (.goto 4, 3) := by decide +kernel
theorem dM_isGreater_43 : decode cM_isGreater 43 = .ok (.iconst 0, 1) := by decide +kernel
theorem dM_isGreater_44 : decode cM_isGreater 44 = .ok (.istore 6, 2) := by decide +kernel
theorem dM_isGreater_46 : decode cM_isGreater 46 = .ok (.aload_n 0, 1) := by decide +kernel
theorem dM_isGreater_47 : decode cM_isGreater 47 = .ok (.getfield 21, 3) := by decide +kernel
theorem dM_isGreater_50 : decode cM_isGreater 50 = .ok (.bipush 6, 2) := by decide +kernel
theorem dM_isGreater_52 : decode cM_isGreater 52 = .ok (.iload_n 1, 1) := by decide +kernel
theorem dM_isGreater_53 : decode cM_isGreater 53 = .ok (.imul, 1) := by decide +kernel
theorem dM_isGreater_54 : decode cM_isGreater 54 = .ok (.iload 5, 2) := by decide +kernel
theorem dM_isGreater_56 : decode cM_isGreater 56 = .ok (.iadd, 1) := by decide +kernel
theorem dM_isGreater_57 : decode cM_isGreater 57 = .ok (.iaload, 1) := by decide +kernel
theorem dM_isGreater_58 : decode cM_isGreater 58 = .ok (.iload 6, 2) := by decide +kernel
theorem dM_isGreater_60 : decode cM_isGreater 60 = .ok (.if_icmp .eq 26, 3) := by decide +kernel
theorem dM_isGreater_63 : decode cM_isGreater 63 = .ok (.aload_n 0, 1) := by decide +kernel
theorem dM_isGreater_64 : decode cM_isGreater 64 = .ok (.getfield 21, 3) := by decide +kernel
theorem dM_isGreater_67 : decode cM_isGreater 67 = .ok (.bipush 6, 2) := by decide +kernel
theorem dM_isGreater_69 : decode cM_isGreater 69 = .ok (.iload_n 1, 1) := by decide +kernel
theorem dM_isGreater_70 : decode cM_isGreater 70 = .ok (.imul, 1) := by decide +kernel
theorem dM_isGreater_71 : decode cM_isGreater 71 = .ok (.iload 5, 2) := by decide +kernel
theorem dM_isGreater_73 : decode cM_isGreater 73 = .ok (.iadd, 1) := by decide +kernel
theorem dM_isGreater_74 : decode cM_isGreater 74 = .ok (.iaload, 1) := by decide +kernel
theorem dM_isGreater_75 : decode cM_isGreater 75 = .ok (.iload 6, 2) := by decide +kernel
theorem dM_isGreater_77 : decode cM_isGreater 77 = .ok (.if_icmp .le 7, 3) := by decide +kernel
theorem dM_isGreater_80 : decode cM_isGreater 80 = .ok (.iconst 1, 1) := by decide +kernel
theorem dM_isGreater_81 : decode cM_isGreater 81 = .ok (.goto 4, 3) := by decide +kernel
theorem dM_isGreater_84 : decode cM_isGreater 84 = .ok (.iconst 0, 1) := by decide +kernel
theorem dM_isGreater_85 : decode cM_isGreater 85 = .ok (.ireturn, 1) := by decide +kernel
theorem dM_isGreater_86 : decode cM_isGreater 86 = .ok (.iinc 5 1, 3) := by decide +kernel
theorem dM_isGreater_89 : decode cM_isGreater 89 = .ok (.goto (-86), 3) := by decide +kernel
theorem dM_isGreater_92 : decode cM_isGreater 92 = .ok (.iconst 0, 1) := by decide +kernel
theorem dM_isGreater_93 : decode cM_isGreater 93 = .ok (.ireturn, 1) := by decide +kernel
theorem dM_hang_0 : decode cM_hang 0 = .ok (.aload_n 0, 1) := by decide +kernel
theorem dM_hang_1 : decode cM_hang 1 = .ok (.iconst 0, 1) := by decide +kernel
theorem dM_hang_2 : decode cM_hang 2 = .ok (.putfield 1, 3) := by decide +kernel
theorem dM_hang_5 : decode cM_hang 5 = .ok (.iload_n 1, 1) := by decide +kernel
theorem dM_hang_6 : decode cM_hang 6 = .ok (.invokestatic 96, 3) := by decide +kernel
theorem dM_hang_9 : decode cM_hang 9 = .ok (.ifCond .eq 10, 3) := by decide +kernel
theorem dM_hang_12 : decode cM_hang 12 = .ok (.iload_n 2, 1) := by decide +kernel
theorem dM_hang_13 : decode cM_hang 13 = .ok (.invokestatic 96, 3) := by decide +kernel
theorem dM_hang_16 : decode cM_hang 16 = .ok (.ifCond .ne 6, 3) := by decide +kernel
theorem dM_hang_19 : decode cM_hang 19 = .ok (.ldc 90, 2) := by decide +kernel
theorem dM_hang_21 : decode cM_hang 21 = .ok (.ireturn, 1) := by decide +kernel
theorem dM_hang_22 : decode cM_hang 22 = .ok (.aload_n 0, 1) := by decide +kernel
theorem dM_hang_23 : decode cM_hang 23 = .ok (.getfield 17, 3) := by decide +kernel
theorem dM_hang_26 : decode cM_hang 26 = .ok (.iload_n 1, 1) := by decide +kernel
theorem dM_hang_27 : decode cM_hang 27 = .ok (.iaload, 1) := by decide +kernel
theorem dM_hang_28 : decode cM_hang 28 = .ok (.aload_n 0, 1) := by decide +kernel
theorem dM_hang_29 : decode cM_hang 29 = .ok (.getfield 17, 3) := by decide +kernel
theorem dM_hang_32 : decode cM_hang 32 = .ok (.iload_n 2, 1) := by decide +kernel
theorem dM_hang_33 : decode cM_hang 33 = .ok (.iaload, 1) := by decide +kernel
theorem dM_hang_34 : decode cM_hang 34 = .ok (.iadd, 1) := by decide +kernel
theorem dM_hang_35 : decode cM_hang 35 = .ok (.istore_n 3, 1) := by decide +kernel
theorem dM_hang_36 : decode cM_hang 36 = .ok (.iload_n 3, 1) := by decide +kernel
theorem dM_hang_37 : decode cM_hang 37 = .ok (.bipush 6, 2) := by decide +kernel
theorem dM_hang_39 : decode cM_hang 39 = .ok (.if_icmp .le 6, 3) := by decide +kernel
theorem dM_hang_42 : decode cM_hang 42 = .ok (.ldc 95, 2) := by decide +kernel
theorem dM_hang_44 : decode cM_hang 44 = .ok (.ireturn, 1) := by decide +kernel
theorem dM_hang_45 : decode cM_hang 45 = .ok (.iconst 1, 1) := by decide +kernel
theorem dM_hang_46 : decode cM_hang 46 = .ok (.istore 4, 2) := by decide +kernel
theorem dM_hang_48 : decode cM_hang 48 = .ok (.iconst 1, 1) := by decide +kernel
theorem dM_hang_49 : decode cM_hang 49 = .ok (.istore 5, 2) := by decide +kernel
theorem dM_hang_51 : decode cM_hang 51 = .ok (.iload 4, 2) := by decide +kernel
theorem dM_hang_53 : decode cM_hang 53 = .ok (.aload_n 0, 1) := by decide +kernel
theorem dM_hang_54 : decode cM_hang 54 = .ok (.getfield 17, 3) := by decide +kernel
theorem dM_hang_57 : decode cM_hang 57 = .ok (.iload_n 1, 1) := by decide +kernel
theorem dM_hang_58 : decode cM_hang 58 = .ok (.iaload, 1) := by decide +kernel
theorem dM_hang_59 : decode cM_hang 59 = .ok (.if_icmp .ge 46, 3) := by decide +kernel
theorem dM_hang_62 : decode cM_hang 62 = .ok (.iload 5, 2) := by decide +kernel
theorem dM_hang_64 : decode cM_hang 64 = .ok (.ifCond .eq 41, 3) := by decide +kernel
theorem dM_hang_67 : decode cM_hang 67 = .ok (.aload_n 0, 1) := by decide +kernel
theorem dM_hang_68 : decode cM_hang 68 = .ok (.iload_n 1, 1) := by decide +kernel
theorem dM_hang_69 : decode cM_hang 69 = .ok (.iload 4, 2) := by decide +kernel
theorem dM_hang_71 : decode cM_hang 71 = .ok (.invokevirtual 91, 3) := by decide +kernel
theorem dM_hang_74 : decode cM_hang 74 = .ok (.istore 6, 2) := by decide +kernel
theorem dM_hang_76 : decode cM_hang 76 = .ok (.aload_n 0, 1) := by decide +kernel
theorem dM_hang_77 : decode cM_hang 77 = .ok (.iload_n 1, 1) := by decide +kernel
theorem dM_hang_78 : decode cM_hang 78 = .ok (.iload 4, 2) := by decide +kernel
theorem dM_hang_80 : decode cM_hang 80 = .ok (.iload 6, 2) := by decide +kernel
theorem dM_hang_82 : decode cM_hang 82 = .ok (.iload_n 2, 1) := by decide +kernel
theorem dM_hang_83 : decode cM_hang 83 = .ok (.invokevirtual 108, 3) := by decide +kernel
theorem dM_hang_86 : decode cM_hang 86 = .ok (.istore 5, 2) := by decide +kernel
theorem dM_hang_88 : decode cM_hang 88 = .ok (.iload 5, 2) := by decide +kernel
theorem dM_hang_90 : decode cM_hang 90 = .ok (.ifCond .eq 8, 3) := by decide +kernel
theorem dM_hang_93 : decode cM_hang 93 = .ok (.iload 6, 2) := by decide +kernel
theorem dM_hang_95 : decode cM_hang 95 = .ok (.goto 5, 3) := by decide +kernel
theorem dM_hang_98 : decode cM_hang 98 = .ok (.iload 4, 2) := by decide +kernel
theorem dM_hang_100 : decode cM_hang 100 = .ok (.istore 4, 2) := by decide +kernel
theorem dM_hang_102 : decode cM_hang 102 = .ok (.goto (-51), 3) := by decide +kernel
theorem dM_hang_105 : decode cM_hang 105 = .ok (.iconst 0, 1) := by decide +kernel
theorem dM_hang_106 : decode cM_hang 106 = .ok (.istore 6, 2) := by decide +kernel
theorem dM_hang_108 : decode cM_hang 108 = .ok (.iload 6, 2) := by decide +kernel
theorem dM_hang_110 : decode cM_hang 110 = .ok (.iload_n 3, 1) := by decide +kernel
theorem dM_hang_111 : decode cM_hang 111 = .ok (.if_icmp .ge 91, 3) := by decide +kernel
theorem dM_hang_114 : decode cM_hang 114 = .ok (.aload_n 0, 1) := by decide +kernel
theorem dM_hang_115 : decode cM_hang 115 = .ok (.getfield 24, 3) := by decide +kernel
theorem dM_hang_118 : decode cM_hang 118 = .ok (.iload 6, 2) := by decide +kernel
theorem dM_hang_120 : decode cM_hang 120 = .ok (.iload 6, 2) := by decide +kernel
theorem dM_hang_122 : decode cM_hang 122 = .ok (.iload 4, 2) := by decide +kernel
theorem dM_hang_124 : decode cM_hang 124 = .ok (.if_icmp .ge 18, 3) := by decide +kernel
theorem dM_hang_127 : decode cM_hang 127 = .ok (.aload_n 0, 1) := by decide +kernel
theorem dM_hang_128 : decode cM_hang 128 = .ok (.getfield 21, 3) := by decide +kernel
theorem dM_hang_131 : decode cM_hang 131 = .ok (.bipush 6, 2) := by decide +kernel
theorem dM_hang_133 : decode cM_hang 133 = .ok (.iload_n 1, 1) := by decide +kernel
theorem dM_hang_134 : decode cM_hang 134 = .ok (.imul, 1) := by decide +kernel
theorem dM_hang_135 : decode cM_hang 135 = .ok (.iload 6, 2) := by decide +kernel
theorem dM_hang_137 : decode cM_hang 137 = .ok (.iadd, 1) := by decide +kernel
theorem dM_hang_138 : decode cM_hang 138 = .ok (.iaload, 1) := by decide +kernel
theorem dM_hang_139 : decode cM_hang 139 = .ok (.goto 56, 3) := by decide +kernel
theorem dM_hang_142 : decode cM_hang 142 = .ok (.iload 6, 2) := by decide +kernel
theorem dM_hang_144 : decode cM_hang 144 = .ok (.iload 4, 2) := by decide +kernel
theorem dM_hang_146 : decode cM_hang 146 = .ok (.aload_n 0, 1) := by decide +kernel
theorem dM_hang_147 : decode cM_hang 147 = .ok (.getfield 17, 3) := by decide +kernel
theorem dM_hang_150 : decode cM_hang 150 = .ok (.iload_n 2, 1) := by decide +kernel
theorem dM_hang_151 : decode cM_hang 151 = .ok (.iaload, 1) := by decide +kernel
theorem dM_hang_152 : decode cM_hang 152 = .ok (.iadd, 1) := by decide +kernel
theorem dM_hang_153 : decode cM_hang 153 = .ok (.if_icmp .ge 23, 3) := by decide +kernel
theorem dM_hang_156 : decode cM_hang 156 = .ok (.aload_n 0, 1) := by decide +kernel
theorem dM_hang_157 : decode cM_hang 157 = .ok (.getfield 21, 3) := by decide +kernel
theorem dM_hang_160 : decode cM_hang 160 = .ok (.bipush 6, 2) := by decide +kernel
theorem dM_hang_162 : decode cM_hang 162 = .ok (.iload_n 2, 1) := by decide +kernel
theorem dM_hang_163 : decode cM_hang 163 = .ok (.imul, 1) := by decide +kernel
theorem dM_hang_164 : decode cM_hang 164 = .ok (.iload 6, 2) := by decide +kernel
theorem dM_hang_166 : decode cM_hang 166 = .ok (.iadd, 1) := by decide +kernel
theorem dM_hang_167 : decode cM_hang 167 = .ok (.iload 4, 2) := by decide +kernel
theorem dM_hang_169 : decode cM_hang 169 = .ok (.isub, 1) := by decide +kernel
theorem dM_hang_170 : decode cM_hang 170 = .ok (.iaload, 1) := by decide +kernel
theorem dM_hang_171 : decode cM_hang 171 = .ok (.iconst 1, 1) := by decide +kernel
theorem dM_hang_172 : decode cM_hang 172 = .ok (.iadd, 1) := by decide +kernel
theorem dM_hang_173 : decode cM_hang 173 = .ok (.goto 22, 3) := by decide +kernel
theorem dM_hang_176 : decode cM_hang 176 = .ok (.aload_n 0, 1) := by decide +kernel
theorem dM_hang_177 : decode cM_hang 177 = .ok (.getfield 21, 3) := by decide +kernel
theorem dM_hang_180 : decode cM_hang 180 = .ok (.bipush 6, 2) := by decide +kernel
theorem dM_hang_182 : decode cM_hang 182 = .ok (.iload_n 1, 1) := by decide +kernel
theorem dM_hang_183 : decode cM_hang 183 = .ok (.imul, 1) := by decide +kernel
theorem dM_hang_184 : decode cM_hang 184 = .ok (.iload 6, 2) := by decide +kernel
theorem dM_hang_186 : decode cM_hang 186 = .ok (.iadd, 1) := by decide +kernel
theorem dM_hang_187 : decode cM_hang 187 = .ok (.aload_n 0, 1) := by decide +kernel
theorem dM_hang_188 : decode cM_hang 188 = .ok (.getfield 17, 3) := by decide +kernel
theorem dM_hang_191 : decode cM_hang 191 = .ok (.iload_n 2, 1) := by decide +kernel
theorem dM_hang_192 : decode cM_hang 192 = .ok (.iaload, 1) := by decide +kernel
theorem dM_hang_193 : decode cM_hang 193 = .ok (.isub, 1) := by decide +kernel
theorem dM_hang_194 : decode cM_hang 194 = .ok (.iaload, 1) := by decide +kernel
theorem dM_hang_195 : decode cM_hang 195 = .ok (.iastore, 1) := by decide +kernel
theorem dM_hang_196 : decode cM_hang 196 = .ok (.iinc 6 1, 3) := by decide +kernel
theorem dM_hang_199 : decode cM_hang 199 = .ok (.goto (-91), 3) := by decide +kernel
theorem dM_hang_202 : decode cM_hang 202 = .ok (.ldc 95, 2) := by decide +kernel
theorem dM_hang_204 : decode cM_hang 204 = .ok (.istore 6, 2) := by decide +kernel
theorem dM_hang_206 : decode cM_hang 206 = .ok (.iconst 0, 1) := by decide +kernel
theorem dM_hang_207 : decode cM_hang 207 = .ok (.istore 7, 2) := by decide +kernel
theorem dM_hang_209 : decode cM_hang 209 = .ok (.iload 7, 2) := by decide +kernel
theorem dM_hang_211 : decode cM_hang 211 = .ok (.bipush 37, 2) := by decide +kernel
theorem dM_hang_213 : decode cM_hang 213 = .ok (.if_icmp .ge 91, 3) := by decide +kernel
theorem dM_hang_216 : decode cM_hang 216 = .ok (.aload_n 0, 1) := by decide +kernel
theorem dM_hang_217 : decode cM_hang 217 = .ok (.getfield 17, 3) := by decide +kernel
theorem dM_hang_220 : decode cM_hang 220 = .ok (.iload 7, 2) := by decide +kernel
theorem dM_hang_222 : decode cM_hang 222 = .ok (.iaload, 1) := by decide +kernel
theorem dM_hang_223 : decode cM_hang 223 = .ok (.iload_n 3, 1) := by decide +kernel
theorem dM_hang_224 : decode cM_hang 224 = .ok (.if_icmp .ne 7, 3) := by decide +kernel
theorem dM_hang_227 : decode cM_hang 227 = .ok (.iconst 1, 1) := by decide +kernel
theorem dM_hang_228 : decode cM_hang 228 = .ok (.goto 4, 3) := by decide +kernel
theorem dM_hang_231 : decode cM_hang 231 = .ok (.iconst 0, 1) := by decide +kernel
theorem dM_hang_232 : decode cM_hang 232 = .ok (.istore 8, 2) := by decide +kernel
theorem dM_hang_234 : decode cM_hang 234 = .ok (.iconst 0, 1) := by decide +kernel
theorem dM_hang_235 : decode cM_hang 235 = .ok (.istore 9, 2) := by decide +kernel
theorem dM_hang_237 : decode cM_hang 237 = .ok (.iload 9, 2) := by decide +kernel
theorem dM_hang_239 : decode cM_hang 239 = .ok (.iload_n 3, 1) := by decide +kernel
theorem dM_hang_240 : decode cM_hang 240 = .ok (.if_icmp .ge 44, 3) := by decide +kernel
theorem dM_hang_243 : decode cM_hang 243 = .ok (.iload 8, 2) := by decide +kernel
theorem dM_hang_245 : decode cM_hang 245 = .ok (.ifCond .eq 30, 3) := by decide +kernel
theorem dM_hang_248 : decode cM_hang 248 = .ok (.aload_n 0, 1) := by decide +kernel
theorem dM_hang_249 : decode cM_hang 249 = .ok (.getfield 21, 3) := by decide +kernel
theorem dM_hang_252 : decode cM_hang 252 = .ok (.bipush 6, 2) := by decide +kernel
theorem dM_hang_254 : decode cM_hang 254 = .ok (.iload 7, 2) := by decide +kernel
theorem dM_hang_256 : decode cM_hang 256 = .ok (.imul, 1) := by decide +kernel
theorem dM_hang_257 : decode cM_hang 257 = .ok (.iload 9, 2) := by decide +kernel
theorem dM_hang_259 : decode cM_hang 259 = .ok (.iadd, 1) := by decide +kernel
theorem dM_hang_260 : decode cM_hang 260 = .ok (.iaload, 1) := by decide +kernel
theorem dM_hang_261 : decode cM_hang 261 = .ok (.aload_n 0, 1) := by decide +kernel
theorem dM_hang_262 : decode cM_hang 262 = .ok (.getfield 24, 3) := by decide +kernel
theorem dM_hang_265 : decode cM_hang 265 = .ok (.iload 9, 2) := by decide +kernel
theorem dM_hang_267 : decode cM_hang 267 = .ok (.iaload, 1) := by decide +kernel
theorem dM_hang_268 : decode cM_hang 268 = .ok (.if_icmp .ne 7, 3) := by decide +kernel
theorem dM_hang_271 : decode cM_hang 271 = .ok (.iconst 1, 1) := by decide +kernel
theorem dM_hang_272 : decode cM_hang 272 = .ok (.goto 4, 3) := by decide +kernel
theorem dM_hang_275 : decode cM_hang 275 = .ok (.iconst 0, 1) := by decide +kernel
theorem dM_hang_276 : decode cM_hang 276 = .ok (.istore 8, 2) := by decide +kernel
theorem dM_hang_278 : decode cM_hang 278 = .ok (.iinc 9 1, 3) := by decide +kernel
theorem dM_hang_281 : decode cM_hang 281 = .ok (.goto (-44), 3) := by decide +kernel
theorem dM_hang_284 : decode cM_hang 284 = .ok (.iload 8, 2) := by decide +kernel
theorem dM_hang_286 : decode cM_hang 286 = .ok (.ifCond .eq 8, 3) := by decide +kernel
theorem dM_hang_289 : decode cM_hang 289 = .ok (.iload 7, 2) := by decide +kernel
theorem dM_hang_291 : decode cM_hang 291 = .ok (.goto 5, 3) := by decide +kernel
theorem dM_hang_294 : decode cM_hang 294 = .ok (.iload 6, 2) := by decide +kernel
theorem dM_hang_296 : decode cM_hang 296 = .ok (.istore 6, 2) := by decide +kernel
theorem dM_hang_298 : decode cM_hang 298 = .ok (.iinc 7 1, 3) := by decide +kernel
theorem dM_hang_301 : decode cM_hang 301 = .ok (.goto (-92), 3) := by decide +kernel
theorem dM_hang_304 : decode cM_hang 304 = .ok (.iload 6, 2) := by decide +kernel
theorem dM_hang_306 : decode cM_hang 306 = .ok (.ireturn, 1) := by decide +kernel
theorem dM_isSheet_0 : decode cM_isSheet 0 = .ok (.iload_n 0, 1) := by decide +kernel
theorem dM_isSheet_1 : decode cM_isSheet 1 = .ok (.i2l, 1) := by decide +kernel
theorem dM_isSheet_2 : decode cM_isSheet 2 = .ok (.lconst 0, 1) := by decide +kernel
theorem dM_isSheet_3 : decode cM_isSheet 3 = .ok (.ldc2_w 112, 3) := by decide +kernel
theorem dM_isSheet_6 : decode cM_isSheet 6 = .ok (.invokestatic 71, 3) := by decide +kernel
theorem dM_isSheet_9 : decode cM_isSheet 9 = .ok (.ireturn, 1) := by decide +kernel
theorem dM_sheet_0 : decode cM_sheet 0 = .ok (.aload_n 0, 1) := by decide +kernel
theorem dM_sheet_1 : decode cM_sheet 1 = .ok (.iconst 0, 1) := by decide +kernel
theorem dM_sheet_2 : decode cM_sheet 2 = .ok (.putfield 1, 3) := by decide +kernel
theorem dM_sheet_5 : decode cM_sheet 5 = .ok (.iload_n 1, 1) := by decide +kernel
theorem dM_sheet_6 : decode cM_sheet 6 = .ok (.invokestatic 114, 3) := by decide +kernel
theorem dM_sheet_9 : decode cM_sheet 9 = .ok (.ifCond .eq 21, 3) := by decide +kernel
theorem dM_sheet_12 : decode cM_sheet 12 = .ok (.iload_n 2, 1) := by decide +kernel
theorem dM_sheet_13 : decode cM_sheet 13 = .ok (.i2l, 1) := by decide +kernel
theorem dM_sheet_14 : decode cM_sheet 14 = .ok (.lconst 0, 1) := by decide +kernel
theorem dM_sheet_15 : decode cM_sheet 15 = .ok (.ldc2_w 117, 3) := by decide +kernel
theorem dM_sheet_18 : decode cM_sheet 18 = .ok (.invokestatic 71, 3) := by decide +kernel
theorem dM_sheet_21 : decode cM_sheet 21 = .ok (.ifCond .eq 9, 3) := by decide +kernel
theorem dM_sheet_24 : decode cM_sheet 24 = .ok (.iload_n 3, 1) := by decide +kernel
theorem dM_sheet_25 : decode cM_sheet 25 = .ok (.bipush 80, 2) := by decide +kernel
theorem dM_sheet_27 : decode cM_sheet 27 = .ok (.if_icmp .le 6, 3) := by decide +kernel
theorem dM_sheet_30 : decode cM_sheet 30 = .ok (.ldc 90, 2) := by decide +kernel
theorem dM_sheet_32 : decode cM_sheet 32 = .ok (.ireturn, 1) := by decide +kernel
theorem dM_sheet_33 : decode cM_sheet 33 = .ok (.aload_n 0, 1) := by decide +kernel
theorem dM_sheet_34 : decode cM_sheet 34 = .ok (.iconst 0, 1) := by decide +kernel
theorem dM_sheet_35 : decode cM_sheet 35 = .ok (.putfield 7, 3) := by decide +kernel
theorem dM_sheet_38 : decode cM_sheet 38 = .ok (.iload_n 3, 1) := by decide +kernel
theorem dM_sheet_39 : decode cM_sheet 39 = .ok (.ifCond .ge 9, 3) := by decide +kernel
theorem dM_sheet_42 : decode cM_sheet 42 = .ok (.aload_n 0, 1) := by decide +kernel
theorem dM_sheet_43 : decode cM_sheet 43 = .ok (.iconst 4, 1) := by decide +kernel
theorem dM_sheet_44 : decode cM_sheet 44 = .ok (.invokevirtual 119, 3) := by decide +kernel
theorem dM_sheet_47 : decode cM_sheet 47 = .ok (.ireturn, 1) := by decide +kernel
theorem dM_sheet_48 : decode cM_sheet 48 = .ok (.aload_n 0, 1) := by decide +kernel
theorem dM_sheet_49 : decode cM_sheet 49 = .ok (.getfield 27, 3) := by decide +kernel
theorem dM_sheet_52 : decode cM_sheet 52 = .ok (.iload_n 1, 1) := by decide +kernel
theorem dM_sheet_53 : decode cM_sheet 53 = .ok (.iload_n 2, 1) := by decide +kernel
theorem dM_sheet_54 : decode cM_sheet 54 = .ok (.iastore, 1) := by decide +kernel
theorem dM_sheet_55 : decode cM_sheet 55 = .ok (.aload_n 0, 1) := by decide +kernel
theorem dM_sheet_56 : decode cM_sheet 56 = .ok (.getfield 30, 3) := by decide +kernel
theorem dM_sheet_59 : decode cM_sheet 59 = .ok (.iload_n 1, 1) := by decide +kernel
theorem dM_sheet_60 : decode cM_sheet 60 = .ok (.iload_n 3, 1) := by decide +kernel
theorem dM_sheet_61 : decode cM_sheet 61 = .ok (.iastore, 1) := by decide +kernel
theorem dM_sheet_62 : decode cM_sheet 62 = .ok (.iconst 0, 1) := by decide +kernel
theorem dM_sheet_63 : decode cM_sheet 63 = .ok (.istore 4, 2) := by decide +kernel
theorem dM_sheet_65 : decode cM_sheet 65 = .ok (.iload 4, 2) := by decide +kernel
theorem dM_sheet_67 : decode cM_sheet 67 = .ok (.bipush 80, 2) := by decide +kernel
theorem dM_sheet_69 : decode cM_sheet 69 = .ok (.if_icmp .ge 22, 3) := by decide +kernel
theorem dM_sheet_72 : decode cM_sheet 72 = .ok (.aload_n 0, 1) := by decide +kernel
theorem dM_sheet_73 : decode cM_sheet 73 = .ok (.getfield 33, 3) := by decide +kernel
theorem dM_sheet_76 : decode cM_sheet 76 = .ok (.bipush 80, 2) := by decide +kernel
theorem dM_sheet_78 : decode cM_sheet 78 = .ok (.iload_n 1, 1) := by decide +kernel
theorem dM_sheet_79 : decode cM_sheet 79 = .ok (.imul, 1) := by decide +kernel
theorem dM_sheet_80 : decode cM_sheet 80 = .ok (.iload 4, 2) := by decide +kernel
theorem dM_sheet_82 : decode cM_sheet 82 = .ok (.iadd, 1) := by decide +kernel
theorem dM_sheet_83 : decode cM_sheet 83 = .ok (.lconst 0, 1) := by decide +kernel
theorem dM_sheet_84 : decode cM_sheet 84 = .ok (.lastore, 1) := by decide +kernel
theorem dM_sheet_85 : decode cM_sheet 85 = .ok (.iinc 4 1, 3) := by decide +kernel
theorem dM_sheet_88 : decode cM_sheet 88 = .ok (.goto (-23), 3) := by decide +kernel
theorem dM_sheet_91 : decode cM_sheet 91 = .ok (.iload_n 3, 1) := by decide +kernel
theorem dM_sheet_92 : decode cM_sheet 92 = .ok (.ireturn, 1) := by decide +kernel
theorem dM_set_0 : decode cM_set 0 = .ok (.aload_n 0, 1) := by decide +kernel
theorem dM_set_1 : decode cM_set 1 = .ok (.iconst 0, 1) := by decide +kernel
theorem dM_set_2 : decode cM_set 2 = .ok (.putfield 1, 3) := by decide +kernel
theorem dM_set_5 : decode cM_set 5 = .ok (.iload_n 1, 1) := by decide +kernel
theorem dM_set_6 : decode cM_set 6 = .ok (.invokestatic 114, 3) := by decide +kernel
theorem dM_set_9 : decode cM_set 9 = .ok (.ifCond .ne 7, 3) := by decide +kernel
theorem dM_set_12 : decode cM_set 12 = .ok (.ldc2_w 122, 3) := by decide +kernel
theorem dM_set_15 : decode cM_set 15 = .ok (.lreturn, 1) := by decide +kernel
theorem dM_set_16 : decode cM_set 16 = .ok (.aload_n 0, 1) := by decide +kernel
theorem dM_set_17 : decode cM_set 17 = .ok (.iconst 0, 1) := by decide +kernel
theorem dM_set_18 : decode cM_set 18 = .ok (.putfield 7, 3) := by decide +kernel
theorem dM_set_21 : decode cM_set 21 = .ok (.aload_n 0, 1) := by decide +kernel
theorem dM_set_22 : decode cM_set 22 = .ok (.getfield 27, 3) := by decide +kernel
theorem dM_set_25 : decode cM_set 25 = .ok (.iload_n 1, 1) := by decide +kernel
theorem dM_set_26 : decode cM_set 26 = .ok (.iaload, 1) := by decide +kernel
theorem dM_set_27 : decode cM_set 27 = .ok (.ifCond .ge 10, 3) := by decide +kernel
theorem dM_set_30 : decode cM_set 30 = .ok (.aload_n 0, 1) := by decide +kernel
theorem dM_set_31 : decode cM_set 31 = .ok (.iconst 1, 1) := by decide +kernel
theorem dM_set_32 : decode cM_set 32 = .ok (.invokevirtual 119, 3) := by decide +kernel
theorem dM_set_35 : decode cM_set 35 = .ok (.i2l, 1) := by decide +kernel
theorem dM_set_36 : decode cM_set 36 = .ok (.lreturn, 1) := by decide +kernel
theorem dM_set_37 : decode cM_set 37 = .ok (.iload_n 2, 1) := by decide +kernel
theorem dM_set_38 : decode cM_set 38 = .ok (.i2l, 1) := by decide +kernel
theorem dM_set_39 : decode cM_set 39 = .ok (.lconst 0, 1) := by decide +kernel
theorem dM_set_40 : decode cM_set 40 = .ok (.aload_n 0, 1) := by decide +kernel
theorem dM_set_41 : decode cM_set 41 = .ok (.getfield 30, 3) := by decide +kernel
theorem dM_set_44 : decode cM_set 44 = .ok (.iload_n 1, 1) := by decide +kernel
theorem dM_set_45 : decode cM_set 45 = .ok (.iaload, 1) := by decide +kernel
theorem dM_set_46 : decode cM_set 46 = .ok (.iconst 1, 1) := by decide +kernel
theorem dM_set_47 : decode cM_set 47 = .ok (.isub, 1) := by decide +kernel
theorem dM_set_48 : decode cM_set 48 = .ok (.i2l, 1) := by decide +kernel
theorem dM_set_49 : decode cM_set 49 = .ok (.invokestatic 71, 3) := by decide +kernel
theorem dM_set_52 : decode cM_set 52 = .ok (.ifCond .ne 10, 3) := by decide +kernel
theorem dM_set_55 : decode cM_set 55 = .ok (.aload_n 0, 1) := by decide +kernel
theorem dM_set_56 : decode cM_set 56 = .ok (.iconst 2, 1) := by decide +kernel
theorem dM_set_57 : decode cM_set 57 = .ok (.invokevirtual 119, 3) := by decide +kernel
theorem dM_set_60 : decode cM_set 60 = .ok (.i2l, 1) := by decide +kernel
theorem dM_set_61 : decode cM_set 61 = .ok (.lreturn, 1) := by decide +kernel
theorem dM_set_62 : decode cM_set 62 = .ok (.aload_n 0, 1) := by decide +kernel
theorem dM_set_63 : decode cM_set 63 = .ok (.getfield 33, 3) := by decide +kernel
theorem dM_set_66 : decode cM_set 66 = .ok (.bipush 80, 2) := by decide +kernel
theorem dM_set_68 : decode cM_set 68 = .ok (.iload_n 1, 1) := by decide +kernel
theorem dM_set_69 : decode cM_set 69 = .ok (.imul, 1) := by decide +kernel
theorem dM_set_70 : decode cM_set 70 = .ok (.iload_n 2, 1) := by decide +kernel
theorem dM_set_71 : decode cM_set 71 = .ok (.iadd, 1) := by decide +kernel
theorem dM_set_72 : decode cM_set 72 = .ok (.aload_n 0, 1) := by decide +kernel
theorem dM_set_73 : decode cM_set 73 = .ok (.getfield 27, 3) := by decide +kernel
theorem dM_set_76 : decode cM_set 76 = .ok (.iload_n 1, 1) := by decide +kernel
theorem dM_set_77 : decode cM_set 77 = .ok (.iaload, 1) := by decide +kernel
theorem dM_set_78 : decode cM_set 78 = .ok (.ifCond .ne 10, 3) := by decide +kernel
theorem dM_set_81 : decode cM_set 81 = .ok (.lload_n 3, 1) := by decide +kernel
theorem dM_set_82 : decode cM_set 82 = .ok (.l2i, 1) := by decide +kernel
theorem dM_set_83 : decode cM_set 83 = .ok (.i2b, 1) := by decide +kernel
theorem dM_set_84 : decode cM_set 84 = .ok (.i2l, 1) := by decide +kernel
theorem dM_set_85 : decode cM_set 85 = .ok (.goto 20, 3) := by decide +kernel
theorem dM_set_88 : decode cM_set 88 = .ok (.aload_n 0, 1) := by decide +kernel
theorem dM_set_89 : decode cM_set 89 = .ok (.getfield 27, 3) := by decide +kernel
theorem dM_set_92 : decode cM_set 92 = .ok (.iload_n 1, 1) := by decide +kernel
theorem dM_set_93 : decode cM_set 93 = .ok (.iaload, 1) := by decide +kernel
theorem dM_set_94 : decode cM_set 94 = .ok (.iconst 1, 1) := by decide +kernel
theorem dM_set_95 : decode cM_set 95 = .ok (.if_icmp .ne 9, 3) := by decide +kernel
theorem dM_set_98 : decode cM_set 98 = .ok (.lload_n 3, 1) := by decide +kernel
theorem dM_set_99 : decode cM_set 99 = .ok (.l2i, 1) := by decide +kernel
theorem dM_set_100 : decode cM_set 100 = .ok (.i2l, 1) := by decide +kernel
theorem dM_set_101 : decode cM_set 101 = .ok (.goto 4, 3) := by decide +kernel
theorem dM_set_104 : decode cM_set 104 = .ok (.lload_n 3, 1) := by decide +kernel
theorem dM_set_105 : decode cM_set 105 = .ok (.lastore, 1) := by decide +kernel
theorem dM_set_106 : decode cM_set 106 = .ok (.aload_n 0, 1) := by decide +kernel
theorem dM_set_107 : decode cM_set 107 = .ok (.getfield 33, 3) := by decide +kernel
theorem dM_set_110 : decode cM_set 110 = .ok (.bipush 80, 2) := by decide +kernel
theorem dM_set_112 : decode cM_set 112 = .ok (.iload_n 1, 1) := by decide +kernel
theorem dM_set_113 : decode cM_set 113 = .ok (.imul, 1) := by decide +kernel
theorem dM_set_114 : decode cM_set 114 = .ok (.iload_n 2, 1) := by decide +kernel
theorem dM_set_115 : decode cM_set 115 = .ok (.iadd, 1) := by decide +kernel
theorem dM_set_116 : decode cM_set 116 = .ok (.laload, 1) := by decide +kernel
theorem dM_set_117 : decode cM_set 117 = .ok (.lreturn, 1) := by decide +kernel
theorem dM_copy_0 : decode cM_copy 0 = .ok (.aload_n 0, 1) := by decide +kernel
theorem dM_copy_1 : decode cM_copy 1 = .ok (.iconst 0, 1) := by decide +kernel
theorem dM_copy_2 : decode cM_copy 2 = .ok (.putfield 1, 3) := by decide +kernel
theorem dM_copy_5 : decode cM_copy 5 = .ok (.iload_n 1, 1) := by decide +kernel
theorem dM_copy_6 : decode cM_copy 6 = .ok (.invokestatic 114, 3) := by decide +kernel
theorem dM_copy_9 : decode cM_copy 9 = .ok (.ifCond .eq 10, 3) := by decide +kernel
theorem dM_copy_12 : decode cM_copy 12 = .ok (.iload_n 3, 1) := by decide +kernel
theorem dM_copy_13 : decode cM_copy 13 = .ok (.invokestatic 114, 3) := by decide +kernel
theorem dM_copy_16 : decode cM_copy 16 = .ok (.ifCond .ne 6, 3) := by decide +kernel
theorem dM_copy_19 : decode cM_copy 19 = .ok (.ldc 90, 2) := by decide +kernel
theorem dM_copy_21 : decode cM_copy 21 = .ok (.ireturn, 1) := by decide +kernel
theorem dM_copy_22 : decode cM_copy 22 = .ok (.aload_n 0, 1) := by decide +kernel
theorem dM_copy_23 : decode cM_copy 23 = .ok (.iconst 0, 1) := by decide +kernel
theorem dM_copy_24 : decode cM_copy 24 = .ok (.putfield 7, 3) := by decide +kernel
theorem dM_copy_27 : decode cM_copy 27 = .ok (.aload_n 0, 1) := by decide +kernel
theorem dM_copy_28 : decode cM_copy 28 = .ok (.getfield 27, 3) := by decide +kernel
theorem dM_copy_31 : decode cM_copy 31 = .ok (.iload_n 1, 1) := by decide +kernel
theorem dM_copy_32 : decode cM_copy 32 = .ok (.iaload, 1) := by decide +kernel
theorem dM_copy_33 : decode cM_copy 33 = .ok (.ifCond .lt 12, 3) := by decide +kernel
theorem dM_copy_36 : decode cM_copy 36 = .ok (.aload_n 0, 1) := by decide +kernel
theorem dM_copy_37 : decode cM_copy 37 = .ok (.getfield 27, 3) := by decide +kernel
theorem dM_copy_40 : decode cM_copy 40 = .ok (.iload_n 3, 1) := by decide +kernel
theorem dM_copy_41 : decode cM_copy 41 = .ok (.iaload, 1) := by decide +kernel
theorem dM_copy_42 : decode cM_copy 42 = .ok (.ifCond .ge 9, 3) := by decide +kernel
theorem dM_copy_45 : decode cM_copy 45 = .ok (.aload_n 0, 1) := by decide +kernel
theorem dM_copy_46 : decode cM_copy 46 = .ok (.iconst 1, 1) := by decide +kernel
theorem dM_copy_47 : decode cM_copy 47 = .ok (.invokevirtual 119, 3) := by decide +kernel
theorem dM_copy_50 : decode cM_copy 50 = .ok (.ireturn, 1) := by decide +kernel
theorem dM_copy_51 : decode cM_copy 51 = .ok (.aload_n 0, 1) := by decide +kernel
theorem dM_copy_52 : decode cM_copy 52 = .ok (.getfield 27, 3) := by decide +kernel
theorem dM_copy_55 : decode cM_copy 55 = .ok (.iload_n 1, 1) := by decide +kernel
theorem dM_copy_56 : decode cM_copy 56 = .ok (.iaload, 1) := by decide +kernel
theorem dM_copy_57 : decode cM_copy 57 = .ok (.aload_n 0, 1) := by decide +kernel
theorem dM_copy_58 : decode cM_copy 58 = .ok (.getfield 27, 3) := by decide +kernel
theorem dM_copy_61 : decode cM_copy 61 = .ok (.iload_n 3, 1) := by decide +kernel
theorem dM_copy_62 : decode cM_copy 62 = .ok (.iaload, 1) := by decide +kernel
theorem dM_copy_63 : decode cM_copy 63 = .ok (.if_icmp .eq 9, 3) := by decide +kernel
theorem dM_copy_66 : decode cM_copy 66 = .ok (.aload_n 0, 1) := by decide +kernel
theorem dM_copy_67 : decode cM_copy 67 = .ok (.iconst 5, 1) := by decide +kernel
theorem dM_copy_68 : decode cM_copy 68 = .ok (.invokevirtual 119, 3) := by decide +kernel
theorem dM_copy_71 : decode cM_copy 71 = .ok (.ireturn, 1) := by decide +kernel
theorem dM_copy_72 : decode cM_copy 72 = .ok (.iload_n 2, 1) := by decide +kernel
theorem dM_copy_73 : decode cM_copy 73 = .ok (.ifCond .lt 48, 3) := by decide +kernel
theorem dM_copy_76 : decode cM_copy 76 = .ok (.iload 4, 2) := by decide +kernel
theorem dM_copy_78 : decode cM_copy 78 = .ok (.ifCond .lt 43, 3) := by decide +kernel
theorem dM_copy_81 : decode cM_copy 81 = .ok (.iload 5, 2) := by decide +kernel
theorem dM_copy_83 : decode cM_copy 83 = .ok (.ifCond .lt 38, 3) := by decide +kernel
theorem dM_copy_86 : decode cM_copy 86 = .ok (.iload_n 2, 1) := by decide +kernel
theorem dM_copy_87 : decode cM_copy 87 = .ok (.i2l, 1) := by decide +kernel
theorem dM_copy_88 : decode cM_copy 88 = .ok (.iload 5, 2) := by decide +kernel
theorem dM_copy_90 : decode cM_copy 90 = .ok (.i2l, 1) := by decide +kernel
theorem dM_copy_91 : decode cM_copy 91 = .ok (.ladd, 1) := by decide +kernel
theorem dM_copy_92 : decode cM_copy 92 = .ok (.aload_n 0, 1) := by decide +kernel
theorem dM_copy_93 : decode cM_copy 93 = .ok (.getfield 30, 3) := by decide +kernel
theorem dM_copy_96 : decode cM_copy 96 = .ok (.iload_n 1, 1) := by decide +kernel
theorem dM_copy_97 : decode cM_copy 97 = .ok (.iaload, 1) := by decide +kernel
theorem dM_copy_98 : decode cM_copy 98 = .ok (.i2l, 1) := by decide +kernel
theorem dM_copy_99 : decode cM_copy 99 = .ok (.lcmp, 1) := by decide +kernel
theorem dM_copy_100 : decode cM_copy 100 = .ok (.ifCond .gt 21, 3) := by decide +kernel
theorem dM_copy_103 : decode cM_copy 103 = .ok (.iload 4, 2) := by decide +kernel
theorem dM_copy_105 : decode cM_copy 105 = .ok (.i2l, 1) := by decide +kernel
theorem dM_copy_106 : decode cM_copy 106 = .ok (.iload 5, 2) := by decide +kernel
theorem dM_copy_108 : decode cM_copy 108 = .ok (.i2l, 1) := by decide +kernel
theorem dM_copy_109 : decode cM_copy 109 = .ok (.ladd, 1) := by decide +kernel
theorem dM_copy_110 : decode cM_copy 110 = .ok (.aload_n 0, 1) := by decide +kernel
theorem dM_copy_111 : decode cM_copy 111 = .ok (.getfield 30, 3) := by decide +kernel
theorem dM_copy_114 : decode cM_copy 114 = .ok (.iload_n 3, 1) := by decide +kernel
theorem dM_copy_115 : decode cM_copy 115 = .ok (.iaload, 1) := by decide +kernel
theorem dM_copy_116 : decode cM_copy 116 = .ok (.i2l, 1) := by decide +kernel
theorem dM_copy_117 : decode cM_copy 117 = .ok (.lcmp, 1) := by decide +kernel
theorem dM_copy_118 : decode cM_copy 118 = .ok (.ifCond .le 9, 3) := by decide +kernel
theorem dM_copy_121 : decode cM_copy 121 = .ok (.aload_n 0, 1) := by decide +kernel
theorem dM_copy_122 : decode cM_copy 122 = .ok (.iconst 2, 1) := by decide +kernel
theorem dM_copy_123 : decode cM_copy 123 = .ok (.invokevirtual 119, 3) := by decide +kernel
theorem dM_copy_126 : decode cM_copy 126 = .ok (.ireturn, 1) := by decide +kernel
theorem dM_copy_127 : decode cM_copy 127 = .ok (.iload_n 2, 1) := by decide +kernel
theorem dM_copy_128 : decode cM_copy 128 = .ok (.iload 4, 2) := by decide +kernel
theorem dM_copy_130 : decode cM_copy 130 = .ok (.if_icmp .lt 7, 3) := by decide +kernel
theorem dM_copy_133 : decode cM_copy 133 = .ok (.iconst 1, 1) := by decide +kernel
theorem dM_copy_134 : decode cM_copy 134 = .ok (.goto 4, 3) := by decide +kernel
theorem dM_copy_137 : decode cM_copy 137 = .ok (.iconst 0, 1) := by decide +kernel
theorem dM_copy_138 : decode cM_copy 138 = .ok (.istore 6, 2) := by decide +kernel
theorem dM_copy_140 : decode cM_copy 140 = .ok (.iconst 0, 1) := by decide +kernel
theorem dM_copy_141 : decode cM_copy 141 = .ok (.istore 7, 2) := by decide +kernel
theorem dM_copy_143 : decode cM_copy 143 = .ok (.iload 7, 2) := by decide +kernel
theorem dM_copy_145 : decode cM_copy 145 = .ok (.iload 5, 2) := by decide +kernel
theorem dM_copy_147 : decode cM_copy 147 = .ok (.if_icmp .ge 57, 3) := by decide +kernel
theorem dM_copy_150 : decode cM_copy 150 = .ok (.iload 6, 2) := by decide +kernel
theorem dM_copy_152 : decode cM_copy 152 = .ok (.ifCond .eq 8, 3) := by decide +kernel
theorem dM_copy_155 : decode cM_copy 155 = .ok (.iload 7, 2) := by decide +kernel
theorem dM_copy_157 : decode cM_copy 157 = .ok (.goto 10, 3) := by decide +kernel
theorem dM_copy_160 : decode cM_copy 160 = .ok (.iload 5, 2) := by decide +kernel
theorem dM_copy_162 : decode cM_copy 162 = .ok (.iconst 1, 1) := by decide +kernel
theorem dM_copy_163 : decode cM_copy 163 = .ok (.isub, 1) := by decide +kernel
theorem dM_copy_164 : decode cM_copy 164 = .ok (.iload 7, 2) := by decide +kernel
theorem dM_copy_166 : decode cM_copy 166 = .ok (.isub, 1) := by decide +kernel
theorem dM_copy_167 : decode cM_copy 167 = .ok (.istore 8, 2) := by decide +kernel
theorem dM_copy_169 : decode cM_copy 169 = .ok (.aload_n 0, 1) := by decide +kernel
theorem dM_copy_170 : decode cM_copy 170 = .ok (.getfield 33, 3) := by decide +kernel
theorem dM_copy_173 : decode cM_copy 173 = .ok (.bipush 80, 2) := by decide +kernel
theorem dM_copy_175 : decode cM_copy 175 = .ok (.iload_n 3, 1) := by decide +kernel
theorem dM_copy_176 : decode cM_copy 176 = .ok (.imul, 1) := by decide +kernel
theorem dM_copy_177 : decode cM_copy 177 = .ok (.iload 4, 2) := by decide +kernel
theorem dM_copy_179 : decode cM_copy 179 = .ok (.iadd, 1) := by decide +kernel
theorem dM_copy_180 : decode cM_copy 180 = .ok (.iload 8, 2) := by decide +kernel
theorem dM_copy_182 : decode cM_copy 182 = .ok (.iadd, 1) := by decide +kernel
theorem dM_copy_183 : decode cM_copy 183 = .ok (.aload_n 0, 1) := by decide +kernel
theorem dM_copy_184 : decode cM_copy 184 = .ok (.getfield 33, 3) := by decide +kernel
theorem dM_copy_187 : decode cM_copy 187 = .ok (.bipush 80, 2) := by decide +kernel
theorem dM_copy_189 : decode cM_copy 189 = .ok (.iload_n 1, 1) := by decide +kernel
theorem dM_copy_190 : decode cM_copy 190 = .ok (.imul, 1) := by decide +kernel
theorem dM_copy_191 : decode cM_copy 191 = .ok (.iload_n 2, 1) := by decide +kernel
theorem dM_copy_192 : decode cM_copy 192 = .ok (.iadd, 1) := by decide +kernel
theorem dM_copy_193 : decode cM_copy 193 = .ok (.iload 8, 2) := by decide +kernel
theorem dM_copy_195 : decode cM_copy 195 = .ok (.iadd, 1) := by decide +kernel
theorem dM_copy_196 : decode cM_copy 196 = .ok (.laload, 1) := by decide +kernel
theorem dM_copy_197 : decode cM_copy 197 = .ok (.lastore, 1) := by decide +kernel
theorem dM_copy_198 : decode cM_copy 198 = .ok (.iinc 7 1, 3) := by decide +kernel
theorem dM_copy_201 : decode cM_copy 201 = .ok (.goto (-58), 3) := by decide +kernel
theorem dM_copy_204 : decode cM_copy 204 = .ok (.iload 5, 2) := by decide +kernel
theorem dM_copy_206 : decode cM_copy 206 = .ok (.ireturn, 1) := by decide +kernel
theorem dM_drop_0 : decode cM_drop 0 = .ok (.aload_n 0, 1) := by decide +kernel
theorem dM_drop_1 : decode cM_drop 1 = .ok (.iconst 0, 1) := by decide +kernel
theorem dM_drop_2 : decode cM_drop 2 = .ok (.putfield 1, 3) := by decide +kernel
theorem dM_drop_5 : decode cM_drop 5 = .ok (.iload_n 1, 1) := by decide +kernel
theorem dM_drop_6 : decode cM_drop 6 = .ok (.invokestatic 114, 3) := by decide +kernel
theorem dM_drop_9 : decode cM_drop 9 = .ok (.ifCond .ne 6, 3) := by decide +kernel
theorem dM_drop_12 : decode cM_drop 12 = .ok (.ldc 90, 2) := by decide +kernel
theorem dM_drop_14 : decode cM_drop 14 = .ok (.ireturn, 1) := by decide +kernel
theorem dM_drop_15 : decode cM_drop 15 = .ok (.aload_n 0, 1) := by decide +kernel
theorem dM_drop_16 : decode cM_drop 16 = .ok (.iconst 0, 1) := by decide +kernel
theorem dM_drop_17 : decode cM_drop 17 = .ok (.putfield 7, 3) := by decide +kernel
theorem dM_drop_20 : decode cM_drop 20 = .ok (.aload_n 0, 1) := by decide +kernel
theorem dM_drop_21 : decode cM_drop 21 = .ok (.getfield 27, 3) := by decide +kernel
theorem dM_drop_24 : decode cM_drop 24 = .ok (.iload_n 1, 1) := by decide +kernel
theorem dM_drop_25 : decode cM_drop 25 = .ok (.iaload, 1) := by decide +kernel
theorem dM_drop_26 : decode cM_drop 26 = .ok (.ifCond .ge 9, 3) := by decide +kernel
theorem dM_drop_29 : decode cM_drop 29 = .ok (.aload_n 0, 1) := by decide +kernel
theorem dM_drop_30 : decode cM_drop 30 = .ok (.iconst 1, 1) := by decide +kernel
theorem dM_drop_31 : decode cM_drop 31 = .ok (.invokevirtual 119, 3) := by decide +kernel
theorem dM_drop_34 : decode cM_drop 34 = .ok (.ireturn, 1) := by decide +kernel
theorem dM_drop_35 : decode cM_drop 35 = .ok (.aload_n 0, 1) := by decide +kernel
theorem dM_drop_36 : decode cM_drop 36 = .ok (.getfield 27, 3) := by decide +kernel
theorem dM_drop_39 : decode cM_drop 39 = .ok (.iload_n 1, 1) := by decide +kernel
theorem dM_drop_40 : decode cM_drop 40 = .ok (.iconst (-1), 1) := by decide +kernel
theorem dM_drop_41 : decode cM_drop 41 = .ok (.iastore, 1) := by decide +kernel
theorem dM_drop_42 : decode cM_drop 42 = .ok (.aload_n 0, 1) := by decide +kernel
theorem dM_drop_43 : decode cM_drop 43 = .ok (.getfield 30, 3) := by decide +kernel
theorem dM_drop_46 : decode cM_drop 46 = .ok (.iload_n 1, 1) := by decide +kernel
theorem dM_drop_47 : decode cM_drop 47 = .ok (.iaload, 1) := by decide +kernel
theorem dM_drop_48 : decode cM_drop 48 = .ok (.ireturn, 1) := by decide +kernel
theorem dM_isPlace_0 : decode cM_isPlace 0 = .ok (.iload_n 0, 1) := by decide +kernel
theorem dM_isPlace_1 : decode cM_isPlace 1 = .ok (.i2l, 1) := by decide +kernel
theorem dM_isPlace_2 : decode cM_isPlace 2 = .ok (.lconst 0, 1) := by decide +kernel
theorem dM_isPlace_3 : decode cM_isPlace 3 = .ok (.ldc2_w 124, 3) := by decide +kernel
theorem dM_isPlace_6 : decode cM_isPlace 6 = .ok (.invokestatic 71, 3) := by decide +kernel
theorem dM_isPlace_9 : decode cM_isPlace 9 = .ok (.ireturn, 1) := by decide +kernel
theorem dM_modulo_0 : decode cM_modulo 0 = .ok (.lload_n 1, 1) := by decide +kernel
theorem dM_modulo_1 : decode cM_modulo 1 = .ok (.aload_n 0, 1) := by decide +kernel
theorem dM_modulo_2 : decode cM_modulo 2 = .ok (.getfield 80, 3) := by decide +kernel
theorem dM_modulo_5 : decode cM_modulo 5 = .ok (.i2l, 1) := by decide +kernel
theorem dM_modulo_6 : decode cM_modulo 6 = .ok (.lrem, 1) := by decide +kernel
theorem dM_modulo_7 : decode cM_modulo 7 = .ok (.lstore_n 3, 1) := by decide +kernel
theorem dM_modulo_8 : decode cM_modulo 8 = .ok (.lload_n 3, 1) := by decide +kernel
theorem dM_modulo_9 : decode cM_modulo 9 = .ok (.lconst 0, 1) := by decide +kernel
theorem dM_modulo_10 : decode cM_modulo 10 = .ok (.lcmp, 1) := by decide +kernel
theorem dM_modulo_11 : decode cM_modulo 11 = .ok (.ifCond .ge 13, 3) := by decide +kernel
theorem dM_modulo_14 : decode cM_modulo 14 = .ok (.lload_n 3, 1) := by decide +kernel
theorem dM_modulo_15 : decode cM_modulo 15 = .ok (.aload_n 0, 1) := by decide +kernel
theorem dM_modulo_16 : decode cM_modulo 16 = .ok (.getfield 80, 3) := by decide +kernel
theorem dM_modulo_19 : decode cM_modulo 19 = .ok (.i2l, 1) := by decide +kernel
theorem dM_modulo_20 : decode cM_modulo 20 = .ok (.ladd, 1) := by decide +kernel
theorem dM_modulo_21 : decode cM_modulo 21 = .ok (.goto 4, 3) := by decide +kernel
theorem dM_modulo_24 : decode cM_modulo 24 = .ok (.lload_n 3, 1) := by decide +kernel
theorem dM_modulo_25 : decode cM_modulo 25 = .ok (.lreturn, 1) := by decide +kernel
theorem dM_inverse_0 : decode cM_inverse 0 = .ok (.lconst 1, 1) := by decide +kernel
theorem dM_inverse_1 : decode cM_inverse 1 = .ok (.lstore_n 3, 1) := by decide +kernel
theorem dM_inverse_2 : decode cM_inverse 2 = .ok (.lload_n 1, 1) := by decide +kernel
theorem dM_inverse_3 : decode cM_inverse 3 = .ok (.lstore 5, 2) := by decide +kernel
theorem dM_inverse_5 : decode cM_inverse 5 = .ok (.aload_n 0, 1) := by decide +kernel
theorem dM_inverse_6 : decode cM_inverse 6 = .ok (.getfield 80, 3) := by decide +kernel
theorem dM_inverse_9 : decode cM_inverse 9 = .ok (.iconst 2, 1) := by decide +kernel
theorem dM_inverse_10 : decode cM_inverse 10 = .ok (.isub, 1) := by decide +kernel
theorem dM_inverse_11 : decode cM_inverse 11 = .ok (.istore 7, 2) := by decide +kernel
theorem dM_inverse_13 : decode cM_inverse 13 = .ok (.iload 7, 2) := by decide +kernel
theorem dM_inverse_15 : decode cM_inverse 15 = .ok (.ifCond .le 48, 3) := by decide +kernel
theorem dM_inverse_18 : decode cM_inverse 18 = .ok (.iload 7, 2) := by decide +kernel
theorem dM_inverse_20 : decode cM_inverse 20 = .ok (.iconst 2, 1) := by decide +kernel
theorem dM_inverse_21 : decode cM_inverse 21 = .ok (.irem, 1) := by decide +kernel
theorem dM_inverse_22 : decode cM_inverse 22 = .ok (.iconst 1, 1) := by decide +kernel
theorem dM_inverse_23 : decode cM_inverse 23 = .ok (.if_icmp .ne 16, 3) := by decide +kernel
theorem dM_inverse_26 : decode cM_inverse 26 = .ok (.lload_n 3, 1) := by decide +kernel
theorem dM_inverse_27 : decode cM_inverse 27 = .ok (.lload 5, 2) := by decide +kernel
theorem dM_inverse_29 : decode cM_inverse 29 = .ok (.lmul, 1) := by decide +kernel
theorem dM_inverse_30 : decode cM_inverse 30 = .ok (.aload_n 0, 1) := by decide +kernel
theorem dM_inverse_31 : decode cM_inverse 31 = .ok (.getfield 80, 3) := by decide +kernel
theorem dM_inverse_34 : decode cM_inverse 34 = .ok (.i2l, 1) := by decide +kernel
theorem dM_inverse_35 : decode cM_inverse 35 = .ok (.lrem, 1) := by decide +kernel
theorem dM_inverse_36 : decode cM_inverse 36 = .ok (.goto 4, 3) := by decide +kernel
theorem dM_inverse_39 : decode cM_inverse 39 = .ok (.lload_n 3, 1) := by decide +kernel
theorem dM_inverse_40 : decode cM_inverse 40 = .ok (.lstore_n 3, 1) := by decide +kernel
theorem dM_inverse_41 : decode cM_inverse 41 = .ok (.lload 5, 2) := by decide +kernel
theorem dM_inverse_43 : decode cM_inverse 43 = .ok (.lload 5, 2) := by decide +kernel
theorem dM_inverse_45 : decode cM_inverse 45 = .ok (.lmul, 1) := by decide +kernel
theorem dM_inverse_46 : decode cM_inverse 46 = .ok (.aload_n 0, 1) := by decide +kernel
theorem dM_inverse_47 : decode cM_inverse 47 = .ok (.getfield 80, 3) := by decide +kernel
theorem dM_inverse_50 : decode cM_inverse 50 = .ok (.i2l, 1) := by decide +kernel
theorem dM_inverse_51 : decode cM_inverse 51 = .ok (.lrem, 1) := by decide +kernel
theorem dM_inverse_52 : decode cM_inverse 52 = .ok (.lstore 5, 2) := by decide +kernel
theorem dM_inverse_54 : decode cM_inverse 54 = .ok (.iload 7, 2) := by decide +kernel
theorem dM_inverse_56 : decode cM_inverse 56 = .ok (.iconst 2, 1) := by decide +kernel
theorem dM_inverse_57 : decode cM_inverse 57 = .ok (.idiv, 1) := by decide +kernel
theorem dM_inverse_58 : decode cM_inverse 58 = .ok (.istore 7, 2) := by decide +kernel
theorem dM_inverse_60 : decode cM_inverse 60 = .ok (.goto (-47), 3) := by decide +kernel
theorem dM_inverse_63 : decode cM_inverse 63 = .ok (.lload_n 3, 1) := by decide +kernel
theorem dM_inverse_64 : decode cM_inverse 64 = .ok (.lreturn, 1) := by decide +kernel
theorem dM_kindOf_0 : decode cM_kindOf 0 = .ok (.aload_n 0, 1) := by decide +kernel
theorem dM_kindOf_1 : decode cM_kindOf 1 = .ok (.getfield 37, 3) := by decide +kernel
theorem dM_kindOf_4 : decode cM_kindOf 4 = .ok (.iload_n 1, 1) := by decide +kernel
theorem dM_kindOf_5 : decode cM_kindOf 5 = .ok (.iaload, 1) := by decide +kernel
theorem dM_kindOf_6 : decode cM_kindOf 6 = .ok (.istore_n 2, 1) := by decide +kernel
theorem dM_kindOf_7 : decode cM_kindOf 7 = .ok (.iconst 1, 1) := by decide +kernel
theorem dM_kindOf_8 : decode cM_kindOf 8 = .ok (.istore_n 3, 1) := by decide +kernel
theorem dM_kindOf_9 : decode cM_kindOf 9 = .ok (.iconst 1, 1) := by decide +kernel
theorem dM_kindOf_10 : decode cM_kindOf 10 = .ok (.istore 4, 2) := by decide +kernel
theorem dM_kindOf_12 : decode cM_kindOf 12 = .ok (.iconst 1, 1) := by decide +kernel
theorem dM_kindOf_13 : decode cM_kindOf 13 = .ok (.istore 5, 2) := by decide +kernel
theorem dM_kindOf_15 : decode cM_kindOf 15 = .ok (.iconst 0, 1) := by decide +kernel
theorem dM_kindOf_16 : decode cM_kindOf 16 = .ok (.istore 6, 2) := by decide +kernel
theorem dM_kindOf_18 : decode cM_kindOf 18 = .ok (.iload 6, 2) := by decide +kernel
theorem dM_kindOf_20 : decode cM_kindOf 20 = .ok (.iload_n 2, 1) := by decide +kernel
theorem dM_kindOf_21 : decode cM_kindOf 21 = .ok (.if_icmp .ge 204, 3) := by decide +kernel
theorem dM_kindOf_24 : decode cM_kindOf 24 = .ok (.iconst 0, 1) := by decide +kernel
theorem dM_kindOf_25 : decode cM_kindOf 25 = .ok (.istore 7, 2) := by decide +kernel
theorem dM_kindOf_27 : decode cM_kindOf 27 = .ok (.iload 7, 2) := by decide +kernel
theorem dM_kindOf_29 : decode cM_kindOf 29 = .ok (.iload_n 2, 1) := by decide +kernel
theorem dM_kindOf_30 : decode cM_kindOf 30 = .ok (.if_icmp .ge 189, 3) := by decide +kernel
theorem dM_kindOf_33 : decode cM_kindOf 33 = .ok (.aload_n 0, 1) := by decide +kernel
theorem dM_kindOf_34 : decode cM_kindOf 34 = .ok (.getfield 40, 3) := by decide +kernel
theorem dM_kindOf_37 : decode cM_kindOf 37 = .ok (.bipush 64, 2) := by decide +kernel
theorem dM_kindOf_39 : decode cM_kindOf 39 = .ok (.iload_n 1, 1) := by decide +kernel
theorem dM_kindOf_40 : decode cM_kindOf 40 = .ok (.imul, 1) := by decide +kernel
theorem dM_kindOf_41 : decode cM_kindOf 41 = .ok (.bipush 8, 2) := by decide +kernel
theorem dM_kindOf_43 : decode cM_kindOf 43 = .ok (.iload 6, 2) := by decide +kernel
theorem dM_kindOf_45 : decode cM_kindOf 45 = .ok (.imul, 1) := by decide +kernel
theorem dM_kindOf_46 : decode cM_kindOf 46 = .ok (.iadd, 1) := by decide +kernel
theorem dM_kindOf_47 : decode cM_kindOf 47 = .ok (.iload 7, 2) := by decide +kernel
theorem dM_kindOf_49 : decode cM_kindOf 49 = .ok (.iadd, 1) := by decide +kernel
theorem dM_kindOf_50 : decode cM_kindOf 50 = .ok (.laload, 1) := by decide +kernel
theorem dM_kindOf_51 : decode cM_kindOf 51 = .ok (.lstore 8, 2) := by decide +kernel
theorem dM_kindOf_53 : decode cM_kindOf 53 = .ok (.iload_n 3, 1) := by decide +kernel
theorem dM_kindOf_54 : decode cM_kindOf 54 = .ok (.ifCond .eq 21, 3) := by decide +kernel
theorem dM_kindOf_57 : decode cM_kindOf 57 = .ok (.iload 7, 2) := by decide +kernel
theorem dM_kindOf_59 : decode cM_kindOf 59 = .ok (.iload 6, 2) := by decide +kernel
theorem dM_kindOf_61 : decode cM_kindOf 61 = .ok (.if_icmp .le 10, 3) := by decide +kernel
theorem dM_kindOf_64 : decode cM_kindOf 64 = .ok (.lload 8, 2) := by decide +kernel
theorem dM_kindOf_66 : decode cM_kindOf 66 = .ok (.lconst 0, 1) := by decide +kernel
theorem dM_kindOf_67 : decode cM_kindOf 67 = .ok (.lcmp, 1) := by decide +kernel
theorem dM_kindOf_68 : decode cM_kindOf 68 = .ok (.ifCond .ne 7, 3) := by decide +kernel
theorem dM_kindOf_71 : decode cM_kindOf 71 = .ok (.iconst 1, 1) := by decide +kernel
theorem dM_kindOf_72 : decode cM_kindOf 72 = .ok (.goto 4, 3) := by decide +kernel
theorem dM_kindOf_75 : decode cM_kindOf 75 = .ok (.iconst 0, 1) := by decide +kernel
theorem dM_kindOf_76 : decode cM_kindOf 76 = .ok (.istore_n 3, 1) := by decide +kernel
theorem dM_kindOf_77 : decode cM_kindOf 77 = .ok (.iload 4, 2) := by decide +kernel
theorem dM_kindOf_79 : decode cM_kindOf 79 = .ok (.ifCond .eq 21, 3) := by decide +kernel
theorem dM_kindOf_82 : decode cM_kindOf 82 = .ok (.iload 7, 2) := by decide +kernel
theorem dM_kindOf_84 : decode cM_kindOf 84 = .ok (.iload 6, 2) := by decide +kernel
theorem dM_kindOf_86 : decode cM_kindOf 86 = .ok (.if_icmp .lt 10, 3) := by decide +kernel
theorem dM_kindOf_89 : decode cM_kindOf 89 = .ok (.lload 8, 2) := by decide +kernel
theorem dM_kindOf_91 : decode cM_kindOf 91 = .ok (.lconst 0, 1) := by decide +kernel
theorem dM_kindOf_92 : decode cM_kindOf 92 = .ok (.lcmp, 1) := by decide +kernel
theorem dM_kindOf_93 : decode cM_kindOf 93 = .ok (.ifCond .ne 7, 3) := by decide +kernel
theorem dM_kindOf_96 : decode cM_kindOf 96 = .ok (.iconst 1, 1) := by decide +kernel
theorem dM_kindOf_97 : decode cM_kindOf 97 = .ok (.goto 4, 3) := by decide +kernel
theorem dM_kindOf_100 : decode cM_kindOf 100 = .ok (.iconst 0, 1) := by decide +kernel
theorem dM_kindOf_101 : decode cM_kindOf 101 = .ok (.istore 4, 2) := by decide +kernel
theorem dM_kindOf_103 : decode cM_kindOf 103 = .ok (.aload_n 0, 1) := by decide +kernel
theorem dM_kindOf_104 : decode cM_kindOf 104 = .ok (.getfield 43, 3) := by decide +kernel
theorem dM_kindOf_107 : decode cM_kindOf 107 = .ok (.bipush 8, 2) := by decide +kernel
theorem dM_kindOf_109 : decode cM_kindOf 109 = .ok (.iload_n 1, 1) := by decide +kernel
theorem dM_kindOf_110 : decode cM_kindOf 110 = .ok (.imul, 1) := by decide +kernel
theorem dM_kindOf_111 : decode cM_kindOf 111 = .ok (.iload 6, 2) := by decide +kernel
theorem dM_kindOf_113 : decode cM_kindOf 113 = .ok (.iadd, 1) := by decide +kernel
theorem dM_kindOf_114 : decode cM_kindOf 114 = .ok (.laload, 1) := by decide +kernel
theorem dM_kindOf_115 : decode cM_kindOf 115 = .ok (.lload 8, 2) := by decide +kernel
theorem dM_kindOf_117 : decode cM_kindOf 117 = .ok (.lmul, 1) := by decide +kernel
theorem dM_kindOf_118 : decode cM_kindOf 118 = .ok (.aload_n 0, 1) := by decide +kernel
theorem dM_kindOf_119 : decode cM_kindOf 119 = .ok (.getfield 80, 3) := by decide +kernel
theorem dM_kindOf_122 : decode cM_kindOf 122 = .ok (.i2l, 1) := by decide +kernel
theorem dM_kindOf_123 : decode cM_kindOf 123 = .ok (.lrem, 1) := by decide +kernel
theorem dM_kindOf_124 : decode cM_kindOf 124 = .ok (.aload_n 0, 1) := by decide +kernel
theorem dM_kindOf_125 : decode cM_kindOf 125 = .ok (.getfield 43, 3) := by decide +kernel
theorem dM_kindOf_128 : decode cM_kindOf 128 = .ok (.bipush 8, 2) := by decide +kernel
theorem dM_kindOf_130 : decode cM_kindOf 130 = .ok (.iload_n 1, 1) := by decide +kernel
theorem dM_kindOf_131 : decode cM_kindOf 131 = .ok (.imul, 1) := by decide +kernel
theorem dM_kindOf_132 : decode cM_kindOf 132 = .ok (.iload 7, 2) := by decide +kernel
theorem dM_kindOf_134 : decode cM_kindOf 134 = .ok (.iadd, 1) := by decide +kernel
theorem dM_kindOf_135 : decode cM_kindOf 135 = .ok (.laload, 1) := by decide +kernel
theorem dM_kindOf_136 : decode cM_kindOf 136 = .ok (.aload_n 0, 1) := by decide +kernel
theorem dM_kindOf_137 : decode cM_kindOf 137 = .ok (.getfield 40, 3) := by decide +kernel
theorem dM_kindOf_140 : decode cM_kindOf 140 = .ok (.bipush 64, 2) := by decide +kernel
theorem dM_kindOf_142 : decode cM_kindOf 142 = .ok (.iload_n 1, 1) := by decide +kernel
theorem dM_kindOf_143 : decode cM_kindOf 143 = .ok (.imul, 1) := by decide +kernel
theorem dM_kindOf_144 : decode cM_kindOf 144 = .ok (.bipush 8, 2) := by decide +kernel
theorem dM_kindOf_146 : decode cM_kindOf 146 = .ok (.iload 7, 2) := by decide +kernel
theorem dM_kindOf_148 : decode cM_kindOf 148 = .ok (.imul, 1) := by decide +kernel
theorem dM_kindOf_149 : decode cM_kindOf 149 = .ok (.iadd, 1) := by decide +kernel
theorem dM_kindOf_150 : decode cM_kindOf 150 = .ok (.iload 6, 2) := by decide +kernel
theorem dM_kindOf_152 : decode cM_kindOf 152 = .ok (.iadd, 1) := by decide +kernel
theorem dM_kindOf_153 : decode cM_kindOf 153 = .ok (.laload, 1) := by decide +kernel
theorem dM_kindOf_154 : decode cM_kindOf 154 = .ok (.lmul, 1) := by decide +kernel
theorem dM_kindOf_155 : decode cM_kindOf 155 = .ok (.ladd, 1) := by decide +kernel
theorem dM_kindOf_156 : decode cM_kindOf 156 = .ok (.aload_n 0, 1) := by decide +kernel
theorem dM_kindOf_157 : decode cM_kindOf 157 = .ok (.getfield 80, 3) := by decide +kernel
theorem dM_kindOf_160 : decode cM_kindOf 160 = .ok (.i2l, 1) := by decide +kernel
theorem dM_kindOf_161 : decode cM_kindOf 161 = .ok (.lrem, 1) := by decide +kernel
theorem dM_kindOf_162 : decode cM_kindOf 162 = .ok (.lstore 10, 2) := by decide +kernel
theorem dM_kindOf_164 : decode cM_kindOf 164 = .ok (.iload 5, 2) := by decide +kernel
theorem dM_kindOf_166 : decode cM_kindOf 166 = .ok (.ifCond .eq 44, 3) := by decide +kernel
theorem dM_kindOf_169 : decode cM_kindOf 169 = .ok (.lload 10, 2) := by decide +kernel
theorem dM_kindOf_171 : decode cM_kindOf 171 = .ok (.aload_n 0, 1) := by decide +kernel
theorem dM_kindOf_172 : decode cM_kindOf 172 = .ok (.getfield 43, 3) := by decide +kernel
theorem dM_kindOf_175 : decode cM_kindOf 175 = .ok (.bipush 8, 2) := by decide +kernel
theorem dM_kindOf_177 : decode cM_kindOf 177 = .ok (.iload_n 1, 1) := by decide +kernel
theorem dM_kindOf_178 : decode cM_kindOf 178 = .ok (.imul, 1) := by decide +kernel
theorem dM_kindOf_179 : decode cM_kindOf 179 = .ok (.iload 6, 2) := by decide +kernel
theorem dM_kindOf_181 : decode cM_kindOf 181 = .ok (.iadd, 1) := by decide +kernel
theorem dM_kindOf_182 : decode cM_kindOf 182 = .ok (.laload, 1) := by decide +kernel
theorem dM_kindOf_183 : decode cM_kindOf 183 = .ok (.aload_n 0, 1) := by decide +kernel
theorem dM_kindOf_184 : decode cM_kindOf 184 = .ok (.getfield 43, 3) := by decide +kernel
theorem dM_kindOf_187 : decode cM_kindOf 187 = .ok (.bipush 8, 2) := by decide +kernel
theorem dM_kindOf_189 : decode cM_kindOf 189 = .ok (.iload_n 1, 1) := by decide +kernel
theorem dM_kindOf_190 : decode cM_kindOf 190 = .ok (.imul, 1) := by decide +kernel
theorem dM_kindOf_191 : decode cM_kindOf 191 = .ok (.iload 7, 2) := by decide +kernel
theorem dM_kindOf_193 : decode cM_kindOf 193 = .ok (.iadd, 1) := by decide +kernel
theorem dM_kindOf_194 : decode cM_kindOf 194 = .ok (.laload, 1) := by decide +kernel
theorem dM_kindOf_195 : decode cM_kindOf 195 = .ok (.lmul, 1) := by decide +kernel
theorem dM_kindOf_196 : decode cM_kindOf 196 = .ok (.aload_n 0, 1) := by decide +kernel
theorem dM_kindOf_197 : decode cM_kindOf 197 = .ok (.getfield 80, 3) := by decide +kernel
theorem dM_kindOf_200 : decode cM_kindOf 200 = .ok (.i2l, 1) := by decide +kernel
theorem dM_kindOf_201 : decode cM_kindOf 201 = .ok (.lrem, 1) := by decide +kernel
theorem dM_kindOf_202 : decode cM_kindOf 202 = .ok (.lcmp, 1) := by decide +kernel
theorem dM_kindOf_203 : decode cM_kindOf 203 = .ok (.ifCond .ne 7, 3) := by decide +kernel
theorem dM_kindOf_206 : decode cM_kindOf 206 = .ok (.iconst 1, 1) := by decide +kernel
theorem dM_kindOf_207 : decode cM_kindOf 207 = .ok (.goto 4, 3) := by decide +kernel
theorem dM_kindOf_210 : decode cM_kindOf 210 = .ok (.iconst 0, 1) := by decide +kernel
theorem dM_kindOf_211 : decode cM_kindOf 211 = .ok (.istore 5, 2) := by decide +kernel
theorem dM_kindOf_213 : decode cM_kindOf 213 = .ok (.iinc 7 1, 3) := by decide +kernel
theorem dM_kindOf_216 : decode cM_kindOf 216 = .ok (.goto (-189), 3) := by decide +kernel
theorem dM_kindOf_219 : decode cM_kindOf 219 = .ok (.iinc 6 1, 3) := by decide +kernel
theorem dM_kindOf_222 : decode cM_kindOf 222 = .ok (.goto (-204), 3) := by decide +kernel
theorem dM_kindOf_225 : decode cM_kindOf 225 = .ok (.iload 4, 2) := by decide +kernel
theorem dM_kindOf_227 : decode cM_kindOf 227 = .ok (.ifCond .eq 7, 3) := by decide +kernel
theorem dM_kindOf_230 : decode cM_kindOf 230 = .ok (.iconst 2, 1) := by decide +kernel
theorem dM_kindOf_231 : decode cM_kindOf 231 = .ok (.goto 21, 3) := by decide +kernel
theorem dM_kindOf_234 : decode cM_kindOf 234 = .ok (.iload 5, 2) := by decide +kernel
theorem dM_kindOf_236 : decode cM_kindOf 236 = .ok (.ifCond .eq 7, 3) := by decide +kernel
theorem dM_kindOf_239 : decode cM_kindOf 239 = .ok (.iconst 3, 1) := by decide +kernel
theorem dM_kindOf_240 : decode cM_kindOf 240 = .ok (.goto 12, 3) := by decide +kernel
theorem dM_kindOf_243 : decode cM_kindOf 243 = .ok (.iload_n 3, 1) := by decide +kernel
theorem dM_kindOf_244 : decode cM_kindOf 244 = .ok (.ifCond .eq 7, 3) := by decide +kernel
theorem dM_kindOf_247 : decode cM_kindOf 247 = .ok (.iconst 1, 1) := by decide +kernel
theorem dM_kindOf_248 : decode cM_kindOf 248 = .ok (.goto 4, 3) := by decide +kernel
theorem dM_kindOf_251 : decode cM_kindOf 251 = .ok (.iconst 0, 1) := by decide +kernel
theorem dM_kindOf_252 : decode cM_kindOf 252 = .ok (.ireturn, 1) := by decide +kernel
theorem dM_lay_0 : decode cM_lay 0 = .ok (.aload_n 0, 1) := by decide +kernel
theorem dM_lay_1 : decode cM_lay 1 = .ok (.iconst 0, 1) := by decide +kernel
theorem dM_lay_2 : decode cM_lay 2 = .ok (.putfield 7, 3) := by decide +kernel
theorem dM_lay_5 : decode cM_lay 5 = .ok (.aload_n 0, 1) := by decide +kernel
theorem dM_lay_6 : decode cM_lay 6 = .ok (.getfield 37, 3) := by decide +kernel
theorem dM_lay_9 : decode cM_lay 9 = .ok (.iload_n 1, 1) := by decide +kernel
theorem dM_lay_10 : decode cM_lay 10 = .ok (.aload_n 0, 1) := by decide +kernel
theorem dM_lay_11 : decode cM_lay 11 = .ok (.getfield 37, 3) := by decide +kernel
theorem dM_lay_14 : decode cM_lay 14 = .ok (.bipush 10, 2) := by decide +kernel
theorem dM_lay_16 : decode cM_lay 16 = .ok (.iaload, 1) := by decide +kernel
theorem dM_lay_17 : decode cM_lay 17 = .ok (.iastore, 1) := by decide +kernel
theorem dM_lay_18 : decode cM_lay 18 = .ok (.iconst 0, 1) := by decide +kernel
theorem dM_lay_19 : decode cM_lay 19 = .ok (.istore_n 2, 1) := by decide +kernel
theorem dM_lay_20 : decode cM_lay 20 = .ok (.iload_n 2, 1) := by decide +kernel
theorem dM_lay_21 : decode cM_lay 21 = .ok (.bipush 64, 2) := by decide +kernel
theorem dM_lay_23 : decode cM_lay 23 = .ok (.if_icmp .ge 30, 3) := by decide +kernel
theorem dM_lay_26 : decode cM_lay 26 = .ok (.aload_n 0, 1) := by decide +kernel
theorem dM_lay_27 : decode cM_lay 27 = .ok (.getfield 40, 3) := by decide +kernel
theorem dM_lay_30 : decode cM_lay 30 = .ok (.bipush 64, 2) := by decide +kernel
theorem dM_lay_32 : decode cM_lay 32 = .ok (.iload_n 1, 1) := by decide +kernel
theorem dM_lay_33 : decode cM_lay 33 = .ok (.imul, 1) := by decide +kernel
theorem dM_lay_34 : decode cM_lay 34 = .ok (.iload_n 2, 1) := by decide +kernel
theorem dM_lay_35 : decode cM_lay 35 = .ok (.iadd, 1) := by decide +kernel
theorem dM_lay_36 : decode cM_lay 36 = .ok (.aload_n 0, 1) := by decide +kernel
theorem dM_lay_37 : decode cM_lay 37 = .ok (.getfield 40, 3) := by decide +kernel
theorem dM_lay_40 : decode cM_lay 40 = .ok (.sipush 640, 3) := by decide +kernel
theorem dM_lay_43 : decode cM_lay 43 = .ok (.iload_n 2, 1) := by decide +kernel
theorem dM_lay_44 : decode cM_lay 44 = .ok (.iadd, 1) := by decide +kernel
theorem dM_lay_45 : decode cM_lay 45 = .ok (.laload, 1) := by decide +kernel
theorem dM_lay_46 : decode cM_lay 46 = .ok (.lastore, 1) := by decide +kernel
theorem dM_lay_47 : decode cM_lay 47 = .ok (.iinc 2 1, 3) := by decide +kernel
theorem dM_lay_50 : decode cM_lay 50 = .ok (.goto (-30), 3) := by decide +kernel
theorem dM_lay_53 : decode cM_lay 53 = .ok (.iconst 0, 1) := by decide +kernel
theorem dM_lay_54 : decode cM_lay 54 = .ok (.istore_n 2, 1) := by decide +kernel
theorem dM_lay_55 : decode cM_lay 55 = .ok (.iload_n 2, 1) := by decide +kernel
theorem dM_lay_56 : decode cM_lay 56 = .ok (.bipush 8, 2) := by decide +kernel
theorem dM_lay_58 : decode cM_lay 58 = .ok (.if_icmp .ge 29, 3) := by decide +kernel
theorem dM_lay_61 : decode cM_lay 61 = .ok (.aload_n 0, 1) := by decide +kernel
theorem dM_lay_62 : decode cM_lay 62 = .ok (.getfield 43, 3) := by decide +kernel
theorem dM_lay_65 : decode cM_lay 65 = .ok (.bipush 8, 2) := by decide +kernel
theorem dM_lay_67 : decode cM_lay 67 = .ok (.iload_n 1, 1) := by decide +kernel
theorem dM_lay_68 : decode cM_lay 68 = .ok (.imul, 1) := by decide +kernel
theorem dM_lay_69 : decode cM_lay 69 = .ok (.iload_n 2, 1) := by decide +kernel
theorem dM_lay_70 : decode cM_lay 70 = .ok (.iadd, 1) := by decide +kernel
theorem dM_lay_71 : decode cM_lay 71 = .ok (.aload_n 0, 1) := by decide +kernel
theorem dM_lay_72 : decode cM_lay 72 = .ok (.getfield 43, 3) := by decide +kernel
theorem dM_lay_75 : decode cM_lay 75 = .ok (.bipush 80, 2) := by decide +kernel
theorem dM_lay_77 : decode cM_lay 77 = .ok (.iload_n 2, 1) := by decide +kernel
theorem dM_lay_78 : decode cM_lay 78 = .ok (.iadd, 1) := by decide +kernel
theorem dM_lay_79 : decode cM_lay 79 = .ok (.laload, 1) := by decide +kernel
theorem dM_lay_80 : decode cM_lay 80 = .ok (.lastore, 1) := by decide +kernel
theorem dM_lay_81 : decode cM_lay 81 = .ok (.iinc 2 1, 3) := by decide +kernel
theorem dM_lay_84 : decode cM_lay 84 = .ok (.goto (-29), 3) := by decide +kernel
theorem dM_lay_87 : decode cM_lay 87 = .ok (.aload_n 0, 1) := by decide +kernel
theorem dM_lay_88 : decode cM_lay 88 = .ok (.iload_n 1, 1) := by decide +kernel
theorem dM_lay_89 : decode cM_lay 89 = .ok (.invokevirtual 126, 3) := by decide +kernel
theorem dM_lay_92 : decode cM_lay 92 = .ok (.ireturn, 1) := by decide +kernel
theorem dM_wipe_0 : decode cM_wipe 0 = .ok (.aload_n 0, 1) := by decide +kernel
theorem dM_wipe_1 : decode cM_wipe 1 = .ok (.getfield 37, 3) := by decide +kernel
theorem dM_wipe_4 : decode cM_wipe 4 = .ok (.bipush 10, 2) := by decide +kernel
theorem dM_wipe_6 : decode cM_wipe 6 = .ok (.iload_n 1, 1) := by decide +kernel
theorem dM_wipe_7 : decode cM_wipe 7 = .ok (.iastore, 1) := by decide +kernel
theorem dM_wipe_8 : decode cM_wipe 8 = .ok (.iconst 0, 1) := by decide +kernel
theorem dM_wipe_9 : decode cM_wipe 9 = .ok (.istore_n 2, 1) := by decide +kernel
theorem dM_wipe_10 : decode cM_wipe 10 = .ok (.iload_n 2, 1) := by decide +kernel
theorem dM_wipe_11 : decode cM_wipe 11 = .ok (.bipush 64, 2) := by decide +kernel
theorem dM_wipe_13 : decode cM_wipe 13 = .ok (.if_icmp .ge 20, 3) := by decide +kernel
theorem dM_wipe_16 : decode cM_wipe 16 = .ok (.aload_n 0, 1) := by decide +kernel
theorem dM_wipe_17 : decode cM_wipe 17 = .ok (.getfield 40, 3) := by decide +kernel
theorem dM_wipe_20 : decode cM_wipe 20 = .ok (.sipush 640, 3) := by decide +kernel
theorem dM_wipe_23 : decode cM_wipe 23 = .ok (.iload_n 2, 1) := by decide +kernel
theorem dM_wipe_24 : decode cM_wipe 24 = .ok (.iadd, 1) := by decide +kernel
theorem dM_wipe_25 : decode cM_wipe 25 = .ok (.lconst 0, 1) := by decide +kernel
theorem dM_wipe_26 : decode cM_wipe 26 = .ok (.lastore, 1) := by decide +kernel
theorem dM_wipe_27 : decode cM_wipe 27 = .ok (.iinc 2 1, 3) := by decide +kernel
theorem dM_wipe_30 : decode cM_wipe 30 = .ok (.goto (-20), 3) := by decide +kernel
theorem dM_wipe_33 : decode cM_wipe 33 = .ok (.iconst 0, 1) := by decide +kernel
theorem dM_wipe_34 : decode cM_wipe 34 = .ok (.istore_n 2, 1) := by decide +kernel
theorem dM_wipe_35 : decode cM_wipe 35 = .ok (.iload_n 2, 1) := by decide +kernel
theorem dM_wipe_36 : decode cM_wipe 36 = .ok (.bipush 8, 2) := by decide +kernel
theorem dM_wipe_38 : decode cM_wipe 38 = .ok (.if_icmp .ge 19, 3) := by decide +kernel
theorem dM_wipe_41 : decode cM_wipe 41 = .ok (.aload_n 0, 1) := by decide +kernel
theorem dM_wipe_42 : decode cM_wipe 42 = .ok (.getfield 43, 3) := by decide +kernel
theorem dM_wipe_45 : decode cM_wipe 45 = .ok (.bipush 80, 2) := by decide +kernel
theorem dM_wipe_47 : decode cM_wipe 47 = .ok (.iload_n 2, 1) := by decide +kernel
theorem dM_wipe_48 : decode cM_wipe 48 = .ok (.iadd, 1) := by decide +kernel
theorem dM_wipe_49 : decode cM_wipe 49 = .ok (.lconst 0, 1) := by decide +kernel
theorem dM_wipe_50 : decode cM_wipe 50 = .ok (.lastore, 1) := by decide +kernel
theorem dM_wipe_51 : decode cM_wipe 51 = .ok (.iinc 2 1, 3) := by decide +kernel
theorem dM_wipe_54 : decode cM_wipe 54 = .ok (.goto (-19), 3) := by decide +kernel
theorem dM_wipe_57 : decode cM_wipe 57 = .ok (.return_, 1) := by decide +kernel
theorem dM_table_0 : decode cM_table 0 = .ok (.aload_n 0, 1) := by decide +kernel
theorem dM_table_1 : decode cM_table 1 = .ok (.iconst 0, 1) := by decide +kernel
theorem dM_table_2 : decode cM_table 2 = .ok (.putfield 1, 3) := by decide +kernel
theorem dM_table_5 : decode cM_table 5 = .ok (.iload_n 1, 1) := by decide +kernel
theorem dM_table_6 : decode cM_table 6 = .ok (.invokestatic 129, 3) := by decide +kernel
theorem dM_table_9 : decode cM_table 9 = .ok (.ifCond .eq 23, 3) := by decide +kernel
theorem dM_table_12 : decode cM_table 12 = .ok (.iload_n 2, 1) := by decide +kernel
theorem dM_table_13 : decode cM_table 13 = .ok (.invokestatic 114, 3) := by decide +kernel
theorem dM_table_16 : decode cM_table 16 = .ok (.ifCond .eq 16, 3) := by decide +kernel
theorem dM_table_19 : decode cM_table 19 = .ok (.iload 4, 2) := by decide +kernel
theorem dM_table_21 : decode cM_table 21 = .ok (.i2l, 1) := by decide +kernel
theorem dM_table_22 : decode cM_table 22 = .ok (.lconst 1, 1) := by decide +kernel
theorem dM_table_23 : decode cM_table 23 = .ok (.ldc2_w 132, 3) := by decide +kernel
theorem dM_table_26 : decode cM_table 26 = .ok (.invokestatic 71, 3) := by decide +kernel
theorem dM_table_29 : decode cM_table 29 = .ok (.ifCond .ne 6, 3) := by decide +kernel
theorem dM_table_32 : decode cM_table 32 = .ok (.ldc 90, 2) := by decide +kernel
theorem dM_table_34 : decode cM_table 34 = .ok (.ireturn, 1) := by decide +kernel
theorem dM_table_35 : decode cM_table 35 = .ok (.aload_n 0, 1) := by decide +kernel
theorem dM_table_36 : decode cM_table 36 = .ok (.getfield 27, 3) := by decide +kernel
theorem dM_table_39 : decode cM_table 39 = .ok (.iload_n 2, 1) := by decide +kernel
theorem dM_table_40 : decode cM_table 40 = .ok (.iaload, 1) := by decide +kernel
theorem dM_table_41 : decode cM_table 41 = .ok (.ifCond .ge 9, 3) := by decide +kernel
theorem dM_table_44 : decode cM_table 44 = .ok (.aload_n 0, 1) := by decide +kernel
theorem dM_table_45 : decode cM_table 45 = .ok (.iconst 1, 1) := by decide +kernel
theorem dM_table_46 : decode cM_table 46 = .ok (.invokevirtual 119, 3) := by decide +kernel
theorem dM_table_49 : decode cM_table 49 = .ok (.ireturn, 1) := by decide +kernel
theorem dM_table_50 : decode cM_table 50 = .ok (.iload 4, 2) := by decide +kernel
theorem dM_table_52 : decode cM_table 52 = .ok (.iload 4, 2) := by decide +kernel
theorem dM_table_54 : decode cM_table 54 = .ok (.imul, 1) := by decide +kernel
theorem dM_table_55 : decode cM_table 55 = .ok (.iload 4, 2) := by decide +kernel
theorem dM_table_57 : decode cM_table 57 = .ok (.iadd, 1) := by decide +kernel
theorem dM_table_58 : decode cM_table 58 = .ok (.istore 5, 2) := by decide +kernel
theorem dM_table_60 : decode cM_table 60 = .ok (.iload_n 3, 1) := by decide +kernel
theorem dM_table_61 : decode cM_table 61 = .ok (.ifCond .lt 22, 3) := by decide +kernel
theorem dM_table_64 : decode cM_table 64 = .ok (.iload_n 3, 1) := by decide +kernel
theorem dM_table_65 : decode cM_table 65 = .ok (.i2l, 1) := by decide +kernel
theorem dM_table_66 : decode cM_table 66 = .ok (.iconst 2, 1) := by decide +kernel
theorem dM_table_67 : decode cM_table 67 = .ok (.iload 5, 2) := by decide +kernel
theorem dM_table_69 : decode cM_table 69 = .ok (.imul, 1) := by decide +kernel
theorem dM_table_70 : decode cM_table 70 = .ok (.i2l, 1) := by decide +kernel
theorem dM_table_71 : decode cM_table 71 = .ok (.ladd, 1) := by decide +kernel
theorem dM_table_72 : decode cM_table 72 = .ok (.aload_n 0, 1) := by decide +kernel
theorem dM_table_73 : decode cM_table 73 = .ok (.getfield 30, 3) := by decide +kernel
theorem dM_table_76 : decode cM_table 76 = .ok (.iload_n 2, 1) := by decide +kernel
theorem dM_table_77 : decode cM_table 77 = .ok (.iaload, 1) := by decide +kernel
theorem dM_table_78 : decode cM_table 78 = .ok (.i2l, 1) := by decide +kernel
theorem dM_table_79 : decode cM_table 79 = .ok (.lcmp, 1) := by decide +kernel
theorem dM_table_80 : decode cM_table 80 = .ok (.ifCond .le 9, 3) := by decide +kernel
theorem dM_table_83 : decode cM_table 83 = .ok (.aload_n 0, 1) := by decide +kernel
theorem dM_table_84 : decode cM_table 84 = .ok (.iconst 2, 1) := by decide +kernel
theorem dM_table_85 : decode cM_table 85 = .ok (.invokevirtual 119, 3) := by decide +kernel
theorem dM_table_88 : decode cM_table 88 = .ok (.ireturn, 1) := by decide +kernel
theorem dM_table_89 : decode cM_table 89 = .ok (.iconst 0, 1) := by decide +kernel
theorem dM_table_90 : decode cM_table 90 = .ok (.istore 6, 2) := by decide +kernel
theorem dM_table_92 : decode cM_table 92 = .ok (.iload 6, 2) := by decide +kernel
theorem dM_table_94 : decode cM_table 94 = .ok (.iload 5, 2) := by decide +kernel
theorem dM_table_96 : decode cM_table 96 = .ok (.if_icmp .ge 39, 3) := by decide +kernel
theorem dM_table_99 : decode cM_table 99 = .ok (.aload_n 0, 1) := by decide +kernel
theorem dM_table_100 : decode cM_table 100 = .ok (.aload_n 0, 1) := by decide +kernel
theorem dM_table_101 : decode cM_table 101 = .ok (.getfield 33, 3) := by decide +kernel
theorem dM_table_104 : decode cM_table 104 = .ok (.bipush 80, 2) := by decide +kernel
theorem dM_table_106 : decode cM_table 106 = .ok (.iload_n 2, 1) := by decide +kernel
theorem dM_table_107 : decode cM_table 107 = .ok (.imul, 1) := by decide +kernel
theorem dM_table_108 : decode cM_table 108 = .ok (.iload_n 3, 1) := by decide +kernel
theorem dM_table_109 : decode cM_table 109 = .ok (.iadd, 1) := by decide +kernel
theorem dM_table_110 : decode cM_table 110 = .ok (.iconst 2, 1) := by decide +kernel
theorem dM_table_111 : decode cM_table 111 = .ok (.iload 6, 2) := by decide +kernel
theorem dM_table_113 : decode cM_table 113 = .ok (.imul, 1) := by decide +kernel
theorem dM_table_114 : decode cM_table 114 = .ok (.iadd, 1) := by decide +kernel
theorem dM_table_115 : decode cM_table 115 = .ok (.iconst 1, 1) := by decide +kernel
theorem dM_table_116 : decode cM_table 116 = .ok (.iadd, 1) := by decide +kernel
theorem dM_table_117 : decode cM_table 117 = .ok (.laload, 1) := by decide +kernel
theorem dM_table_118 : decode cM_table 118 = .ok (.invokevirtual 134, 3) := by decide +kernel
theorem dM_table_121 : decode cM_table 121 = .ok (.lconst 0, 1) := by decide +kernel
theorem dM_table_122 : decode cM_table 122 = .ok (.lcmp, 1) := by decide +kernel
theorem dM_table_123 : decode cM_table 123 = .ok (.ifCond .ne 6, 3) := by decide +kernel
theorem dM_table_126 : decode cM_table 126 = .ok (.ldc 90, 2) := by decide +kernel
theorem dM_table_128 : decode cM_table 128 = .ok (.ireturn, 1) := by decide +kernel
theorem dM_table_129 : decode cM_table 129 = .ok (.iinc 6 1, 3) := by decide +kernel
theorem dM_table_132 : decode cM_table 132 = .ok (.goto (-40), 3) := by decide +kernel
theorem dM_table_135 : decode cM_table 135 = .ok (.aload_n 0, 1) := by decide +kernel
theorem dM_table_136 : decode cM_table 136 = .ok (.iload 4, 2) := by decide +kernel
theorem dM_table_138 : decode cM_table 138 = .ok (.invokevirtual 138, 3) := by decide +kernel
theorem dM_table_141 : decode cM_table 141 = .ok (.iconst 0, 1) := by decide +kernel
theorem dM_table_142 : decode cM_table 142 = .ok (.istore 6, 2) := by decide +kernel
theorem dM_table_144 : decode cM_table 144 = .ok (.iload 6, 2) := by decide +kernel
theorem dM_table_146 : decode cM_table 146 = .ok (.iload 5, 2) := by decide +kernel
theorem dM_table_148 : decode cM_table 148 = .ok (.if_icmp .ge 120, 3) := by decide +kernel
theorem dM_table_151 : decode cM_table 151 = .ok (.aload_n 0, 1) := by decide +kernel
theorem dM_table_152 : decode cM_table 152 = .ok (.aload_n 0, 1) := by decide +kernel
theorem dM_table_153 : decode cM_table 153 = .ok (.getfield 33, 3) := by decide +kernel
theorem dM_table_156 : decode cM_table 156 = .ok (.bipush 80, 2) := by decide +kernel
theorem dM_table_158 : decode cM_table 158 = .ok (.iload_n 2, 1) := by decide +kernel
theorem dM_table_159 : decode cM_table 159 = .ok (.imul, 1) := by decide +kernel
theorem dM_table_160 : decode cM_table 160 = .ok (.iload_n 3, 1) := by decide +kernel
theorem dM_table_161 : decode cM_table 161 = .ok (.iadd, 1) := by decide +kernel
theorem dM_table_162 : decode cM_table 162 = .ok (.iconst 2, 1) := by decide +kernel
theorem dM_table_163 : decode cM_table 163 = .ok (.iload 6, 2) := by decide +kernel
theorem dM_table_165 : decode cM_table 165 = .ok (.imul, 1) := by decide +kernel
theorem dM_table_166 : decode cM_table 166 = .ok (.iadd, 1) := by decide +kernel
theorem dM_table_167 : decode cM_table 167 = .ok (.laload, 1) := by decide +kernel
theorem dM_table_168 : decode cM_table 168 = .ok (.invokevirtual 134, 3) := by decide +kernel
theorem dM_table_171 : decode cM_table 171 = .ok (.aload_n 0, 1) := by decide +kernel
theorem dM_table_172 : decode cM_table 172 = .ok (.aload_n 0, 1) := by decide +kernel
theorem dM_table_173 : decode cM_table 173 = .ok (.aload_n 0, 1) := by decide +kernel
theorem dM_table_174 : decode cM_table 174 = .ok (.getfield 33, 3) := by decide +kernel
theorem dM_table_177 : decode cM_table 177 = .ok (.bipush 80, 2) := by decide +kernel
theorem dM_table_179 : decode cM_table 179 = .ok (.iload_n 2, 1) := by decide +kernel
theorem dM_table_180 : decode cM_table 180 = .ok (.imul, 1) := by decide +kernel
theorem dM_table_181 : decode cM_table 181 = .ok (.iload_n 3, 1) := by decide +kernel
theorem dM_table_182 : decode cM_table 182 = .ok (.iadd, 1) := by decide +kernel
theorem dM_table_183 : decode cM_table 183 = .ok (.iconst 2, 1) := by decide +kernel
theorem dM_table_184 : decode cM_table 184 = .ok (.iload 6, 2) := by decide +kernel
theorem dM_table_186 : decode cM_table 186 = .ok (.imul, 1) := by decide +kernel
theorem dM_table_187 : decode cM_table 187 = .ok (.iadd, 1) := by decide +kernel
theorem dM_table_188 : decode cM_table 188 = .ok (.iconst 1, 1) := by decide +kernel
theorem dM_table_189 : decode cM_table 189 = .ok (.iadd, 1) := by decide +kernel
theorem dM_table_190 : decode cM_table 190 = .ok (.laload, 1) := by decide +kernel
theorem dM_table_191 : decode cM_table 191 = .ok (.invokevirtual 134, 3) := by decide +kernel
theorem dM_table_194 : decode cM_table 194 = .ok (.invokevirtual 142, 3) := by decide +kernel
theorem dM_table_197 : decode cM_table 197 = .ok (.lmul, 1) := by decide +kernel
theorem dM_table_198 : decode cM_table 198 = .ok (.aload_n 0, 1) := by decide +kernel
theorem dM_table_199 : decode cM_table 199 = .ok (.getfield 80, 3) := by decide +kernel
theorem dM_table_202 : decode cM_table 202 = .ok (.i2l, 1) := by decide +kernel
theorem dM_table_203 : decode cM_table 203 = .ok (.lrem, 1) := by decide +kernel
theorem dM_table_204 : decode cM_table 204 = .ok (.lstore 7, 2) := by decide +kernel
theorem dM_table_206 : decode cM_table 206 = .ok (.iload 6, 2) := by decide +kernel
theorem dM_table_208 : decode cM_table 208 = .ok (.iload 4, 2) := by decide +kernel
theorem dM_table_210 : decode cM_table 210 = .ok (.iload 4, 2) := by decide +kernel
theorem dM_table_212 : decode cM_table 212 = .ok (.imul, 1) := by decide +kernel
theorem dM_table_213 : decode cM_table 213 = .ok (.if_icmp .ge 31, 3) := by decide +kernel
theorem dM_table_216 : decode cM_table 216 = .ok (.aload_n 0, 1) := by decide +kernel
theorem dM_table_217 : decode cM_table 217 = .ok (.getfield 40, 3) := by decide +kernel
theorem dM_table_220 : decode cM_table 220 = .ok (.sipush 640, 3) := by decide +kernel
theorem dM_table_223 : decode cM_table 223 = .ok (.bipush 8, 2) := by decide +kernel
theorem dM_table_225 : decode cM_table 225 = .ok (.iload 6, 2) := by decide +kernel
theorem dM_table_227 : decode cM_table 227 = .ok (.iload 4, 2) := by decide +kernel
theorem dM_table_229 : decode cM_table 229 = .ok (.idiv, 1) := by decide +kernel
theorem dM_table_230 : decode cM_table 230 = .ok (.imul, 1) := by decide +kernel
theorem dM_table_231 : decode cM_table 231 = .ok (.iadd, 1) := by decide +kernel
theorem dM_table_232 : decode cM_table 232 = .ok (.iload 6, 2) := by decide +kernel
theorem dM_table_234 : decode cM_table 234 = .ok (.iload 4, 2) := by decide +kernel
theorem dM_table_236 : decode cM_table 236 = .ok (.irem, 1) := by decide +kernel
theorem dM_table_237 : decode cM_table 237 = .ok (.iadd, 1) := by decide +kernel
theorem dM_table_238 : decode cM_table 238 = .ok (.lload 7, 2) := by decide +kernel
theorem dM_table_240 : decode cM_table 240 = .ok (.lastore, 1) := by decide +kernel
theorem dM_table_241 : decode cM_table 241 = .ok (.goto 21, 3) := by decide +kernel
theorem dM_table_244 : decode cM_table 244 = .ok (.aload_n 0, 1) := by decide +kernel
theorem dM_table_245 : decode cM_table 245 = .ok (.getfield 43, 3) := by decide +kernel
theorem dM_table_248 : decode cM_table 248 = .ok (.bipush 80, 2) := by decide +kernel
theorem dM_table_250 : decode cM_table 250 = .ok (.iload 6, 2) := by decide +kernel
theorem dM_table_252 : decode cM_table 252 = .ok (.iadd, 1) := by decide +kernel
theorem dM_table_253 : decode cM_table 253 = .ok (.iload 4, 2) := by decide +kernel
theorem dM_table_255 : decode cM_table 255 = .ok (.iload 4, 2) := by decide +kernel
theorem dM_table_257 : decode cM_table 257 = .ok (.imul, 1) := by decide +kernel
theorem dM_table_258 : decode cM_table 258 = .ok (.isub, 1) := by decide +kernel
theorem dM_table_259 : decode cM_table 259 = .ok (.lload 7, 2) := by decide +kernel
theorem dM_table_261 : decode cM_table 261 = .ok (.lastore, 1) := by decide +kernel
theorem dM_table_262 : decode cM_table 262 = .ok (.iinc 6 1, 3) := by decide +kernel
theorem dM_table_265 : decode cM_table 265 = .ok (.goto (-121), 3) := by decide +kernel
theorem dM_table_268 : decode cM_table 268 = .ok (.aload_n 0, 1) := by decide +kernel
theorem dM_table_269 : decode cM_table 269 = .ok (.iload_n 1, 1) := by decide +kernel
theorem dM_table_270 : decode cM_table 270 = .ok (.invokevirtual 145, 3) := by decide +kernel
theorem dM_table_273 : decode cM_table 273 = .ok (.ireturn, 1) := by decide +kernel
theorem dM_behind_0 : decode cM_behind 0 = .ok (.aload_n 0, 1) := by decide +kernel
theorem dM_behind_1 : decode cM_behind 1 = .ok (.iconst 0, 1) := by decide +kernel
theorem dM_behind_2 : decode cM_behind 2 = .ok (.putfield 1, 3) := by decide +kernel
theorem dM_behind_5 : decode cM_behind 5 = .ok (.iload_n 1, 1) := by decide +kernel
theorem dM_behind_6 : decode cM_behind 6 = .ok (.invokestatic 129, 3) := by decide +kernel
theorem dM_behind_9 : decode cM_behind 9 = .ok (.ifCond .eq 17, 3) := by decide +kernel
theorem dM_behind_12 : decode cM_behind 12 = .ok (.iload_n 2, 1) := by decide +kernel
theorem dM_behind_13 : decode cM_behind 13 = .ok (.invokestatic 129, 3) := by decide +kernel
theorem dM_behind_16 : decode cM_behind 16 = .ok (.ifCond .eq 10, 3) := by decide +kernel
theorem dM_behind_19 : decode cM_behind 19 = .ok (.iload_n 3, 1) := by decide +kernel
theorem dM_behind_20 : decode cM_behind 20 = .ok (.invokestatic 129, 3) := by decide +kernel
theorem dM_behind_23 : decode cM_behind 23 = .ok (.ifCond .ne 6, 3) := by decide +kernel
theorem dM_behind_26 : decode cM_behind 26 = .ok (.ldc 90, 2) := by decide +kernel
theorem dM_behind_28 : decode cM_behind 28 = .ok (.ireturn, 1) := by decide +kernel
theorem dM_behind_29 : decode cM_behind 29 = .ok (.aload_n 0, 1) := by decide +kernel
theorem dM_behind_30 : decode cM_behind 30 = .ok (.getfield 37, 3) := by decide +kernel
theorem dM_behind_33 : decode cM_behind 33 = .ok (.iload_n 2, 1) := by decide +kernel
theorem dM_behind_34 : decode cM_behind 34 = .ok (.iaload, 1) := by decide +kernel
theorem dM_behind_35 : decode cM_behind 35 = .ok (.ifCond .eq 12, 3) := by decide +kernel
theorem dM_behind_38 : decode cM_behind 38 = .ok (.aload_n 0, 1) := by decide +kernel
theorem dM_behind_39 : decode cM_behind 39 = .ok (.getfield 37, 3) := by decide +kernel
theorem dM_behind_42 : decode cM_behind 42 = .ok (.iload_n 3, 1) := by decide +kernel
theorem dM_behind_43 : decode cM_behind 43 = .ok (.iaload, 1) := by decide +kernel
theorem dM_behind_44 : decode cM_behind 44 = .ok (.ifCond .ne 9, 3) := by decide +kernel
theorem dM_behind_47 : decode cM_behind 47 = .ok (.aload_n 0, 1) := by decide +kernel
theorem dM_behind_48 : decode cM_behind 48 = .ok (.iconst 1, 1) := by decide +kernel
theorem dM_behind_49 : decode cM_behind 49 = .ok (.invokevirtual 119, 3) := by decide +kernel
theorem dM_behind_52 : decode cM_behind 52 = .ok (.ireturn, 1) := by decide +kernel
theorem dM_behind_53 : decode cM_behind 53 = .ok (.aload_n 0, 1) := by decide +kernel
theorem dM_behind_54 : decode cM_behind 54 = .ok (.getfield 37, 3) := by decide +kernel
theorem dM_behind_57 : decode cM_behind 57 = .ok (.iload_n 2, 1) := by decide +kernel
theorem dM_behind_58 : decode cM_behind 58 = .ok (.iaload, 1) := by decide +kernel
theorem dM_behind_59 : decode cM_behind 59 = .ok (.istore 4, 2) := by decide +kernel
theorem dM_behind_61 : decode cM_behind 61 = .ok (.iload 4, 2) := by decide +kernel
theorem dM_behind_63 : decode cM_behind 63 = .ok (.aload_n 0, 1) := by decide +kernel
theorem dM_behind_64 : decode cM_behind 64 = .ok (.getfield 37, 3) := by decide +kernel
theorem dM_behind_67 : decode cM_behind 67 = .ok (.iload_n 3, 1) := by decide +kernel
theorem dM_behind_68 : decode cM_behind 68 = .ok (.iaload, 1) := by decide +kernel
theorem dM_behind_69 : decode cM_behind 69 = .ok (.iadd, 1) := by decide +kernel
theorem dM_behind_70 : decode cM_behind 70 = .ok (.istore 5, 2) := by decide +kernel
theorem dM_behind_72 : decode cM_behind 72 = .ok (.iload 5, 2) := by decide +kernel
theorem dM_behind_74 : decode cM_behind 74 = .ok (.bipush 8, 2) := by decide +kernel
theorem dM_behind_76 : decode cM_behind 76 = .ok (.if_icmp .le 6, 3) := by decide +kernel
theorem dM_behind_79 : decode cM_behind 79 = .ok (.ldc 148, 2) := by decide +kernel
theorem dM_behind_81 : decode cM_behind 81 = .ok (.ireturn, 1) := by decide +kernel
theorem dM_behind_82 : decode cM_behind 82 = .ok (.aload_n 0, 1) := by decide +kernel
theorem dM_behind_83 : decode cM_behind 83 = .ok (.iload 5, 2) := by decide +kernel
theorem dM_behind_85 : decode cM_behind 85 = .ok (.invokevirtual 138, 3) := by decide +kernel
theorem dM_behind_88 : decode cM_behind 88 = .ok (.iconst 0, 1) := by decide +kernel
theorem dM_behind_89 : decode cM_behind 89 = .ok (.istore 6, 2) := by decide +kernel
theorem dM_behind_91 : decode cM_behind 91 = .ok (.iload 6, 2) := by decide +kernel
theorem dM_behind_93 : decode cM_behind 93 = .ok (.iload 5, 2) := by decide +kernel
theorem dM_behind_95 : decode cM_behind 95 = .ok (.if_icmp .ge 183, 3) := by decide +kernel
theorem dM_behind_98 : decode cM_behind 98 = .ok (.iconst 0, 1) := by decide +kernel
theorem dM_behind_99 : decode cM_behind 99 = .ok (.istore 7, 2) := by decide +kernel
theorem dM_behind_101 : decode cM_behind 101 = .ok (.iload 7, 2) := by decide +kernel
theorem dM_behind_103 : decode cM_behind 103 = .ok (.iload 5, 2) := by decide +kernel
theorem dM_behind_105 : decode cM_behind 105 = .ok (.if_icmp .ge 120, 3) := by decide +kernel
theorem dM_behind_108 : decode cM_behind 108 = .ok (.lconst 0, 1) := by decide +kernel
theorem dM_behind_109 : decode cM_behind 109 = .ok (.lstore 8, 2) := by decide +kernel
theorem dM_behind_111 : decode cM_behind 111 = .ok (.iload 6, 2) := by decide +kernel
theorem dM_behind_113 : decode cM_behind 113 = .ok (.iload 4, 2) := by decide +kernel
theorem dM_behind_115 : decode cM_behind 115 = .ok (.if_icmp .ge 37, 3) := by decide +kernel
theorem dM_behind_118 : decode cM_behind 118 = .ok (.iload 7, 2) := by decide +kernel
theorem dM_behind_120 : decode cM_behind 120 = .ok (.iload 4, 2) := by decide +kernel
theorem dM_behind_122 : decode cM_behind 122 = .ok (.if_icmp .ge 24, 3) := by decide +kernel
theorem dM_behind_125 : decode cM_behind 125 = .ok (.aload_n 0, 1) := by decide +kernel
theorem dM_behind_126 : decode cM_behind 126 = .ok (.getfield 40, 3) := by decide +kernel
theorem dM_behind_129 : decode cM_behind 129 = .ok (.bipush 64, 2) := by decide +kernel
theorem dM_behind_131 : decode cM_behind 131 = .ok (.iload_n 2, 1) := by decide +kernel
theorem dM_behind_132 : decode cM_behind 132 = .ok (.imul, 1) := by decide +kernel
theorem dM_behind_133 : decode cM_behind 133 = .ok (.bipush 8, 2) := by decide +kernel
theorem dM_behind_135 : decode cM_behind 135 = .ok (.iload 6, 2) := by decide +kernel
theorem dM_behind_137 : decode cM_behind 137 = .ok (.imul, 1) := by decide +kernel
theorem dM_behind_138 : decode cM_behind 138 = .ok (.iadd, 1) := by decide +kernel
theorem dM_behind_139 : decode cM_behind 139 = .ok (.iload 7, 2) := by decide +kernel
theorem dM_behind_141 : decode cM_behind 141 = .ok (.iadd, 1) := by decide +kernel
theorem dM_behind_142 : decode cM_behind 142 = .ok (.laload, 1) := by decide +kernel
theorem dM_behind_143 : decode cM_behind 143 = .ok (.goto 4, 3) := by decide +kernel
theorem dM_behind_146 : decode cM_behind 146 = .ok (.lconst 0, 1) := by decide +kernel
theorem dM_behind_147 : decode cM_behind 147 = .ok (.lstore 8, 2) := by decide +kernel
theorem dM_behind_149 : decode cM_behind 149 = .ok (.goto 51, 3) := by decide +kernel
theorem dM_behind_152 : decode cM_behind 152 = .ok (.iload 7, 2) := by decide +kernel
theorem dM_behind_154 : decode cM_behind 154 = .ok (.iload 4, 2) := by decide +kernel
theorem dM_behind_156 : decode cM_behind 156 = .ok (.if_icmp .ge 18, 3) := by decide +kernel
theorem dM_behind_159 : decode cM_behind 159 = .ok (.aload_n 0, 1) := by decide +kernel
theorem dM_behind_160 : decode cM_behind 160 = .ok (.getfield 43, 3) := by decide +kernel
theorem dM_behind_163 : decode cM_behind 163 = .ok (.bipush 8, 2) := by decide +kernel
theorem dM_behind_165 : decode cM_behind 165 = .ok (.iload_n 2, 1) := by decide +kernel
theorem dM_behind_166 : decode cM_behind 166 = .ok (.imul, 1) := by decide +kernel
theorem dM_behind_167 : decode cM_behind 167 = .ok (.iload 7, 2) := by decide +kernel
theorem dM_behind_169 : decode cM_behind 169 = .ok (.iadd, 1) := by decide +kernel
theorem dM_behind_170 : decode cM_behind 170 = .ok (.laload, 1) := by decide +kernel
theorem dM_behind_171 : decode cM_behind 171 = .ok (.goto 27, 3) := by decide +kernel
theorem dM_behind_174 : decode cM_behind 174 = .ok (.aload_n 0, 1) := by decide +kernel
theorem dM_behind_175 : decode cM_behind 175 = .ok (.getfield 40, 3) := by decide +kernel
theorem dM_behind_178 : decode cM_behind 178 = .ok (.bipush 64, 2) := by decide +kernel
theorem dM_behind_180 : decode cM_behind 180 = .ok (.iload_n 3, 1) := by decide +kernel
theorem dM_behind_181 : decode cM_behind 181 = .ok (.imul, 1) := by decide +kernel
theorem dM_behind_182 : decode cM_behind 182 = .ok (.bipush 8, 2) := by decide +kernel
theorem dM_behind_184 : decode cM_behind 184 = .ok (.iload 6, 2) := by decide +kernel
theorem dM_behind_186 : decode cM_behind 186 = .ok (.iload 4, 2) := by decide +kernel
theorem dM_behind_188 : decode cM_behind 188 = .ok (.isub, 1) := by decide +kernel
theorem dM_behind_189 : decode cM_behind 189 = .ok (.imul, 1) := by decide +kernel
theorem dM_behind_190 : decode cM_behind 190 = .ok (.iadd, 1) := by decide +kernel
theorem dM_behind_191 : decode cM_behind 191 = .ok (.iload 7, 2) := by decide +kernel
theorem dM_behind_193 : decode cM_behind 193 = .ok (.iadd, 1) := by decide +kernel
theorem dM_behind_194 : decode cM_behind 194 = .ok (.iload 4, 2) := by decide +kernel
theorem dM_behind_196 : decode cM_behind 196 = .ok (.isub, 1) := by decide +kernel
theorem dM_behind_197 : decode cM_behind 197 = .ok (.laload, 1) := by decide +kernel
theorem dM_behind_198 : decode cM_behind 198 = .ok (.lstore 8, 2) := by decide +kernel
theorem dM_behind_200 : decode cM_behind 200 = .ok (.aload_n 0, 1) := by decide +kernel
theorem dM_behind_201 : decode cM_behind 201 = .ok (.getfield 40, 3) := by decide +kernel
theorem dM_behind_204 : decode cM_behind 204 = .ok (.sipush 640, 3) := by decide +kernel
theorem dM_behind_207 : decode cM_behind 207 = .ok (.bipush 8, 2) := by decide +kernel
theorem dM_behind_209 : decode cM_behind 209 = .ok (.iload 6, 2) := by decide +kernel
theorem dM_behind_211 : decode cM_behind 211 = .ok (.imul, 1) := by decide +kernel
theorem dM_behind_212 : decode cM_behind 212 = .ok (.iadd, 1) := by decide +kernel
theorem dM_behind_213 : decode cM_behind 213 = .ok (.iload 7, 2) := by decide +kernel
theorem dM_behind_215 : decode cM_behind 215 = .ok (.iadd, 1) := by decide +kernel
theorem dM_behind_216 : decode cM_behind 216 = .ok (.lload 8, 2) := by decide +kernel
theorem dM_behind_218 : decode cM_behind 218 = .ok (.lastore, 1) := by decide +kernel
theorem dM_behind_219 : decode cM_behind 219 = .ok (.iinc 7 1, 3) := by decide +kernel
theorem dM_behind_222 : decode cM_behind 222 = .ok (.goto (-121), 3) := by decide +kernel
theorem dM_behind_225 : decode cM_behind 225 = .ok (.aload_n 0, 1) := by decide +kernel
theorem dM_behind_226 : decode cM_behind 226 = .ok (.getfield 43, 3) := by decide +kernel
theorem dM_behind_229 : decode cM_behind 229 = .ok (.bipush 80, 2) := by decide +kernel
theorem dM_behind_231 : decode cM_behind 231 = .ok (.iload 6, 2) := by decide +kernel
theorem dM_behind_233 : decode cM_behind 233 = .ok (.iadd, 1) := by decide +kernel
theorem dM_behind_234 : decode cM_behind 234 = .ok (.iload 6, 2) := by decide +kernel
theorem dM_behind_236 : decode cM_behind 236 = .ok (.iload 4, 2) := by decide +kernel
theorem dM_behind_238 : decode cM_behind 238 = .ok (.if_icmp .ge 18, 3) := by decide +kernel
theorem dM_behind_241 : decode cM_behind 241 = .ok (.aload_n 0, 1) := by decide +kernel
theorem dM_behind_242 : decode cM_behind 242 = .ok (.getfield 43, 3) := by decide +kernel
theorem dM_behind_245 : decode cM_behind 245 = .ok (.bipush 8, 2) := by decide +kernel
theorem dM_behind_247 : decode cM_behind 247 = .ok (.iload_n 2, 1) := by decide +kernel
theorem dM_behind_248 : decode cM_behind 248 = .ok (.imul, 1) := by decide +kernel
theorem dM_behind_249 : decode cM_behind 249 = .ok (.iload 6, 2) := by decide +kernel
theorem dM_behind_251 : decode cM_behind 251 = .ok (.iadd, 1) := by decide +kernel
theorem dM_behind_252 : decode cM_behind 252 = .ok (.laload, 1) := by decide +kernel
theorem dM_behind_253 : decode cM_behind 253 = .ok (.goto 18, 3) := by decide +kernel
theorem dM_behind_256 : decode cM_behind 256 = .ok (.aload_n 0, 1) := by decide +kernel
theorem dM_behind_257 : decode cM_behind 257 = .ok (.getfield 43, 3) := by decide +kernel
theorem dM_behind_260 : decode cM_behind 260 = .ok (.bipush 8, 2) := by decide +kernel
theorem dM_behind_262 : decode cM_behind 262 = .ok (.iload_n 3, 1) := by decide +kernel
theorem dM_behind_263 : decode cM_behind 263 = .ok (.imul, 1) := by decide +kernel
theorem dM_behind_264 : decode cM_behind 264 = .ok (.iload 6, 2) := by decide +kernel
theorem dM_behind_266 : decode cM_behind 266 = .ok (.iadd, 1) := by decide +kernel
theorem dM_behind_267 : decode cM_behind 267 = .ok (.iload 4, 2) := by decide +kernel
theorem dM_behind_269 : decode cM_behind 269 = .ok (.isub, 1) := by decide +kernel
theorem dM_behind_270 : decode cM_behind 270 = .ok (.laload, 1) := by decide +kernel
theorem dM_behind_271 : decode cM_behind 271 = .ok (.lastore, 1) := by decide +kernel
theorem dM_behind_272 : decode cM_behind 272 = .ok (.iinc 6 1, 3) := by decide +kernel
theorem dM_behind_275 : decode cM_behind 275 = .ok (.goto (-184), 3) := by decide +kernel
theorem dM_behind_278 : decode cM_behind 278 = .ok (.aload_n 0, 1) := by decide +kernel
theorem dM_behind_279 : decode cM_behind 279 = .ok (.iload_n 1, 1) := by decide +kernel
theorem dM_behind_280 : decode cM_behind 280 = .ok (.invokevirtual 145, 3) := by decide +kernel
theorem dM_behind_283 : decode cM_behind 283 = .ok (.ireturn, 1) := by decide +kernel
theorem dM_turn_0 : decode cM_turn 0 = .ok (.aload_n 0, 1) := by decide +kernel
theorem dM_turn_1 : decode cM_turn 1 = .ok (.iconst 0, 1) := by decide +kernel
theorem dM_turn_2 : decode cM_turn 2 = .ok (.putfield 1, 3) := by decide +kernel
theorem dM_turn_5 : decode cM_turn 5 = .ok (.iload_n 1, 1) := by decide +kernel
theorem dM_turn_6 : decode cM_turn 6 = .ok (.invokestatic 129, 3) := by decide +kernel
theorem dM_turn_9 : decode cM_turn 9 = .ok (.ifCond .eq 20, 3) := by decide +kernel
theorem dM_turn_12 : decode cM_turn 12 = .ok (.iload_n 2, 1) := by decide +kernel
theorem dM_turn_13 : decode cM_turn 13 = .ok (.invokestatic 129, 3) := by decide +kernel
theorem dM_turn_16 : decode cM_turn 16 = .ok (.ifCond .eq 13, 3) := by decide +kernel
theorem dM_turn_19 : decode cM_turn 19 = .ok (.iload_n 3, 1) := by decide +kernel
theorem dM_turn_20 : decode cM_turn 20 = .ok (.i2l, 1) := by decide +kernel
theorem dM_turn_21 : decode cM_turn 21 = .ok (.lconst 0, 1) := by decide +kernel
theorem dM_turn_22 : decode cM_turn 22 = .ok (.lconst 1, 1) := by decide +kernel
theorem dM_turn_23 : decode cM_turn 23 = .ok (.invokestatic 71, 3) := by decide +kernel
theorem dM_turn_26 : decode cM_turn 26 = .ok (.ifCond .ne 6, 3) := by decide +kernel
theorem dM_turn_29 : decode cM_turn 29 = .ok (.ldc 90, 2) := by decide +kernel
theorem dM_turn_31 : decode cM_turn 31 = .ok (.ireturn, 1) := by decide +kernel
theorem dM_turn_32 : decode cM_turn 32 = .ok (.aload_n 0, 1) := by decide +kernel
theorem dM_turn_33 : decode cM_turn 33 = .ok (.getfield 37, 3) := by decide +kernel
theorem dM_turn_36 : decode cM_turn 36 = .ok (.iload_n 2, 1) := by decide +kernel
theorem dM_turn_37 : decode cM_turn 37 = .ok (.iaload, 1) := by decide +kernel
theorem dM_turn_38 : decode cM_turn 38 = .ok (.ifCond .ne 9, 3) := by decide +kernel
theorem dM_turn_41 : decode cM_turn 41 = .ok (.aload_n 0, 1) := by decide +kernel
theorem dM_turn_42 : decode cM_turn 42 = .ok (.iconst 1, 1) := by decide +kernel
theorem dM_turn_43 : decode cM_turn 43 = .ok (.invokevirtual 119, 3) := by decide +kernel
theorem dM_turn_46 : decode cM_turn 46 = .ok (.ireturn, 1) := by decide +kernel
theorem dM_turn_47 : decode cM_turn 47 = .ok (.aload_n 0, 1) := by decide +kernel
theorem dM_turn_48 : decode cM_turn 48 = .ok (.getfield 37, 3) := by decide +kernel
theorem dM_turn_51 : decode cM_turn 51 = .ok (.iload_n 2, 1) := by decide +kernel
theorem dM_turn_52 : decode cM_turn 52 = .ok (.iaload, 1) := by decide +kernel
theorem dM_turn_53 : decode cM_turn 53 = .ok (.istore 4, 2) := by decide +kernel
theorem dM_turn_55 : decode cM_turn 55 = .ok (.aload_n 0, 1) := by decide +kernel
theorem dM_turn_56 : decode cM_turn 56 = .ok (.iload 4, 2) := by decide +kernel
theorem dM_turn_58 : decode cM_turn 58 = .ok (.invokevirtual 138, 3) := by decide +kernel
theorem dM_turn_61 : decode cM_turn 61 = .ok (.iconst 0, 1) := by decide +kernel
theorem dM_turn_62 : decode cM_turn 62 = .ok (.istore 5, 2) := by decide +kernel
theorem dM_turn_64 : decode cM_turn 64 = .ok (.iload 5, 2) := by decide +kernel
theorem dM_turn_66 : decode cM_turn 66 = .ok (.iload 4, 2) := by decide +kernel
theorem dM_turn_68 : decode cM_turn 68 = .ok (.if_icmp .ge 208, 3) := by decide +kernel
theorem dM_turn_71 : decode cM_turn 71 = .ok (.iconst 0, 1) := by decide +kernel
theorem dM_turn_72 : decode cM_turn 72 = .ok (.istore 6, 2) := by decide +kernel
theorem dM_turn_74 : decode cM_turn 74 = .ok (.iload 6, 2) := by decide +kernel
theorem dM_turn_76 : decode cM_turn 76 = .ok (.iload 4, 2) := by decide +kernel
theorem dM_turn_78 : decode cM_turn 78 = .ok (.if_icmp .ge 134, 3) := by decide +kernel
theorem dM_turn_81 : decode cM_turn 81 = .ok (.aload_n 0, 1) := by decide +kernel
theorem dM_turn_82 : decode cM_turn 82 = .ok (.getfield 40, 3) := by decide +kernel
theorem dM_turn_85 : decode cM_turn 85 = .ok (.sipush 640, 3) := by decide +kernel
theorem dM_turn_88 : decode cM_turn 88 = .ok (.bipush 8, 2) := by decide +kernel
theorem dM_turn_90 : decode cM_turn 90 = .ok (.iload 6, 2) := by decide +kernel
theorem dM_turn_92 : decode cM_turn 92 = .ok (.imul, 1) := by decide +kernel
theorem dM_turn_93 : decode cM_turn 93 = .ok (.iadd, 1) := by decide +kernel
theorem dM_turn_94 : decode cM_turn 94 = .ok (.iload 5, 2) := by decide +kernel
theorem dM_turn_96 : decode cM_turn 96 = .ok (.iadd, 1) := by decide +kernel
theorem dM_turn_97 : decode cM_turn 97 = .ok (.iload_n 3, 1) := by decide +kernel
theorem dM_turn_98 : decode cM_turn 98 = .ok (.ifCond .ne 49, 3) := by decide +kernel
theorem dM_turn_101 : decode cM_turn 101 = .ok (.aload_n 0, 1) := by decide +kernel
theorem dM_turn_102 : decode cM_turn 102 = .ok (.getfield 40, 3) := by decide +kernel
theorem dM_turn_105 : decode cM_turn 105 = .ok (.bipush 64, 2) := by decide +kernel
theorem dM_turn_107 : decode cM_turn 107 = .ok (.iload_n 2, 1) := by decide +kernel
theorem dM_turn_108 : decode cM_turn 108 = .ok (.imul, 1) := by decide +kernel
theorem dM_turn_109 : decode cM_turn 109 = .ok (.bipush 8, 2) := by decide +kernel
theorem dM_turn_111 : decode cM_turn 111 = .ok (.iload 6, 2) := by decide +kernel
theorem dM_turn_113 : decode cM_turn 113 = .ok (.imul, 1) := by decide +kernel
theorem dM_turn_114 : decode cM_turn 114 = .ok (.iadd, 1) := by decide +kernel
theorem dM_turn_115 : decode cM_turn 115 = .ok (.iload 5, 2) := by decide +kernel
theorem dM_turn_117 : decode cM_turn 117 = .ok (.iadd, 1) := by decide +kernel
theorem dM_turn_118 : decode cM_turn 118 = .ok (.laload, 1) := by decide +kernel
theorem dM_turn_119 : decode cM_turn 119 = .ok (.aload_n 0, 1) := by decide +kernel
theorem dM_turn_120 : decode cM_turn 120 = .ok (.getfield 80, 3) := by decide +kernel
theorem dM_turn_123 : decode cM_turn 123 = .ok (.i2l, 1) := by decide +kernel
theorem dM_turn_124 : decode cM_turn 124 = .ok (.ladd, 1) := by decide +kernel
theorem dM_turn_125 : decode cM_turn 125 = .ok (.aload_n 0, 1) := by decide +kernel
theorem dM_turn_126 : decode cM_turn 126 = .ok (.getfield 43, 3) := by decide +kernel
theorem dM_turn_129 : decode cM_turn 129 = .ok (.bipush 8, 2) := by decide +kernel
theorem dM_turn_131 : decode cM_turn 131 = .ok (.iload_n 2, 1) := by decide +kernel
theorem dM_turn_132 : decode cM_turn 132 = .ok (.imul, 1) := by decide +kernel
theorem dM_turn_133 : decode cM_turn 133 = .ok (.iload 5, 2) := by decide +kernel
theorem dM_turn_135 : decode cM_turn 135 = .ok (.iadd, 1) := by decide +kernel
theorem dM_turn_136 : decode cM_turn 136 = .ok (.laload, 1) := by decide +kernel
theorem dM_turn_137 : decode cM_turn 137 = .ok (.lsub, 1) := by decide +kernel
theorem dM_turn_138 : decode cM_turn 138 = .ok (.aload_n 0, 1) := by decide +kernel
theorem dM_turn_139 : decode cM_turn 139 = .ok (.getfield 80, 3) := by decide +kernel
theorem dM_turn_142 : decode cM_turn 142 = .ok (.i2l, 1) := by decide +kernel
theorem dM_turn_143 : decode cM_turn 143 = .ok (.lrem, 1) := by decide +kernel
theorem dM_turn_144 : decode cM_turn 144 = .ok (.goto 61, 3) := by decide +kernel
theorem dM_turn_147 : decode cM_turn 147 = .ok (.aload_n 0, 1) := by decide +kernel
theorem dM_turn_148 : decode cM_turn 148 = .ok (.getfield 43, 3) := by decide +kernel
theorem dM_turn_151 : decode cM_turn 151 = .ok (.bipush 8, 2) := by decide +kernel
theorem dM_turn_153 : decode cM_turn 153 = .ok (.iload_n 2, 1) := by decide +kernel
theorem dM_turn_154 : decode cM_turn 154 = .ok (.imul, 1) := by decide +kernel
theorem dM_turn_155 : decode cM_turn 155 = .ok (.iload 4, 2) := by decide +kernel
theorem dM_turn_157 : decode cM_turn 157 = .ok (.iadd, 1) := by decide +kernel
theorem dM_turn_158 : decode cM_turn 158 = .ok (.iconst 1, 1) := by decide +kernel
theorem dM_turn_159 : decode cM_turn 159 = .ok (.isub, 1) := by decide +kernel
theorem dM_turn_160 : decode cM_turn 160 = .ok (.iload 5, 2) := by decide +kernel
theorem dM_turn_162 : decode cM_turn 162 = .ok (.isub, 1) := by decide +kernel
theorem dM_turn_163 : decode cM_turn 163 = .ok (.laload, 1) := by decide +kernel
theorem dM_turn_164 : decode cM_turn 164 = .ok (.aload_n 0, 1) := by decide +kernel
theorem dM_turn_165 : decode cM_turn 165 = .ok (.getfield 80, 3) := by decide +kernel
theorem dM_turn_168 : decode cM_turn 168 = .ok (.i2l, 1) := by decide +kernel
theorem dM_turn_169 : decode cM_turn 169 = .ok (.ladd, 1) := by decide +kernel
theorem dM_turn_170 : decode cM_turn 170 = .ok (.aload_n 0, 1) := by decide +kernel
theorem dM_turn_171 : decode cM_turn 171 = .ok (.getfield 40, 3) := by decide +kernel
theorem dM_turn_174 : decode cM_turn 174 = .ok (.bipush 64, 2) := by decide +kernel
theorem dM_turn_176 : decode cM_turn 176 = .ok (.iload_n 2, 1) := by decide +kernel
theorem dM_turn_177 : decode cM_turn 177 = .ok (.imul, 1) := by decide +kernel
theorem dM_turn_178 : decode cM_turn 178 = .ok (.bipush 8, 2) := by decide +kernel
theorem dM_turn_180 : decode cM_turn 180 = .ok (.iload 4, 2) := by decide +kernel
theorem dM_turn_182 : decode cM_turn 182 = .ok (.iconst 1, 1) := by decide +kernel
theorem dM_turn_183 : decode cM_turn 183 = .ok (.isub, 1) := by decide +kernel
theorem dM_turn_184 : decode cM_turn 184 = .ok (.iload 6, 2) := by decide +kernel
theorem dM_turn_186 : decode cM_turn 186 = .ok (.isub, 1) := by decide +kernel
theorem dM_turn_187 : decode cM_turn 187 = .ok (.imul, 1) := by decide +kernel
theorem dM_turn_188 : decode cM_turn 188 = .ok (.iadd, 1) := by decide +kernel
theorem dM_turn_189 : decode cM_turn 189 = .ok (.iload 4, 2) := by decide +kernel
theorem dM_turn_191 : decode cM_turn 191 = .ok (.iadd, 1) := by decide +kernel
theorem dM_turn_192 : decode cM_turn 192 = .ok (.iconst 1, 1) := by decide +kernel
theorem dM_turn_193 : decode cM_turn 193 = .ok (.isub, 1) := by decide +kernel
theorem dM_turn_194 : decode cM_turn 194 = .ok (.iload 5, 2) := by decide +kernel
theorem dM_turn_196 : decode cM_turn 196 = .ok (.isub, 1) := by decide +kernel
theorem dM_turn_197 : decode cM_turn 197 = .ok (.laload, 1) := by decide +kernel
theorem dM_turn_198 : decode cM_turn 198 = .ok (.lsub, 1) := by decide +kernel
theorem dM_turn_199 : decode cM_turn 199 = .ok (.aload_n 0, 1) := by decide +kernel
theorem dM_turn_200 : decode cM_turn 200 = .ok (.getfield 80, 3) := by decide +kernel
theorem dM_turn_203 : decode cM_turn 203 = .ok (.i2l, 1) := by decide +kernel
theorem dM_turn_204 : decode cM_turn 204 = .ok (.lrem, 1) := by decide +kernel
theorem dM_turn_205 : decode cM_turn 205 = .ok (.lastore, 1) := by decide +kernel
theorem dM_turn_206 : decode cM_turn 206 = .ok (.iinc 6 1, 3) := by decide +kernel
theorem dM_turn_209 : decode cM_turn 209 = .ok (.goto (-135), 3) := by decide +kernel
theorem dM_turn_212 : decode cM_turn 212 = .ok (.aload_n 0, 1) := by decide +kernel
theorem dM_turn_213 : decode cM_turn 213 = .ok (.getfield 43, 3) := by decide +kernel
theorem dM_turn_216 : decode cM_turn 216 = .ok (.bipush 80, 2) := by decide +kernel
theorem dM_turn_218 : decode cM_turn 218 = .ok (.iload 5, 2) := by decide +kernel
theorem dM_turn_220 : decode cM_turn 220 = .ok (.iadd, 1) := by decide +kernel
theorem dM_turn_221 : decode cM_turn 221 = .ok (.iload_n 3, 1) := by decide +kernel
theorem dM_turn_222 : decode cM_turn 222 = .ok (.ifCond .ne 30, 3) := by decide +kernel
theorem dM_turn_225 : decode cM_turn 225 = .ok (.aload_n 0, 1) := by decide +kernel
theorem dM_turn_226 : decode cM_turn 226 = .ok (.getfield 80, 3) := by decide +kernel
theorem dM_turn_229 : decode cM_turn 229 = .ok (.i2l, 1) := by decide +kernel
theorem dM_turn_230 : decode cM_turn 230 = .ok (.aload_n 0, 1) := by decide +kernel
theorem dM_turn_231 : decode cM_turn 231 = .ok (.getfield 43, 3) := by decide +kernel
theorem dM_turn_234 : decode cM_turn 234 = .ok (.bipush 8, 2) := by decide +kernel
theorem dM_turn_236 : decode cM_turn 236 = .ok (.iload_n 2, 1) := by decide +kernel
theorem dM_turn_237 : decode cM_turn 237 = .ok (.imul, 1) := by decide +kernel
theorem dM_turn_238 : decode cM_turn 238 = .ok (.iload 5, 2) := by decide +kernel
theorem dM_turn_240 : decode cM_turn 240 = .ok (.iadd, 1) := by decide +kernel
theorem dM_turn_241 : decode cM_turn 241 = .ok (.laload, 1) := by decide +kernel
theorem dM_turn_242 : decode cM_turn 242 = .ok (.lsub, 1) := by decide +kernel
theorem dM_turn_243 : decode cM_turn 243 = .ok (.aload_n 0, 1) := by decide +kernel
theorem dM_turn_244 : decode cM_turn 244 = .ok (.getfield 80, 3) := by decide +kernel
theorem dM_turn_247 : decode cM_turn 247 = .ok (.i2l, 1) := by decide +kernel
theorem dM_turn_248 : decode cM_turn 248 = .ok (.lrem, 1) := by decide +kernel
theorem dM_turn_249 : decode cM_turn 249 = .ok (.goto 20, 3) := by decide +kernel
theorem dM_turn_252 : decode cM_turn 252 = .ok (.aload_n 0, 1) := by decide +kernel
theorem dM_turn_253 : decode cM_turn 253 = .ok (.getfield 43, 3) := by decide +kernel
theorem dM_turn_256 : decode cM_turn 256 = .ok (.bipush 8, 2) := by decide +kernel
theorem dM_turn_258 : decode cM_turn 258 = .ok (.iload_n 2, 1) := by decide +kernel
theorem dM_turn_259 : decode cM_turn 259 = .ok (.imul, 1) := by decide +kernel
theorem dM_turn_260 : decode cM_turn 260 = .ok (.iload 4, 2) := by decide +kernel
theorem dM_turn_262 : decode cM_turn 262 = .ok (.iadd, 1) := by decide +kernel
theorem dM_turn_263 : decode cM_turn 263 = .ok (.iconst 1, 1) := by decide +kernel
theorem dM_turn_264 : decode cM_turn 264 = .ok (.isub, 1) := by decide +kernel
theorem dM_turn_265 : decode cM_turn 265 = .ok (.iload 5, 2) := by decide +kernel
theorem dM_turn_267 : decode cM_turn 267 = .ok (.isub, 1) := by decide +kernel
theorem dM_turn_268 : decode cM_turn 268 = .ok (.laload, 1) := by decide +kernel
theorem dM_turn_269 : decode cM_turn 269 = .ok (.lastore, 1) := by decide +kernel
theorem dM_turn_270 : decode cM_turn 270 = .ok (.iinc 5 1, 3) := by decide +kernel
theorem dM_turn_273 : decode cM_turn 273 = .ok (.goto (-209), 3) := by decide +kernel
theorem dM_turn_276 : decode cM_turn 276 = .ok (.aload_n 0, 1) := by decide +kernel
theorem dM_turn_277 : decode cM_turn 277 = .ok (.iload_n 1, 1) := by decide +kernel
theorem dM_turn_278 : decode cM_turn 278 = .ok (.invokevirtual 145, 3) := by decide +kernel
theorem dM_turn_281 : decode cM_turn 281 = .ok (.ireturn, 1) := by decide +kernel
theorem dM_scale_0 : decode cM_scale 0 = .ok (.aload_n 0, 1) := by decide +kernel
theorem dM_scale_1 : decode cM_scale 1 = .ok (.iconst 0, 1) := by decide +kernel
theorem dM_scale_2 : decode cM_scale 2 = .ok (.putfield 1, 3) := by decide +kernel
theorem dM_scale_5 : decode cM_scale 5 = .ok (.iload_n 1, 1) := by decide +kernel
theorem dM_scale_6 : decode cM_scale 6 = .ok (.invokestatic 129, 3) := by decide +kernel
theorem dM_scale_9 : decode cM_scale 9 = .ok (.ifCond .eq 26, 3) := by decide +kernel
theorem dM_scale_12 : decode cM_scale 12 = .ok (.iload_n 2, 1) := by decide +kernel
theorem dM_scale_13 : decode cM_scale 13 = .ok (.invokestatic 129, 3) := by decide +kernel
theorem dM_scale_16 : decode cM_scale 16 = .ok (.ifCond .eq 19, 3) := by decide +kernel
theorem dM_scale_19 : decode cM_scale 19 = .ok (.iload_n 3, 1) := by decide +kernel
theorem dM_scale_20 : decode cM_scale 20 = .ok (.i2l, 1) := by decide +kernel
theorem dM_scale_21 : decode cM_scale 21 = .ok (.lconst 0, 1) := by decide +kernel
theorem dM_scale_22 : decode cM_scale 22 = .ok (.aload_n 0, 1) := by decide +kernel
theorem dM_scale_23 : decode cM_scale 23 = .ok (.getfield 80, 3) := by decide +kernel
theorem dM_scale_26 : decode cM_scale 26 = .ok (.iconst 1, 1) := by decide +kernel
theorem dM_scale_27 : decode cM_scale 27 = .ok (.isub, 1) := by decide +kernel
theorem dM_scale_28 : decode cM_scale 28 = .ok (.i2l, 1) := by decide +kernel
theorem dM_scale_29 : decode cM_scale 29 = .ok (.invokestatic 71, 3) := by decide +kernel
theorem dM_scale_32 : decode cM_scale 32 = .ok (.ifCond .ne 6, 3) := by decide +kernel
theorem dM_scale_35 : decode cM_scale 35 = .ok (.ldc 90, 2) := by decide +kernel
theorem dM_scale_37 : decode cM_scale 37 = .ok (.ireturn, 1) := by decide +kernel
theorem dM_scale_38 : decode cM_scale 38 = .ok (.aload_n 0, 1) := by decide +kernel
theorem dM_scale_39 : decode cM_scale 39 = .ok (.getfield 37, 3) := by decide +kernel
theorem dM_scale_42 : decode cM_scale 42 = .ok (.iload_n 2, 1) := by decide +kernel
theorem dM_scale_43 : decode cM_scale 43 = .ok (.iaload, 1) := by decide +kernel
theorem dM_scale_44 : decode cM_scale 44 = .ok (.ifCond .ne 9, 3) := by decide +kernel
theorem dM_scale_47 : decode cM_scale 47 = .ok (.aload_n 0, 1) := by decide +kernel
theorem dM_scale_48 : decode cM_scale 48 = .ok (.iconst 1, 1) := by decide +kernel
theorem dM_scale_49 : decode cM_scale 49 = .ok (.invokevirtual 119, 3) := by decide +kernel
theorem dM_scale_52 : decode cM_scale 52 = .ok (.ireturn, 1) := by decide +kernel
theorem dM_scale_53 : decode cM_scale 53 = .ok (.aload_n 0, 1) := by decide +kernel
theorem dM_scale_54 : decode cM_scale 54 = .ok (.aload_n 0, 1) := by decide +kernel
theorem dM_scale_55 : decode cM_scale 55 = .ok (.getfield 37, 3) := by decide +kernel
theorem dM_scale_58 : decode cM_scale 58 = .ok (.iload_n 2, 1) := by decide +kernel
theorem dM_scale_59 : decode cM_scale 59 = .ok (.iaload, 1) := by decide +kernel
theorem dM_scale_60 : decode cM_scale 60 = .ok (.invokevirtual 138, 3) := by decide +kernel
theorem dM_scale_63 : decode cM_scale 63 = .ok (.iconst 0, 1) := by decide +kernel
theorem dM_scale_64 : decode cM_scale 64 = .ok (.istore 4, 2) := by decide +kernel
theorem dM_scale_66 : decode cM_scale 66 = .ok (.iload 4, 2) := by decide +kernel
theorem dM_scale_68 : decode cM_scale 68 = .ok (.bipush 64, 2) := by decide +kernel
theorem dM_scale_70 : decode cM_scale 70 = .ok (.if_icmp .ge 41, 3) := by decide +kernel
theorem dM_scale_73 : decode cM_scale 73 = .ok (.aload_n 0, 1) := by decide +kernel
theorem dM_scale_74 : decode cM_scale 74 = .ok (.getfield 40, 3) := by decide +kernel
theorem dM_scale_77 : decode cM_scale 77 = .ok (.sipush 640, 3) := by decide +kernel
theorem dM_scale_80 : decode cM_scale 80 = .ok (.iload 4, 2) := by decide +kernel
theorem dM_scale_82 : decode cM_scale 82 = .ok (.iadd, 1) := by decide +kernel
theorem dM_scale_83 : decode cM_scale 83 = .ok (.aload_n 0, 1) := by decide +kernel
theorem dM_scale_84 : decode cM_scale 84 = .ok (.getfield 40, 3) := by decide +kernel
theorem dM_scale_87 : decode cM_scale 87 = .ok (.bipush 64, 2) := by decide +kernel
theorem dM_scale_89 : decode cM_scale 89 = .ok (.iload_n 2, 1) := by decide +kernel
theorem dM_scale_90 : decode cM_scale 90 = .ok (.imul, 1) := by decide +kernel
theorem dM_scale_91 : decode cM_scale 91 = .ok (.iload 4, 2) := by decide +kernel
theorem dM_scale_93 : decode cM_scale 93 = .ok (.iadd, 1) := by decide +kernel
theorem dM_scale_94 : decode cM_scale 94 = .ok (.laload, 1) := by decide +kernel
theorem dM_scale_95 : decode cM_scale 95 = .ok (.iload_n 3, 1) := by decide +kernel
theorem dM_scale_96 : decode cM_scale 96 = .ok (.i2l, 1) := by decide +kernel
theorem dM_scale_97 : decode cM_scale 97 = .ok (.lmul, 1) := by decide +kernel
theorem dM_scale_98 : decode cM_scale 98 = .ok (.aload_n 0, 1) := by decide +kernel
theorem dM_scale_99 : decode cM_scale 99 = .ok (.getfield 80, 3) := by decide +kernel
theorem dM_scale_102 : decode cM_scale 102 = .ok (.i2l, 1) := by decide +kernel
theorem dM_scale_103 : decode cM_scale 103 = .ok (.lrem, 1) := by decide +kernel
theorem dM_scale_104 : decode cM_scale 104 = .ok (.lastore, 1) := by decide +kernel
theorem dM_scale_105 : decode cM_scale 105 = .ok (.iinc 4 1, 3) := by decide +kernel
theorem dM_scale_108 : decode cM_scale 108 = .ok (.goto (-42), 3) := by decide +kernel
theorem dM_scale_111 : decode cM_scale 111 = .ok (.iconst 0, 1) := by decide +kernel
theorem dM_scale_112 : decode cM_scale 112 = .ok (.istore 4, 2) := by decide +kernel
theorem dM_scale_114 : decode cM_scale 114 = .ok (.iload 4, 2) := by decide +kernel
theorem dM_scale_116 : decode cM_scale 116 = .ok (.bipush 8, 2) := by decide +kernel
theorem dM_scale_118 : decode cM_scale 118 = .ok (.if_icmp .ge 40, 3) := by decide +kernel
theorem dM_scale_121 : decode cM_scale 121 = .ok (.aload_n 0, 1) := by decide +kernel
theorem dM_scale_122 : decode cM_scale 122 = .ok (.getfield 43, 3) := by decide +kernel
theorem dM_scale_125 : decode cM_scale 125 = .ok (.bipush 80, 2) := by decide +kernel
theorem dM_scale_127 : decode cM_scale 127 = .ok (.iload 4, 2) := by decide +kernel
theorem dM_scale_129 : decode cM_scale 129 = .ok (.iadd, 1) := by decide +kernel
theorem dM_scale_130 : decode cM_scale 130 = .ok (.aload_n 0, 1) := by decide +kernel
theorem dM_scale_131 : decode cM_scale 131 = .ok (.getfield 43, 3) := by decide +kernel
theorem dM_scale_134 : decode cM_scale 134 = .ok (.bipush 8, 2) := by decide +kernel
theorem dM_scale_136 : decode cM_scale 136 = .ok (.iload_n 2, 1) := by decide +kernel
theorem dM_scale_137 : decode cM_scale 137 = .ok (.imul, 1) := by decide +kernel
theorem dM_scale_138 : decode cM_scale 138 = .ok (.iload 4, 2) := by decide +kernel
theorem dM_scale_140 : decode cM_scale 140 = .ok (.iadd, 1) := by decide +kernel
theorem dM_scale_141 : decode cM_scale 141 = .ok (.laload, 1) := by decide +kernel
theorem dM_scale_142 : decode cM_scale 142 = .ok (.iload_n 3, 1) := by decide +kernel
theorem dM_scale_143 : decode cM_scale 143 = .ok (.i2l, 1) := by decide +kernel
theorem dM_scale_144 : decode cM_scale 144 = .ok (.lmul, 1) := by decide +kernel
theorem dM_scale_145 : decode cM_scale 145 = .ok (.aload_n 0, 1) := by decide +kernel
theorem dM_scale_146 : decode cM_scale 146 = .ok (.getfield 80, 3) := by decide +kernel
theorem dM_scale_149 : decode cM_scale 149 = .ok (.i2l, 1) := by decide +kernel
theorem dM_scale_150 : decode cM_scale 150 = .ok (.lrem, 1) := by decide +kernel
theorem dM_scale_151 : decode cM_scale 151 = .ok (.lastore, 1) := by decide +kernel
theorem dM_scale_152 : decode cM_scale 152 = .ok (.iinc 4 1, 3) := by decide +kernel
theorem dM_scale_155 : decode cM_scale 155 = .ok (.goto (-41), 3) := by decide +kernel
theorem dM_scale_158 : decode cM_scale 158 = .ok (.aload_n 0, 1) := by decide +kernel
theorem dM_scale_159 : decode cM_scale 159 = .ok (.iload_n 1, 1) := by decide +kernel
theorem dM_scale_160 : decode cM_scale 160 = .ok (.invokevirtual 145, 3) := by decide +kernel
theorem dM_scale_163 : decode cM_scale 163 = .ok (.ireturn, 1) := by decide +kernel
theorem dM_clear_0 : decode cM_clear 0 = .ok (.aload_n 0, 1) := by decide +kernel
theorem dM_clear_1 : decode cM_clear 1 = .ok (.iconst 0, 1) := by decide +kernel
theorem dM_clear_2 : decode cM_clear 2 = .ok (.putfield 1, 3) := by decide +kernel
theorem dM_clear_5 : decode cM_clear 5 = .ok (.iload_n 1, 1) := by decide +kernel
theorem dM_clear_6 : decode cM_clear 6 = .ok (.invokestatic 129, 3) := by decide +kernel
theorem dM_clear_9 : decode cM_clear 9 = .ok (.ifCond .ne 6, 3) := by decide +kernel
theorem dM_clear_12 : decode cM_clear 12 = .ok (.ldc 90, 2) := by decide +kernel
theorem dM_clear_14 : decode cM_clear 14 = .ok (.ireturn, 1) := by decide +kernel
theorem dM_clear_15 : decode cM_clear 15 = .ok (.aload_n 0, 1) := by decide +kernel
theorem dM_clear_16 : decode cM_clear 16 = .ok (.getfield 37, 3) := by decide +kernel
theorem dM_clear_19 : decode cM_clear 19 = .ok (.iload_n 1, 1) := by decide +kernel
theorem dM_clear_20 : decode cM_clear 20 = .ok (.iaload, 1) := by decide +kernel
theorem dM_clear_21 : decode cM_clear 21 = .ok (.ifCond .le 7, 3) := by decide +kernel
theorem dM_clear_24 : decode cM_clear 24 = .ok (.iconst 1, 1) := by decide +kernel
theorem dM_clear_25 : decode cM_clear 25 = .ok (.goto 4, 3) := by decide +kernel
theorem dM_clear_28 : decode cM_clear 28 = .ok (.iconst 0, 1) := by decide +kernel
theorem dM_clear_29 : decode cM_clear 29 = .ok (.istore_n 2, 1) := by decide +kernel
theorem dM_clear_30 : decode cM_clear 30 = .ok (.aload_n 0, 1) := by decide +kernel
theorem dM_clear_31 : decode cM_clear 31 = .ok (.getfield 37, 3) := by decide +kernel
theorem dM_clear_34 : decode cM_clear 34 = .ok (.iload_n 1, 1) := by decide +kernel
theorem dM_clear_35 : decode cM_clear 35 = .ok (.iconst 0, 1) := by decide +kernel
theorem dM_clear_36 : decode cM_clear 36 = .ok (.iastore, 1) := by decide +kernel
theorem dM_clear_37 : decode cM_clear 37 = .ok (.iload_n 2, 1) := by decide +kernel
theorem dM_clear_38 : decode cM_clear 38 = .ok (.ifCond .eq 7, 3) := by decide +kernel
theorem dM_clear_41 : decode cM_clear 41 = .ok (.iconst 1, 1) := by decide +kernel
theorem dM_clear_42 : decode cM_clear 42 = .ok (.goto 4, 3) := by decide +kernel
theorem dM_clear_45 : decode cM_clear 45 = .ok (.iconst 0, 1) := by decide +kernel
theorem dM_clear_46 : decode cM_clear 46 = .ok (.ireturn, 1) := by decide +kernel
theorem dM_look_0 : decode cM_look 0 = .ok (.aload_n 0, 1) := by decide +kernel
theorem dM_look_1 : decode cM_look 1 = .ok (.iconst 0, 1) := by decide +kernel
theorem dM_look_2 : decode cM_look 2 = .ok (.putfield 7, 3) := by decide +kernel
theorem dM_look_5 : decode cM_look 5 = .ok (.aload_n 0, 1) := by decide +kernel
theorem dM_look_6 : decode cM_look 6 = .ok (.getfield 37, 3) := by decide +kernel
theorem dM_look_9 : decode cM_look 9 = .ok (.iload_n 1, 1) := by decide +kernel
theorem dM_look_10 : decode cM_look 10 = .ok (.iaload, 1) := by decide +kernel
theorem dM_look_11 : decode cM_look 11 = .ok (.ifCond .ne 11, 3) := by decide +kernel
theorem dM_look_14 : decode cM_look 14 = .ok (.aload_n 0, 1) := by decide +kernel
theorem dM_look_15 : decode cM_look 15 = .ok (.iconst 1, 1) := by decide +kernel
theorem dM_look_16 : decode cM_look 16 = .ok (.invokevirtual 119, 3) := by decide +kernel
theorem dM_look_19 : decode cM_look 19 = .ok (.goto 4, 3) := by decide +kernel
theorem dM_look_22 : decode cM_look 22 = .ok (.iconst 0, 1) := by decide +kernel
theorem dM_look_23 : decode cM_look 23 = .ok (.ireturn, 1) := by decide +kernel
theorem dM_number_0 : decode cM_number 0 = .ok (.aload_n 0, 1) := by decide +kernel
theorem dM_number_1 : decode cM_number 1 = .ok (.iconst 0, 1) := by decide +kernel
theorem dM_number_2 : decode cM_number 2 = .ok (.putfield 1, 3) := by decide +kernel
theorem dM_number_5 : decode cM_number 5 = .ok (.iload_n 1, 1) := by decide +kernel
theorem dM_number_6 : decode cM_number 6 = .ok (.invokestatic 129, 3) := by decide +kernel
theorem dM_number_9 : decode cM_number 9 = .ok (.ifCond .ne 6, 3) := by decide +kernel
theorem dM_number_12 : decode cM_number 12 = .ok (.ldc 90, 2) := by decide +kernel
theorem dM_number_14 : decode cM_number 14 = .ok (.ireturn, 1) := by decide +kernel
theorem dM_number_15 : decode cM_number 15 = .ok (.aload_n 0, 1) := by decide +kernel
theorem dM_number_16 : decode cM_number 16 = .ok (.getfield 7, 3) := by decide +kernel
theorem dM_number_19 : decode cM_number 19 = .ok (.istore 4, 2) := by decide +kernel
theorem dM_number_21 : decode cM_number 21 = .ok (.aload_n 0, 1) := by decide +kernel
theorem dM_number_22 : decode cM_number 22 = .ok (.iload_n 1, 1) := by decide +kernel
theorem dM_number_23 : decode cM_number 23 = .ok (.invokevirtual 149, 3) := by decide +kernel
theorem dM_number_26 : decode cM_number 26 = .ok (.istore 5, 2) := by decide +kernel
theorem dM_number_28 : decode cM_number 28 = .ok (.iload 5, 2) := by decide +kernel
theorem dM_number_30 : decode cM_number 30 = .ok (.ifCond .ge 6, 3) := by decide +kernel
theorem dM_number_33 : decode cM_number 33 = .ok (.iload 5, 2) := by decide +kernel
theorem dM_number_35 : decode cM_number 35 = .ok (.ireturn, 1) := by decide +kernel
theorem dM_number_36 : decode cM_number 36 = .ok (.aload_n 0, 1) := by decide +kernel
theorem dM_number_37 : decode cM_number 37 = .ok (.getfield 37, 3) := by decide +kernel
theorem dM_number_40 : decode cM_number 40 = .ok (.iload_n 1, 1) := by decide +kernel
theorem dM_number_41 : decode cM_number 41 = .ok (.iaload, 1) := by decide +kernel
theorem dM_number_42 : decode cM_number 42 = .ok (.istore 6, 2) := by decide +kernel
theorem dM_number_44 : decode cM_number 44 = .ok (.iload_n 2, 1) := by decide +kernel
theorem dM_number_45 : decode cM_number 45 = .ok (.iconst (-1), 1) := by decide +kernel
theorem dM_number_46 : decode cM_number 46 = .ok (.if_icmp .ne 6, 3) := by decide +kernel
theorem dM_number_49 : decode cM_number 49 = .ok (.iload 6, 2) := by decide +kernel
theorem dM_number_51 : decode cM_number 51 = .ok (.ireturn, 1) := by decide +kernel
theorem dM_number_52 : decode cM_number 52 = .ok (.iload_n 2, 1) := by decide +kernel
theorem dM_number_53 : decode cM_number 53 = .ok (.i2l, 1) := by decide +kernel
theorem dM_number_54 : decode cM_number 54 = .ok (.lconst 0, 1) := by decide +kernel
theorem dM_number_55 : decode cM_number 55 = .ok (.iload 6, 2) := by decide +kernel
theorem dM_number_57 : decode cM_number 57 = .ok (.i2l, 1) := by decide +kernel
theorem dM_number_58 : decode cM_number 58 = .ok (.invokestatic 71, 3) := by decide +kernel
theorem dM_number_61 : decode cM_number 61 = .ok (.ifCond .eq 17, 3) := by decide +kernel
theorem dM_number_64 : decode cM_number 64 = .ok (.iload_n 3, 1) := by decide +kernel
theorem dM_number_65 : decode cM_number 65 = .ok (.i2l, 1) := by decide +kernel
theorem dM_number_66 : decode cM_number 66 = .ok (.lconst 0, 1) := by decide +kernel
theorem dM_number_67 : decode cM_number 67 = .ok (.iload 6, 2) := by decide +kernel
theorem dM_number_69 : decode cM_number 69 = .ok (.iconst 1, 1) := by decide +kernel
theorem dM_number_70 : decode cM_number 70 = .ok (.isub, 1) := by decide +kernel
theorem dM_number_71 : decode cM_number 71 = .ok (.i2l, 1) := by decide +kernel
theorem dM_number_72 : decode cM_number 72 = .ok (.invokestatic 71, 3) := by decide +kernel
theorem dM_number_75 : decode cM_number 75 = .ok (.ifCond .ne 12, 3) := by decide +kernel
theorem dM_number_78 : decode cM_number 78 = .ok (.aload_n 0, 1) := by decide +kernel
theorem dM_number_79 : decode cM_number 79 = .ok (.iload 4, 2) := by decide +kernel
theorem dM_number_81 : decode cM_number 81 = .ok (.putfield 7, 3) := by decide +kernel
theorem dM_number_84 : decode cM_number 84 = .ok (.ldc 90, 2) := by decide +kernel
theorem dM_number_86 : decode cM_number 86 = .ok (.ireturn, 1) := by decide +kernel
theorem dM_number_87 : decode cM_number 87 = .ok (.iload_n 2, 1) := by decide +kernel
theorem dM_number_88 : decode cM_number 88 = .ok (.iload 6, 2) := by decide +kernel
theorem dM_number_90 : decode cM_number 90 = .ok (.if_icmp .ne 17, 3) := by decide +kernel
theorem dM_number_93 : decode cM_number 93 = .ok (.aload_n 0, 1) := by decide +kernel
theorem dM_number_94 : decode cM_number 94 = .ok (.getfield 43, 3) := by decide +kernel
theorem dM_number_97 : decode cM_number 97 = .ok (.bipush 8, 2) := by decide +kernel
theorem dM_number_99 : decode cM_number 99 = .ok (.iload_n 1, 1) := by decide +kernel
theorem dM_number_100 : decode cM_number 100 = .ok (.imul, 1) := by decide +kernel
theorem dM_number_101 : decode cM_number 101 = .ok (.iload_n 3, 1) := by decide +kernel
theorem dM_number_102 : decode cM_number 102 = .ok (.iadd, 1) := by decide +kernel
theorem dM_number_103 : decode cM_number 103 = .ok (.laload, 1) := by decide +kernel
theorem dM_number_104 : decode cM_number 104 = .ok (.goto 19, 3) := by decide +kernel
theorem dM_number_107 : decode cM_number 107 = .ok (.aload_n 0, 1) := by decide +kernel
theorem dM_number_108 : decode cM_number 108 = .ok (.getfield 40, 3) := by decide +kernel
theorem dM_number_111 : decode cM_number 111 = .ok (.bipush 64, 2) := by decide +kernel
theorem dM_number_113 : decode cM_number 113 = .ok (.iload_n 1, 1) := by decide +kernel
theorem dM_number_114 : decode cM_number 114 = .ok (.imul, 1) := by decide +kernel
theorem dM_number_115 : decode cM_number 115 = .ok (.bipush 8, 2) := by decide +kernel
theorem dM_number_117 : decode cM_number 117 = .ok (.iload_n 2, 1) := by decide +kernel
theorem dM_number_118 : decode cM_number 118 = .ok (.imul, 1) := by decide +kernel
theorem dM_number_119 : decode cM_number 119 = .ok (.iadd, 1) := by decide +kernel
theorem dM_number_120 : decode cM_number 120 = .ok (.iload_n 3, 1) := by decide +kernel
theorem dM_number_121 : decode cM_number 121 = .ok (.iadd, 1) := by decide +kernel
theorem dM_number_122 : decode cM_number 122 = .ok (.laload, 1) := by decide +kernel
theorem dM_number_123 : decode cM_number 123 = .ok (.l2i, 1) := by decide +kernel
theorem dM_number_124 : decode cM_number 124 = .ok (.ireturn, 1) := by decide +kernel
theorem dM_kind_0 : decode cM_kind 0 = .ok (.aload_n 0, 1) := by decide +kernel
theorem dM_kind_1 : decode cM_kind 1 = .ok (.iconst 0, 1) := by decide +kernel
theorem dM_kind_2 : decode cM_kind 2 = .ok (.putfield 1, 3) := by decide +kernel
theorem dM_kind_5 : decode cM_kind 5 = .ok (.iload_n 1, 1) := by decide +kernel
theorem dM_kind_6 : decode cM_kind 6 = .ok (.invokestatic 129, 3) := by decide +kernel
theorem dM_kind_9 : decode cM_kind 9 = .ok (.ifCond .ne 6, 3) := by decide +kernel
theorem dM_kind_12 : decode cM_kind 12 = .ok (.ldc 90, 2) := by decide +kernel
theorem dM_kind_14 : decode cM_kind 14 = .ok (.ireturn, 1) := by decide +kernel
theorem dM_kind_15 : decode cM_kind 15 = .ok (.aload_n 0, 1) := by decide +kernel
theorem dM_kind_16 : decode cM_kind 16 = .ok (.iload_n 1, 1) := by decide +kernel
theorem dM_kind_17 : decode cM_kind 17 = .ok (.invokevirtual 149, 3) := by decide +kernel
theorem dM_kind_20 : decode cM_kind 20 = .ok (.istore_n 2, 1) := by decide +kernel
theorem dM_kind_21 : decode cM_kind 21 = .ok (.iload_n 2, 1) := by decide +kernel
theorem dM_kind_22 : decode cM_kind 22 = .ok (.ifCond .ge 7, 3) := by decide +kernel
theorem dM_kind_25 : decode cM_kind 25 = .ok (.iload_n 2, 1) := by decide +kernel
theorem dM_kind_26 : decode cM_kind 26 = .ok (.goto 8, 3) := by decide +kernel
theorem dM_kind_29 : decode cM_kind 29 = .ok (.aload_n 0, 1) := by decide +kernel
theorem dM_kind_30 : decode cM_kind 30 = .ok (.iload_n 1, 1) := by decide +kernel
theorem dM_kind_31 : decode cM_kind 31 = .ok (.invokevirtual 126, 3) := by decide +kernel
theorem dM_kind_34 : decode cM_kind 34 = .ok (.ireturn, 1) := by decide +kernel
theorem dM_isOf_0 : decode cM_isOf 0 = .ok (.iload_n 1, 1) := by decide +kernel
theorem dM_isOf_1 : decode cM_isOf 1 = .ok (.ifCond .eq 18, 3) := by decide +kernel
theorem dM_isOf_4 : decode cM_isOf 4 = .ok (.iload_n 0, 1) := by decide +kernel
theorem dM_isOf_5 : decode cM_isOf 5 = .ok (.iload_n 1, 1) := by decide +kernel
theorem dM_isOf_6 : decode cM_isOf 6 = .ok (.if_icmp .eq 13, 3) := by decide +kernel
theorem dM_isOf_9 : decode cM_isOf 9 = .ok (.iload_n 1, 1) := by decide +kernel
theorem dM_isOf_10 : decode cM_isOf 10 = .ok (.iconst 1, 1) := by decide +kernel
theorem dM_isOf_11 : decode cM_isOf 11 = .ok (.if_icmp .ne 12, 3) := by decide +kernel
theorem dM_isOf_14 : decode cM_isOf 14 = .ok (.iload_n 0, 1) := by decide +kernel
theorem dM_isOf_15 : decode cM_isOf 15 = .ok (.iconst 2, 1) := by decide +kernel
theorem dM_isOf_16 : decode cM_isOf 16 = .ok (.if_icmp .ne 7, 3) := by decide +kernel
theorem dM_isOf_19 : decode cM_isOf 19 = .ok (.iconst 1, 1) := by decide +kernel
theorem dM_isOf_20 : decode cM_isOf 20 = .ok (.goto 4, 3) := by decide +kernel
theorem dM_isOf_23 : decode cM_isOf 23 = .ok (.iconst 0, 1) := by decide +kernel
theorem dM_isOf_24 : decode cM_isOf 24 = .ok (.ireturn, 1) := by decide +kernel
theorem dM_is_0 : decode cM_is 0 = .ok (.aload_n 0, 1) := by decide +kernel
theorem dM_is_1 : decode cM_is 1 = .ok (.iconst 0, 1) := by decide +kernel
theorem dM_is_2 : decode cM_is 2 = .ok (.putfield 1, 3) := by decide +kernel
theorem dM_is_5 : decode cM_is 5 = .ok (.iload_n 1, 1) := by decide +kernel
theorem dM_is_6 : decode cM_is 6 = .ok (.invokestatic 129, 3) := by decide +kernel
theorem dM_is_9 : decode cM_is 9 = .ok (.ifCond .eq 15, 3) := by decide +kernel
theorem dM_is_12 : decode cM_is 12 = .ok (.iload_n 2, 1) := by decide +kernel
theorem dM_is_13 : decode cM_is 13 = .ok (.i2l, 1) := by decide +kernel
theorem dM_is_14 : decode cM_is 14 = .ok (.lconst 0, 1) := by decide +kernel
theorem dM_is_15 : decode cM_is 15 = .ok (.ldc2_w 99, 3) := by decide +kernel
theorem dM_is_18 : decode cM_is 18 = .ok (.invokestatic 71, 3) := by decide +kernel
theorem dM_is_21 : decode cM_is 21 = .ok (.ifCond .ne 8, 3) := by decide +kernel
theorem dM_is_24 : decode cM_is 24 = .ok (.ldc 90, 2) := by decide +kernel
theorem dM_is_26 : decode cM_is 26 = .ok (.goto 29, 3) := by decide +kernel
theorem dM_is_29 : decode cM_is 29 = .ok (.aload_n 0, 1) := by decide +kernel
theorem dM_is_30 : decode cM_is 30 = .ok (.getfield 37, 3) := by decide +kernel
theorem dM_is_33 : decode cM_is 33 = .ok (.iload_n 1, 1) := by decide +kernel
theorem dM_is_34 : decode cM_is 34 = .ok (.iaload, 1) := by decide +kernel
theorem dM_is_35 : decode cM_is 35 = .ok (.ifCond .le 19, 3) := by decide +kernel
theorem dM_is_38 : decode cM_is 38 = .ok (.aload_n 0, 1) := by decide +kernel
theorem dM_is_39 : decode cM_is 39 = .ok (.iload_n 1, 1) := by decide +kernel
theorem dM_is_40 : decode cM_is 40 = .ok (.invokevirtual 126, 3) := by decide +kernel
theorem dM_is_43 : decode cM_is 43 = .ok (.iload_n 2, 1) := by decide +kernel
theorem dM_is_44 : decode cM_is 44 = .ok (.invokestatic 152, 3) := by decide +kernel
theorem dM_is_47 : decode cM_is 47 = .ok (.ifCond .eq 7, 3) := by decide +kernel
theorem dM_is_50 : decode cM_is 50 = .ok (.iconst 1, 1) := by decide +kernel
theorem dM_is_51 : decode cM_is 51 = .ok (.goto 4, 3) := by decide +kernel
theorem dM_is_54 : decode cM_is 54 = .ok (.iconst 0, 1) := by decide +kernel
theorem dM_is_55 : decode cM_is 55 = .ok (.ireturn, 1) := by decide +kernel
theorem dM_as_0 : decode cM_as 0 = .ok (.aload_n 0, 1) := by decide +kernel
theorem dM_as_1 : decode cM_as 1 = .ok (.iconst 0, 1) := by decide +kernel
theorem dM_as_2 : decode cM_as 2 = .ok (.putfield 1, 3) := by decide +kernel
