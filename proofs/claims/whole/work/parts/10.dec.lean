theorem dMo_fitting_0 : decode cMo_fitting 0 = .ok (.iload_n 0, 1) := by decide +kernel
theorem dMo_fitting_1 : decode cMo_fitting 1 = .ok (.bipush 101, 2) := by decide +kernel
theorem dMo_fitting_3 : decode cMo_fitting 3 = .ok (.if_icmp .lt 15, 3) := by decide +kernel
theorem dMo_fitting_6 : decode cMo_fitting 6 = .ok (.iload_n 0, 1) := by decide +kernel
theorem dMo_fitting_7 : decode cMo_fitting 7 = .ok (.ldc 19, 2) := by decide +kernel
theorem dMo_fitting_9 : decode cMo_fitting 9 = .ok (.if_icmp .gt 9, 3) := by decide +kernel
theorem dMo_fitting_12 : decode cMo_fitting 12 = .ok (.iload_n 0, 1) := by decide +kernel
theorem dMo_fitting_13 : decode cMo_fitting 13 = .ok (.iconst 2, 1) := by decide +kernel
theorem dMo_fitting_14 : decode cMo_fitting 14 = .ok (.irem, 1) := by decide +kernel
theorem dMo_fitting_15 : decode cMo_fitting 15 = .ok (.ifCond .ne 5, 3) := by decide +kernel
theorem dMo_fitting_18 : decode cMo_fitting 18 = .ok (.iconst 0, 1) := by decide +kernel
theorem dMo_fitting_19 : decode cMo_fitting 19 = .ok (.ireturn, 1) := by decide +kernel
theorem dMo_fitting_20 : decode cMo_fitting 20 = .ok (.iconst 3, 1) := by decide +kernel
theorem dMo_fitting_21 : decode cMo_fitting 21 = .ok (.istore_n 1, 1) := by decide +kernel
theorem dMo_fitting_22 : decode cMo_fitting 22 = .ok (.iload_n 1, 1) := by decide +kernel
theorem dMo_fitting_23 : decode cMo_fitting 23 = .ok (.i2l, 1) := by decide +kernel
theorem dMo_fitting_24 : decode cMo_fitting 24 = .ok (.iload_n 1, 1) := by decide +kernel
theorem dMo_fitting_25 : decode cMo_fitting 25 = .ok (.i2l, 1) := by decide +kernel
theorem dMo_fitting_26 : decode cMo_fitting 26 = .ok (.lmul, 1) := by decide +kernel
theorem dMo_fitting_27 : decode cMo_fitting 27 = .ok (.iload_n 0, 1) := by decide +kernel
theorem dMo_fitting_28 : decode cMo_fitting 28 = .ok (.i2l, 1) := by decide +kernel
theorem dMo_fitting_29 : decode cMo_fitting 29 = .ok (.lcmp, 1) := by decide +kernel
theorem dMo_fitting_30 : decode cMo_fitting 30 = .ok (.ifCond .gt 17, 3) := by decide +kernel
theorem dMo_fitting_33 : decode cMo_fitting 33 = .ok (.iload_n 0, 1) := by decide +kernel
theorem dMo_fitting_34 : decode cMo_fitting 34 = .ok (.iload_n 1, 1) := by decide +kernel
theorem dMo_fitting_35 : decode cMo_fitting 35 = .ok (.irem, 1) := by decide +kernel
theorem dMo_fitting_36 : decode cMo_fitting 36 = .ok (.ifCond .ne 5, 3) := by decide +kernel
theorem dMo_fitting_39 : decode cMo_fitting 39 = .ok (.iconst 0, 1) := by decide +kernel
theorem dMo_fitting_40 : decode cMo_fitting 40 = .ok (.ireturn, 1) := by decide +kernel
theorem dMo_fitting_41 : decode cMo_fitting 41 = .ok (.iinc 1 2, 3) := by decide +kernel
theorem dMo_fitting_44 : decode cMo_fitting 44 = .ok (.goto (-22), 3) := by decide +kernel
theorem dMo_fitting_47 : decode cMo_fitting 47 = .ok (.iconst 1, 1) := by decide +kernel
theorem dMo_fitting_48 : decode cMo_fitting 48 = .ok (.ireturn, 1) := by decide +kernel
theorem dMo_init_0 : decode cMo_init 0 = .ok (.aload_n 0, 1) := by decide +kernel
theorem dMo_init_1 : decode cMo_init 1 = .ok (.invokespecial 1, 3) := by decide +kernel
theorem dMo_init_4 : decode cMo_init 4 = .ok (.aload_n 0, 1) := by decide +kernel
theorem dMo_init_5 : decode cMo_init 5 = .ok (.iload_n 1, 1) := by decide +kernel
theorem dMo_init_6 : decode cMo_init 6 = .ok (.invokestatic 7, 3) := by decide +kernel
theorem dMo_init_9 : decode cMo_init 9 = .ok (.ifCond .eq 8, 3) := by decide +kernel
theorem dMo_init_12 : decode cMo_init 12 = .ok (.iload_n 1, 1) := by decide +kernel
theorem dMo_init_13 : decode cMo_init 13 = .ok (.i2l, 1) := by decide +kernel
theorem dMo_init_14 : decode cMo_init 14 = .ok (.goto 6, 3) := by decide +kernel
theorem dMo_init_17 : decode cMo_init 17 = .ok (.ldc2_w 13, 3) := by decide +kernel
theorem dMo_init_20 : decode cMo_init 20 = .ok (.putfield 15, 3) := by decide +kernel
theorem dMo_init_23 : decode cMo_init 23 = .ok (.return_, 1) := by decide +kernel
theorem dFo_code_0 : decode cFo_code 0 = .ok (.iconst 1, 1) := by decide +kernel
theorem dFo_code_1 : decode cFo_code 1 = .ok (.istore 4, 2) := by decide +kernel
theorem dFo_code_3 : decode cFo_code 3 = .ok (.iload_n 1, 1) := by decide +kernel
theorem dFo_code_4 : decode cFo_code 4 = .ok (.istore 5, 2) := by decide +kernel
theorem dFo_code_6 : decode cFo_code 6 = .ok (.iload 5, 2) := by decide +kernel
theorem dFo_code_8 : decode cFo_code 8 = .ok (.iload_n 2, 1) := by decide +kernel
theorem dFo_code_9 : decode cFo_code 9 = .ok (.if_icmp .ge 23, 3) := by decide +kernel
theorem dFo_code_12 : decode cFo_code 12 = .ok (.iload 4, 2) := by decide +kernel
theorem dFo_code_14 : decode cFo_code 14 = .ok (.bipush 8, 2) := by decide +kernel
theorem dFo_code_16 : decode cFo_code 16 = .ok (.imul, 1) := by decide +kernel
theorem dFo_code_17 : decode cFo_code 17 = .ok (.aload_n 0, 1) := by decide +kernel
theorem dFo_code_18 : decode cFo_code 18 = .ok (.iload 5, 2) := by decide +kernel
theorem dFo_code_20 : decode cFo_code 20 = .ok (.iaload, 1) := by decide +kernel
theorem dFo_code_21 : decode cFo_code 21 = .ok (.iadd, 1) := by decide +kernel
theorem dFo_code_22 : decode cFo_code 22 = .ok (.iload_n 3, 1) := by decide +kernel
theorem dFo_code_23 : decode cFo_code 23 = .ok (.isub, 1) := by decide +kernel
theorem dFo_code_24 : decode cFo_code 24 = .ok (.istore 4, 2) := by decide +kernel
theorem dFo_code_26 : decode cFo_code 26 = .ok (.iinc 5 1, 3) := by decide +kernel
theorem dFo_code_29 : decode cFo_code 29 = .ok (.goto (-23), 3) := by decide +kernel
theorem dFo_code_32 : decode cFo_code 32 = .ok (.iload 4, 2) := by decide +kernel
theorem dFo_code_34 : decode cFo_code 34 = .ok (.ireturn, 1) := by decide +kernel
theorem dFo_plantFirst_0 : decode cFo_plantFirst 0 = .ok (.aload_n 0, 1) := by decide +kernel
theorem dFo_plantFirst_1 : decode cFo_plantFirst 1 = .ok (.getfield 16, 3) := by decide +kernel
theorem dFo_plantFirst_4 : decode cFo_plantFirst 4 = .ok (.iconst 0, 1) := by decide +kernel
theorem dFo_plantFirst_5 : decode cFo_plantFirst 5 = .ok (.iconst 1, 1) := by decide +kernel
theorem dFo_plantFirst_6 : decode cFo_plantFirst 6 = .ok (.iastore, 1) := by decide +kernel
theorem dFo_plantFirst_7 : decode cFo_plantFirst 7 = .ok (.aload_n 0, 1) := by decide +kernel
theorem dFo_plantFirst_8 : decode cFo_plantFirst 8 = .ok (.getfield 20, 3) := by decide +kernel
theorem dFo_plantFirst_11 : decode cFo_plantFirst 11 = .ok (.iconst 0, 1) := by decide +kernel
theorem dFo_plantFirst_12 : decode cFo_plantFirst 12 = .ok (.iconst 1, 1) := by decide +kernel
theorem dFo_plantFirst_13 : decode cFo_plantFirst 13 = .ok (.iastore, 1) := by decide +kernel
theorem dFo_plantFirst_14 : decode cFo_plantFirst 14 = .ok (.aload_n 0, 1) := by decide +kernel
theorem dFo_plantFirst_15 : decode cFo_plantFirst 15 = .ok (.getfield 23, 3) := by decide +kernel
theorem dFo_plantFirst_18 : decode cFo_plantFirst 18 = .ok (.iconst 0, 1) := by decide +kernel
theorem dFo_plantFirst_19 : decode cFo_plantFirst 19 = .ok (.iconst 1, 1) := by decide +kernel
theorem dFo_plantFirst_20 : decode cFo_plantFirst 20 = .ok (.iastore, 1) := by decide +kernel
theorem dFo_plantFirst_21 : decode cFo_plantFirst 21 = .ok (.aload_n 0, 1) := by decide +kernel
theorem dFo_plantFirst_22 : decode cFo_plantFirst 22 = .ok (.getfield 38, 3) := by decide +kernel
theorem dFo_plantFirst_25 : decode cFo_plantFirst 25 = .ok (.iconst 0, 1) := by decide +kernel
theorem dFo_plantFirst_26 : decode cFo_plantFirst 26 = .ok (.aload_n 0, 1) := by decide +kernel
theorem dFo_plantFirst_27 : decode cFo_plantFirst 27 = .ok (.getfield 11, 3) := by decide +kernel
theorem dFo_plantFirst_30 : decode cFo_plantFirst 30 = .ok (.iconst 0, 1) := by decide +kernel
theorem dFo_plantFirst_31 : decode cFo_plantFirst 31 = .ok (.aaload, 1) := by decide +kernel
theorem dFo_plantFirst_32 : decode cFo_plantFirst 32 = .ok (.iconst 0, 1) := by decide +kernel
theorem dFo_plantFirst_33 : decode cFo_plantFirst 33 = .ok (.iconst 1, 1) := by decide +kernel
theorem dFo_plantFirst_34 : decode cFo_plantFirst 34 = .ok (.iconst 0, 1) := by decide +kernel
theorem dFo_plantFirst_35 : decode cFo_plantFirst 35 = .ok (.invokestatic 55, 3) := by decide +kernel
theorem dFo_plantFirst_38 : decode cFo_plantFirst 38 = .ok (.iastore, 1) := by decide +kernel
theorem dFo_plantFirst_39 : decode cFo_plantFirst 39 = .ok (.return_, 1) := by decide +kernel
theorem dFo_lower_0 : decode cFo_lower 0 = .ok (.iload_n 2, 1) := by decide +kernel
theorem dFo_lower_1 : decode cFo_lower 1 = .ok (.iconst 1, 1) := by decide +kernel
theorem dFo_lower_2 : decode cFo_lower 2 = .ok (.isub, 1) := by decide +kernel
theorem dFo_lower_3 : decode cFo_lower 3 = .ok (.istore 4, 2) := by decide +kernel
theorem dFo_lower_5 : decode cFo_lower 5 = .ok (.iload 4, 2) := by decide +kernel
theorem dFo_lower_7 : decode cFo_lower 7 = .ok (.ifCond .le 19, 3) := by decide +kernel
theorem dFo_lower_10 : decode cFo_lower 10 = .ok (.aload_n 0, 1) := by decide +kernel
theorem dFo_lower_11 : decode cFo_lower 11 = .ok (.iload 4, 2) := by decide +kernel
theorem dFo_lower_13 : decode cFo_lower 13 = .ok (.iaload, 1) := by decide +kernel
theorem dFo_lower_14 : decode cFo_lower 14 = .ok (.aload_n 0, 1) := by decide +kernel
theorem dFo_lower_15 : decode cFo_lower 15 = .ok (.iload_n 2, 1) := by decide +kernel
theorem dFo_lower_16 : decode cFo_lower 16 = .ok (.iaload, 1) := by decide +kernel
theorem dFo_lower_17 : decode cFo_lower 17 = .ok (.if_icmp .lt 9, 3) := by decide +kernel
theorem dFo_lower_20 : decode cFo_lower 20 = .ok (.iinc 4 (-1), 3) := by decide +kernel
theorem dFo_lower_23 : decode cFo_lower 23 = .ok (.goto (-18), 3) := by decide +kernel
theorem dFo_lower_26 : decode cFo_lower 26 = .ok (.iconst 0, 1) := by decide +kernel
theorem dFo_lower_27 : decode cFo_lower 27 = .ok (.istore 5, 2) := by decide +kernel
theorem dFo_lower_29 : decode cFo_lower 29 = .ok (.iload 5, 2) := by decide +kernel
theorem dFo_lower_31 : decode cFo_lower 31 = .ok (.iload_n 3, 1) := by decide +kernel
theorem dFo_lower_32 : decode cFo_lower 32 = .ok (.if_icmp .ge 35, 3) := by decide +kernel
theorem dFo_lower_35 : decode cFo_lower 35 = .ok (.aload_n 1, 1) := by decide +kernel
theorem dFo_lower_36 : decode cFo_lower 36 = .ok (.iload 5, 2) := by decide +kernel
theorem dFo_lower_38 : decode cFo_lower 38 = .ok (.iload 5, 2) := by decide +kernel
theorem dFo_lower_40 : decode cFo_lower 40 = .ok (.iload_n 2, 1) := by decide +kernel
theorem dFo_lower_41 : decode cFo_lower 41 = .ok (.if_icmp .ge 10, 3) := by decide +kernel
theorem dFo_lower_44 : decode cFo_lower 44 = .ok (.aload_n 0, 1) := by decide +kernel
theorem dFo_lower_45 : decode cFo_lower 45 = .ok (.iload 5, 2) := by decide +kernel
theorem dFo_lower_47 : decode cFo_lower 47 = .ok (.iaload, 1) := by decide +kernel
theorem dFo_lower_48 : decode cFo_lower 48 = .ok (.goto 12, 3) := by decide +kernel
theorem dFo_lower_51 : decode cFo_lower 51 = .ok (.aload_n 1, 1) := by decide +kernel
theorem dFo_lower_52 : decode cFo_lower 52 = .ok (.iload 5, 2) := by decide +kernel
theorem dFo_lower_54 : decode cFo_lower 54 = .ok (.iload_n 2, 1) := by decide +kernel
theorem dFo_lower_55 : decode cFo_lower 55 = .ok (.iload 4, 2) := by decide +kernel
theorem dFo_lower_57 : decode cFo_lower 57 = .ok (.isub, 1) := by decide +kernel
theorem dFo_lower_58 : decode cFo_lower 58 = .ok (.isub, 1) := by decide +kernel
theorem dFo_lower_59 : decode cFo_lower 59 = .ok (.iaload, 1) := by decide +kernel
theorem dFo_lower_60 : decode cFo_lower 60 = .ok (.iastore, 1) := by decide +kernel
theorem dFo_lower_61 : decode cFo_lower 61 = .ok (.iinc 5 1, 3) := by decide +kernel
theorem dFo_lower_64 : decode cFo_lower 64 = .ok (.goto (-35), 3) := by decide +kernel
theorem dFo_lower_67 : decode cFo_lower 67 = .ok (.return_, 1) := by decide +kernel
theorem dFo_plant_0 : decode cFo_plant 0 = .ok (.aload_n 0, 1) := by decide +kernel
theorem dFo_plant_1 : decode cFo_plant 1 = .ok (.getfield 11, 3) := by decide +kernel
theorem dFo_plant_4 : decode cFo_plant 4 = .ok (.iload_n 1, 1) := by decide +kernel
theorem dFo_plant_5 : decode cFo_plant 5 = .ok (.iconst 1, 1) := by decide +kernel
theorem dFo_plant_6 : decode cFo_plant 6 = .ok (.isub, 1) := by decide +kernel
theorem dFo_plant_7 : decode cFo_plant 7 = .ok (.aaload, 1) := by decide +kernel
theorem dFo_plant_8 : decode cFo_plant 8 = .ok (.astore_n 2, 1) := by decide +kernel
theorem dFo_plant_9 : decode cFo_plant 9 = .ok (.aload_n 0, 1) := by decide +kernel
theorem dFo_plant_10 : decode cFo_plant 10 = .ok (.getfield 11, 3) := by decide +kernel
theorem dFo_plant_13 : decode cFo_plant 13 = .ok (.iload_n 1, 1) := by decide +kernel
theorem dFo_plant_14 : decode cFo_plant 14 = .ok (.aaload, 1) := by decide +kernel
theorem dFo_plant_15 : decode cFo_plant 15 = .ok (.astore_n 3, 1) := by decide +kernel
theorem dFo_plant_16 : decode cFo_plant 16 = .ok (.aload_n 0, 1) := by decide +kernel
theorem dFo_plant_17 : decode cFo_plant 17 = .ok (.getfield 16, 3) := by decide +kernel
theorem dFo_plant_20 : decode cFo_plant 20 = .ok (.iload_n 1, 1) := by decide +kernel
theorem dFo_plant_21 : decode cFo_plant 21 = .ok (.iconst 1, 1) := by decide +kernel
theorem dFo_plant_22 : decode cFo_plant 22 = .ok (.isub, 1) := by decide +kernel
theorem dFo_plant_23 : decode cFo_plant 23 = .ok (.iaload, 1) := by decide +kernel
theorem dFo_plant_24 : decode cFo_plant 24 = .ok (.istore 4, 2) := by decide +kernel
theorem dFo_plant_26 : decode cFo_plant 26 = .ok (.iload 4, 2) := by decide +kernel
theorem dFo_plant_28 : decode cFo_plant 28 = .ok (.iconst 1, 1) := by decide +kernel
theorem dFo_plant_29 : decode cFo_plant 29 = .ok (.isub, 1) := by decide +kernel
theorem dFo_plant_30 : decode cFo_plant 30 = .ok (.istore 5, 2) := by decide +kernel
theorem dFo_plant_32 : decode cFo_plant 32 = .ok (.iload 5, 2) := by decide +kernel
theorem dFo_plant_34 : decode cFo_plant 34 = .ok (.ifCond .le 17, 3) := by decide +kernel
theorem dFo_plant_37 : decode cFo_plant 37 = .ok (.aload_n 2, 1) := by decide +kernel
theorem dFo_plant_38 : decode cFo_plant 38 = .ok (.iload 5, 2) := by decide +kernel
theorem dFo_plant_40 : decode cFo_plant 40 = .ok (.iaload, 1) := by decide +kernel
theorem dFo_plant_41 : decode cFo_plant 41 = .ok (.iconst 1, 1) := by decide +kernel
theorem dFo_plant_42 : decode cFo_plant 42 = .ok (.if_icmp .gt 9, 3) := by decide +kernel
theorem dFo_plant_45 : decode cFo_plant 45 = .ok (.iinc 5 (-1), 3) := by decide +kernel
theorem dFo_plant_48 : decode cFo_plant 48 = .ok (.goto (-16), 3) := by decide +kernel
theorem dFo_plant_51 : decode cFo_plant 51 = .ok (.iload 5, 2) := by decide +kernel
theorem dFo_plant_53 : decode cFo_plant 53 = .ok (.ifCond .ne 45, 3) := by decide +kernel
theorem dFo_plant_56 : decode cFo_plant 56 = .ok (.aload_n 0, 1) := by decide +kernel
theorem dFo_plant_57 : decode cFo_plant 57 = .ok (.getfield 16, 3) := by decide +kernel
theorem dFo_plant_60 : decode cFo_plant 60 = .ok (.iload_n 1, 1) := by decide +kernel
theorem dFo_plant_61 : decode cFo_plant 61 = .ok (.iload 4, 2) := by decide +kernel
theorem dFo_plant_63 : decode cFo_plant 63 = .ok (.iconst 1, 1) := by decide +kernel
theorem dFo_plant_64 : decode cFo_plant 64 = .ok (.iadd, 1) := by decide +kernel
theorem dFo_plant_65 : decode cFo_plant 65 = .ok (.iastore, 1) := by decide +kernel
theorem dFo_plant_66 : decode cFo_plant 66 = .ok (.iconst 0, 1) := by decide +kernel
theorem dFo_plant_67 : decode cFo_plant 67 = .ok (.istore 6, 2) := by decide +kernel
theorem dFo_plant_69 : decode cFo_plant 69 = .ok (.iload 6, 2) := by decide +kernel
theorem dFo_plant_71 : decode cFo_plant 71 = .ok (.iload 4, 2) := by decide +kernel
theorem dFo_plant_73 : decode cFo_plant 73 = .ok (.if_icmp .gt 22, 3) := by decide +kernel
theorem dFo_plant_76 : decode cFo_plant 76 = .ok (.iload 6, 2) := by decide +kernel
theorem dFo_plant_78 : decode cFo_plant 78 = .ok (.bipush 6, 2) := by decide +kernel
theorem dFo_plant_80 : decode cFo_plant 80 = .ok (.if_icmp .ge 15, 3) := by decide +kernel
theorem dFo_plant_83 : decode cFo_plant 83 = .ok (.aload_n 3, 1) := by decide +kernel
theorem dFo_plant_84 : decode cFo_plant 84 = .ok (.iload 6, 2) := by decide +kernel
theorem dFo_plant_86 : decode cFo_plant 86 = .ok (.iload 6, 2) := by decide +kernel
theorem dFo_plant_88 : decode cFo_plant 88 = .ok (.iastore, 1) := by decide +kernel
theorem dFo_plant_89 : decode cFo_plant 89 = .ok (.iinc 6 1, 3) := by decide +kernel
theorem dFo_plant_92 : decode cFo_plant 92 = .ok (.goto (-23), 3) := by decide +kernel
theorem dFo_plant_95 : decode cFo_plant 95 = .ok (.goto 20, 3) := by decide +kernel
theorem dFo_plant_98 : decode cFo_plant 98 = .ok (.aload_n 0, 1) := by decide +kernel
theorem dFo_plant_99 : decode cFo_plant 99 = .ok (.getfield 16, 3) := by decide +kernel
theorem dFo_plant_102 : decode cFo_plant 102 = .ok (.iload_n 1, 1) := by decide +kernel
theorem dFo_plant_103 : decode cFo_plant 103 = .ok (.iload 4, 2) := by decide +kernel
theorem dFo_plant_105 : decode cFo_plant 105 = .ok (.iastore, 1) := by decide +kernel
theorem dFo_plant_106 : decode cFo_plant 106 = .ok (.aload_n 2, 1) := by decide +kernel
theorem dFo_plant_107 : decode cFo_plant 107 = .ok (.aload_n 3, 1) := by decide +kernel
theorem dFo_plant_108 : decode cFo_plant 108 = .ok (.iload 5, 2) := by decide +kernel
theorem dFo_plant_110 : decode cFo_plant 110 = .ok (.iload 4, 2) := by decide +kernel
theorem dFo_plant_112 : decode cFo_plant 112 = .ok (.invokestatic 59, 3) := by decide +kernel
theorem dFo_plant_115 : decode cFo_plant 115 = .ok (.aload_n 0, 1) := by decide +kernel
theorem dFo_plant_116 : decode cFo_plant 116 = .ok (.getfield 38, 3) := by decide +kernel
theorem dFo_plant_119 : decode cFo_plant 119 = .ok (.iload_n 1, 1) := by decide +kernel
theorem dFo_plant_120 : decode cFo_plant 120 = .ok (.aload_n 3, 1) := by decide +kernel
theorem dFo_plant_121 : decode cFo_plant 121 = .ok (.iconst 0, 1) := by decide +kernel
theorem dFo_plant_122 : decode cFo_plant 122 = .ok (.aload_n 0, 1) := by decide +kernel
theorem dFo_plant_123 : decode cFo_plant 123 = .ok (.getfield 16, 3) := by decide +kernel
theorem dFo_plant_126 : decode cFo_plant 126 = .ok (.iload_n 1, 1) := by decide +kernel
theorem dFo_plant_127 : decode cFo_plant 127 = .ok (.iaload, 1) := by decide +kernel
theorem dFo_plant_128 : decode cFo_plant 128 = .ok (.iconst 0, 1) := by decide +kernel
theorem dFo_plant_129 : decode cFo_plant 129 = .ok (.invokestatic 55, 3) := by decide +kernel
theorem dFo_plant_132 : decode cFo_plant 132 = .ok (.iastore, 1) := by decide +kernel
theorem dFo_plant_133 : decode cFo_plant 133 = .ok (.return_, 1) := by decide +kernel
theorem dFo_hangingEnd_0 : decode cFo_hangingEnd 0 = .ok (.aload_n 0, 1) := by decide +kernel
theorem dFo_hangingEnd_1 : decode cFo_hangingEnd 1 = .ok (.getfield 11, 3) := by decide +kernel
theorem dFo_hangingEnd_4 : decode cFo_hangingEnd 4 = .ok (.iload_n 1, 1) := by decide +kernel
theorem dFo_hangingEnd_5 : decode cFo_hangingEnd 5 = .ok (.aaload, 1) := by decide +kernel
theorem dFo_hangingEnd_6 : decode cFo_hangingEnd 6 = .ok (.astore_n 3, 1) := by decide +kernel
theorem dFo_hangingEnd_7 : decode cFo_hangingEnd 7 = .ok (.iload_n 2, 1) := by decide +kernel
theorem dFo_hangingEnd_8 : decode cFo_hangingEnd 8 = .ok (.iconst 1, 1) := by decide +kernel
theorem dFo_hangingEnd_9 : decode cFo_hangingEnd 9 = .ok (.iadd, 1) := by decide +kernel
theorem dFo_hangingEnd_10 : decode cFo_hangingEnd 10 = .ok (.istore 4, 2) := by decide +kernel
theorem dFo_hangingEnd_12 : decode cFo_hangingEnd 12 = .ok (.iload 4, 2) := by decide +kernel
theorem dFo_hangingEnd_14 : decode cFo_hangingEnd 14 = .ok (.aload_n 0, 1) := by decide +kernel
theorem dFo_hangingEnd_15 : decode cFo_hangingEnd 15 = .ok (.getfield 16, 3) := by decide +kernel
theorem dFo_hangingEnd_18 : decode cFo_hangingEnd 18 = .ok (.iload_n 1, 1) := by decide +kernel
theorem dFo_hangingEnd_19 : decode cFo_hangingEnd 19 = .ok (.iaload, 1) := by decide +kernel
theorem dFo_hangingEnd_20 : decode cFo_hangingEnd 20 = .ok (.if_icmp .ge 19, 3) := by decide +kernel
theorem dFo_hangingEnd_23 : decode cFo_hangingEnd 23 = .ok (.aload_n 3, 1) := by decide +kernel
theorem dFo_hangingEnd_24 : decode cFo_hangingEnd 24 = .ok (.iload 4, 2) := by decide +kernel
theorem dFo_hangingEnd_26 : decode cFo_hangingEnd 26 = .ok (.iaload, 1) := by decide +kernel
theorem dFo_hangingEnd_27 : decode cFo_hangingEnd 27 = .ok (.aload_n 3, 1) := by decide +kernel
theorem dFo_hangingEnd_28 : decode cFo_hangingEnd 28 = .ok (.iload_n 2, 1) := by decide +kernel
theorem dFo_hangingEnd_29 : decode cFo_hangingEnd 29 = .ok (.iaload, 1) := by decide +kernel
theorem dFo_hangingEnd_30 : decode cFo_hangingEnd 30 = .ok (.if_icmp .le 9, 3) := by decide +kernel
theorem dFo_hangingEnd_33 : decode cFo_hangingEnd 33 = .ok (.iinc 4 1, 3) := by decide +kernel
theorem dFo_hangingEnd_36 : decode cFo_hangingEnd 36 = .ok (.goto (-24), 3) := by decide +kernel
theorem dFo_hangingEnd_39 : decode cFo_hangingEnd 39 = .ok (.iload 4, 2) := by decide +kernel
theorem dFo_hangingEnd_41 : decode cFo_hangingEnd 41 = .ok (.ireturn, 1) := by decide +kernel
theorem dFo_numbered_0 : decode cFo_numbered 0 = .ok (.iconst 0, 1) := by decide +kernel
theorem dFo_numbered_1 : decode cFo_numbered 1 = .ok (.istore_n 2, 1) := by decide +kernel
theorem dFo_numbered_2 : decode cFo_numbered 2 = .ok (.iload_n 2, 1) := by decide +kernel
theorem dFo_numbered_3 : decode cFo_numbered 3 = .ok (.bipush 37, 2) := by decide +kernel
theorem dFo_numbered_5 : decode cFo_numbered 5 = .ok (.if_icmp .ge 21, 3) := by decide +kernel
theorem dFo_numbered_8 : decode cFo_numbered 8 = .ok (.aload_n 0, 1) := by decide +kernel
theorem dFo_numbered_9 : decode cFo_numbered 9 = .ok (.getfield 38, 3) := by decide +kernel
theorem dFo_numbered_12 : decode cFo_numbered 12 = .ok (.iload_n 2, 1) := by decide +kernel
theorem dFo_numbered_13 : decode cFo_numbered 13 = .ok (.iaload, 1) := by decide +kernel
theorem dFo_numbered_14 : decode cFo_numbered 14 = .ok (.iload_n 1, 1) := by decide +kernel
theorem dFo_numbered_15 : decode cFo_numbered 15 = .ok (.if_icmp .ne 5, 3) := by decide +kernel
theorem dFo_numbered_18 : decode cFo_numbered 18 = .ok (.iload_n 2, 1) := by decide +kernel
theorem dFo_numbered_19 : decode cFo_numbered 19 = .ok (.ireturn, 1) := by decide +kernel
theorem dFo_numbered_20 : decode cFo_numbered 20 = .ok (.iinc 2 1, 3) := by decide +kernel
theorem dFo_numbered_23 : decode cFo_numbered 23 = .ok (.goto (-21), 3) := by decide +kernel
theorem dFo_numbered_26 : decode cFo_numbered 26 = .ok (.iconst 0, 1) := by decide +kernel
theorem dFo_numbered_27 : decode cFo_numbered 27 = .ok (.ireturn, 1) := by decide +kernel
theorem dFo_codeWithout_0 : decode cFo_codeWithout 0 = .ok (.iconst 1, 1) := by decide +kernel
theorem dFo_codeWithout_1 : decode cFo_codeWithout 1 = .ok (.istore 4, 2) := by decide +kernel
theorem dFo_codeWithout_3 : decode cFo_codeWithout 3 = .ok (.iconst 0, 1) := by decide +kernel
theorem dFo_codeWithout_4 : decode cFo_codeWithout 4 = .ok (.istore 5, 2) := by decide +kernel
theorem dFo_codeWithout_6 : decode cFo_codeWithout 6 = .ok (.iload 5, 2) := by decide +kernel
theorem dFo_codeWithout_8 : decode cFo_codeWithout 8 = .ok (.iload_n 1, 1) := by decide +kernel
theorem dFo_codeWithout_9 : decode cFo_codeWithout 9 = .ok (.if_icmp .ge 33, 3) := by decide +kernel
theorem dFo_codeWithout_12 : decode cFo_codeWithout 12 = .ok (.iload 5, 2) := by decide +kernel
theorem dFo_codeWithout_14 : decode cFo_codeWithout 14 = .ok (.iload_n 2, 1) := by decide +kernel
theorem dFo_codeWithout_15 : decode cFo_codeWithout 15 = .ok (.if_icmp .lt 9, 3) := by decide +kernel
theorem dFo_codeWithout_18 : decode cFo_codeWithout 18 = .ok (.iload 5, 2) := by decide +kernel
theorem dFo_codeWithout_20 : decode cFo_codeWithout 20 = .ok (.iload_n 3, 1) := by decide +kernel
theorem dFo_codeWithout_21 : decode cFo_codeWithout 21 = .ok (.if_icmp .lt 15, 3) := by decide +kernel
theorem dFo_codeWithout_24 : decode cFo_codeWithout 24 = .ok (.iload 4, 2) := by decide +kernel
theorem dFo_codeWithout_26 : decode cFo_codeWithout 26 = .ok (.bipush 8, 2) := by decide +kernel
theorem dFo_codeWithout_28 : decode cFo_codeWithout 28 = .ok (.imul, 1) := by decide +kernel
theorem dFo_codeWithout_29 : decode cFo_codeWithout 29 = .ok (.aload_n 0, 1) := by decide +kernel
theorem dFo_codeWithout_30 : decode cFo_codeWithout 30 = .ok (.iload 5, 2) := by decide +kernel
theorem dFo_codeWithout_32 : decode cFo_codeWithout 32 = .ok (.iaload, 1) := by decide +kernel
theorem dFo_codeWithout_33 : decode cFo_codeWithout 33 = .ok (.iadd, 1) := by decide +kernel
theorem dFo_codeWithout_34 : decode cFo_codeWithout 34 = .ok (.istore 4, 2) := by decide +kernel
theorem dFo_codeWithout_36 : decode cFo_codeWithout 36 = .ok (.iinc 5 1, 3) := by decide +kernel
theorem dFo_codeWithout_39 : decode cFo_codeWithout 39 = .ok (.goto (-33), 3) := by decide +kernel
theorem dFo_codeWithout_42 : decode cFo_codeWithout 42 = .ok (.iload 4, 2) := by decide +kernel
theorem dFo_codeWithout_44 : decode cFo_codeWithout 44 = .ok (.ireturn, 1) := by decide +kernel
theorem dFo_takeApart_0 : decode cFo_takeApart 0 = .ok (.aload_n 0, 1) := by decide +kernel
theorem dFo_takeApart_1 : decode cFo_takeApart 1 = .ok (.getfield 11, 3) := by decide +kernel
theorem dFo_takeApart_4 : decode cFo_takeApart 4 = .ok (.iload_n 1, 1) := by decide +kernel
theorem dFo_takeApart_5 : decode cFo_takeApart 5 = .ok (.aaload, 1) := by decide +kernel
theorem dFo_takeApart_6 : decode cFo_takeApart 6 = .ok (.astore_n 2, 1) := by decide +kernel
theorem dFo_takeApart_7 : decode cFo_takeApart 7 = .ok (.iconst 1, 1) := by decide +kernel
theorem dFo_takeApart_8 : decode cFo_takeApart 8 = .ok (.istore_n 3, 1) := by decide +kernel
theorem dFo_takeApart_9 : decode cFo_takeApart 9 = .ok (.iload_n 3, 1) := by decide +kernel
theorem dFo_takeApart_10 : decode cFo_takeApart 10 = .ok (.aload_n 0, 1) := by decide +kernel
theorem dFo_takeApart_11 : decode cFo_takeApart 11 = .ok (.getfield 16, 3) := by decide +kernel
theorem dFo_takeApart_14 : decode cFo_takeApart 14 = .ok (.iload_n 1, 1) := by decide +kernel
theorem dFo_takeApart_15 : decode cFo_takeApart 15 = .ok (.iaload, 1) := by decide +kernel
theorem dFo_takeApart_16 : decode cFo_takeApart 16 = .ok (.if_icmp .ge 84, 3) := by decide +kernel
theorem dFo_takeApart_19 : decode cFo_takeApart 19 = .ok (.aload_n 2, 1) := by decide +kernel
theorem dFo_takeApart_20 : decode cFo_takeApart 20 = .ok (.iload_n 3, 1) := by decide +kernel
theorem dFo_takeApart_21 : decode cFo_takeApart 21 = .ok (.iaload, 1) := by decide +kernel
theorem dFo_takeApart_22 : decode cFo_takeApart 22 = .ok (.iconst 1, 1) := by decide +kernel
theorem dFo_takeApart_23 : decode cFo_takeApart 23 = .ok (.if_icmp .ne 71, 3) := by decide +kernel
theorem dFo_takeApart_26 : decode cFo_takeApart 26 = .ok (.aload_n 0, 1) := by decide +kernel
theorem dFo_takeApart_27 : decode cFo_takeApart 27 = .ok (.iload_n 1, 1) := by decide +kernel
theorem dFo_takeApart_28 : decode cFo_takeApart 28 = .ok (.iload_n 3, 1) := by decide +kernel
theorem dFo_takeApart_29 : decode cFo_takeApart 29 = .ok (.invokevirtual 63, 3) := by decide +kernel
theorem dFo_takeApart_32 : decode cFo_takeApart 32 = .ok (.istore 4, 2) := by decide +kernel
theorem dFo_takeApart_34 : decode cFo_takeApart 34 = .ok (.aload_n 0, 1) := by decide +kernel
theorem dFo_takeApart_35 : decode cFo_takeApart 35 = .ok (.aload_n 2, 1) := by decide +kernel
theorem dFo_takeApart_36 : decode cFo_takeApart 36 = .ok (.iload_n 3, 1) := by decide +kernel
theorem dFo_takeApart_37 : decode cFo_takeApart 37 = .ok (.iload 4, 2) := by decide +kernel
theorem dFo_takeApart_39 : decode cFo_takeApart 39 = .ok (.iconst 1, 1) := by decide +kernel
theorem dFo_takeApart_40 : decode cFo_takeApart 40 = .ok (.invokestatic 55, 3) := by decide +kernel
theorem dFo_takeApart_43 : decode cFo_takeApart 43 = .ok (.invokevirtual 67, 3) := by decide +kernel
theorem dFo_takeApart_46 : decode cFo_takeApart 46 = .ok (.istore 5, 2) := by decide +kernel
theorem dFo_takeApart_48 : decode cFo_takeApart 48 = .ok (.aload_n 0, 1) := by decide +kernel
theorem dFo_takeApart_49 : decode cFo_takeApart 49 = .ok (.aload_n 2, 1) := by decide +kernel
theorem dFo_takeApart_50 : decode cFo_takeApart 50 = .ok (.aload_n 0, 1) := by decide +kernel
theorem dFo_takeApart_51 : decode cFo_takeApart 51 = .ok (.getfield 16, 3) := by decide +kernel
theorem dFo_takeApart_54 : decode cFo_takeApart 54 = .ok (.iload_n 1, 1) := by decide +kernel
theorem dFo_takeApart_55 : decode cFo_takeApart 55 = .ok (.iaload, 1) := by decide +kernel
theorem dFo_takeApart_56 : decode cFo_takeApart 56 = .ok (.iload_n 3, 1) := by decide +kernel
theorem dFo_takeApart_57 : decode cFo_takeApart 57 = .ok (.iload 4, 2) := by decide +kernel
theorem dFo_takeApart_59 : decode cFo_takeApart 59 = .ok (.invokestatic 71, 3) := by decide +kernel
theorem dFo_takeApart_62 : decode cFo_takeApart 62 = .ok (.invokevirtual 67, 3) := by decide +kernel
theorem dFo_takeApart_65 : decode cFo_takeApart 65 = .ok (.istore 6, 2) := by decide +kernel
theorem dFo_takeApart_67 : decode cFo_takeApart 67 = .ok (.aload_n 0, 1) := by decide +kernel
theorem dFo_takeApart_68 : decode cFo_takeApart 68 = .ok (.getfield 35, 3) := by decide +kernel
theorem dFo_takeApart_71 : decode cFo_takeApart 71 = .ok (.iload 6, 2) := by decide +kernel
theorem dFo_takeApart_73 : decode cFo_takeApart 73 = .ok (.aaload, 1) := by decide +kernel
theorem dFo_takeApart_74 : decode cFo_takeApart 74 = .ok (.iload 5, 2) := by decide +kernel
theorem dFo_takeApart_76 : decode cFo_takeApart 76 = .ok (.iload_n 1, 1) := by decide +kernel
theorem dFo_takeApart_77 : decode cFo_takeApart 77 = .ok (.iastore, 1) := by decide +kernel
theorem dFo_takeApart_78 : decode cFo_takeApart 78 = .ok (.aload_n 0, 1) := by decide +kernel
theorem dFo_takeApart_79 : decode cFo_takeApart 79 = .ok (.getfield 29, 3) := by decide +kernel
theorem dFo_takeApart_82 : decode cFo_takeApart 82 = .ok (.iload_n 1, 1) := by decide +kernel
theorem dFo_takeApart_83 : decode cFo_takeApart 83 = .ok (.iload 6, 2) := by decide +kernel
theorem dFo_takeApart_85 : decode cFo_takeApart 85 = .ok (.iastore, 1) := by decide +kernel
theorem dFo_takeApart_86 : decode cFo_takeApart 86 = .ok (.aload_n 0, 1) := by decide +kernel
theorem dFo_takeApart_87 : decode cFo_takeApart 87 = .ok (.getfield 32, 3) := by decide +kernel
theorem dFo_takeApart_90 : decode cFo_takeApart 90 = .ok (.iload_n 1, 1) := by decide +kernel
theorem dFo_takeApart_91 : decode cFo_takeApart 91 = .ok (.iload 5, 2) := by decide +kernel
theorem dFo_takeApart_93 : decode cFo_takeApart 93 = .ok (.iastore, 1) := by decide +kernel
theorem dFo_takeApart_94 : decode cFo_takeApart 94 = .ok (.iinc 3 1, 3) := by decide +kernel
theorem dFo_takeApart_97 : decode cFo_takeApart 97 = .ok (.goto (-88), 3) := by decide +kernel
theorem dFo_takeApart_100 : decode cFo_takeApart 100 = .ok (.return_, 1) := by decide +kernel
theorem dFo_sameAtEnd_0 : decode cFo_sameAtEnd 0 = .ok (.iconst 1, 1) := by decide +kernel
theorem dFo_sameAtEnd_1 : decode cFo_sameAtEnd 1 = .ok (.istore_n 2, 1) := by decide +kernel
theorem dFo_sameAtEnd_2 : decode cFo_sameAtEnd 2 = .ok (.aload_n 0, 1) := by decide +kernel
theorem dFo_sameAtEnd_3 : decode cFo_sameAtEnd 3 = .ok (.getfield 29, 3) := by decide +kernel
theorem dFo_sameAtEnd_6 : decode cFo_sameAtEnd 6 = .ok (.iload_n 1, 1) := by decide +kernel
theorem dFo_sameAtEnd_7 : decode cFo_sameAtEnd 7 = .ok (.iaload, 1) := by decide +kernel
theorem dFo_sameAtEnd_8 : decode cFo_sameAtEnd 8 = .ok (.istore_n 3, 1) := by decide +kernel
theorem dFo_sameAtEnd_9 : decode cFo_sameAtEnd 9 = .ok (.iconst 0, 1) := by decide +kernel
theorem dFo_sameAtEnd_10 : decode cFo_sameAtEnd 10 = .ok (.istore 4, 2) := by decide +kernel
theorem dFo_sameAtEnd_12 : decode cFo_sameAtEnd 12 = .ok (.iload 4, 2) := by decide +kernel
theorem dFo_sameAtEnd_14 : decode cFo_sameAtEnd 14 = .ok (.bipush 6, 2) := by decide +kernel
theorem dFo_sameAtEnd_16 : decode cFo_sameAtEnd 16 = .ok (.if_icmp .ge 38, 3) := by decide +kernel
theorem dFo_sameAtEnd_19 : decode cFo_sameAtEnd 19 = .ok (.iload_n 3, 1) := by decide +kernel
theorem dFo_sameAtEnd_20 : decode cFo_sameAtEnd 20 = .ok (.ifCond .eq 34, 3) := by decide +kernel
theorem dFo_sameAtEnd_23 : decode cFo_sameAtEnd 23 = .ok (.aload_n 0, 1) := by decide +kernel
theorem dFo_sameAtEnd_24 : decode cFo_sameAtEnd 24 = .ok (.getfield 32, 3) := by decide +kernel
theorem dFo_sameAtEnd_27 : decode cFo_sameAtEnd 27 = .ok (.iload_n 3, 1) := by decide +kernel
theorem dFo_sameAtEnd_28 : decode cFo_sameAtEnd 28 = .ok (.iaload, 1) := by decide +kernel
theorem dFo_sameAtEnd_29 : decode cFo_sameAtEnd 29 = .ok (.aload_n 0, 1) := by decide +kernel
theorem dFo_sameAtEnd_30 : decode cFo_sameAtEnd 30 = .ok (.getfield 32, 3) := by decide +kernel
theorem dFo_sameAtEnd_33 : decode cFo_sameAtEnd 33 = .ok (.iload_n 1, 1) := by decide +kernel
theorem dFo_sameAtEnd_34 : decode cFo_sameAtEnd 34 = .ok (.iaload, 1) := by decide +kernel
theorem dFo_sameAtEnd_35 : decode cFo_sameAtEnd 35 = .ok (.if_icmp .ne 19, 3) := by decide +kernel
theorem dFo_sameAtEnd_38 : decode cFo_sameAtEnd 38 = .ok (.iinc 2 1, 3) := by decide +kernel
theorem dFo_sameAtEnd_41 : decode cFo_sameAtEnd 41 = .ok (.aload_n 0, 1) := by decide +kernel
theorem dFo_sameAtEnd_42 : decode cFo_sameAtEnd 42 = .ok (.getfield 29, 3) := by decide +kernel
theorem dFo_sameAtEnd_45 : decode cFo_sameAtEnd 45 = .ok (.iload_n 3, 1) := by decide +kernel
theorem dFo_sameAtEnd_46 : decode cFo_sameAtEnd 46 = .ok (.iaload, 1) := by decide +kernel
theorem dFo_sameAtEnd_47 : decode cFo_sameAtEnd 47 = .ok (.istore_n 3, 1) := by decide +kernel
theorem dFo_sameAtEnd_48 : decode cFo_sameAtEnd 48 = .ok (.iinc 4 1, 3) := by decide +kernel
theorem dFo_sameAtEnd_51 : decode cFo_sameAtEnd 51 = .ok (.goto (-39), 3) := by decide +kernel
theorem dFo_sameAtEnd_54 : decode cFo_sameAtEnd 54 = .ok (.iload_n 2, 1) := by decide +kernel
theorem dFo_sameAtEnd_55 : decode cFo_sameAtEnd 55 = .ok (.ireturn, 1) := by decide +kernel
theorem dFo_measure_0 : decode cFo_measure 0 = .ok (.aload_n 0, 1) := by decide +kernel
theorem dFo_measure_1 : decode cFo_measure 1 = .ok (.getfield 29, 3) := by decide +kernel
theorem dFo_measure_4 : decode cFo_measure 4 = .ok (.iload_n 1, 1) := by decide +kernel
theorem dFo_measure_5 : decode cFo_measure 5 = .ok (.iaload, 1) := by decide +kernel
theorem dFo_measure_6 : decode cFo_measure 6 = .ok (.istore_n 2, 1) := by decide +kernel
theorem dFo_measure_7 : decode cFo_measure 7 = .ok (.aload_n 0, 1) := by decide +kernel
theorem dFo_measure_8 : decode cFo_measure 8 = .ok (.getfield 32, 3) := by decide +kernel
theorem dFo_measure_11 : decode cFo_measure 11 = .ok (.iload_n 1, 1) := by decide +kernel
theorem dFo_measure_12 : decode cFo_measure 12 = .ok (.iaload, 1) := by decide +kernel
theorem dFo_measure_13 : decode cFo_measure 13 = .ok (.istore_n 3, 1) := by decide +kernel
theorem dFo_measure_14 : decode cFo_measure 14 = .ok (.aload_n 0, 1) := by decide +kernel
theorem dFo_measure_15 : decode cFo_measure 15 = .ok (.getfield 26, 3) := by decide +kernel
theorem dFo_measure_18 : decode cFo_measure 18 = .ok (.iload_n 1, 1) := by decide +kernel
theorem dFo_measure_19 : decode cFo_measure 19 = .ok (.aload_n 0, 1) := by decide +kernel
theorem dFo_measure_20 : decode cFo_measure 20 = .ok (.getfield 26, 3) := by decide +kernel
theorem dFo_measure_23 : decode cFo_measure 23 = .ok (.iload_n 2, 1) := by decide +kernel
theorem dFo_measure_24 : decode cFo_measure 24 = .ok (.iaload, 1) := by decide +kernel
theorem dFo_measure_25 : decode cFo_measure 25 = .ok (.iconst 1, 1) := by decide +kernel
theorem dFo_measure_26 : decode cFo_measure 26 = .ok (.iadd, 1) := by decide +kernel
theorem dFo_measure_27 : decode cFo_measure 27 = .ok (.iastore, 1) := by decide +kernel
theorem dFo_measure_28 : decode cFo_measure 28 = .ok (.aload_n 0, 1) := by decide +kernel
theorem dFo_measure_29 : decode cFo_measure 29 = .ok (.getfield 20, 3) := by decide +kernel
theorem dFo_measure_32 : decode cFo_measure 32 = .ok (.iload_n 1, 1) := by decide +kernel
theorem dFo_measure_33 : decode cFo_measure 33 = .ok (.aload_n 0, 1) := by decide +kernel
theorem dFo_measure_34 : decode cFo_measure 34 = .ok (.getfield 20, 3) := by decide +kernel
theorem dFo_measure_37 : decode cFo_measure 37 = .ok (.iload_n 2, 1) := by decide +kernel
theorem dFo_measure_38 : decode cFo_measure 38 = .ok (.iaload, 1) := by decide +kernel
theorem dFo_measure_39 : decode cFo_measure 39 = .ok (.aload_n 0, 1) := by decide +kernel
theorem dFo_measure_40 : decode cFo_measure 40 = .ok (.getfield 20, 3) := by decide +kernel
theorem dFo_measure_43 : decode cFo_measure 43 = .ok (.iload_n 3, 1) := by decide +kernel
theorem dFo_measure_44 : decode cFo_measure 44 = .ok (.iaload, 1) := by decide +kernel
theorem dFo_measure_45 : decode cFo_measure 45 = .ok (.imul, 1) := by decide +kernel
theorem dFo_measure_46 : decode cFo_measure 46 = .ok (.aload_n 0, 1) := by decide +kernel
theorem dFo_measure_47 : decode cFo_measure 47 = .ok (.iload_n 1, 1) := by decide +kernel
theorem dFo_measure_48 : decode cFo_measure 48 = .ok (.invokevirtual 74, 3) := by decide +kernel
theorem dFo_measure_51 : decode cFo_measure 51 = .ok (.imul, 1) := by decide +kernel
theorem dFo_measure_52 : decode cFo_measure 52 = .ok (.iastore, 1) := by decide +kernel
theorem dFo_measure_53 : decode cFo_measure 53 = .ok (.aload_n 0, 1) := by decide +kernel
theorem dFo_measure_54 : decode cFo_measure 54 = .ok (.getfield 23, 3) := by decide +kernel
theorem dFo_measure_57 : decode cFo_measure 57 = .ok (.iload_n 1, 1) := by decide +kernel
theorem dFo_measure_58 : decode cFo_measure 58 = .ok (.iconst 1, 1) := by decide +kernel
theorem dFo_measure_59 : decode cFo_measure 59 = .ok (.iastore, 1) := by decide +kernel
theorem dFo_measure_60 : decode cFo_measure 60 = .ok (.iconst 0, 1) := by decide +kernel
theorem dFo_measure_61 : decode cFo_measure 61 = .ok (.istore 4, 2) := by decide +kernel
theorem dFo_measure_63 : decode cFo_measure 63 = .ok (.iload 4, 2) := by decide +kernel
theorem dFo_measure_65 : decode cFo_measure 65 = .ok (.aload_n 0, 1) := by decide +kernel
theorem dFo_measure_66 : decode cFo_measure 66 = .ok (.getfield 16, 3) := by decide +kernel
theorem dFo_measure_69 : decode cFo_measure 69 = .ok (.iload_n 1, 1) := by decide +kernel
theorem dFo_measure_70 : decode cFo_measure 70 = .ok (.iaload, 1) := by decide +kernel
theorem dFo_measure_71 : decode cFo_measure 71 = .ok (.if_icmp .ge 28, 3) := by decide +kernel
theorem dFo_measure_74 : decode cFo_measure 74 = .ok (.aload_n 0, 1) := by decide +kernel
theorem dFo_measure_75 : decode cFo_measure 75 = .ok (.getfield 23, 3) := by decide +kernel
theorem dFo_measure_78 : decode cFo_measure 78 = .ok (.iload_n 1, 1) := by decide +kernel
theorem dFo_measure_79 : decode cFo_measure 79 = .ok (.dup2, 1) := by decide +kernel
theorem dFo_measure_80 : decode cFo_measure 80 = .ok (.iaload, 1) := by decide +kernel
theorem dFo_measure_81 : decode cFo_measure 81 = .ok (.aload_n 0, 1) := by decide +kernel
theorem dFo_measure_82 : decode cFo_measure 82 = .ok (.iload_n 1, 1) := by decide +kernel
theorem dFo_measure_83 : decode cFo_measure 83 = .ok (.iload 4, 2) := by decide +kernel
theorem dFo_measure_85 : decode cFo_measure 85 = .ok (.invokevirtual 63, 3) := by decide +kernel
theorem dFo_measure_88 : decode cFo_measure 88 = .ok (.iload 4, 2) := by decide +kernel
theorem dFo_measure_90 : decode cFo_measure 90 = .ok (.isub, 1) := by decide +kernel
theorem dFo_measure_91 : decode cFo_measure 91 = .ok (.imul, 1) := by decide +kernel
theorem dFo_measure_92 : decode cFo_measure 92 = .ok (.iastore, 1) := by decide +kernel
theorem dFo_measure_93 : decode cFo_measure 93 = .ok (.iinc 4 1, 3) := by decide +kernel
theorem dFo_measure_96 : decode cFo_measure 96 = .ok (.goto (-33), 3) := by decide +kernel
theorem dFo_measure_99 : decode cFo_measure 99 = .ok (.return_, 1) := by decide +kernel
theorem dFo_init_0 : decode cFo_init 0 = .ok (.aload_n 0, 1) := by decide +kernel
theorem dFo_init_1 : decode cFo_init 1 = .ok (.invokespecial 3, 3) := by decide +kernel
theorem dFo_init_4 : decode cFo_init 4 = .ok (.aload_n 0, 1) := by decide +kernel
theorem dFo_init_5 : decode cFo_init 5 = .ok (.bipush 37, 2) := by decide +kernel
theorem dFo_init_7 : decode cFo_init 7 = .ok (.bipush 6, 2) := by decide +kernel
theorem dFo_init_9 : decode cFo_init 9 = .ok (.multianewarray 9 2, 4) := by decide +kernel
theorem dFo_init_13 : decode cFo_init 13 = .ok (.putfield 11, 3) := by decide +kernel
theorem dFo_init_16 : decode cFo_init 16 = .ok (.aload_n 0, 1) := by decide +kernel
theorem dFo_init_17 : decode cFo_init 17 = .ok (.bipush 37, 2) := by decide +kernel
theorem dFo_init_19 : decode cFo_init 19 = .ok (.newarray .int, 2) := by decide +kernel
theorem dFo_init_21 : decode cFo_init 21 = .ok (.putfield 16, 3) := by decide +kernel
theorem dFo_init_24 : decode cFo_init 24 = .ok (.aload_n 0, 1) := by decide +kernel
theorem dFo_init_25 : decode cFo_init 25 = .ok (.bipush 37, 2) := by decide +kernel
theorem dFo_init_27 : decode cFo_init 27 = .ok (.newarray .int, 2) := by decide +kernel
theorem dFo_init_29 : decode cFo_init 29 = .ok (.putfield 20, 3) := by decide +kernel
theorem dFo_init_32 : decode cFo_init 32 = .ok (.aload_n 0, 1) := by decide +kernel
theorem dFo_init_33 : decode cFo_init 33 = .ok (.bipush 37, 2) := by decide +kernel
theorem dFo_init_35 : decode cFo_init 35 = .ok (.newarray .int, 2) := by decide +kernel
theorem dFo_init_37 : decode cFo_init 37 = .ok (.putfield 23, 3) := by decide +kernel
theorem dFo_init_40 : decode cFo_init 40 = .ok (.aload_n 0, 1) := by decide +kernel
theorem dFo_init_41 : decode cFo_init 41 = .ok (.bipush 37, 2) := by decide +kernel
theorem dFo_init_43 : decode cFo_init 43 = .ok (.newarray .int, 2) := by decide +kernel
theorem dFo_init_45 : decode cFo_init 45 = .ok (.putfield 26, 3) := by decide +kernel
theorem dFo_init_48 : decode cFo_init 48 = .ok (.aload_n 0, 1) := by decide +kernel
theorem dFo_init_49 : decode cFo_init 49 = .ok (.bipush 37, 2) := by decide +kernel
theorem dFo_init_51 : decode cFo_init 51 = .ok (.newarray .int, 2) := by decide +kernel
theorem dFo_init_53 : decode cFo_init 53 = .ok (.putfield 29, 3) := by decide +kernel
theorem dFo_init_56 : decode cFo_init 56 = .ok (.aload_n 0, 1) := by decide +kernel
theorem dFo_init_57 : decode cFo_init 57 = .ok (.bipush 37, 2) := by decide +kernel
theorem dFo_init_59 : decode cFo_init 59 = .ok (.newarray .int, 2) := by decide +kernel
theorem dFo_init_61 : decode cFo_init 61 = .ok (.putfield 32, 3) := by decide +kernel
theorem dFo_init_64 : decode cFo_init 64 = .ok (.aload_n 0, 1) := by decide +kernel
theorem dFo_init_65 : decode cFo_init 65 = .ok (.bipush 37, 2) := by decide +kernel
theorem dFo_init_67 : decode cFo_init 67 = .ok (.bipush 37, 2) := by decide +kernel
theorem dFo_init_69 : decode cFo_init 69 = .ok (.multianewarray 9 2, 4) := by decide +kernel
theorem dFo_init_73 : decode cFo_init 73 = .ok (.putfield 35, 3) := by decide +kernel
theorem dFo_init_76 : decode cFo_init 76 = .ok (.aload_n 0, 1) := by decide +kernel
theorem dFo_init_77 : decode cFo_init 77 = .ok (.bipush 37, 2) := by decide +kernel
theorem dFo_init_79 : decode cFo_init 79 = .ok (.newarray .int, 2) := by decide +kernel
theorem dFo_init_81 : decode cFo_init 81 = .ok (.putfield 38, 3) := by decide +kernel
theorem dFo_init_84 : decode cFo_init 84 = .ok (.iconst 0, 1) := by decide +kernel
theorem dFo_init_85 : decode cFo_init 85 = .ok (.istore_n 1, 1) := by decide +kernel
theorem dFo_init_86 : decode cFo_init 86 = .ok (.iload_n 1, 1) := by decide +kernel
theorem dFo_init_87 : decode cFo_init 87 = .ok (.bipush 37, 2) := by decide +kernel
theorem dFo_init_89 : decode cFo_init 89 = .ok (.if_icmp .ge 33, 3) := by decide +kernel
theorem dFo_init_92 : decode cFo_init 92 = .ok (.iconst 0, 1) := by decide +kernel
theorem dFo_init_93 : decode cFo_init 93 = .ok (.istore_n 2, 1) := by decide +kernel
theorem dFo_init_94 : decode cFo_init 94 = .ok (.iload_n 2, 1) := by decide +kernel
theorem dFo_init_95 : decode cFo_init 95 = .ok (.bipush 37, 2) := by decide +kernel
theorem dFo_init_97 : decode cFo_init 97 = .ok (.if_icmp .ge 19, 3) := by decide +kernel
theorem dFo_init_100 : decode cFo_init 100 = .ok (.aload_n 0, 1) := by decide +kernel
theorem dFo_init_101 : decode cFo_init 101 = .ok (.getfield 35, 3) := by decide +kernel
theorem dFo_init_104 : decode cFo_init 104 = .ok (.iload_n 1, 1) := by decide +kernel
theorem dFo_init_105 : decode cFo_init 105 = .ok (.aaload, 1) := by decide +kernel
theorem dFo_init_106 : decode cFo_init 106 = .ok (.iload_n 2, 1) := by decide +kernel
theorem dFo_init_107 : decode cFo_init 107 = .ok (.ldc 41, 2) := by decide +kernel
theorem dFo_init_109 : decode cFo_init 109 = .ok (.iastore, 1) := by decide +kernel
theorem dFo_init_110 : decode cFo_init 110 = .ok (.iinc 2 1, 3) := by decide +kernel
theorem dFo_init_113 : decode cFo_init 113 = .ok (.goto (-19), 3) := by decide +kernel
theorem dFo_init_116 : decode cFo_init 116 = .ok (.iinc 1 1, 3) := by decide +kernel
theorem dFo_init_119 : decode cFo_init 119 = .ok (.goto (-33), 3) := by decide +kernel
theorem dFo_init_122 : decode cFo_init 122 = .ok (.aload_n 0, 1) := by decide +kernel
theorem dFo_init_123 : decode cFo_init 123 = .ok (.invokevirtual 42, 3) := by decide +kernel
theorem dFo_init_126 : decode cFo_init 126 = .ok (.iconst 1, 1) := by decide +kernel
theorem dFo_init_127 : decode cFo_init 127 = .ok (.istore_n 1, 1) := by decide +kernel
theorem dFo_init_128 : decode cFo_init 128 = .ok (.iload_n 1, 1) := by decide +kernel
theorem dFo_init_129 : decode cFo_init 129 = .ok (.bipush 37, 2) := by decide +kernel
theorem dFo_init_131 : decode cFo_init 131 = .ok (.if_icmp .ge 24, 3) := by decide +kernel
theorem dFo_init_134 : decode cFo_init 134 = .ok (.aload_n 0, 1) := by decide +kernel
theorem dFo_init_135 : decode cFo_init 135 = .ok (.iload_n 1, 1) := by decide +kernel
theorem dFo_init_136 : decode cFo_init 136 = .ok (.invokevirtual 45, 3) := by decide +kernel
theorem dFo_init_139 : decode cFo_init 139 = .ok (.aload_n 0, 1) := by decide +kernel
theorem dFo_init_140 : decode cFo_init 140 = .ok (.iload_n 1, 1) := by decide +kernel
theorem dFo_init_141 : decode cFo_init 141 = .ok (.invokevirtual 49, 3) := by decide +kernel
theorem dFo_init_144 : decode cFo_init 144 = .ok (.aload_n 0, 1) := by decide +kernel
theorem dFo_init_145 : decode cFo_init 145 = .ok (.iload_n 1, 1) := by decide +kernel
theorem dFo_init_146 : decode cFo_init 146 = .ok (.invokevirtual 52, 3) := by decide +kernel
theorem dFo_init_149 : decode cFo_init 149 = .ok (.iinc 1 1, 3) := by decide +kernel
theorem dFo_init_152 : decode cFo_init 152 = .ok (.goto (-24), 3) := by decide +kernel
theorem dFo_init_155 : decode cFo_init 155 = .ok (.return_, 1) := by decide +kernel
theorem dWe_init_0 : decode cWe_init 0 = .ok (.aload_n 0, 1) := by decide +kernel
theorem dWe_init_1 : decode cWe_init 1 = .ok (.invokespecial 3, 3) := by decide +kernel
theorem dWe_init_4 : decode cWe_init 4 = .ok (.aload_n 0, 1) := by decide +kernel
theorem dWe_init_5 : decode cWe_init 5 = .ok (.sipush 296, 3) := by decide +kernel
theorem dWe_init_8 : decode cWe_init 8 = .ok (.newarray .long, 2) := by decide +kernel
theorem dWe_init_10 : decode cWe_init 10 = .ok (.putfield 9, 3) := by decide +kernel
theorem dWe_init_13 : decode cWe_init 13 = .ok (.aload_n 0, 1) := by decide +kernel
theorem dWe_init_14 : decode cWe_init 14 = .ok (.sipush 296, 3) := by decide +kernel
theorem dWe_init_17 : decode cWe_init 17 = .ok (.newarray .long, 2) := by decide +kernel
theorem dWe_init_19 : decode cWe_init 19 = .ok (.putfield 15, 3) := by decide +kernel
theorem dWe_init_22 : decode cWe_init 22 = .ok (.aload_n 0, 1) := by decide +kernel
theorem dWe_init_23 : decode cWe_init 23 = .ok (.aload_n 1, 1) := by decide +kernel
theorem dWe_init_24 : decode cWe_init 24 = .ok (.putfield 18, 3) := by decide +kernel
theorem dWe_init_27 : decode cWe_init 27 = .ok (.aload_n 0, 1) := by decide +kernel
theorem dWe_init_28 : decode cWe_init 28 = .ok (.aload_n 2, 1) := by decide +kernel
theorem dWe_init_29 : decode cWe_init 29 = .ok (.putfield 22, 3) := by decide +kernel
theorem dWe_init_32 : decode cWe_init 32 = .ok (.return_, 1) := by decide +kernel
theorem dSh_init_0 : decode cSh_init 0 = .ok (.aload_n 0, 1) := by decide +kernel
theorem dSh_init_1 : decode cSh_init 1 = .ok (.invokespecial 3, 3) := by decide +kernel
theorem dSh_init_4 : decode cSh_init 4 = .ok (.aload_n 0, 1) := by decide +kernel
theorem dSh_init_5 : decode cSh_init 5 = .ok (.bipush 64, 2) := by decide +kernel
theorem dSh_init_7 : decode cSh_init 7 = .ok (.newarray .long, 2) := by decide +kernel
theorem dSh_init_9 : decode cSh_init 9 = .ok (.putfield 9, 3) := by decide +kernel
theorem dSh_init_12 : decode cSh_init 12 = .ok (.aload_n 0, 1) := by decide +kernel
theorem dSh_init_13 : decode cSh_init 13 = .ok (.bipush 64, 2) := by decide +kernel
theorem dSh_init_15 : decode cSh_init 15 = .ok (.newarray .long, 2) := by decide +kernel
theorem dSh_init_17 : decode cSh_init 17 = .ok (.putfield 15, 3) := by decide +kernel
theorem dSh_init_20 : decode cSh_init 20 = .ok (.aload_n 0, 1) := by decide +kernel
theorem dSh_init_21 : decode cSh_init 21 = .ok (.aload_n 1, 1) := by decide +kernel
theorem dSh_init_22 : decode cSh_init 22 = .ok (.putfield 18, 3) := by decide +kernel
theorem dSh_init_25 : decode cSh_init 25 = .ok (.return_, 1) := by decide +kernel
theorem dTr_init_0 : decode cTr_init 0 = .ok (.aload_n 0, 1) := by decide +kernel
theorem dTr_init_1 : decode cTr_init 1 = .ok (.invokespecial 1, 3) := by decide +kernel
theorem dTr_init_4 : decode cTr_init 4 = .ok (.aload_n 0, 1) := by decide +kernel
theorem dTr_init_5 : decode cTr_init 5 = .ok (.bipush 16, 2) := by decide +kernel
theorem dTr_init_7 : decode cTr_init 7 = .ok (.newarray .int, 2) := by decide +kernel
theorem dTr_init_9 : decode cTr_init 9 = .ok (.putfield 9, 3) := by decide +kernel
theorem dTr_init_12 : decode cTr_init 12 = .ok (.aload_n 0, 1) := by decide +kernel
theorem dTr_init_13 : decode cTr_init 13 = .ok (.iconst 0, 1) := by decide +kernel
theorem dTr_init_14 : decode cTr_init 14 = .ok (.putfield 13, 3) := by decide +kernel
theorem dTr_init_17 : decode cTr_init 17 = .ok (.return_, 1) := by decide +kernel
theorem dSt_init_0 : decode cSt_init 0 = .ok (.aload_n 0, 1) := by decide +kernel
theorem dSt_init_1 : decode cSt_init 1 = .ok (.invokespecial 3, 3) := by decide +kernel
theorem dSt_init_4 : decode cSt_init 4 = .ok (.aload_n 0, 1) := by decide +kernel
theorem dSt_init_5 : decode cSt_init 5 = .ok (.bipush 80, 2) := by decide +kernel
theorem dSt_init_7 : decode cSt_init 7 = .ok (.newarray .long, 2) := by decide +kernel
theorem dSt_init_9 : decode cSt_init 9 = .ok (.putfield 9, 3) := by decide +kernel
theorem dSt_init_12 : decode cSt_init 12 = .ok (.aload_n 0, 1) := by decide +kernel
theorem dSt_init_13 : decode cSt_init 13 = .ok (.iconst (-1), 1) := by decide +kernel
theorem dSt_init_14 : decode cSt_init 14 = .ok (.putfield 15, 3) := by decide +kernel
theorem dSt_init_17 : decode cSt_init 17 = .ok (.aload_n 0, 1) := by decide +kernel
theorem dSt_init_18 : decode cSt_init 18 = .ok (.iconst 0, 1) := by decide +kernel
theorem dSt_init_19 : decode cSt_init 19 = .ok (.putfield 19, 3) := by decide +kernel
theorem dSt_init_22 : decode cSt_init 22 = .ok (.return_, 1) := by decide +kernel
theorem dX_init_0 : decode cX_init 0 = .ok (.aload_n 0, 1) := by decide +kernel
theorem dX_init_1 : decode cX_init 1 = .ok (.invokespecial 1, 3) := by decide +kernel
theorem dX_init_4 : decode cX_init 4 = .ok (.aload_n 0, 1) := by decide +kernel
theorem dX_init_5 : decode cX_init 5 = .ok (.new 7, 3) := by decide +kernel
theorem dX_init_8 : decode cX_init 8 = .ok (.dup, 1) := by decide +kernel
theorem dX_init_9 : decode cX_init 9 = .ok (.iload_n 1, 1) := by decide +kernel
theorem dX_init_10 : decode cX_init 10 = .ok (.invokespecial 9, 3) := by decide +kernel
theorem dX_init_13 : decode cX_init 13 = .ok (.putfield 12, 3) := by decide +kernel
theorem dX_init_16 : decode cX_init 16 = .ok (.aload_n 0, 1) := by decide +kernel
theorem dX_init_17 : decode cX_init 17 = .ok (.new 18, 3) := by decide +kernel
theorem dX_init_20 : decode cX_init 20 = .ok (.dup, 1) := by decide +kernel
theorem dX_init_21 : decode cX_init 21 = .ok (.invokespecial 20, 3) := by decide +kernel
theorem dX_init_24 : decode cX_init 24 = .ok (.putfield 21, 3) := by decide +kernel
theorem dX_init_27 : decode cX_init 27 = .ok (.aload_n 0, 1) := by decide +kernel
theorem dX_init_28 : decode cX_init 28 = .ok (.new 25, 3) := by decide +kernel
theorem dX_init_31 : decode cX_init 31 = .ok (.dup, 1) := by decide +kernel
theorem dX_init_32 : decode cX_init 32 = .ok (.aload_n 0, 1) := by decide +kernel
theorem dX_init_33 : decode cX_init 33 = .ok (.getfield 12, 3) := by decide +kernel
theorem dX_init_36 : decode cX_init 36 = .ok (.aload_n 0, 1) := by decide +kernel
theorem dX_init_37 : decode cX_init 37 = .ok (.getfield 21, 3) := by decide +kernel
theorem dX_init_40 : decode cX_init 40 = .ok (.invokespecial 27, 3) := by decide +kernel
theorem dX_init_43 : decode cX_init 43 = .ok (.putfield 30, 3) := by decide +kernel
theorem dX_init_46 : decode cX_init 46 = .ok (.aload_n 0, 1) := by decide +kernel
theorem dX_init_47 : decode cX_init 47 = .ok (.new 34, 3) := by decide +kernel
theorem dX_init_50 : decode cX_init 50 = .ok (.dup, 1) := by decide +kernel
theorem dX_init_51 : decode cX_init 51 = .ok (.aload_n 0, 1) := by decide +kernel
theorem dX_init_52 : decode cX_init 52 = .ok (.getfield 12, 3) := by decide +kernel
theorem dX_init_55 : decode cX_init 55 = .ok (.invokespecial 36, 3) := by decide +kernel
theorem dX_init_58 : decode cX_init 58 = .ok (.putfield 39, 3) := by decide +kernel
theorem dX_init_61 : decode cX_init 61 = .ok (.aload_n 0, 1) := by decide +kernel
theorem dX_init_62 : decode cX_init 62 = .ok (.new 43, 3) := by decide +kernel
theorem dX_init_65 : decode cX_init 65 = .ok (.dup, 1) := by decide +kernel
theorem dX_init_66 : decode cX_init 66 = .ok (.invokespecial 45, 3) := by decide +kernel
theorem dX_init_69 : decode cX_init 69 = .ok (.putfield 46, 3) := by decide +kernel
theorem dX_init_72 : decode cX_init 72 = .ok (.aload_n 0, 1) := by decide +kernel
theorem dX_init_73 : decode cX_init 73 = .ok (.bipush 8, 2) := by decide +kernel
theorem dX_init_75 : decode cX_init 75 = .ok (.anewarray 50, 3) := by decide +kernel
theorem dX_init_78 : decode cX_init 78 = .ok (.putfield 52, 3) := by decide +kernel
theorem dX_init_81 : decode cX_init 81 = .ok (.iconst 0, 1) := by decide +kernel
theorem dX_init_82 : decode cX_init 82 = .ok (.istore_n 2, 1) := by decide +kernel
theorem dX_init_83 : decode cX_init 83 = .ok (.iload_n 2, 1) := by decide +kernel
theorem dX_init_84 : decode cX_init 84 = .ok (.bipush 8, 2) := by decide +kernel
theorem dX_init_86 : decode cX_init 86 = .ok (.if_icmp .ge 22, 3) := by decide +kernel
theorem dX_init_89 : decode cX_init 89 = .ok (.aload_n 0, 1) := by decide +kernel
theorem dX_init_90 : decode cX_init 90 = .ok (.getfield 52, 3) := by decide +kernel
theorem dX_init_93 : decode cX_init 93 = .ok (.iload_n 2, 1) := by decide +kernel
theorem dX_init_94 : decode cX_init 94 = .ok (.new 50, 3) := by decide +kernel
theorem dX_init_97 : decode cX_init 97 = .ok (.dup, 1) := by decide +kernel
theorem dX_init_98 : decode cX_init 98 = .ok (.invokespecial 56, 3) := by decide +kernel
theorem dX_init_101 : decode cX_init 101 = .ok (.aastore, 1) := by decide +kernel
theorem dX_init_102 : decode cX_init 102 = .ok (.iinc 2 1, 3) := by decide +kernel
theorem dX_init_105 : decode cX_init 105 = .ok (.goto (-22), 3) := by decide +kernel
theorem dX_init_108 : decode cX_init 108 = .ok (.aload_n 0, 1) := by decide +kernel
theorem dX_init_109 : decode cX_init 109 = .ok (.bipush 10, 2) := by decide +kernel
theorem dX_init_111 : decode cX_init 111 = .ok (.anewarray 57, 3) := by decide +kernel
theorem dX_init_114 : decode cX_init 114 = .ok (.putfield 59, 3) := by decide +kernel
theorem dX_init_117 : decode cX_init 117 = .ok (.aload_n 0, 1) := by decide +kernel
theorem dX_init_118 : decode cX_init 118 = .ok (.bipush 8, 2) := by decide +kernel
theorem dX_init_120 : decode cX_init 120 = .ok (.newarray .long, 2) := by decide +kernel
theorem dX_init_122 : decode cX_init 122 = .ok (.putfield 63, 3) := by decide +kernel
theorem dX_init_125 : decode cX_init 125 = .ok (.return_, 1) := by decide +kernel
theorem dX_noSheet_0 : decode cX_noSheet 0 = .ok (.iload_n 0, 1) := by decide +kernel
theorem dX_noSheet_1 : decode cX_noSheet 1 = .ok (.ifCond .lt 9, 3) := by decide +kernel
theorem dX_noSheet_4 : decode cX_noSheet 4 = .ok (.iload_n 0, 1) := by decide +kernel
theorem dX_noSheet_5 : decode cX_noSheet 5 = .ok (.bipush 8, 2) := by decide +kernel
theorem dX_noSheet_7 : decode cX_noSheet 7 = .ok (.if_icmp .lt 7, 3) := by decide +kernel
theorem dX_noSheet_10 : decode cX_noSheet 10 = .ok (.iconst 1, 1) := by decide +kernel
theorem dX_noSheet_11 : decode cX_noSheet 11 = .ok (.goto 4, 3) := by decide +kernel
theorem dX_noSheet_14 : decode cX_noSheet 14 = .ok (.iconst 0, 1) := by decide +kernel
theorem dX_noSheet_15 : decode cX_noSheet 15 = .ok (.ireturn, 1) := by decide +kernel
theorem dX_found_0 : decode cX_found 0 = .ok (.aload_n 0, 1) := by decide +kernel
theorem dX_found_1 : decode cX_found 1 = .ok (.iload_n 1, 1) := by decide +kernel
theorem dX_found_2 : decode cX_found 2 = .ok (.putfield 93, 3) := by decide +kernel
theorem dX_found_5 : decode cX_found 5 = .ok (.ldc 244, 2) := by decide +kernel
theorem dX_found_7 : decode cX_found 7 = .ok (.iload_n 1, 1) := by decide +kernel
theorem dX_found_8 : decode cX_found 8 = .ok (.isub, 1) := by decide +kernel
theorem dX_found_9 : decode cX_found 9 = .ok (.ireturn, 1) := by decide +kernel
theorem dSt_begin_0 : decode cSt_begin 0 = .ok (.aload_n 0, 1) := by decide +kernel
theorem dSt_begin_1 : decode cSt_begin 1 = .ok (.iload_n 1, 1) := by decide +kernel
theorem dSt_begin_2 : decode cSt_begin 2 = .ok (.putfield 15, 3) := by decide +kernel
theorem dSt_begin_5 : decode cSt_begin 5 = .ok (.aload_n 0, 1) := by decide +kernel
theorem dSt_begin_6 : decode cSt_begin 6 = .ok (.iload_n 2, 1) := by decide +kernel
theorem dSt_begin_7 : decode cSt_begin 7 = .ok (.putfield 19, 3) := by decide +kernel
theorem dSt_begin_10 : decode cSt_begin 10 = .ok (.iconst 0, 1) := by decide +kernel
theorem dSt_begin_11 : decode cSt_begin 11 = .ok (.istore_n 3, 1) := by decide +kernel
theorem dSt_begin_12 : decode cSt_begin 12 = .ok (.iload_n 3, 1) := by decide +kernel
theorem dSt_begin_13 : decode cSt_begin 13 = .ok (.bipush 80, 2) := by decide +kernel
theorem dSt_begin_15 : decode cSt_begin 15 = .ok (.if_icmp .ge 16, 3) := by decide +kernel
theorem dSt_begin_18 : decode cSt_begin 18 = .ok (.aload_n 0, 1) := by decide +kernel
theorem dSt_begin_19 : decode cSt_begin 19 = .ok (.getfield 9, 3) := by decide +kernel
theorem dSt_begin_22 : decode cSt_begin 22 = .ok (.iload_n 3, 1) := by decide +kernel
theorem dSt_begin_23 : decode cSt_begin 23 = .ok (.lconst 0, 1) := by decide +kernel
theorem dSt_begin_24 : decode cSt_begin 24 = .ok (.lastore, 1) := by decide +kernel
theorem dSt_begin_25 : decode cSt_begin 25 = .ok (.iinc 3 1, 3) := by decide +kernel
theorem dSt_begin_28 : decode cSt_begin 28 = .ok (.goto (-16), 3) := by decide +kernel
theorem dSt_begin_31 : decode cSt_begin 31 = .ok (.return_, 1) := by decide +kernel
theorem dX_well_0 : decode cX_well 0 = .ok (.aload_n 0, 1) := by decide +kernel
theorem dX_well_1 : decode cX_well 1 = .ok (.iconst 0, 1) := by decide +kernel
theorem dX_well_2 : decode cX_well 2 = .ok (.putfield 93, 3) := by decide +kernel
theorem dX_well_5 : decode cX_well 5 = .ok (.iload_n 1, 1) := by decide +kernel
theorem dX_well_6 : decode cX_well 6 = .ok (.ireturn, 1) := by decide +kernel
theorem dX_sheet_0 : decode cX_sheet 0 = .ok (.iload_n 1, 1) := by decide +kernel
theorem dX_sheet_1 : decode cX_sheet 1 = .ok (.invokestatic 67, 3) := by decide +kernel
theorem dX_sheet_4 : decode cX_sheet 4 = .ok (.ifCond .ne 18, 3) := by decide +kernel
theorem dX_sheet_7 : decode cX_sheet 7 = .ok (.iload_n 2, 1) := by decide +kernel
theorem dX_sheet_8 : decode cX_sheet 8 = .ok (.ifCond .lt 14, 3) := by decide +kernel
theorem dX_sheet_11 : decode cX_sheet 11 = .ok (.iload_n 2, 1) := by decide +kernel
theorem dX_sheet_12 : decode cX_sheet 12 = .ok (.iconst 2, 1) := by decide +kernel
theorem dX_sheet_13 : decode cX_sheet 13 = .ok (.if_icmp .gt 9, 3) := by decide +kernel
theorem dX_sheet_16 : decode cX_sheet 16 = .ok (.iload_n 3, 1) := by decide +kernel
theorem dX_sheet_17 : decode cX_sheet 17 = .ok (.bipush 80, 2) := by decide +kernel
theorem dX_sheet_19 : decode cX_sheet 19 = .ok (.if_icmp .le 6, 3) := by decide +kernel
theorem dX_sheet_22 : decode cX_sheet 22 = .ok (.ldc 71, 2) := by decide +kernel
theorem dX_sheet_24 : decode cX_sheet 24 = .ok (.ireturn, 1) := by decide +kernel
theorem dX_sheet_25 : decode cX_sheet 25 = .ok (.iload_n 3, 1) := by decide +kernel
theorem dX_sheet_26 : decode cX_sheet 26 = .ok (.ifCond .ge 9, 3) := by decide +kernel
theorem dX_sheet_29 : decode cX_sheet 29 = .ok (.aload_n 0, 1) := by decide +kernel
theorem dX_sheet_30 : decode cX_sheet 30 = .ok (.iconst 4, 1) := by decide +kernel
theorem dX_sheet_31 : decode cX_sheet 31 = .ok (.invokevirtual 72, 3) := by decide +kernel
theorem dX_sheet_34 : decode cX_sheet 34 = .ok (.ireturn, 1) := by decide +kernel
theorem dX_sheet_35 : decode cX_sheet 35 = .ok (.aload_n 0, 1) := by decide +kernel
theorem dX_sheet_36 : decode cX_sheet 36 = .ok (.getfield 52, 3) := by decide +kernel
theorem dX_sheet_39 : decode cX_sheet 39 = .ok (.iload_n 1, 1) := by decide +kernel
theorem dX_sheet_40 : decode cX_sheet 40 = .ok (.aaload, 1) := by decide +kernel
theorem dX_sheet_41 : decode cX_sheet 41 = .ok (.iload_n 2, 1) := by decide +kernel
theorem dX_sheet_42 : decode cX_sheet 42 = .ok (.iload_n 3, 1) := by decide +kernel
theorem dX_sheet_43 : decode cX_sheet 43 = .ok (.invokevirtual 76, 3) := by decide +kernel
theorem dX_sheet_46 : decode cX_sheet 46 = .ok (.aload_n 0, 1) := by decide +kernel
theorem dX_sheet_47 : decode cX_sheet 47 = .ok (.iload_n 3, 1) := by decide +kernel
theorem dX_sheet_48 : decode cX_sheet 48 = .ok (.invokevirtual 80, 3) := by decide +kernel
theorem dX_sheet_51 : decode cX_sheet 51 = .ok (.ireturn, 1) := by decide +kernel
theorem dSt_missing_0 : decode cSt_missing 0 = .ok (.aload_n 0, 1) := by decide +kernel
theorem dSt_missing_1 : decode cSt_missing 1 = .ok (.getfield 15, 3) := by decide +kernel
theorem dSt_missing_4 : decode cSt_missing 4 = .ok (.iconst (-1), 1) := by decide +kernel
theorem dSt_missing_5 : decode cSt_missing 5 = .ok (.if_icmp .ne 7, 3) := by decide +kernel
theorem dSt_missing_8 : decode cSt_missing 8 = .ok (.iconst 1, 1) := by decide +kernel
theorem dSt_missing_9 : decode cSt_missing 9 = .ok (.goto 4, 3) := by decide +kernel
theorem dSt_missing_12 : decode cSt_missing 12 = .ok (.iconst 0, 1) := by decide +kernel
theorem dSt_missing_13 : decode cSt_missing 13 = .ok (.ireturn, 1) := by decide +kernel
theorem dSt_holds_0 : decode cSt_holds 0 = .ok (.iload_n 1, 1) := by decide +kernel
theorem dSt_holds_1 : decode cSt_holds 1 = .ok (.ifCond .lt 29, 3) := by decide +kernel
theorem dSt_holds_4 : decode cSt_holds 4 = .ok (.iload_n 2, 1) := by decide +kernel
theorem dSt_holds_5 : decode cSt_holds 5 = .ok (.ifCond .lt 25, 3) := by decide +kernel
theorem dSt_holds_8 : decode cSt_holds 8 = .ok (.iload_n 1, 1) := by decide +kernel
theorem dSt_holds_9 : decode cSt_holds 9 = .ok (.aload_n 0, 1) := by decide +kernel
theorem dSt_holds_10 : decode cSt_holds 10 = .ok (.getfield 19, 3) := by decide +kernel
theorem dSt_holds_13 : decode cSt_holds 13 = .ok (.if_icmp .gt 17, 3) := by decide +kernel
theorem dSt_holds_16 : decode cSt_holds 16 = .ok (.iload_n 2, 1) := by decide +kernel
theorem dSt_holds_17 : decode cSt_holds 17 = .ok (.aload_n 0, 1) := by decide +kernel
theorem dSt_holds_18 : decode cSt_holds 18 = .ok (.getfield 19, 3) := by decide +kernel
theorem dSt_holds_21 : decode cSt_holds 21 = .ok (.iload_n 1, 1) := by decide +kernel
theorem dSt_holds_22 : decode cSt_holds 22 = .ok (.isub, 1) := by decide +kernel
theorem dSt_holds_23 : decode cSt_holds 23 = .ok (.if_icmp .gt 7, 3) := by decide +kernel
theorem dSt_holds_26 : decode cSt_holds 26 = .ok (.iconst 1, 1) := by decide +kernel
theorem dSt_holds_27 : decode cSt_holds 27 = .ok (.goto 4, 3) := by decide +kernel
theorem dSt_holds_30 : decode cSt_holds 30 = .ok (.iconst 0, 1) := by decide +kernel
theorem dSt_holds_31 : decode cSt_holds 31 = .ok (.ireturn, 1) := by decide +kernel
theorem dSt_put_0 : decode cSt_put 0 = .ok (.aload_n 0, 1) := by decide +kernel
theorem dSt_put_1 : decode cSt_put 1 = .ok (.getfield 9, 3) := by decide +kernel
theorem dSt_put_4 : decode cSt_put 4 = .ok (.iload_n 1, 1) := by decide +kernel
theorem dSt_put_5 : decode cSt_put 5 = .ok (.aload_n 0, 1) := by decide +kernel
theorem dSt_put_6 : decode cSt_put 6 = .ok (.getfield 15, 3) := by decide +kernel
theorem dSt_put_9 : decode cSt_put 9 = .ok (.ifCond .ne 10, 3) := by decide +kernel
theorem dSt_put_12 : decode cSt_put 12 = .ok (.lload_n 2, 1) := by decide +kernel
theorem dSt_put_13 : decode cSt_put 13 = .ok (.l2i, 1) := by decide +kernel
theorem dSt_put_14 : decode cSt_put 14 = .ok (.i2b, 1) := by decide +kernel
theorem dSt_put_15 : decode cSt_put 15 = .ok (.i2l, 1) := by decide +kernel
theorem dSt_put_16 : decode cSt_put 16 = .ok (.goto 18, 3) := by decide +kernel
theorem dSt_put_19 : decode cSt_put 19 = .ok (.aload_n 0, 1) := by decide +kernel
theorem dSt_put_20 : decode cSt_put 20 = .ok (.getfield 15, 3) := by decide +kernel
theorem dSt_put_23 : decode cSt_put 23 = .ok (.iconst 1, 1) := by decide +kernel
theorem dSt_put_24 : decode cSt_put 24 = .ok (.if_icmp .ne 9, 3) := by decide +kernel
theorem dSt_put_27 : decode cSt_put 27 = .ok (.lload_n 2, 1) := by decide +kernel
theorem dSt_put_28 : decode cSt_put 28 = .ok (.l2i, 1) := by decide +kernel
theorem dSt_put_29 : decode cSt_put 29 = .ok (.i2l, 1) := by decide +kernel
theorem dSt_put_30 : decode cSt_put 30 = .ok (.goto 4, 3) := by decide +kernel
theorem dSt_put_33 : decode cSt_put 33 = .ok (.lload_n 2, 1) := by decide +kernel
theorem dSt_put_34 : decode cSt_put 34 = .ok (.lastore, 1) := by decide +kernel
theorem dSt_put_35 : decode cSt_put 35 = .ok (.aload_n 0, 1) := by decide +kernel
theorem dSt_put_36 : decode cSt_put 36 = .ok (.getfield 9, 3) := by decide +kernel
theorem dSt_put_39 : decode cSt_put 39 = .ok (.iload_n 1, 1) := by decide +kernel
theorem dSt_put_40 : decode cSt_put 40 = .ok (.laload, 1) := by decide +kernel
theorem dSt_put_41 : decode cSt_put 41 = .ok (.lreturn, 1) := by decide +kernel
theorem dX_set_0 : decode cX_set 0 = .ok (.iload_n 1, 1) := by decide +kernel
theorem dX_set_1 : decode cX_set 1 = .ok (.invokestatic 67, 3) := by decide +kernel
theorem dX_set_4 : decode cX_set 4 = .ok (.ifCond .eq 7, 3) := by decide +kernel
theorem dX_set_7 : decode cX_set 7 = .ok (.ldc2_w 83, 3) := by decide +kernel
theorem dX_set_10 : decode cX_set 10 = .ok (.lreturn, 1) := by decide +kernel
theorem dX_set_11 : decode cX_set 11 = .ok (.aload_n 0, 1) := by decide +kernel
theorem dX_set_12 : decode cX_set 12 = .ok (.getfield 52, 3) := by decide +kernel
theorem dX_set_15 : decode cX_set 15 = .ok (.iload_n 1, 1) := by decide +kernel
theorem dX_set_16 : decode cX_set 16 = .ok (.aaload, 1) := by decide +kernel
theorem dX_set_17 : decode cX_set 17 = .ok (.astore 5, 2) := by decide +kernel
theorem dX_set_19 : decode cX_set 19 = .ok (.aload 5, 2) := by decide +kernel
theorem dX_set_21 : decode cX_set 21 = .ok (.invokevirtual 85, 3) := by decide +kernel
theorem dX_set_24 : decode cX_set 24 = .ok (.ifCond .eq 10, 3) := by decide +kernel
theorem dX_set_27 : decode cX_set 27 = .ok (.aload_n 0, 1) := by decide +kernel
theorem dX_set_28 : decode cX_set 28 = .ok (.iconst 1, 1) := by decide +kernel
theorem dX_set_29 : decode cX_set 29 = .ok (.invokevirtual 72, 3) := by decide +kernel
theorem dX_set_32 : decode cX_set 32 = .ok (.i2l, 1) := by decide +kernel
theorem dX_set_33 : decode cX_set 33 = .ok (.lreturn, 1) := by decide +kernel
theorem dX_set_34 : decode cX_set 34 = .ok (.aload 5, 2) := by decide +kernel
theorem dX_set_36 : decode cX_set 36 = .ok (.iload_n 2, 1) := by decide +kernel
theorem dX_set_37 : decode cX_set 37 = .ok (.iconst 1, 1) := by decide +kernel
theorem dX_set_38 : decode cX_set 38 = .ok (.invokevirtual 89, 3) := by decide +kernel
theorem dX_set_41 : decode cX_set 41 = .ok (.ifCond .ne 10, 3) := by decide +kernel
theorem dX_set_44 : decode cX_set 44 = .ok (.aload_n 0, 1) := by decide +kernel
theorem dX_set_45 : decode cX_set 45 = .ok (.iconst 2, 1) := by decide +kernel
theorem dX_set_46 : decode cX_set 46 = .ok (.invokevirtual 72, 3) := by decide +kernel
theorem dX_set_49 : decode cX_set 49 = .ok (.i2l, 1) := by decide +kernel
theorem dX_set_50 : decode cX_set 50 = .ok (.lreturn, 1) := by decide +kernel
theorem dX_set_51 : decode cX_set 51 = .ok (.aload_n 0, 1) := by decide +kernel
theorem dX_set_52 : decode cX_set 52 = .ok (.iconst 0, 1) := by decide +kernel
theorem dX_set_53 : decode cX_set 53 = .ok (.putfield 93, 3) := by decide +kernel
theorem dX_set_56 : decode cX_set 56 = .ok (.aload 5, 2) := by decide +kernel
theorem dX_set_58 : decode cX_set 58 = .ok (.iload_n 2, 1) := by decide +kernel
theorem dX_set_59 : decode cX_set 59 = .ok (.lload_n 3, 1) := by decide +kernel
theorem dX_set_60 : decode cX_set 60 = .ok (.invokevirtual 97, 3) := by decide +kernel
theorem dX_set_63 : decode cX_set 63 = .ok (.lreturn, 1) := by decide +kernel
theorem dX_copy_0 : decode cX_copy 0 = .ok (.iload_n 1, 1) := by decide +kernel
theorem dX_copy_1 : decode cX_copy 1 = .ok (.invokestatic 67, 3) := by decide +kernel
theorem dX_copy_4 : decode cX_copy 4 = .ok (.ifCond .ne 10, 3) := by decide +kernel
theorem dX_copy_7 : decode cX_copy 7 = .ok (.iload_n 3, 1) := by decide +kernel
theorem dX_copy_8 : decode cX_copy 8 = .ok (.invokestatic 67, 3) := by decide +kernel
theorem dX_copy_11 : decode cX_copy 11 = .ok (.ifCond .eq 6, 3) := by decide +kernel
theorem dX_copy_14 : decode cX_copy 14 = .ok (.ldc 71, 2) := by decide +kernel
theorem dX_copy_16 : decode cX_copy 16 = .ok (.ireturn, 1) := by decide +kernel
theorem dX_copy_17 : decode cX_copy 17 = .ok (.aload_n 0, 1) := by decide +kernel
theorem dX_copy_18 : decode cX_copy 18 = .ok (.getfield 52, 3) := by decide +kernel
theorem dX_copy_21 : decode cX_copy 21 = .ok (.iload_n 1, 1) := by decide +kernel
theorem dX_copy_22 : decode cX_copy 22 = .ok (.aaload, 1) := by decide +kernel
theorem dX_copy_23 : decode cX_copy 23 = .ok (.astore 6, 2) := by decide +kernel
theorem dX_copy_25 : decode cX_copy 25 = .ok (.aload_n 0, 1) := by decide +kernel
theorem dX_copy_26 : decode cX_copy 26 = .ok (.getfield 52, 3) := by decide +kernel
theorem dX_copy_29 : decode cX_copy 29 = .ok (.iload_n 3, 1) := by decide +kernel
theorem dX_copy_30 : decode cX_copy 30 = .ok (.aaload, 1) := by decide +kernel
theorem dX_copy_31 : decode cX_copy 31 = .ok (.astore 7, 2) := by decide +kernel
theorem dX_copy_33 : decode cX_copy 33 = .ok (.aload 6, 2) := by decide +kernel
theorem dX_copy_35 : decode cX_copy 35 = .ok (.invokevirtual 85, 3) := by decide +kernel
theorem dX_copy_38 : decode cX_copy 38 = .ok (.ifCond .ne 11, 3) := by decide +kernel
theorem dX_copy_41 : decode cX_copy 41 = .ok (.aload 7, 2) := by decide +kernel
theorem dX_copy_43 : decode cX_copy 43 = .ok (.invokevirtual 85, 3) := by decide +kernel
theorem dX_copy_46 : decode cX_copy 46 = .ok (.ifCond .eq 9, 3) := by decide +kernel
theorem dX_copy_49 : decode cX_copy 49 = .ok (.aload_n 0, 1) := by decide +kernel
theorem dX_copy_50 : decode cX_copy 50 = .ok (.iconst 1, 1) := by decide +kernel
theorem dX_copy_51 : decode cX_copy 51 = .ok (.invokevirtual 72, 3) := by decide +kernel
theorem dX_copy_54 : decode cX_copy 54 = .ok (.ireturn, 1) := by decide +kernel
theorem dX_copy_55 : decode cX_copy 55 = .ok (.aload 6, 2) := by decide +kernel
theorem dX_copy_57 : decode cX_copy 57 = .ok (.getfield 101, 3) := by decide +kernel
theorem dX_copy_60 : decode cX_copy 60 = .ok (.aload 7, 2) := by decide +kernel
theorem dX_copy_62 : decode cX_copy 62 = .ok (.getfield 101, 3) := by decide +kernel
theorem dX_copy_65 : decode cX_copy 65 = .ok (.if_icmp .eq 9, 3) := by decide +kernel
theorem dX_copy_68 : decode cX_copy 68 = .ok (.aload_n 0, 1) := by decide +kernel
theorem dX_copy_69 : decode cX_copy 69 = .ok (.iconst 5, 1) := by decide +kernel
theorem dX_copy_70 : decode cX_copy 70 = .ok (.invokevirtual 72, 3) := by decide +kernel
theorem dX_copy_73 : decode cX_copy 73 = .ok (.ireturn, 1) := by decide +kernel
theorem dX_copy_74 : decode cX_copy 74 = .ok (.aload 6, 2) := by decide +kernel
theorem dX_copy_76 : decode cX_copy 76 = .ok (.iload_n 2, 1) := by decide +kernel
theorem dX_copy_77 : decode cX_copy 77 = .ok (.iload 5, 2) := by decide +kernel
theorem dX_copy_79 : decode cX_copy 79 = .ok (.invokevirtual 89, 3) := by decide +kernel
theorem dX_copy_82 : decode cX_copy 82 = .ok (.ifCond .eq 15, 3) := by decide +kernel
theorem dX_copy_85 : decode cX_copy 85 = .ok (.aload 7, 2) := by decide +kernel
theorem dX_copy_87 : decode cX_copy 87 = .ok (.iload 4, 2) := by decide +kernel
theorem dX_copy_89 : decode cX_copy 89 = .ok (.iload 5, 2) := by decide +kernel
theorem dX_copy_91 : decode cX_copy 91 = .ok (.invokevirtual 89, 3) := by decide +kernel
theorem dX_copy_94 : decode cX_copy 94 = .ok (.ifCond .ne 9, 3) := by decide +kernel
theorem dX_copy_97 : decode cX_copy 97 = .ok (.aload_n 0, 1) := by decide +kernel
theorem dX_copy_98 : decode cX_copy 98 = .ok (.iconst 2, 1) := by decide +kernel
theorem dX_copy_99 : decode cX_copy 99 = .ok (.invokevirtual 72, 3) := by decide +kernel
theorem dX_copy_102 : decode cX_copy 102 = .ok (.ireturn, 1) := by decide +kernel
theorem dX_copy_103 : decode cX_copy 103 = .ok (.aload 6, 2) := by decide +kernel
theorem dX_copy_105 : decode cX_copy 105 = .ok (.getfield 104, 3) := by decide +kernel
theorem dX_copy_108 : decode cX_copy 108 = .ok (.iload_n 2, 1) := by decide +kernel
theorem dX_copy_109 : decode cX_copy 109 = .ok (.aload 7, 2) := by decide +kernel
theorem dX_copy_111 : decode cX_copy 111 = .ok (.getfield 104, 3) := by decide +kernel
theorem dX_copy_114 : decode cX_copy 114 = .ok (.iload 4, 2) := by decide +kernel
theorem dX_copy_116 : decode cX_copy 116 = .ok (.iload 5, 2) := by decide +kernel
theorem dX_copy_118 : decode cX_copy 118 = .ok (.invokestatic 107, 3) := by decide +kernel
theorem dX_copy_121 : decode cX_copy 121 = .ok (.aload_n 0, 1) := by decide +kernel
theorem dX_copy_122 : decode cX_copy 122 = .ok (.iload 5, 2) := by decide +kernel
theorem dX_copy_124 : decode cX_copy 124 = .ok (.invokevirtual 80, 3) := by decide +kernel
theorem dX_copy_127 : decode cX_copy 127 = .ok (.ireturn, 1) := by decide +kernel
theorem dX_drop_0 : decode cX_drop 0 = .ok (.iload_n 1, 1) := by decide +kernel
theorem dX_drop_1 : decode cX_drop 1 = .ok (.invokestatic 67, 3) := by decide +kernel
theorem dX_drop_4 : decode cX_drop 4 = .ok (.ifCond .eq 6, 3) := by decide +kernel
theorem dX_drop_7 : decode cX_drop 7 = .ok (.ldc 71, 2) := by decide +kernel
theorem dX_drop_9 : decode cX_drop 9 = .ok (.ireturn, 1) := by decide +kernel
theorem dX_drop_10 : decode cX_drop 10 = .ok (.aload_n 0, 1) := by decide +kernel
theorem dX_drop_11 : decode cX_drop 11 = .ok (.getfield 52, 3) := by decide +kernel
theorem dX_drop_14 : decode cX_drop 14 = .ok (.iload_n 1, 1) := by decide +kernel
theorem dX_drop_15 : decode cX_drop 15 = .ok (.aaload, 1) := by decide +kernel
theorem dX_drop_16 : decode cX_drop 16 = .ok (.astore_n 2, 1) := by decide +kernel
theorem dX_drop_17 : decode cX_drop 17 = .ok (.aload_n 2, 1) := by decide +kernel
theorem dX_drop_18 : decode cX_drop 18 = .ok (.invokevirtual 85, 3) := by decide +kernel
theorem dX_drop_21 : decode cX_drop 21 = .ok (.ifCond .eq 9, 3) := by decide +kernel
theorem dX_drop_24 : decode cX_drop 24 = .ok (.aload_n 0, 1) := by decide +kernel
theorem dX_drop_25 : decode cX_drop 25 = .ok (.iconst 1, 1) := by decide +kernel
theorem dX_drop_26 : decode cX_drop 26 = .ok (.invokevirtual 72, 3) := by decide +kernel
theorem dX_drop_29 : decode cX_drop 29 = .ok (.ireturn, 1) := by decide +kernel
theorem dX_drop_30 : decode cX_drop 30 = .ok (.aload_n 2, 1) := by decide +kernel
theorem dX_drop_31 : decode cX_drop 31 = .ok (.iconst (-1), 1) := by decide +kernel
theorem dX_drop_32 : decode cX_drop 32 = .ok (.putfield 101, 3) := by decide +kernel
theorem dX_drop_35 : decode cX_drop 35 = .ok (.aload_n 0, 1) := by decide +kernel
theorem dX_drop_36 : decode cX_drop 36 = .ok (.aload_n 2, 1) := by decide +kernel
theorem dX_drop_37 : decode cX_drop 37 = .ok (.getfield 113, 3) := by decide +kernel
theorem dX_drop_40 : decode cX_drop 40 = .ok (.invokevirtual 80, 3) := by decide +kernel
theorem dX_drop_43 : decode cX_drop 43 = .ok (.ireturn, 1) := by decide +kernel
theorem dFo_howMany_0 : decode cFo_howMany 0 = .ok (.iconst 0, 1) := by decide +kernel
theorem dFo_howMany_1 : decode cFo_howMany 1 = .ok (.istore_n 2, 1) := by decide +kernel
theorem dFo_howMany_2 : decode cFo_howMany 2 = .ok (.iconst 0, 1) := by decide +kernel
theorem dFo_howMany_3 : decode cFo_howMany 3 = .ok (.istore_n 3, 1) := by decide +kernel
theorem dFo_howMany_4 : decode cFo_howMany 4 = .ok (.iload_n 3, 1) := by decide +kernel
theorem dFo_howMany_5 : decode cFo_howMany 5 = .ok (.bipush 37, 2) := by decide +kernel
theorem dFo_howMany_7 : decode cFo_howMany 7 = .ok (.if_icmp .ge 22, 3) := by decide +kernel
theorem dFo_howMany_10 : decode cFo_howMany 10 = .ok (.aload_n 0, 1) := by decide +kernel
theorem dFo_howMany_11 : decode cFo_howMany 11 = .ok (.getfield 16, 3) := by decide +kernel
theorem dFo_howMany_14 : decode cFo_howMany 14 = .ok (.iload_n 3, 1) := by decide +kernel
theorem dFo_howMany_15 : decode cFo_howMany 15 = .ok (.iaload, 1) := by decide +kernel
theorem dFo_howMany_16 : decode cFo_howMany 16 = .ok (.iload_n 1, 1) := by decide +kernel
theorem dFo_howMany_17 : decode cFo_howMany 17 = .ok (.if_icmp .ne 6, 3) := by decide +kernel
theorem dFo_howMany_20 : decode cFo_howMany 20 = .ok (.iinc 2 1, 3) := by decide +kernel
theorem dFo_howMany_23 : decode cFo_howMany 23 = .ok (.iinc 3 1, 3) := by decide +kernel
theorem dFo_howMany_26 : decode cFo_howMany 26 = .ok (.goto (-22), 3) := by decide +kernel
theorem dFo_howMany_29 : decode cFo_howMany 29 = .ok (.iload_n 2, 1) := by decide +kernel
theorem dFo_howMany_30 : decode cFo_howMany 30 = .ok (.ireturn, 1) := by decide +kernel
theorem dX_trees_0 : decode cX_trees 0 = .ok (.iload_n 1, 1) := by decide +kernel
theorem dX_trees_1 : decode cX_trees 1 = .ok (.iconst 1, 1) := by decide +kernel
theorem dX_trees_2 : decode cX_trees 2 = .ok (.if_icmp .lt 9, 3) := by decide +kernel
theorem dX_trees_5 : decode cX_trees 5 = .ok (.iload_n 1, 1) := by decide +kernel
theorem dX_trees_6 : decode cX_trees 6 = .ok (.bipush 6, 2) := by decide +kernel
theorem dX_trees_8 : decode cX_trees 8 = .ok (.if_icmp .le 6, 3) := by decide +kernel
theorem dX_trees_11 : decode cX_trees 11 = .ok (.ldc 71, 2) := by decide +kernel
theorem dX_trees_13 : decode cX_trees 13 = .ok (.ireturn, 1) := by decide +kernel
theorem dX_trees_14 : decode cX_trees 14 = .ok (.aload_n 0, 1) := by decide +kernel
theorem dX_trees_15 : decode cX_trees 15 = .ok (.getfield 21, 3) := by decide +kernel
theorem dX_trees_18 : decode cX_trees 18 = .ok (.iload_n 1, 1) := by decide +kernel
theorem dX_trees_19 : decode cX_trees 19 = .ok (.invokevirtual 116, 3) := by decide +kernel
theorem dX_trees_22 : decode cX_trees 22 = .ok (.ireturn, 1) := by decide +kernel
theorem dX_noTree_0 : decode cX_noTree 0 = .ok (.iload_n 0, 1) := by decide +kernel
theorem dX_noTree_1 : decode cX_noTree 1 = .ok (.ifCond .lt 9, 3) := by decide +kernel
theorem dX_noTree_4 : decode cX_noTree 4 = .ok (.iload_n 0, 1) := by decide +kernel
theorem dX_noTree_5 : decode cX_noTree 5 = .ok (.bipush 37, 2) := by decide +kernel
theorem dX_noTree_7 : decode cX_noTree 7 = .ok (.if_icmp .lt 7, 3) := by decide +kernel
theorem dX_noTree_10 : decode cX_noTree 10 = .ok (.iconst 1, 1) := by decide +kernel
theorem dX_noTree_11 : decode cX_noTree 11 = .ok (.goto 4, 3) := by decide +kernel
theorem dX_noTree_14 : decode cX_noTree 14 = .ok (.iconst 0, 1) := by decide +kernel
theorem dX_noTree_15 : decode cX_noTree 15 = .ok (.ireturn, 1) := by decide +kernel
theorem dX_tree_0 : decode cX_tree 0 = .ok (.iload_n 1, 1) := by decide +kernel
theorem dX_tree_1 : decode cX_tree 1 = .ok (.invokestatic 119, 3) := by decide +kernel
theorem dX_tree_4 : decode cX_tree 4 = .ok (.ifCond .eq 6, 3) := by decide +kernel
theorem dX_tree_7 : decode cX_tree 7 = .ok (.ldc 71, 2) := by decide +kernel
theorem dX_tree_9 : decode cX_tree 9 = .ok (.ireturn, 1) := by decide +kernel
theorem dX_tree_10 : decode cX_tree 10 = .ok (.iload_n 2, 1) := by decide +kernel
theorem dX_tree_11 : decode cX_tree 11 = .ok (.tableswitch 69 0 3 #[29, 39, 49, 59], 29) := by decide +kernel
theorem dX_tree_40 : decode cX_tree 40 = .ok (.aload_n 0, 1) := by decide +kernel
theorem dX_tree_41 : decode cX_tree 41 = .ok (.getfield 21, 3) := by decide +kernel
theorem dX_tree_44 : decode cX_tree 44 = .ok (.getfield 122, 3) := by decide +kernel
theorem dX_tree_47 : decode cX_tree 47 = .ok (.iload_n 1, 1) := by decide +kernel
theorem dX_tree_48 : decode cX_tree 48 = .ok (.iaload, 1) := by decide +kernel
theorem dX_tree_49 : decode cX_tree 49 = .ok (.ireturn, 1) := by decide +kernel
theorem dX_tree_50 : decode cX_tree 50 = .ok (.aload_n 0, 1) := by decide +kernel
theorem dX_tree_51 : decode cX_tree 51 = .ok (.getfield 21, 3) := by decide +kernel
theorem dX_tree_54 : decode cX_tree 54 = .ok (.getfield 126, 3) := by decide +kernel
theorem dX_tree_57 : decode cX_tree 57 = .ok (.iload_n 1, 1) := by decide +kernel
theorem dX_tree_58 : decode cX_tree 58 = .ok (.iaload, 1) := by decide +kernel
theorem dX_tree_59 : decode cX_tree 59 = .ok (.ireturn, 1) := by decide +kernel
theorem dX_tree_60 : decode cX_tree 60 = .ok (.aload_n 0, 1) := by decide +kernel
theorem dX_tree_61 : decode cX_tree 61 = .ok (.getfield 21, 3) := by decide +kernel
theorem dX_tree_64 : decode cX_tree 64 = .ok (.getfield 129, 3) := by decide +kernel
theorem dX_tree_67 : decode cX_tree 67 = .ok (.iload_n 1, 1) := by decide +kernel
theorem dX_tree_68 : decode cX_tree 68 = .ok (.iaload, 1) := by decide +kernel
theorem dX_tree_69 : decode cX_tree 69 = .ok (.ireturn, 1) := by decide +kernel
theorem dX_tree_70 : decode cX_tree 70 = .ok (.aload_n 0, 1) := by decide +kernel
theorem dX_tree_71 : decode cX_tree 71 = .ok (.getfield 21, 3) := by decide +kernel
theorem dX_tree_74 : decode cX_tree 74 = .ok (.getfield 132, 3) := by decide +kernel
theorem dX_tree_77 : decode cX_tree 77 = .ok (.iload_n 1, 1) := by decide +kernel
theorem dX_tree_78 : decode cX_tree 78 = .ok (.iaload, 1) := by decide +kernel
theorem dX_tree_79 : decode cX_tree 79 = .ok (.ireturn, 1) := by decide +kernel
theorem dX_tree_80 : decode cX_tree 80 = .ok (.ldc 71, 2) := by decide +kernel
theorem dX_tree_82 : decode cX_tree 82 = .ok (.ireturn, 1) := by decide +kernel
theorem dX_level_0 : decode cX_level 0 = .ok (.iload_n 1, 1) := by decide +kernel
theorem dX_level_1 : decode cX_level 1 = .ok (.invokestatic 119, 3) := by decide +kernel
theorem dX_level_4 : decode cX_level 4 = .ok (.ifCond .eq 6, 3) := by decide +kernel
theorem dX_level_7 : decode cX_level 7 = .ok (.ldc 71, 2) := by decide +kernel
theorem dX_level_9 : decode cX_level 9 = .ok (.ireturn, 1) := by decide +kernel
theorem dX_level_10 : decode cX_level 10 = .ok (.iload_n 2, 1) := by decide +kernel
theorem dX_level_11 : decode cX_level 11 = .ok (.ifCond .lt 16, 3) := by decide +kernel
theorem dX_level_14 : decode cX_level 14 = .ok (.iload_n 2, 1) := by decide +kernel
theorem dX_level_15 : decode cX_level 15 = .ok (.aload_n 0, 1) := by decide +kernel
theorem dX_level_16 : decode cX_level 16 = .ok (.getfield 21, 3) := by decide +kernel
theorem dX_level_19 : decode cX_level 19 = .ok (.getfield 122, 3) := by decide +kernel
theorem dX_level_22 : decode cX_level 22 = .ok (.iload_n 1, 1) := by decide +kernel
theorem dX_level_23 : decode cX_level 23 = .ok (.iaload, 1) := by decide +kernel
theorem dX_level_24 : decode cX_level 24 = .ok (.if_icmp .lt 6, 3) := by decide +kernel
theorem dX_level_27 : decode cX_level 27 = .ok (.ldc 135, 2) := by decide +kernel
theorem dX_level_29 : decode cX_level 29 = .ok (.ireturn, 1) := by decide +kernel
theorem dX_level_30 : decode cX_level 30 = .ok (.aload_n 0, 1) := by decide +kernel
theorem dX_level_31 : decode cX_level 31 = .ok (.getfield 21, 3) := by decide +kernel
theorem dX_level_34 : decode cX_level 34 = .ok (.getfield 136, 3) := by decide +kernel
theorem dX_level_37 : decode cX_level 37 = .ok (.iload_n 1, 1) := by decide +kernel
theorem dX_level_38 : decode cX_level 38 = .ok (.aaload, 1) := by decide +kernel
theorem dX_level_39 : decode cX_level 39 = .ok (.iload_n 2, 1) := by decide +kernel
theorem dX_level_40 : decode cX_level 40 = .ok (.iaload, 1) := by decide +kernel
theorem dX_level_41 : decode cX_level 41 = .ok (.ireturn, 1) := by decide +kernel
theorem dX_hang_0 : decode cX_hang 0 = .ok (.iload_n 1, 1) := by decide +kernel
theorem dX_hang_1 : decode cX_hang 1 = .ok (.invokestatic 119, 3) := by decide +kernel
theorem dX_hang_4 : decode cX_hang 4 = .ok (.ifCond .ne 10, 3) := by decide +kernel
theorem dX_hang_7 : decode cX_hang 7 = .ok (.iload_n 2, 1) := by decide +kernel
theorem dX_hang_8 : decode cX_hang 8 = .ok (.invokestatic 119, 3) := by decide +kernel
theorem dX_hang_11 : decode cX_hang 11 = .ok (.ifCond .eq 6, 3) := by decide +kernel
theorem dX_hang_14 : decode cX_hang 14 = .ok (.ldc 71, 2) := by decide +kernel
theorem dX_hang_16 : decode cX_hang 16 = .ok (.ireturn, 1) := by decide +kernel
theorem dX_hang_17 : decode cX_hang 17 = .ok (.aload_n 0, 1) := by decide +kernel
theorem dX_hang_18 : decode cX_hang 18 = .ok (.getfield 21, 3) := by decide +kernel
theorem dX_hang_21 : decode cX_hang 21 = .ok (.getfield 140, 3) := by decide +kernel
theorem dX_hang_24 : decode cX_hang 24 = .ok (.iload_n 1, 1) := by decide +kernel
theorem dX_hang_25 : decode cX_hang 25 = .ok (.aaload, 1) := by decide +kernel
theorem dX_hang_26 : decode cX_hang 26 = .ok (.iload_n 2, 1) := by decide +kernel
theorem dX_hang_27 : decode cX_hang 27 = .ok (.iaload, 1) := by decide +kernel
theorem dX_hang_28 : decode cX_hang 28 = .ok (.ireturn, 1) := by decide +kernel
theorem dX_noPlace_0 : decode cX_noPlace 0 = .ok (.iload_n 0, 1) := by decide +kernel
theorem dX_noPlace_1 : decode cX_noPlace 1 = .ok (.ifCond .lt 9, 3) := by decide +kernel
theorem dX_noPlace_4 : decode cX_noPlace 4 = .ok (.iload_n 0, 1) := by decide +kernel
theorem dX_noPlace_5 : decode cX_noPlace 5 = .ok (.bipush 10, 2) := by decide +kernel
theorem dX_noPlace_7 : decode cX_noPlace 7 = .ok (.if_icmp .lt 7, 3) := by decide +kernel
theorem dX_noPlace_10 : decode cX_noPlace 10 = .ok (.iconst 1, 1) := by decide +kernel
theorem dX_noPlace_11 : decode cX_noPlace 11 = .ok (.goto 4, 3) := by decide +kernel
theorem dX_noPlace_14 : decode cX_noPlace 14 = .ok (.iconst 0, 1) := by decide +kernel
theorem dX_noPlace_15 : decode cX_noPlace 15 = .ok (.ireturn, 1) := by decide +kernel
theorem dMa_min_0 : decode cMa_min 0 = .ok (.iload_n 0, 1) := by decide +kernel
theorem dMa_min_1 : decode cMa_min 1 = .ok (.iload_n 1, 1) := by decide +kernel
theorem dMa_min_2 : decode cMa_min 2 = .ok (.if_icmp .gt 7, 3) := by decide +kernel
theorem dMa_min_5 : decode cMa_min 5 = .ok (.iload_n 0, 1) := by decide +kernel
theorem dMa_min_6 : decode cMa_min 6 = .ok (.goto 4, 3) := by decide +kernel
theorem dMa_min_9 : decode cMa_min 9 = .ok (.iload_n 1, 1) := by decide +kernel
theorem dMa_min_10 : decode cMa_min 10 = .ok (.ireturn, 1) := by decide +kernel
theorem dSg_init_0 : decode cSg_init 0 = .ok (.aload_n 0, 1) := by decide +kernel
theorem dSg_init_1 : decode cSg_init 1 = .ok (.invokespecial 3, 3) := by decide +kernel
theorem dSg_init_4 : decode cSg_init 4 = .ok (.aload_n 0, 1) := by decide +kernel
theorem dSg_init_5 : decode cSg_init 5 = .ok (.iload_n 1, 1) := by decide +kernel
theorem dSg_init_6 : decode cSg_init 6 = .ok (.iconst 1, 1) := by decide +kernel
theorem dSg_init_7 : decode cSg_init 7 = .ok (.if_icmp .ge 7, 3) := by decide +kernel
theorem dSg_init_10 : decode cSg_init 10 = .ok (.iconst 1, 1) := by decide +kernel
theorem dSg_init_11 : decode cSg_init 11 = .ok (.goto 9, 3) := by decide +kernel
theorem dSg_init_14 : decode cSg_init 14 = .ok (.iload_n 1, 1) := by decide +kernel
theorem dSg_init_15 : decode cSg_init 15 = .ok (.bipush 8, 2) := by decide +kernel
theorem dSg_init_17 : decode cSg_init 17 = .ok (.invokestatic 9, 3) := by decide +kernel
theorem dSg_init_20 : decode cSg_init 20 = .ok (.putfield 15, 3) := by decide +kernel
theorem dSg_init_23 : decode cSg_init 23 = .ok (.aload_n 0, 1) := by decide +kernel
theorem dSg_init_24 : decode cSg_init 24 = .ok (.aload_n 0, 1) := by decide +kernel
theorem dSg_init_25 : decode cSg_init 25 = .ok (.getfield 15, 3) := by decide +kernel
theorem dSg_init_28 : decode cSg_init 28 = .ok (.aload_n 0, 1) := by decide +kernel
theorem dSg_init_29 : decode cSg_init 29 = .ok (.getfield 15, 3) := by decide +kernel
theorem dSg_init_32 : decode cSg_init 32 = .ok (.imul, 1) := by decide +kernel
theorem dSg_init_33 : decode cSg_init 33 = .ok (.aload_n 0, 1) := by decide +kernel
theorem dSg_init_34 : decode cSg_init 34 = .ok (.getfield 15, 3) := by decide +kernel
theorem dSg_init_37 : decode cSg_init 37 = .ok (.iadd, 1) := by decide +kernel
theorem dSg_init_38 : decode cSg_init 38 = .ok (.newarray .int, 2) := by decide +kernel
theorem dSg_init_40 : decode cSg_init 40 = .ok (.putfield 21, 3) := by decide +kernel
theorem dSg_init_43 : decode cSg_init 43 = .ok (.return_, 1) := by decide +kernel
theorem dMa_floorMod_0 : decode cMa_floorMod 0 = .ok (.lload_n 0, 1) := by decide +kernel
theorem dMa_floorMod_1 : decode cMa_floorMod 1 = .ok (.lload_n 2, 1) := by decide +kernel
theorem dMa_floorMod_2 : decode cMa_floorMod 2 = .ok (.lrem, 1) := by decide +kernel
theorem dMa_floorMod_3 : decode cMa_floorMod 3 = .ok (.lstore 4, 2) := by decide +kernel
theorem dMa_floorMod_5 : decode cMa_floorMod 5 = .ok (.lload_n 0, 1) := by decide +kernel
theorem dMa_floorMod_6 : decode cMa_floorMod 6 = .ok (.lload_n 2, 1) := by decide +kernel
theorem dMa_floorMod_7 : decode cMa_floorMod 7 = .ok (.lxor, 1) := by decide +kernel
theorem dMa_floorMod_8 : decode cMa_floorMod 8 = .ok (.lconst 0, 1) := by decide +kernel
theorem dMa_floorMod_9 : decode cMa_floorMod 9 = .ok (.lcmp, 1) := by decide +kernel
theorem dMa_floorMod_10 : decode cMa_floorMod 10 = .ok (.ifCond .ge 15, 3) := by decide +kernel
theorem dMa_floorMod_13 : decode cMa_floorMod 13 = .ok (.lload 4, 2) := by decide +kernel
theorem dMa_floorMod_15 : decode cMa_floorMod 15 = .ok (.lconst 0, 1) := by decide +kernel
theorem dMa_floorMod_16 : decode cMa_floorMod 16 = .ok (.lcmp, 1) := by decide +kernel
theorem dMa_floorMod_17 : decode cMa_floorMod 17 = .ok (.ifCond .eq 8, 3) := by decide +kernel
theorem dMa_floorMod_20 : decode cMa_floorMod 20 = .ok (.lload 4, 2) := by decide +kernel
theorem dMa_floorMod_22 : decode cMa_floorMod 22 = .ok (.lload_n 2, 1) := by decide +kernel
theorem dMa_floorMod_23 : decode cMa_floorMod 23 = .ok (.ladd, 1) := by decide +kernel
theorem dMa_floorMod_24 : decode cMa_floorMod 24 = .ok (.lreturn, 1) := by decide +kernel
theorem dMa_floorMod_25 : decode cMa_floorMod 25 = .ok (.lload 4, 2) := by decide +kernel
theorem dMa_floorMod_27 : decode cMa_floorMod 27 = .ok (.lreturn, 1) := by decide +kernel
theorem dMo_of_0 : decode cMo_of 0 = .ok (.lload_n 1, 1) := by decide +kernel
theorem dMo_of_1 : decode cMo_of 1 = .ok (.aload_n 0, 1) := by decide +kernel
theorem dMo_of_2 : decode cMo_of 2 = .ok (.getfield 15, 3) := by decide +kernel
theorem dMo_of_5 : decode cMo_of 5 = .ok (.invokestatic 20, 3) := by decide +kernel
theorem dMo_of_8 : decode cMo_of 8 = .ok (.lreturn, 1) := by decide +kernel
theorem dMo_times_0 : decode cMo_times 0 = .ok (.lload_n 1, 1) := by decide +kernel
theorem dMo_times_1 : decode cMo_times 1 = .ok (.lload_n 3, 1) := by decide +kernel
theorem dMo_times_2 : decode cMo_times 2 = .ok (.lmul, 1) := by decide +kernel
theorem dMo_times_3 : decode cMo_times 3 = .ok (.aload_n 0, 1) := by decide +kernel
theorem dMo_times_4 : decode cMo_times 4 = .ok (.getfield 15, 3) := by decide +kernel
theorem dMo_times_7 : decode cMo_times 7 = .ok (.lrem, 1) := by decide +kernel
theorem dMo_times_8 : decode cMo_times 8 = .ok (.lreturn, 1) := by decide +kernel
theorem dMo_power_0 : decode cMo_power 0 = .ok (.lconst 1, 1) := by decide +kernel
theorem dMo_power_1 : decode cMo_power 1 = .ok (.lstore 5, 2) := by decide +kernel
theorem dMo_power_3 : decode cMo_power 3 = .ok (.lload_n 1, 1) := by decide +kernel
theorem dMo_power_4 : decode cMo_power 4 = .ok (.lstore 7, 2) := by decide +kernel
theorem dMo_power_6 : decode cMo_power 6 = .ok (.iconst 0, 1) := by decide +kernel
theorem dMo_power_7 : decode cMo_power 7 = .ok (.istore 9, 2) := by decide +kernel
theorem dMo_power_9 : decode cMo_power 9 = .ok (.iload 9, 2) := by decide +kernel
theorem dMo_power_11 : decode cMo_power 11 = .ok (.bipush 31, 2) := by decide +kernel
theorem dMo_power_13 : decode cMo_power 13 = .ok (.if_icmp .ge 49, 3) := by decide +kernel
theorem dMo_power_16 : decode cMo_power 16 = .ok (.lload_n 3, 1) := by decide +kernel
theorem dMo_power_17 : decode cMo_power 17 = .ok (.iload 9, 2) := by decide +kernel
theorem dMo_power_19 : decode cMo_power 19 = .ok (.lshr, 1) := by decide +kernel
theorem dMo_power_20 : decode cMo_power 20 = .ok (.lconst 0, 1) := by decide +kernel
theorem dMo_power_21 : decode cMo_power 21 = .ok (.lcmp, 1) := by decide +kernel
theorem dMo_power_22 : decode cMo_power 22 = .ok (.ifCond .eq 40, 3) := by decide +kernel
theorem dMo_power_25 : decode cMo_power 25 = .ok (.lload_n 3, 1) := by decide +kernel
theorem dMo_power_26 : decode cMo_power 26 = .ok (.iload 9, 2) := by decide +kernel
theorem dMo_power_28 : decode cMo_power 28 = .ok (.lshr, 1) := by decide +kernel
theorem dMo_power_29 : decode cMo_power 29 = .ok (.lconst 1, 1) := by decide +kernel
theorem dMo_power_30 : decode cMo_power 30 = .ok (.land, 1) := by decide +kernel
theorem dMo_power_31 : decode cMo_power 31 = .ok (.lconst 1, 1) := by decide +kernel
theorem dMo_power_32 : decode cMo_power 32 = .ok (.lcmp, 1) := by decide +kernel
theorem dMo_power_33 : decode cMo_power 33 = .ok (.ifCond .ne 13, 3) := by decide +kernel
theorem dMo_power_36 : decode cMo_power 36 = .ok (.aload_n 0, 1) := by decide +kernel
theorem dMo_power_37 : decode cMo_power 37 = .ok (.lload 5, 2) := by decide +kernel
theorem dMo_power_39 : decode cMo_power 39 = .ok (.lload 7, 2) := by decide +kernel
theorem dMo_power_41 : decode cMo_power 41 = .ok (.invokevirtual 26, 3) := by decide +kernel
theorem dMo_power_44 : decode cMo_power 44 = .ok (.lstore 5, 2) := by decide +kernel
theorem dMo_power_46 : decode cMo_power 46 = .ok (.aload_n 0, 1) := by decide +kernel
theorem dMo_power_47 : decode cMo_power 47 = .ok (.lload 7, 2) := by decide +kernel
theorem dMo_power_49 : decode cMo_power 49 = .ok (.lload 7, 2) := by decide +kernel
theorem dMo_power_51 : decode cMo_power 51 = .ok (.invokevirtual 26, 3) := by decide +kernel
theorem dMo_power_54 : decode cMo_power 54 = .ok (.lstore 7, 2) := by decide +kernel
theorem dMo_power_56 : decode cMo_power 56 = .ok (.iinc 9 1, 3) := by decide +kernel
theorem dMo_power_59 : decode cMo_power 59 = .ok (.goto (-50), 3) := by decide +kernel
theorem dMo_power_62 : decode cMo_power 62 = .ok (.lload 5, 2) := by decide +kernel
theorem dMo_power_64 : decode cMo_power 64 = .ok (.lreturn, 1) := by decide +kernel
theorem dMo_inverse_0 : decode cMo_inverse 0 = .ok (.aload_n 0, 1) := by decide +kernel
theorem dMo_inverse_1 : decode cMo_inverse 1 = .ok (.lload_n 1, 1) := by decide +kernel
theorem dMo_inverse_2 : decode cMo_inverse 2 = .ok (.aload_n 0, 1) := by decide +kernel
theorem dMo_inverse_3 : decode cMo_inverse 3 = .ok (.getfield 15, 3) := by decide +kernel
theorem dMo_inverse_6 : decode cMo_inverse 6 = .ok (.ldc2_w 29, 3) := by decide +kernel
theorem dMo_inverse_9 : decode cMo_inverse 9 = .ok (.lsub, 1) := by decide +kernel
theorem dMo_inverse_10 : decode cMo_inverse 10 = .ok (.invokevirtual 31, 3) := by decide +kernel
theorem dMo_inverse_13 : decode cMo_inverse 13 = .ok (.lreturn, 1) := by decide +kernel
theorem dX_readFractions_0 : decode cX_readFractions 0 = .ok (.iconst 0, 1) := by decide +kernel
theorem dX_readFractions_1 : decode cX_readFractions 1 = .ok (.istore 4, 2) := by decide +kernel
theorem dX_readFractions_3 : decode cX_readFractions 3 = .ok (.iload 4, 2) := by decide +kernel
theorem dX_readFractions_5 : decode cX_readFractions 5 = .ok (.aload_n 3, 1) := by decide +kernel
theorem dX_readFractions_6 : decode cX_readFractions 6 = .ok (.arraylength, 1) := by decide +kernel
theorem dX_readFractions_7 : decode cX_readFractions 7 = .ok (.if_icmp .ge 83, 3) := by decide +kernel
theorem dX_readFractions_10 : decode cX_readFractions 10 = .ok (.aload_n 0, 1) := by decide +kernel
theorem dX_readFractions_11 : decode cX_readFractions 11 = .ok (.getfield 12, 3) := by decide +kernel
theorem dX_readFractions_14 : decode cX_readFractions 14 = .ok (.aload_n 1, 1) := by decide +kernel
theorem dX_readFractions_15 : decode cX_readFractions 15 = .ok (.getfield 104, 3) := by decide +kernel
theorem dX_readFractions_18 : decode cX_readFractions 18 = .ok (.iload_n 2, 1) := by decide +kernel
theorem dX_readFractions_19 : decode cX_readFractions 19 = .ok (.iconst 2, 1) := by decide +kernel
theorem dX_readFractions_20 : decode cX_readFractions 20 = .ok (.iload 4, 2) := by decide +kernel
theorem dX_readFractions_22 : decode cX_readFractions 22 = .ok (.imul, 1) := by decide +kernel
theorem dX_readFractions_23 : decode cX_readFractions 23 = .ok (.iadd, 1) := by decide +kernel
theorem dX_readFractions_24 : decode cX_readFractions 24 = .ok (.laload, 1) := by decide +kernel
theorem dX_readFractions_25 : decode cX_readFractions 25 = .ok (.invokevirtual 245, 3) := by decide +kernel
theorem dX_readFractions_28 : decode cX_readFractions 28 = .ok (.lstore 5, 2) := by decide +kernel
theorem dX_readFractions_30 : decode cX_readFractions 30 = .ok (.aload_n 0, 1) := by decide +kernel
theorem dX_readFractions_31 : decode cX_readFractions 31 = .ok (.getfield 12, 3) := by decide +kernel
theorem dX_readFractions_34 : decode cX_readFractions 34 = .ok (.aload_n 1, 1) := by decide +kernel
theorem dX_readFractions_35 : decode cX_readFractions 35 = .ok (.getfield 104, 3) := by decide +kernel
theorem dX_readFractions_38 : decode cX_readFractions 38 = .ok (.iload_n 2, 1) := by decide +kernel
theorem dX_readFractions_39 : decode cX_readFractions 39 = .ok (.iconst 2, 1) := by decide +kernel
theorem dX_readFractions_40 : decode cX_readFractions 40 = .ok (.iload 4, 2) := by decide +kernel
theorem dX_readFractions_42 : decode cX_readFractions 42 = .ok (.imul, 1) := by decide +kernel
theorem dX_readFractions_43 : decode cX_readFractions 43 = .ok (.iadd, 1) := by decide +kernel
theorem dX_readFractions_44 : decode cX_readFractions 44 = .ok (.iconst 1, 1) := by decide +kernel
theorem dX_readFractions_45 : decode cX_readFractions 45 = .ok (.iadd, 1) := by decide +kernel
theorem dX_readFractions_46 : decode cX_readFractions 46 = .ok (.laload, 1) := by decide +kernel
theorem dX_readFractions_47 : decode cX_readFractions 47 = .ok (.invokevirtual 245, 3) := by decide +kernel
theorem dX_readFractions_50 : decode cX_readFractions 50 = .ok (.lstore 7, 2) := by decide +kernel
theorem dX_readFractions_52 : decode cX_readFractions 52 = .ok (.lload 7, 2) := by decide +kernel
theorem dX_readFractions_54 : decode cX_readFractions 54 = .ok (.lconst 0, 1) := by decide +kernel
theorem dX_readFractions_55 : decode cX_readFractions 55 = .ok (.lcmp, 1) := by decide +kernel
theorem dX_readFractions_56 : decode cX_readFractions 56 = .ok (.ifCond .ne 5, 3) := by decide +kernel
theorem dX_readFractions_59 : decode cX_readFractions 59 = .ok (.iconst 0, 1) := by decide +kernel
theorem dX_readFractions_60 : decode cX_readFractions 60 = .ok (.ireturn, 1) := by decide +kernel
theorem dX_readFractions_61 : decode cX_readFractions 61 = .ok (.aload_n 3, 1) := by decide +kernel
theorem dX_readFractions_62 : decode cX_readFractions 62 = .ok (.iload 4, 2) := by decide +kernel
theorem dX_readFractions_64 : decode cX_readFractions 64 = .ok (.aload_n 0, 1) := by decide +kernel
theorem dX_readFractions_65 : decode cX_readFractions 65 = .ok (.getfield 12, 3) := by decide +kernel
theorem dX_readFractions_68 : decode cX_readFractions 68 = .ok (.lload 5, 2) := by decide +kernel
theorem dX_readFractions_70 : decode cX_readFractions 70 = .ok (.aload_n 0, 1) := by decide +kernel
theorem dX_readFractions_71 : decode cX_readFractions 71 = .ok (.getfield 12, 3) := by decide +kernel
theorem dX_readFractions_74 : decode cX_readFractions 74 = .ok (.lload 7, 2) := by decide +kernel
theorem dX_readFractions_76 : decode cX_readFractions 76 = .ok (.invokevirtual 249, 3) := by decide +kernel
theorem dX_readFractions_79 : decode cX_readFractions 79 = .ok (.invokevirtual 252, 3) := by decide +kernel
theorem dX_readFractions_82 : decode cX_readFractions 82 = .ok (.l2i, 1) := by decide +kernel
theorem dX_readFractions_83 : decode cX_readFractions 83 = .ok (.iastore, 1) := by decide +kernel
theorem dX_readFractions_84 : decode cX_readFractions 84 = .ok (.iinc 4 1, 3) := by decide +kernel
theorem dX_readFractions_87 : decode cX_readFractions 87 = .ok (.goto (-84), 3) := by decide +kernel
theorem dX_readFractions_90 : decode cX_readFractions 90 = .ok (.iconst 1, 1) := by decide +kernel
theorem dX_readFractions_91 : decode cX_readFractions 91 = .ok (.ireturn, 1) := by decide +kernel
theorem dWe_root_0 : decode cWe_root 0 = .ok (.iload_n 1, 1) := by decide +kernel
theorem dWe_root_1 : decode cWe_root 1 = .ok (.bipush 8, 2) := by decide +kernel
theorem dWe_root_3 : decode cWe_root 3 = .ok (.imul, 1) := by decide +kernel
theorem dWe_root_4 : decode cWe_root 4 = .ok (.iload_n 2, 1) := by decide +kernel
theorem dWe_root_5 : decode cWe_root 5 = .ok (.iadd, 1) := by decide +kernel
theorem dWe_root_6 : decode cWe_root 6 = .ok (.istore_n 3, 1) := by decide +kernel
theorem dWe_root_7 : decode cWe_root 7 = .ok (.iload_n 1, 1) := by decide +kernel
theorem dWe_root_8 : decode cWe_root 8 = .ok (.ifCond .ne 11, 3) := by decide +kernel
theorem dWe_root_11 : decode cWe_root 11 = .ok (.aload_n 0, 1) := by decide +kernel
theorem dWe_root_12 : decode cWe_root 12 = .ok (.getfield 9, 3) := by decide +kernel
theorem dWe_root_15 : decode cWe_root 15 = .ok (.iload_n 3, 1) := by decide +kernel
theorem dWe_root_16 : decode cWe_root 16 = .ok (.lconst 1, 1) := by decide +kernel
theorem dWe_root_17 : decode cWe_root 17 = .ok (.lastore, 1) := by decide +kernel
theorem dWe_root_18 : decode cWe_root 18 = .ok (.return_, 1) := by decide +kernel
theorem dWe_root_19 : decode cWe_root 19 = .ok (.aload_n 0, 1) := by decide +kernel
theorem dWe_root_20 : decode cWe_root 20 = .ok (.getfield 9, 3) := by decide +kernel
theorem dWe_root_23 : decode cWe_root 23 = .ok (.aload_n 0, 1) := by decide +kernel
theorem dWe_root_24 : decode cWe_root 24 = .ok (.getfield 22, 3) := by decide +kernel
theorem dWe_root_27 : decode cWe_root 27 = .ok (.getfield 59, 3) := by decide +kernel
theorem dWe_root_30 : decode cWe_root 30 = .ok (.iload_n 1, 1) := by decide +kernel
theorem dWe_root_31 : decode cWe_root 31 = .ok (.iaload, 1) := by decide +kernel
theorem dWe_root_32 : decode cWe_root 32 = .ok (.bipush 8, 2) := by decide +kernel
theorem dWe_root_34 : decode cWe_root 34 = .ok (.imul, 1) := by decide +kernel
theorem dWe_root_35 : decode cWe_root 35 = .ok (.iload_n 2, 1) := by decide +kernel
theorem dWe_root_36 : decode cWe_root 36 = .ok (.iadd, 1) := by decide +kernel
theorem dWe_root_37 : decode cWe_root 37 = .ok (.laload, 1) := by decide +kernel
theorem dWe_root_38 : decode cWe_root 38 = .ok (.lstore 4, 2) := by decide +kernel
theorem dWe_root_40 : decode cWe_root 40 = .ok (.aload_n 0, 1) := by decide +kernel
theorem dWe_root_41 : decode cWe_root 41 = .ok (.getfield 9, 3) := by decide +kernel
theorem dWe_root_44 : decode cWe_root 44 = .ok (.iload_n 3, 1) := by decide +kernel
theorem dWe_root_45 : decode cWe_root 45 = .ok (.aload_n 0, 1) := by decide +kernel
theorem dWe_root_46 : decode cWe_root 46 = .ok (.getfield 18, 3) := by decide +kernel
theorem dWe_root_49 : decode cWe_root 49 = .ok (.lload 4, 2) := by decide +kernel
theorem dWe_root_51 : decode cWe_root 51 = .ok (.aload_n 0, 1) := by decide +kernel
theorem dWe_root_52 : decode cWe_root 52 = .ok (.getfield 15, 3) := by decide +kernel
theorem dWe_root_55 : decode cWe_root 55 = .ok (.aload_n 0, 1) := by decide +kernel
theorem dWe_root_56 : decode cWe_root 56 = .ok (.getfield 22, 3) := by decide +kernel
theorem dWe_root_59 : decode cWe_root 59 = .ok (.getfield 62, 3) := by decide +kernel
theorem dWe_root_62 : decode cWe_root 62 = .ok (.iload_n 1, 1) := by decide +kernel
theorem dWe_root_63 : decode cWe_root 63 = .ok (.iaload, 1) := by decide +kernel
theorem dWe_root_64 : decode cWe_root 64 = .ok (.bipush 8, 2) := by decide +kernel
theorem dWe_root_66 : decode cWe_root 66 = .ok (.imul, 1) := by decide +kernel
theorem dWe_root_67 : decode cWe_root 67 = .ok (.iload_n 2, 1) := by decide +kernel
theorem dWe_root_68 : decode cWe_root 68 = .ok (.iadd, 1) := by decide +kernel
theorem dWe_root_69 : decode cWe_root 69 = .ok (.laload, 1) := by decide +kernel
theorem dWe_root_70 : decode cWe_root 70 = .ok (.invokevirtual 40, 3) := by decide +kernel
theorem dWe_root_73 : decode cWe_root 73 = .ok (.lastore, 1) := by decide +kernel
theorem dWe_root_74 : decode cWe_root 74 = .ok (.return_, 1) := by decide +kernel
theorem dSg_b_0 : decode cSg_b 0 = .ok (.aload_n 0, 1) := by decide +kernel
theorem dSg_b_1 : decode cSg_b 1 = .ok (.getfield 21, 3) := by decide +kernel
theorem dSg_b_4 : decode cSg_b 4 = .ok (.aload_n 0, 1) := by decide +kernel
theorem dSg_b_5 : decode cSg_b 5 = .ok (.getfield 15, 3) := by decide +kernel
theorem dSg_b_8 : decode cSg_b 8 = .ok (.aload_n 0, 1) := by decide +kernel
theorem dSg_b_9 : decode cSg_b 9 = .ok (.getfield 15, 3) := by decide +kernel
theorem dSg_b_12 : decode cSg_b 12 = .ok (.imul, 1) := by decide +kernel
theorem dSg_b_13 : decode cSg_b 13 = .ok (.iload_n 1, 1) := by decide +kernel
theorem dSg_b_14 : decode cSg_b 14 = .ok (.iadd, 1) := by decide +kernel
theorem dSg_b_15 : decode cSg_b 15 = .ok (.iaload, 1) := by decide +kernel
theorem dSg_b_16 : decode cSg_b 16 = .ok (.i2l, 1) := by decide +kernel
theorem dSg_b_17 : decode cSg_b 17 = .ok (.lreturn, 1) := by decide +kernel
theorem dMo_plus_0 : decode cMo_plus 0 = .ok (.lload_n 1, 1) := by decide +kernel
theorem dMo_plus_1 : decode cMo_plus 1 = .ok (.lload_n 3, 1) := by decide +kernel
theorem dMo_plus_2 : decode cMo_plus 2 = .ok (.ladd, 1) := by decide +kernel
theorem dMo_plus_3 : decode cMo_plus 3 = .ok (.aload_n 0, 1) := by decide +kernel
theorem dMo_plus_4 : decode cMo_plus 4 = .ok (.getfield 15, 3) := by decide +kernel
theorem dMo_plus_7 : decode cMo_plus 7 = .ok (.lrem, 1) := by decide +kernel
theorem dMo_plus_8 : decode cMo_plus 8 = .ok (.lreturn, 1) := by decide +kernel
theorem dSg_a_0 : decode cSg_a 0 = .ok (.aload_n 0, 1) := by decide +kernel
theorem dSg_a_1 : decode cSg_a 1 = .ok (.getfield 21, 3) := by decide +kernel
theorem dSg_a_4 : decode cSg_a 4 = .ok (.iload_n 1, 1) := by decide +kernel
theorem dSg_a_5 : decode cSg_a 5 = .ok (.aload_n 0, 1) := by decide +kernel
theorem dSg_a_6 : decode cSg_a 6 = .ok (.getfield 15, 3) := by decide +kernel
theorem dSg_a_9 : decode cSg_a 9 = .ok (.imul, 1) := by decide +kernel
theorem dSg_a_10 : decode cSg_a 10 = .ok (.iload_n 2, 1) := by decide +kernel
theorem dSg_a_11 : decode cSg_a 11 = .ok (.iadd, 1) := by decide +kernel
theorem dSg_a_12 : decode cSg_a 12 = .ok (.iaload, 1) := by decide +kernel
theorem dSg_a_13 : decode cSg_a 13 = .ok (.i2l, 1) := by decide +kernel
theorem dSg_a_14 : decode cSg_a 14 = .ok (.lreturn, 1) := by decide +kernel
theorem dWe_hangUp_0 : decode cWe_hangUp 0 = .ok (.iload_n 1, 1) := by decide +kernel
theorem dWe_hangUp_1 : decode cWe_hangUp 1 = .ok (.bipush 8, 2) := by decide +kernel
theorem dWe_hangUp_3 : decode cWe_hangUp 3 = .ok (.imul, 1) := by decide +kernel
theorem dWe_hangUp_4 : decode cWe_hangUp 4 = .ok (.istore_n 3, 1) := by decide +kernel
theorem dWe_hangUp_5 : decode cWe_hangUp 5 = .ok (.iconst 0, 1) := by decide +kernel
theorem dWe_hangUp_6 : decode cWe_hangUp 6 = .ok (.istore 4, 2) := by decide +kernel
theorem dWe_hangUp_8 : decode cWe_hangUp 8 = .ok (.iload 4, 2) := by decide +kernel
theorem dWe_hangUp_10 : decode cWe_hangUp 10 = .ok (.aload_n 2, 1) := by decide +kernel
theorem dWe_hangUp_11 : decode cWe_hangUp 11 = .ok (.getfield 26, 3) := by decide +kernel
theorem dWe_hangUp_14 : decode cWe_hangUp 14 = .ok (.if_icmp .ge 76, 3) := by decide +kernel
theorem dWe_hangUp_17 : decode cWe_hangUp 17 = .ok (.lconst 0, 1) := by decide +kernel
theorem dWe_hangUp_18 : decode cWe_hangUp 18 = .ok (.lstore 5, 2) := by decide +kernel
theorem dWe_hangUp_20 : decode cWe_hangUp 20 = .ok (.iconst 0, 1) := by decide +kernel
theorem dWe_hangUp_21 : decode cWe_hangUp 21 = .ok (.istore 7, 2) := by decide +kernel
theorem dWe_hangUp_23 : decode cWe_hangUp 23 = .ok (.iload 7, 2) := by decide +kernel
theorem dWe_hangUp_25 : decode cWe_hangUp 25 = .ok (.aload_n 2, 1) := by decide +kernel
theorem dWe_hangUp_26 : decode cWe_hangUp 26 = .ok (.getfield 26, 3) := by decide +kernel
theorem dWe_hangUp_29 : decode cWe_hangUp 29 = .ok (.if_icmp .ge 44, 3) := by decide +kernel
theorem dWe_hangUp_32 : decode cWe_hangUp 32 = .ok (.aload_n 0, 1) := by decide +kernel
theorem dWe_hangUp_33 : decode cWe_hangUp 33 = .ok (.getfield 18, 3) := by decide +kernel
theorem dWe_hangUp_36 : decode cWe_hangUp 36 = .ok (.lload 5, 2) := by decide +kernel
theorem dWe_hangUp_38 : decode cWe_hangUp 38 = .ok (.aload_n 0, 1) := by decide +kernel
theorem dWe_hangUp_39 : decode cWe_hangUp 39 = .ok (.getfield 18, 3) := by decide +kernel
theorem dWe_hangUp_42 : decode cWe_hangUp 42 = .ok (.aload_n 2, 1) := by decide +kernel
theorem dWe_hangUp_43 : decode cWe_hangUp 43 = .ok (.iload 4, 2) := by decide +kernel
theorem dWe_hangUp_45 : decode cWe_hangUp 45 = .ok (.iload 7, 2) := by decide +kernel
theorem dWe_hangUp_47 : decode cWe_hangUp 47 = .ok (.invokevirtual 65, 3) := by decide +kernel
theorem dWe_hangUp_50 : decode cWe_hangUp 50 = .ok (.aload_n 0, 1) := by decide +kernel
theorem dWe_hangUp_51 : decode cWe_hangUp 51 = .ok (.getfield 9, 3) := by decide +kernel
theorem dWe_hangUp_54 : decode cWe_hangUp 54 = .ok (.iload_n 3, 1) := by decide +kernel
theorem dWe_hangUp_55 : decode cWe_hangUp 55 = .ok (.iload 7, 2) := by decide +kernel
theorem dWe_hangUp_57 : decode cWe_hangUp 57 = .ok (.iadd, 1) := by decide +kernel
theorem dWe_hangUp_58 : decode cWe_hangUp 58 = .ok (.laload, 1) := by decide +kernel
theorem dWe_hangUp_59 : decode cWe_hangUp 59 = .ok (.invokevirtual 40, 3) := by decide +kernel
theorem dWe_hangUp_62 : decode cWe_hangUp 62 = .ok (.invokevirtual 46, 3) := by decide +kernel
theorem dWe_hangUp_65 : decode cWe_hangUp 65 = .ok (.lstore 5, 2) := by decide +kernel
theorem dWe_hangUp_67 : decode cWe_hangUp 67 = .ok (.iinc 7 1, 3) := by decide +kernel
theorem dWe_hangUp_70 : decode cWe_hangUp 70 = .ok (.goto (-47), 3) := by decide +kernel
theorem dWe_hangUp_73 : decode cWe_hangUp 73 = .ok (.aload_n 0, 1) := by decide +kernel
theorem dWe_hangUp_74 : decode cWe_hangUp 74 = .ok (.getfield 15, 3) := by decide +kernel
theorem dWe_hangUp_77 : decode cWe_hangUp 77 = .ok (.iload_n 3, 1) := by decide +kernel
theorem dWe_hangUp_78 : decode cWe_hangUp 78 = .ok (.iload 4, 2) := by decide +kernel
theorem dWe_hangUp_80 : decode cWe_hangUp 80 = .ok (.iadd, 1) := by decide +kernel
theorem dWe_hangUp_81 : decode cWe_hangUp 81 = .ok (.lload 5, 2) := by decide +kernel
theorem dWe_hangUp_83 : decode cWe_hangUp 83 = .ok (.lastore, 1) := by decide +kernel
theorem dWe_hangUp_84 : decode cWe_hangUp 84 = .ok (.iinc 4 1, 3) := by decide +kernel
theorem dWe_hangUp_87 : decode cWe_hangUp 87 = .ok (.goto (-79), 3) := by decide +kernel
theorem dWe_hangUp_90 : decode cWe_hangUp 90 = .ok (.return_, 1) := by decide +kernel
theorem dWe_weights_0 : decode cWe_weights 0 = .ok (.bipush 37, 2) := by decide +kernel
theorem dWe_weights_2 : decode cWe_weights 2 = .ok (.newarray .int, 2) := by decide +kernel
theorem dWe_weights_4 : decode cWe_weights 4 = .ok (.astore_n 2, 1) := by decide +kernel
theorem dWe_weights_5 : decode cWe_weights 5 = .ok (.iconst 0, 1) := by decide +kernel
theorem dWe_weights_6 : decode cWe_weights 6 = .ok (.istore_n 3, 1) := by decide +kernel
theorem dWe_weights_7 : decode cWe_weights 7 = .ok (.iload_n 3, 1) := by decide +kernel
theorem dWe_weights_8 : decode cWe_weights 8 = .ok (.bipush 37, 2) := by decide +kernel
theorem dWe_weights_10 : decode cWe_weights 10 = .ok (.if_icmp .ge 99, 3) := by decide +kernel
theorem dWe_weights_13 : decode cWe_weights 13 = .ok (.lconst 0, 1) := by decide +kernel
theorem dWe_weights_14 : decode cWe_weights 14 = .ok (.lstore 4, 2) := by decide +kernel
theorem dWe_weights_16 : decode cWe_weights 16 = .ok (.iconst 0, 1) := by decide +kernel
theorem dWe_weights_17 : decode cWe_weights 17 = .ok (.istore 6, 2) := by decide +kernel
theorem dWe_weights_19 : decode cWe_weights 19 = .ok (.iload 6, 2) := by decide +kernel
theorem dWe_weights_21 : decode cWe_weights 21 = .ok (.aload_n 1, 1) := by decide +kernel
theorem dWe_weights_22 : decode cWe_weights 22 = .ok (.getfield 26, 3) := by decide +kernel
theorem dWe_weights_25 : decode cWe_weights 25 = .ok (.if_icmp .ge 52, 3) := by decide +kernel
theorem dWe_weights_28 : decode cWe_weights 28 = .ok (.aload_n 0, 1) := by decide +kernel
theorem dWe_weights_29 : decode cWe_weights 29 = .ok (.iload_n 3, 1) := by decide +kernel
theorem dWe_weights_30 : decode cWe_weights 30 = .ok (.iload 6, 2) := by decide +kernel
theorem dWe_weights_32 : decode cWe_weights 32 = .ok (.invokevirtual 32, 3) := by decide +kernel
theorem dWe_weights_35 : decode cWe_weights 35 = .ok (.aload_n 0, 1) := by decide +kernel
theorem dWe_weights_36 : decode cWe_weights 36 = .ok (.getfield 18, 3) := by decide +kernel
theorem dWe_weights_39 : decode cWe_weights 39 = .ok (.lload 4, 2) := by decide +kernel
theorem dWe_weights_41 : decode cWe_weights 41 = .ok (.aload_n 0, 1) := by decide +kernel
theorem dWe_weights_42 : decode cWe_weights 42 = .ok (.getfield 18, 3) := by decide +kernel
theorem dWe_weights_45 : decode cWe_weights 45 = .ok (.aload_n 1, 1) := by decide +kernel
theorem dWe_weights_46 : decode cWe_weights 46 = .ok (.iload 6, 2) := by decide +kernel
theorem dWe_weights_48 : decode cWe_weights 48 = .ok (.invokevirtual 36, 3) := by decide +kernel
theorem dWe_weights_51 : decode cWe_weights 51 = .ok (.aload_n 0, 1) := by decide +kernel
theorem dWe_weights_52 : decode cWe_weights 52 = .ok (.getfield 9, 3) := by decide +kernel
theorem dWe_weights_55 : decode cWe_weights 55 = .ok (.iload_n 3, 1) := by decide +kernel
theorem dWe_weights_56 : decode cWe_weights 56 = .ok (.bipush 8, 2) := by decide +kernel
theorem dWe_weights_58 : decode cWe_weights 58 = .ok (.imul, 1) := by decide +kernel
theorem dWe_weights_59 : decode cWe_weights 59 = .ok (.iload 6, 2) := by decide +kernel
theorem dWe_weights_61 : decode cWe_weights 61 = .ok (.iadd, 1) := by decide +kernel
theorem dWe_weights_62 : decode cWe_weights 62 = .ok (.laload, 1) := by decide +kernel
theorem dWe_weights_63 : decode cWe_weights 63 = .ok (.invokevirtual 40, 3) := by decide +kernel
theorem dWe_weights_66 : decode cWe_weights 66 = .ok (.invokevirtual 46, 3) := by decide +kernel
theorem dWe_weights_69 : decode cWe_weights 69 = .ok (.lstore 4, 2) := by decide +kernel
theorem dWe_weights_71 : decode cWe_weights 71 = .ok (.iinc 6 1, 3) := by decide +kernel
theorem dWe_weights_74 : decode cWe_weights 74 = .ok (.goto (-55), 3) := by decide +kernel
theorem dWe_weights_77 : decode cWe_weights 77 = .ok (.aload_n 2, 1) := by decide +kernel
theorem dWe_weights_78 : decode cWe_weights 78 = .ok (.iload_n 3, 1) := by decide +kernel
theorem dWe_weights_79 : decode cWe_weights 79 = .ok (.lload 4, 2) := by decide +kernel
theorem dWe_weights_81 : decode cWe_weights 81 = .ok (.l2i, 1) := by decide +kernel
theorem dWe_weights_82 : decode cWe_weights 82 = .ok (.iastore, 1) := by decide +kernel
theorem dWe_weights_83 : decode cWe_weights 83 = .ok (.aload_n 0, 1) := by decide +kernel
theorem dWe_weights_84 : decode cWe_weights 84 = .ok (.getfield 22, 3) := by decide +kernel
theorem dWe_weights_87 : decode cWe_weights 87 = .ok (.getfield 49, 3) := by decide +kernel
theorem dWe_weights_90 : decode cWe_weights 90 = .ok (.iload_n 3, 1) := by decide +kernel
theorem dWe_weights_91 : decode cWe_weights 91 = .ok (.iaload, 1) := by decide +kernel
theorem dWe_weights_92 : decode cWe_weights 92 = .ok (.bipush 6, 2) := by decide +kernel
theorem dWe_weights_94 : decode cWe_weights 94 = .ok (.if_icmp .ge 9, 3) := by decide +kernel
theorem dWe_weights_97 : decode cWe_weights 97 = .ok (.aload_n 0, 1) := by decide +kernel
theorem dWe_weights_98 : decode cWe_weights 98 = .ok (.iload_n 3, 1) := by decide +kernel
theorem dWe_weights_99 : decode cWe_weights 99 = .ok (.aload_n 1, 1) := by decide +kernel
theorem dWe_weights_100 : decode cWe_weights 100 = .ok (.invokevirtual 55, 3) := by decide +kernel
theorem dWe_weights_103 : decode cWe_weights 103 = .ok (.iinc 3 1, 3) := by decide +kernel
theorem dWe_weights_106 : decode cWe_weights 106 = .ok (.goto (-99), 3) := by decide +kernel
theorem dWe_weights_109 : decode cWe_weights 109 = .ok (.aload_n 2, 1) := by decide +kernel
theorem dWe_weights_110 : decode cWe_weights 110 = .ok (.areturn, 1) := by decide +kernel
theorem dX_firstMisfit_0 : decode cX_firstMisfit 0 = .ok (.iconst 0, 1) := by decide +kernel
theorem dX_firstMisfit_1 : decode cX_firstMisfit 1 = .ok (.istore_n 2, 1) := by decide +kernel
theorem dX_firstMisfit_2 : decode cX_firstMisfit 2 = .ok (.iload_n 2, 1) := by decide +kernel
theorem dX_firstMisfit_3 : decode cX_firstMisfit 3 = .ok (.bipush 37, 2) := by decide +kernel
theorem dX_firstMisfit_5 : decode cX_firstMisfit 5 = .ok (.if_icmp .ge 37, 3) := by decide +kernel
theorem dX_firstMisfit_8 : decode cX_firstMisfit 8 = .ok (.aload_n 0, 1) := by decide +kernel
theorem dX_firstMisfit_9 : decode cX_firstMisfit 9 = .ok (.getfield 12, 3) := by decide +kernel
theorem dX_firstMisfit_12 : decode cX_firstMisfit 12 = .ok (.aload_n 1, 1) := by decide +kernel
theorem dX_firstMisfit_13 : decode cX_firstMisfit 13 = .ok (.iload_n 2, 1) := by decide +kernel
theorem dX_firstMisfit_14 : decode cX_firstMisfit 14 = .ok (.iaload, 1) := by decide +kernel
theorem dX_firstMisfit_15 : decode cX_firstMisfit 15 = .ok (.i2l, 1) := by decide +kernel
theorem dX_firstMisfit_16 : decode cX_firstMisfit 16 = .ok (.aload_n 0, 1) := by decide +kernel
theorem dX_firstMisfit_17 : decode cX_firstMisfit 17 = .ok (.getfield 21, 3) := by decide +kernel
theorem dX_firstMisfit_20 : decode cX_firstMisfit 20 = .ok (.getfield 129, 3) := by decide +kernel
theorem dX_firstMisfit_23 : decode cX_firstMisfit 23 = .ok (.iload_n 2, 1) := by decide +kernel
theorem dX_firstMisfit_24 : decode cX_firstMisfit 24 = .ok (.iaload, 1) := by decide +kernel
theorem dX_firstMisfit_25 : decode cX_firstMisfit 25 = .ok (.i2l, 1) := by decide +kernel
theorem dX_firstMisfit_26 : decode cX_firstMisfit 26 = .ok (.invokevirtual 252, 3) := by decide +kernel
theorem dX_firstMisfit_29 : decode cX_firstMisfit 29 = .ok (.lconst 1, 1) := by decide +kernel
theorem dX_firstMisfit_30 : decode cX_firstMisfit 30 = .ok (.lcmp, 1) := by decide +kernel
theorem dX_firstMisfit_31 : decode cX_firstMisfit 31 = .ok (.ifCond .eq 5, 3) := by decide +kernel
theorem dX_firstMisfit_34 : decode cX_firstMisfit 34 = .ok (.iload_n 2, 1) := by decide +kernel
theorem dX_firstMisfit_35 : decode cX_firstMisfit 35 = .ok (.ireturn, 1) := by decide +kernel
theorem dX_firstMisfit_36 : decode cX_firstMisfit 36 = .ok (.iinc 2 1, 3) := by decide +kernel
theorem dX_firstMisfit_39 : decode cX_firstMisfit 39 = .ok (.goto (-37), 3) := by decide +kernel
theorem dX_firstMisfit_42 : decode cX_firstMisfit 42 = .ok (.ldc 135, 2) := by decide +kernel
theorem dX_firstMisfit_44 : decode cX_firstMisfit 44 = .ok (.ireturn, 1) := by decide +kernel
theorem dSg_zeroFrom_0 : decode cSg_zeroFrom 0 = .ok (.iconst 0, 1) := by decide +kernel
theorem dSg_zeroFrom_1 : decode cSg_zeroFrom 1 = .ok (.istore_n 2, 1) := by decide +kernel
theorem dSg_zeroFrom_2 : decode cSg_zeroFrom 2 = .ok (.iload_n 2, 1) := by decide +kernel
theorem dSg_zeroFrom_3 : decode cSg_zeroFrom 3 = .ok (.aload_n 0, 1) := by decide +kernel
theorem dSg_zeroFrom_4 : decode cSg_zeroFrom 4 = .ok (.getfield 15, 3) := by decide +kernel
theorem dSg_zeroFrom_7 : decode cSg_zeroFrom 7 = .ok (.if_icmp .ge 40, 3) := by decide +kernel
theorem dSg_zeroFrom_10 : decode cSg_zeroFrom 10 = .ok (.iload_n 2, 1) := by decide +kernel
theorem dSg_zeroFrom_11 : decode cSg_zeroFrom 11 = .ok (.iload_n 1, 1) := by decide +kernel
theorem dSg_zeroFrom_12 : decode cSg_zeroFrom 12 = .ok (.iadd, 1) := by decide +kernel
theorem dSg_zeroFrom_13 : decode cSg_zeroFrom 13 = .ok (.istore_n 3, 1) := by decide +kernel
theorem dSg_zeroFrom_14 : decode cSg_zeroFrom 14 = .ok (.iload_n 3, 1) := by decide +kernel
theorem dSg_zeroFrom_15 : decode cSg_zeroFrom 15 = .ok (.aload_n 0, 1) := by decide +kernel
theorem dSg_zeroFrom_16 : decode cSg_zeroFrom 16 = .ok (.getfield 15, 3) := by decide +kernel
theorem dSg_zeroFrom_19 : decode cSg_zeroFrom 19 = .ok (.if_icmp .ge 22, 3) := by decide +kernel
theorem dSg_zeroFrom_22 : decode cSg_zeroFrom 22 = .ok (.aload_n 0, 1) := by decide +kernel
theorem dSg_zeroFrom_23 : decode cSg_zeroFrom 23 = .ok (.iload_n 2, 1) := by decide +kernel
theorem dSg_zeroFrom_24 : decode cSg_zeroFrom 24 = .ok (.iload_n 3, 1) := by decide +kernel
theorem dSg_zeroFrom_25 : decode cSg_zeroFrom 25 = .ok (.invokevirtual 25, 3) := by decide +kernel
theorem dSg_zeroFrom_28 : decode cSg_zeroFrom 28 = .ok (.lconst 0, 1) := by decide +kernel
theorem dSg_zeroFrom_29 : decode cSg_zeroFrom 29 = .ok (.lcmp, 1) := by decide +kernel
theorem dSg_zeroFrom_30 : decode cSg_zeroFrom 30 = .ok (.ifCond .eq 5, 3) := by decide +kernel
theorem dSg_zeroFrom_33 : decode cSg_zeroFrom 33 = .ok (.iconst 0, 1) := by decide +kernel
theorem dSg_zeroFrom_34 : decode cSg_zeroFrom 34 = .ok (.ireturn, 1) := by decide +kernel
theorem dSg_zeroFrom_35 : decode cSg_zeroFrom 35 = .ok (.iinc 3 1, 3) := by decide +kernel
theorem dSg_zeroFrom_38 : decode cSg_zeroFrom 38 = .ok (.goto (-24), 3) := by decide +kernel
theorem dSg_zeroFrom_41 : decode cSg_zeroFrom 41 = .ok (.iinc 2 1, 3) := by decide +kernel
theorem dSg_zeroFrom_44 : decode cSg_zeroFrom 44 = .ok (.goto (-42), 3) := by decide +kernel
theorem dSg_zeroFrom_47 : decode cSg_zeroFrom 47 = .ok (.iconst 1, 1) := by decide +kernel
theorem dSg_zeroFrom_48 : decode cSg_zeroFrom 48 = .ok (.ireturn, 1) := by decide +kernel
theorem dTa_init_0 : decode cTa_init 0 = .ok (.aload_n 0, 1) := by decide +kernel
theorem dTa_init_1 : decode cTa_init 1 = .ok (.invokespecial 3, 3) := by decide +kernel
theorem dTa_init_4 : decode cTa_init 4 = .ok (.aload_n 0, 1) := by decide +kernel
theorem dTa_init_5 : decode cTa_init 5 = .ok (.aload_n 1, 1) := by decide +kernel
theorem dTa_init_6 : decode cTa_init 6 = .ok (.putfield 9, 3) := by decide +kernel
theorem dTa_init_9 : decode cTa_init 9 = .ok (.aload_n 0, 1) := by decide +kernel
theorem dTa_init_10 : decode cTa_init 10 = .ok (.aload_n 2, 1) := by decide +kernel
theorem dTa_init_11 : decode cTa_init 11 = .ok (.putfield 15, 3) := by decide +kernel
theorem dTa_init_14 : decode cTa_init 14 = .ok (.aload_n 0, 1) := by decide +kernel
theorem dTa_init_15 : decode cTa_init 15 = .ok (.iload_n 3, 1) := by decide +kernel
theorem dTa_init_16 : decode cTa_init 16 = .ok (.putfield 19, 3) := by decide +kernel
theorem dTa_init_19 : decode cTa_init 19 = .ok (.aload_n 0, 1) := by decide +kernel
theorem dTa_init_20 : decode cTa_init 20 = .ok (.iload 4, 2) := by decide +kernel
theorem dTa_init_22 : decode cTa_init 22 = .ok (.putfield 23, 3) := by decide +kernel
theorem dTa_init_25 : decode cTa_init 25 = .ok (.return_, 1) := by decide +kernel
theorem dLo_init_0 : decode cLo_init 0 = .ok (.aload_n 0, 1) := by decide +kernel
theorem dLo_init_1 : decode cLo_init 1 = .ok (.aload_n 1, 1) := by decide +kernel
theorem dLo_init_2 : decode cLo_init 2 = .ok (.aload_n 2, 1) := by decide +kernel
theorem dLo_init_3 : decode cLo_init 3 = .ok (.iload_n 3, 1) := by decide +kernel
theorem dLo_init_4 : decode cLo_init 4 = .ok (.iload 4, 2) := by decide +kernel
theorem dLo_init_6 : decode cLo_init 6 = .ok (.invokespecial 3, 3) := by decide +kernel
theorem dLo_init_9 : decode cLo_init 9 = .ok (.return_, 1) := by decide +kernel
theorem dPl_init_0 : decode cPl_init 0 = .ok (.aload_n 0, 1) := by decide +kernel
theorem dPl_init_1 : decode cPl_init 1 = .ok (.aload_n 1, 1) := by decide +kernel
theorem dPl_init_2 : decode cPl_init 2 = .ok (.aload_n 2, 1) := by decide +kernel
theorem dPl_init_3 : decode cPl_init 3 = .ok (.iload_n 3, 1) := by decide +kernel
theorem dPl_init_4 : decode cPl_init 4 = .ok (.iload 4, 2) := by decide +kernel
theorem dPl_init_6 : decode cPl_init 6 = .ok (.invokespecial 3, 3) := by decide +kernel
theorem dPl_init_9 : decode cPl_init 9 = .ok (.return_, 1) := by decide +kernel
theorem dX_keeps_0 : decode cX_keeps 0 = .ok (.iconst 0, 1) := by decide +kernel
theorem dX_keeps_1 : decode cX_keeps 1 = .ok (.istore_n 2, 1) := by decide +kernel
theorem dX_keeps_2 : decode cX_keeps 2 = .ok (.iload_n 2, 1) := by decide +kernel
theorem dX_keeps_3 : decode cX_keeps 3 = .ok (.aload_n 1, 1) := by decide +kernel
theorem dX_keeps_4 : decode cX_keeps 4 = .ok (.getfield 164, 3) := by decide +kernel
theorem dX_keeps_7 : decode cX_keeps 7 = .ok (.if_icmp .ge 96, 3) := by decide +kernel
theorem dX_keeps_10 : decode cX_keeps 10 = .ok (.iconst 0, 1) := by decide +kernel
theorem dX_keeps_11 : decode cX_keeps 11 = .ok (.istore_n 3, 1) := by decide +kernel
theorem dX_keeps_12 : decode cX_keeps 12 = .ok (.iload_n 3, 1) := by decide +kernel
theorem dX_keeps_13 : decode cX_keeps 13 = .ok (.iload_n 2, 1) := by decide +kernel
theorem dX_keeps_14 : decode cX_keeps 14 = .ok (.if_icmp .gt 83, 3) := by decide +kernel
theorem dX_keeps_17 : decode cX_keeps 17 = .ok (.aload_n 0, 1) := by decide +kernel
theorem dX_keeps_18 : decode cX_keeps 18 = .ok (.getfield 12, 3) := by decide +kernel
theorem dX_keeps_21 : decode cX_keeps 21 = .ok (.aload_n 1, 1) := by decide +kernel
theorem dX_keeps_22 : decode cX_keeps 22 = .ok (.iload_n 2, 1) := by decide +kernel
theorem dX_keeps_23 : decode cX_keeps 23 = .ok (.invokevirtual 187, 3) := by decide +kernel
theorem dX_keeps_26 : decode cX_keeps 26 = .ok (.aload_n 1, 1) := by decide +kernel
theorem dX_keeps_27 : decode cX_keeps 27 = .ok (.iload_n 2, 1) := by decide +kernel
theorem dX_keeps_28 : decode cX_keeps 28 = .ok (.iload_n 3, 1) := by decide +kernel
theorem dX_keeps_29 : decode cX_keeps 29 = .ok (.invokevirtual 191, 3) := by decide +kernel
theorem dX_keeps_32 : decode cX_keeps 32 = .ok (.invokevirtual 252, 3) := by decide +kernel
theorem dX_keeps_35 : decode cX_keeps 35 = .ok (.lstore 4, 2) := by decide +kernel
theorem dX_keeps_37 : decode cX_keeps 37 = .ok (.aload_n 0, 1) := by decide +kernel
theorem dX_keeps_38 : decode cX_keeps 38 = .ok (.getfield 12, 3) := by decide +kernel
theorem dX_keeps_41 : decode cX_keeps 41 = .ok (.aload_n 1, 1) := by decide +kernel
theorem dX_keeps_42 : decode cX_keeps 42 = .ok (.iload_n 3, 1) := by decide +kernel
theorem dX_keeps_43 : decode cX_keeps 43 = .ok (.invokevirtual 187, 3) := by decide +kernel
theorem dX_keeps_46 : decode cX_keeps 46 = .ok (.aload_n 1, 1) := by decide +kernel
theorem dX_keeps_47 : decode cX_keeps 47 = .ok (.iload_n 3, 1) := by decide +kernel
theorem dX_keeps_48 : decode cX_keeps 48 = .ok (.iload_n 2, 1) := by decide +kernel
theorem dX_keeps_49 : decode cX_keeps 49 = .ok (.invokevirtual 191, 3) := by decide +kernel
theorem dX_keeps_52 : decode cX_keeps 52 = .ok (.invokevirtual 252, 3) := by decide +kernel
theorem dX_keeps_55 : decode cX_keeps 55 = .ok (.lstore 6, 2) := by decide +kernel
theorem dX_keeps_57 : decode cX_keeps 57 = .ok (.aload_n 0, 1) := by decide +kernel
theorem dX_keeps_58 : decode cX_keeps 58 = .ok (.getfield 12, 3) := by decide +kernel
theorem dX_keeps_61 : decode cX_keeps 61 = .ok (.lload 4, 2) := by decide +kernel
theorem dX_keeps_63 : decode cX_keeps 63 = .ok (.lload 6, 2) := by decide +kernel
theorem dX_keeps_65 : decode cX_keeps 65 = .ok (.invokevirtual 297, 3) := by decide +kernel
theorem dX_keeps_68 : decode cX_keeps 68 = .ok (.aload_n 0, 1) := by decide +kernel
theorem dX_keeps_69 : decode cX_keeps 69 = .ok (.getfield 12, 3) := by decide +kernel
theorem dX_keeps_72 : decode cX_keeps 72 = .ok (.aload_n 1, 1) := by decide +kernel
theorem dX_keeps_73 : decode cX_keeps 73 = .ok (.iload_n 2, 1) := by decide +kernel
theorem dX_keeps_74 : decode cX_keeps 74 = .ok (.invokevirtual 187, 3) := by decide +kernel
theorem dX_keeps_77 : decode cX_keeps 77 = .ok (.aload_n 1, 1) := by decide +kernel
theorem dX_keeps_78 : decode cX_keeps 78 = .ok (.iload_n 3, 1) := by decide +kernel
theorem dX_keeps_79 : decode cX_keeps 79 = .ok (.invokevirtual 187, 3) := by decide +kernel
theorem dX_keeps_82 : decode cX_keeps 82 = .ok (.invokevirtual 252, 3) := by decide +kernel
theorem dX_keeps_85 : decode cX_keeps 85 = .ok (.lcmp, 1) := by decide +kernel
theorem dX_keeps_86 : decode cX_keeps 86 = .ok (.ifCond .eq 5, 3) := by decide +kernel
theorem dX_keeps_89 : decode cX_keeps 89 = .ok (.iconst 0, 1) := by decide +kernel
theorem dX_keeps_90 : decode cX_keeps 90 = .ok (.ireturn, 1) := by decide +kernel
theorem dX_keeps_91 : decode cX_keeps 91 = .ok (.iinc 3 1, 3) := by decide +kernel
theorem dX_keeps_94 : decode cX_keeps 94 = .ok (.goto (-82), 3) := by decide +kernel
theorem dX_keeps_97 : decode cX_keeps 97 = .ok (.iinc 2 1, 3) := by decide +kernel
theorem dX_keeps_100 : decode cX_keeps 100 = .ok (.goto (-98), 3) := by decide +kernel
theorem dX_keeps_103 : decode cX_keeps 103 = .ok (.iconst 1, 1) := by decide +kernel
theorem dX_keeps_104 : decode cX_keeps 104 = .ok (.ireturn, 1) := by decide +kernel
theorem dKe_init_0 : decode cKe_init 0 = .ok (.aload_n 0, 1) := by decide +kernel
theorem dKe_init_1 : decode cKe_init 1 = .ok (.aload_n 1, 1) := by decide +kernel
theorem dKe_init_2 : decode cKe_init 2 = .ok (.aload_n 2, 1) := by decide +kernel
theorem dKe_init_3 : decode cKe_init 3 = .ok (.iload_n 3, 1) := by decide +kernel
theorem dKe_init_4 : decode cKe_init 4 = .ok (.iload 4, 2) := by decide +kernel
theorem dKe_init_6 : decode cKe_init 6 = .ok (.invokespecial 3, 3) := by decide +kernel
theorem dKe_init_9 : decode cKe_init 9 = .ok (.return_, 1) := by decide +kernel
theorem dX_toldTable_0 : decode cX_toldTable 0 = .ok (.aload_n 0, 1) := by decide +kernel
theorem dX_toldTable_1 : decode cX_toldTable 1 = .ok (.aload_n 2, 1) := by decide +kernel
theorem dX_toldTable_2 : decode cX_toldTable 2 = .ok (.invokevirtual 274, 3) := by decide +kernel
theorem dX_toldTable_5 : decode cX_toldTable 5 = .ok (.istore_n 3, 1) := by decide +kernel
theorem dX_toldTable_6 : decode cX_toldTable 6 = .ok (.iload_n 3, 1) := by decide +kernel
theorem dX_toldTable_7 : decode cX_toldTable 7 = .ok (.ldc 135, 2) := by decide +kernel
theorem dX_toldTable_9 : decode cX_toldTable 9 = .ok (.if_icmp .ne 8, 3) := by decide +kernel
theorem dX_toldTable_12 : decode cX_toldTable 12 = .ok (.bipush 6, 2) := by decide +kernel
theorem dX_toldTable_14 : decode cX_toldTable 14 = .ok (.goto 14, 3) := by decide +kernel
theorem dX_toldTable_17 : decode cX_toldTable 17 = .ok (.aload_n 0, 1) := by decide +kernel
theorem dX_toldTable_18 : decode cX_toldTable 18 = .ok (.getfield 21, 3) := by decide +kernel
theorem dX_toldTable_21 : decode cX_toldTable 21 = .ok (.getfield 122, 3) := by decide +kernel
theorem dX_toldTable_24 : decode cX_toldTable 24 = .ok (.iload_n 3, 1) := by decide +kernel
theorem dX_toldTable_25 : decode cX_toldTable 25 = .ok (.iaload, 1) := by decide +kernel
theorem dX_toldTable_26 : decode cX_toldTable 26 = .ok (.iconst 1, 1) := by decide +kernel
theorem dX_toldTable_27 : decode cX_toldTable 27 = .ok (.isub, 1) := by decide +kernel
theorem dX_toldTable_28 : decode cX_toldTable 28 = .ok (.istore 4, 2) := by decide +kernel
theorem dX_toldTable_30 : decode cX_toldTable 30 = .ok (.aload_n 1, 1) := by decide +kernel
theorem dX_toldTable_31 : decode cX_toldTable 31 = .ok (.iconst 0, 1) := by decide +kernel
theorem dX_toldTable_32 : decode cX_toldTable 32 = .ok (.invokevirtual 278, 3) := by decide +kernel
theorem dX_toldTable_35 : decode cX_toldTable 35 = .ok (.ifCond .eq 16, 3) := by decide +kernel
theorem dX_toldTable_38 : decode cX_toldTable 38 = .ok (.new 281, 3) := by decide +kernel
theorem dX_toldTable_41 : decode cX_toldTable 41 = .ok (.dup, 1) := by decide +kernel
theorem dX_toldTable_42 : decode cX_toldTable 42 = .ok (.aload_n 1, 1) := by decide +kernel
theorem dX_toldTable_43 : decode cX_toldTable 43 = .ok (.aload_n 2, 1) := by decide +kernel
theorem dX_toldTable_44 : decode cX_toldTable 44 = .ok (.iload_n 3, 1) := by decide +kernel
theorem dX_toldTable_45 : decode cX_toldTable 45 = .ok (.iload 4, 2) := by decide +kernel
theorem dX_toldTable_47 : decode cX_toldTable 47 = .ok (.invokespecial 283, 3) := by decide +kernel
theorem dX_toldTable_50 : decode cX_toldTable 50 = .ok (.areturn, 1) := by decide +kernel
theorem dX_toldTable_51 : decode cX_toldTable 51 = .ok (.aload_n 0, 1) := by decide +kernel
theorem dX_toldTable_52 : decode cX_toldTable 52 = .ok (.aload_n 1, 1) := by decide +kernel
theorem dX_toldTable_53 : decode cX_toldTable 53 = .ok (.invokevirtual 286, 3) := by decide +kernel
theorem dX_toldTable_56 : decode cX_toldTable 56 = .ok (.ifCond .eq 16, 3) := by decide +kernel
theorem dX_toldTable_59 : decode cX_toldTable 59 = .ok (.new 290, 3) := by decide +kernel
theorem dX_toldTable_62 : decode cX_toldTable 62 = .ok (.dup, 1) := by decide +kernel
theorem dX_toldTable_63 : decode cX_toldTable 63 = .ok (.aload_n 1, 1) := by decide +kernel
theorem dX_toldTable_64 : decode cX_toldTable 64 = .ok (.aload_n 2, 1) := by decide +kernel
theorem dX_toldTable_65 : decode cX_toldTable 65 = .ok (.iload_n 3, 1) := by decide +kernel
theorem dX_toldTable_66 : decode cX_toldTable 66 = .ok (.iload 4, 2) := by decide +kernel
theorem dX_toldTable_68 : decode cX_toldTable 68 = .ok (.invokespecial 292, 3) := by decide +kernel
theorem dX_toldTable_71 : decode cX_toldTable 71 = .ok (.areturn, 1) := by decide +kernel
theorem dX_toldTable_72 : decode cX_toldTable 72 = .ok (.aload_n 1, 1) := by decide +kernel
theorem dX_toldTable_73 : decode cX_toldTable 73 = .ok (.iconst 1, 1) := by decide +kernel
theorem dX_toldTable_74 : decode cX_toldTable 74 = .ok (.invokevirtual 278, 3) := by decide +kernel
theorem dX_toldTable_77 : decode cX_toldTable 77 = .ok (.ifCond .eq 16, 3) := by decide +kernel
theorem dX_toldTable_80 : decode cX_toldTable 80 = .ok (.new 293, 3) := by decide +kernel
theorem dX_toldTable_83 : decode cX_toldTable 83 = .ok (.dup, 1) := by decide +kernel
theorem dX_toldTable_84 : decode cX_toldTable 84 = .ok (.aload_n 1, 1) := by decide +kernel
theorem dX_toldTable_85 : decode cX_toldTable 85 = .ok (.aload_n 2, 1) := by decide +kernel
theorem dX_toldTable_86 : decode cX_toldTable 86 = .ok (.iload_n 3, 1) := by decide +kernel
theorem dX_toldTable_87 : decode cX_toldTable 87 = .ok (.iload 4, 2) := by decide +kernel
theorem dX_toldTable_89 : decode cX_toldTable 89 = .ok (.invokespecial 295, 3) := by decide +kernel
theorem dX_toldTable_92 : decode cX_toldTable 92 = .ok (.areturn, 1) := by decide +kernel
theorem dX_toldTable_93 : decode cX_toldTable 93 = .ok (.new 57, 3) := by decide +kernel
theorem dX_toldTable_96 : decode cX_toldTable 96 = .ok (.dup, 1) := by decide +kernel
theorem dX_toldTable_97 : decode cX_toldTable 97 = .ok (.aload_n 1, 1) := by decide +kernel
theorem dX_toldTable_98 : decode cX_toldTable 98 = .ok (.aload_n 2, 1) := by decide +kernel
theorem dX_toldTable_99 : decode cX_toldTable 99 = .ok (.iload_n 3, 1) := by decide +kernel
theorem dX_toldTable_100 : decode cX_toldTable 100 = .ok (.iload 4, 2) := by decide +kernel
theorem dX_toldTable_102 : decode cX_toldTable 102 = .ok (.invokespecial 296, 3) := by decide +kernel
theorem dX_toldTable_105 : decode cX_toldTable 105 = .ok (.areturn, 1) := by decide +kernel
theorem dTa_told_0 : decode cTa_told 0 = .ok (.iconst 0, 1) := by decide +kernel
theorem dTa_told_1 : decode cTa_told 1 = .ok (.ireturn, 1) := by decide +kernel
theorem dLo_told_0 : decode cLo_told 0 = .ok (.iconst 1, 1) := by decide +kernel
theorem dLo_told_1 : decode cLo_told 1 = .ok (.ireturn, 1) := by decide +kernel
theorem dPl_told_0 : decode cPl_told 0 = .ok (.iconst 2, 1) := by decide +kernel
theorem dPl_told_1 : decode cPl_told 1 = .ok (.ireturn, 1) := by decide +kernel
theorem dKe_told_0 : decode cKe_told 0 = .ok (.iconst 3, 1) := by decide +kernel
theorem dKe_told_1 : decode cKe_told 1 = .ok (.ireturn, 1) := by decide +kernel
theorem dX_shelve_0 : decode cX_shelve 0 = .ok (.aload_n 0, 1) := by decide +kernel
theorem dX_shelve_1 : decode cX_shelve 1 = .ok (.aload_n 2, 1) := by decide +kernel
theorem dX_shelve_2 : decode cX_shelve 2 = .ok (.aload_n 0, 1) := by decide +kernel
theorem dX_shelve_3 : decode cX_shelve 3 = .ok (.getfield 30, 3) := by decide +kernel
theorem dX_shelve_6 : decode cX_shelve 6 = .ok (.aload_n 2, 1) := by decide +kernel
theorem dX_shelve_7 : decode cX_shelve 7 = .ok (.invokevirtual 267, 3) := by decide +kernel
theorem dX_shelve_10 : decode cX_shelve 10 = .ok (.invokevirtual 270, 3) := by decide +kernel
theorem dX_shelve_13 : decode cX_shelve 13 = .ok (.astore_n 3, 1) := by decide +kernel
theorem dX_shelve_14 : decode cX_shelve 14 = .ok (.aload_n 0, 1) := by decide +kernel
theorem dX_shelve_15 : decode cX_shelve 15 = .ok (.getfield 59, 3) := by decide +kernel
theorem dX_shelve_18 : decode cX_shelve 18 = .ok (.iload_n 1, 1) := by decide +kernel
theorem dX_shelve_19 : decode cX_shelve 19 = .ok (.aload_n 3, 1) := by decide +kernel
theorem dX_shelve_20 : decode cX_shelve 20 = .ok (.aastore, 1) := by decide +kernel
theorem dX_shelve_21 : decode cX_shelve 21 = .ok (.aload_n 0, 1) := by decide +kernel
theorem dX_shelve_22 : decode cX_shelve 22 = .ok (.aload_n 3, 1) := by decide +kernel
theorem dX_shelve_23 : decode cX_shelve 23 = .ok (.invokevirtual 195, 3) := by decide +kernel
theorem dX_shelve_26 : decode cX_shelve 26 = .ok (.invokevirtual 80, 3) := by decide +kernel
theorem dX_shelve_29 : decode cX_shelve 29 = .ok (.ireturn, 1) := by decide +kernel
theorem dX_table_0 : decode cX_table 0 = .ok (.iload_n 1, 1) := by decide +kernel
theorem dX_table_1 : decode cX_table 1 = .ok (.invokestatic 143, 3) := by decide +kernel
theorem dX_table_4 : decode cX_table 4 = .ok (.ifCond .ne 22, 3) := by decide +kernel
theorem dX_table_7 : decode cX_table 7 = .ok (.iload_n 2, 1) := by decide +kernel
theorem dX_table_8 : decode cX_table 8 = .ok (.invokestatic 67, 3) := by decide +kernel
theorem dX_table_11 : decode cX_table 11 = .ok (.ifCond .ne 15, 3) := by decide +kernel
theorem dX_table_14 : decode cX_table 14 = .ok (.iload 4, 2) := by decide +kernel
theorem dX_table_16 : decode cX_table 16 = .ok (.iconst 1, 1) := by decide +kernel
theorem dX_table_17 : decode cX_table 17 = .ok (.if_icmp .lt 9, 3) := by decide +kernel
theorem dX_table_20 : decode cX_table 20 = .ok (.iload 4, 2) := by decide +kernel
theorem dX_table_22 : decode cX_table 22 = .ok (.iconst 4, 1) := by decide +kernel
theorem dX_table_23 : decode cX_table 23 = .ok (.if_icmp .le 6, 3) := by decide +kernel
theorem dX_table_26 : decode cX_table 26 = .ok (.ldc 71, 2) := by decide +kernel
theorem dX_table_28 : decode cX_table 28 = .ok (.ireturn, 1) := by decide +kernel
theorem dX_table_29 : decode cX_table 29 = .ok (.aload_n 0, 1) := by decide +kernel
theorem dX_table_30 : decode cX_table 30 = .ok (.getfield 52, 3) := by decide +kernel
theorem dX_table_33 : decode cX_table 33 = .ok (.iload_n 2, 1) := by decide +kernel
theorem dX_table_34 : decode cX_table 34 = .ok (.aaload, 1) := by decide +kernel
theorem dX_table_35 : decode cX_table 35 = .ok (.astore 5, 2) := by decide +kernel
theorem dX_table_37 : decode cX_table 37 = .ok (.aload 5, 2) := by decide +kernel
theorem dX_table_39 : decode cX_table 39 = .ok (.invokevirtual 85, 3) := by decide +kernel
theorem dX_table_42 : decode cX_table 42 = .ok (.ifCond .eq 9, 3) := by decide +kernel
theorem dX_table_45 : decode cX_table 45 = .ok (.aload_n 0, 1) := by decide +kernel
theorem dX_table_46 : decode cX_table 46 = .ok (.iconst 1, 1) := by decide +kernel
theorem dX_table_47 : decode cX_table 47 = .ok (.invokevirtual 72, 3) := by decide +kernel
theorem dX_table_50 : decode cX_table 50 = .ok (.ireturn, 1) := by decide +kernel
theorem dX_table_51 : decode cX_table 51 = .ok (.new 146, 3) := by decide +kernel
theorem dX_table_54 : decode cX_table 54 = .ok (.dup, 1) := by decide +kernel
theorem dX_table_55 : decode cX_table 55 = .ok (.iload 4, 2) := by decide +kernel
theorem dX_table_57 : decode cX_table 57 = .ok (.invokespecial 148, 3) := by decide +kernel
theorem dX_table_60 : decode cX_table 60 = .ok (.astore 6, 2) := by decide +kernel
theorem dX_table_62 : decode cX_table 62 = .ok (.aload 5, 2) := by decide +kernel
theorem dX_table_64 : decode cX_table 64 = .ok (.iload_n 3, 1) := by decide +kernel
theorem dX_table_65 : decode cX_table 65 = .ok (.iconst 2, 1) := by decide +kernel
theorem dX_table_66 : decode cX_table 66 = .ok (.aload 6, 2) := by decide +kernel
theorem dX_table_68 : decode cX_table 68 = .ok (.getfield 149, 3) := by decide +kernel
theorem dX_table_71 : decode cX_table 71 = .ok (.arraylength, 1) := by decide +kernel
theorem dX_table_72 : decode cX_table 72 = .ok (.imul, 1) := by decide +kernel
theorem dX_table_73 : decode cX_table 73 = .ok (.invokevirtual 89, 3) := by decide +kernel
theorem dX_table_76 : decode cX_table 76 = .ok (.ifCond .ne 9, 3) := by decide +kernel
theorem dX_table_79 : decode cX_table 79 = .ok (.aload_n 0, 1) := by decide +kernel
theorem dX_table_80 : decode cX_table 80 = .ok (.iconst 2, 1) := by decide +kernel
theorem dX_table_81 : decode cX_table 81 = .ok (.invokevirtual 72, 3) := by decide +kernel
theorem dX_table_84 : decode cX_table 84 = .ok (.ireturn, 1) := by decide +kernel
theorem dX_table_85 : decode cX_table 85 = .ok (.aload_n 0, 1) := by decide +kernel
theorem dX_table_86 : decode cX_table 86 = .ok (.aload 5, 2) := by decide +kernel
theorem dX_table_88 : decode cX_table 88 = .ok (.iload_n 3, 1) := by decide +kernel
theorem dX_table_89 : decode cX_table 89 = .ok (.aload 6, 2) := by decide +kernel
theorem dX_table_91 : decode cX_table 91 = .ok (.getfield 149, 3) := by decide +kernel
theorem dX_table_94 : decode cX_table 94 = .ok (.invokevirtual 152, 3) := by decide +kernel
theorem dX_table_97 : decode cX_table 97 = .ok (.ifCond .ne 6, 3) := by decide +kernel
theorem dX_table_100 : decode cX_table 100 = .ok (.ldc 71, 2) := by decide +kernel
theorem dX_table_102 : decode cX_table 102 = .ok (.ireturn, 1) := by decide +kernel
theorem dX_table_103 : decode cX_table 103 = .ok (.aload_n 0, 1) := by decide +kernel
theorem dX_table_104 : decode cX_table 104 = .ok (.iload_n 1, 1) := by decide +kernel
theorem dX_table_105 : decode cX_table 105 = .ok (.aload 6, 2) := by decide +kernel
theorem dX_table_107 : decode cX_table 107 = .ok (.invokevirtual 156, 3) := by decide +kernel
theorem dX_table_110 : decode cX_table 110 = .ok (.ireturn, 1) := by decide +kernel
theorem dSg_putA_0 : decode cSg_putA 0 = .ok (.aload_n 0, 1) := by decide +kernel
theorem dSg_putA_1 : decode cSg_putA 1 = .ok (.getfield 21, 3) := by decide +kernel
theorem dSg_putA_4 : decode cSg_putA 4 = .ok (.iload_n 1, 1) := by decide +kernel
theorem dSg_putA_5 : decode cSg_putA 5 = .ok (.aload_n 0, 1) := by decide +kernel
theorem dSg_putA_6 : decode cSg_putA 6 = .ok (.getfield 15, 3) := by decide +kernel
theorem dSg_putA_9 : decode cSg_putA 9 = .ok (.imul, 1) := by decide +kernel
theorem dSg_putA_10 : decode cSg_putA 10 = .ok (.iload_n 2, 1) := by decide +kernel
theorem dSg_putA_11 : decode cSg_putA 11 = .ok (.iadd, 1) := by decide +kernel
theorem dSg_putA_12 : decode cSg_putA 12 = .ok (.lload_n 3, 1) := by decide +kernel
theorem dSg_putA_13 : decode cSg_putA 13 = .ok (.l2i, 1) := by decide +kernel
theorem dSg_putA_14 : decode cSg_putA 14 = .ok (.iastore, 1) := by decide +kernel
theorem dSg_putA_15 : decode cSg_putA 15 = .ok (.return_, 1) := by decide +kernel
theorem dSg_putB_0 : decode cSg_putB 0 = .ok (.aload_n 0, 1) := by decide +kernel
theorem dSg_putB_1 : decode cSg_putB 1 = .ok (.getfield 21, 3) := by decide +kernel
theorem dSg_putB_4 : decode cSg_putB 4 = .ok (.aload_n 0, 1) := by decide +kernel
theorem dSg_putB_5 : decode cSg_putB 5 = .ok (.getfield 15, 3) := by decide +kernel
theorem dSg_putB_8 : decode cSg_putB 8 = .ok (.aload_n 0, 1) := by decide +kernel
theorem dSg_putB_9 : decode cSg_putB 9 = .ok (.getfield 15, 3) := by decide +kernel
theorem dSg_putB_12 : decode cSg_putB 12 = .ok (.imul, 1) := by decide +kernel
theorem dSg_putB_13 : decode cSg_putB 13 = .ok (.iload_n 1, 1) := by decide +kernel
theorem dSg_putB_14 : decode cSg_putB 14 = .ok (.iadd, 1) := by decide +kernel
theorem dSg_putB_15 : decode cSg_putB 15 = .ok (.lload_n 2, 1) := by decide +kernel
theorem dSg_putB_16 : decode cSg_putB 16 = .ok (.l2i, 1) := by decide +kernel
theorem dSg_putB_17 : decode cSg_putB 17 = .ok (.iastore, 1) := by decide +kernel
theorem dSg_putB_18 : decode cSg_putB 18 = .ok (.return_, 1) := by decide +kernel
theorem dX_joined_0 : decode cX_joined 0 = .ok (.aload_n 1, 1) := by decide +kernel
theorem dX_joined_1 : decode cX_joined 1 = .ok (.getfield 164, 3) := by decide +kernel
theorem dX_joined_4 : decode cX_joined 4 = .ok (.istore_n 3, 1) := by decide +kernel
theorem dX_joined_5 : decode cX_joined 5 = .ok (.new 146, 3) := by decide +kernel
theorem dX_joined_8 : decode cX_joined 8 = .ok (.dup, 1) := by decide +kernel
theorem dX_joined_9 : decode cX_joined 9 = .ok (.iload_n 3, 1) := by decide +kernel
theorem dX_joined_10 : decode cX_joined 10 = .ok (.aload_n 2, 1) := by decide +kernel
theorem dX_joined_11 : decode cX_joined 11 = .ok (.getfield 164, 3) := by decide +kernel
theorem dX_joined_14 : decode cX_joined 14 = .ok (.iadd, 1) := by decide +kernel
theorem dX_joined_15 : decode cX_joined 15 = .ok (.invokespecial 148, 3) := by decide +kernel
theorem dX_joined_18 : decode cX_joined 18 = .ok (.astore 4, 2) := by decide +kernel
theorem dX_joined_20 : decode cX_joined 20 = .ok (.iconst 0, 1) := by decide +kernel
theorem dX_joined_21 : decode cX_joined 21 = .ok (.istore 5, 2) := by decide +kernel
theorem dX_joined_23 : decode cX_joined 23 = .ok (.iload 5, 2) := by decide +kernel
theorem dX_joined_25 : decode cX_joined 25 = .ok (.iload_n 3, 1) := by decide +kernel
theorem dX_joined_26 : decode cX_joined 26 = .ok (.if_icmp .ge 88, 3) := by decide +kernel
theorem dX_joined_29 : decode cX_joined 29 = .ok (.iconst 0, 1) := by decide +kernel
theorem dX_joined_30 : decode cX_joined 30 = .ok (.istore 6, 2) := by decide +kernel
theorem dX_joined_32 : decode cX_joined 32 = .ok (.iload 6, 2) := by decide +kernel
theorem dX_joined_34 : decode cX_joined 34 = .ok (.iload_n 3, 1) := by decide +kernel
theorem dX_joined_35 : decode cX_joined 35 = .ok (.if_icmp .ge 26, 3) := by decide +kernel
theorem dX_joined_38 : decode cX_joined 38 = .ok (.aload 4, 2) := by decide +kernel
theorem dX_joined_40 : decode cX_joined 40 = .ok (.iload 6, 2) := by decide +kernel
theorem dX_joined_42 : decode cX_joined 42 = .ok (.iload 5, 2) := by decide +kernel
theorem dX_joined_44 : decode cX_joined 44 = .ok (.aload_n 1, 1) := by decide +kernel
theorem dX_joined_45 : decode cX_joined 45 = .ok (.iload 6, 2) := by decide +kernel
theorem dX_joined_47 : decode cX_joined 47 = .ok (.iload 5, 2) := by decide +kernel
