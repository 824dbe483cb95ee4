theorem d_Ma_floorMod_0 : decode b_Ma_floorMod 0 = .ok (.iload_n 0, 1) := by decide +kernel
theorem d_Ma_floorMod_1 : decode b_Ma_floorMod 1 = .ok (.iload_n 1, 1) := by decide +kernel
theorem d_Ma_floorMod_2 : decode b_Ma_floorMod 2 = .ok (.irem, 1) := by decide +kernel
theorem d_Ma_floorMod_3 : decode b_Ma_floorMod 3 = .ok (.istore_n 2, 1) := by decide +kernel
theorem d_Ma_floorMod_4 : decode b_Ma_floorMod 4 = .ok (.iload_n 0, 1) := by decide +kernel
theorem d_Ma_floorMod_5 : decode b_Ma_floorMod 5 = .ok (.iload_n 1, 1) := by decide +kernel
theorem d_Ma_floorMod_6 : decode b_Ma_floorMod 6 = .ok (.ixor, 1) := by decide +kernel
theorem d_Ma_floorMod_7 : decode b_Ma_floorMod 7 = .ok (.ifCond .ge 11, 3) := by decide +kernel
theorem d_Ma_floorMod_10 : decode b_Ma_floorMod 10 = .ok (.iload_n 2, 1) := by decide +kernel
theorem d_Ma_floorMod_11 : decode b_Ma_floorMod 11 = .ok (.ifCond .eq 7, 3) := by decide +kernel
theorem d_Ma_floorMod_14 : decode b_Ma_floorMod 14 = .ok (.iload_n 2, 1) := by decide +kernel
theorem d_Ma_floorMod_15 : decode b_Ma_floorMod 15 = .ok (.iload_n 1, 1) := by decide +kernel
theorem d_Ma_floorMod_16 : decode b_Ma_floorMod 16 = .ok (.iadd, 1) := by decide +kernel
theorem d_Ma_floorMod_17 : decode b_Ma_floorMod 17 = .ok (.ireturn, 1) := by decide +kernel
theorem d_Ma_floorMod_18 : decode b_Ma_floorMod 18 = .ok (.iload_n 2, 1) := by decide +kernel
theorem d_Ma_floorMod_19 : decode b_Ma_floorMod 19 = .ok (.ireturn, 1) := by decide +kernel
theorem d_Ar_fill_0 : decode b_Ar_fill 0 = .ok (.iconst 0, 1) := by decide +kernel
theorem d_Ar_fill_1 : decode b_Ar_fill 1 = .ok (.istore_n 2, 1) := by decide +kernel
theorem d_Ar_fill_2 : decode b_Ar_fill 2 = .ok (.aload_n 0, 1) := by decide +kernel
theorem d_Ar_fill_3 : decode b_Ar_fill 3 = .ok (.arraylength, 1) := by decide +kernel
theorem d_Ar_fill_4 : decode b_Ar_fill 4 = .ok (.istore_n 3, 1) := by decide +kernel
theorem d_Ar_fill_5 : decode b_Ar_fill 5 = .ok (.iload_n 2, 1) := by decide +kernel
theorem d_Ar_fill_6 : decode b_Ar_fill 6 = .ok (.iload_n 3, 1) := by decide +kernel
theorem d_Ar_fill_7 : decode b_Ar_fill 7 = .ok (.if_icmp .ge 13, 3) := by decide +kernel
theorem d_Ar_fill_10 : decode b_Ar_fill 10 = .ok (.aload_n 0, 1) := by decide +kernel
theorem d_Ar_fill_11 : decode b_Ar_fill 11 = .ok (.iload_n 2, 1) := by decide +kernel
theorem d_Ar_fill_12 : decode b_Ar_fill 12 = .ok (.iload_n 1, 1) := by decide +kernel
theorem d_Ar_fill_13 : decode b_Ar_fill 13 = .ok (.iastore, 1) := by decide +kernel
theorem d_Ar_fill_14 : decode b_Ar_fill 14 = .ok (.iinc 2 1, 3) := by decide +kernel
theorem d_Ar_fill_17 : decode b_Ar_fill 17 = .ok (.goto (-12), 3) := by decide +kernel
theorem d_Ar_fill_20 : decode b_Ar_fill 20 = .ok (.return_, 1) := by decide +kernel
theorem d_Ke_init_0 : decode b_Ke_init 0 = .ok (.aload_n 0, 1) := by decide +kernel
theorem d_Ke_init_1 : decode b_Ke_init 1 = .ok (.invokespecial 3, 3) := by decide +kernel
theorem d_Ke_init_4 : decode b_Ke_init 4 = .ok (.aload_n 0, 1) := by decide +kernel
theorem d_Ke_init_5 : decode b_Ke_init 5 = .ok (.new 9, 3) := by decide +kernel
theorem d_Ke_init_8 : decode b_Ke_init 8 = .ok (.dup, 1) := by decide +kernel
theorem d_Ke_init_9 : decode b_Ke_init 9 = .ok (.invokespecial 11, 3) := by decide +kernel
theorem d_Ke_init_12 : decode b_Ke_init 12 = .ok (.putfield 12, 3) := by decide +kernel
theorem d_Ke_init_15 : decode b_Ke_init 15 = .ok (.aload_n 0, 1) := by decide +kernel
theorem d_Ke_init_16 : decode b_Ke_init 16 = .ok (.new 16, 3) := by decide +kernel
theorem d_Ke_init_19 : decode b_Ke_init 19 = .ok (.dup, 1) := by decide +kernel
theorem d_Ke_init_20 : decode b_Ke_init 20 = .ok (.invokespecial 18, 3) := by decide +kernel
theorem d_Ke_init_23 : decode b_Ke_init 23 = .ok (.putfield 19, 3) := by decide +kernel
theorem d_Ke_init_26 : decode b_Ke_init 26 = .ok (.aload_n 0, 1) := by decide +kernel
theorem d_Ke_init_27 : decode b_Ke_init 27 = .ok (.bipush 6, 2) := by decide +kernel
theorem d_Ke_init_29 : decode b_Ke_init 29 = .ok (.anewarray 23, 3) := by decide +kernel
theorem d_Ke_init_32 : decode b_Ke_init 32 = .ok (.putfield 25, 3) := by decide +kernel
theorem d_Ke_init_35 : decode b_Ke_init 35 = .ok (.aload_n 0, 1) := by decide +kernel
theorem d_Ke_init_36 : decode b_Ke_init 36 = .ok (.iconst 2, 1) := by decide +kernel
theorem d_Ke_init_37 : decode b_Ke_init 37 = .ok (.anewarray 29, 3) := by decide +kernel
theorem d_Ke_init_40 : decode b_Ke_init 40 = .ok (.putfield 31, 3) := by decide +kernel
theorem d_Ke_init_43 : decode b_Ke_init 43 = .ok (.aload_n 0, 1) := by decide +kernel
theorem d_Ke_init_44 : decode b_Ke_init 44 = .ok (.iconst 4, 1) := by decide +kernel
theorem d_Ke_init_45 : decode b_Ke_init 45 = .ok (.anewarray 35, 3) := by decide +kernel
theorem d_Ke_init_48 : decode b_Ke_init 48 = .ok (.putfield 37, 3) := by decide +kernel
theorem d_Ke_init_51 : decode b_Ke_init 51 = .ok (.aload_n 0, 1) := by decide +kernel
theorem d_Ke_init_52 : decode b_Ke_init 52 = .ok (.iconst 4, 1) := by decide +kernel
theorem d_Ke_init_53 : decode b_Ke_init 53 = .ok (.anewarray 41, 3) := by decide +kernel
theorem d_Ke_init_56 : decode b_Ke_init 56 = .ok (.putfield 43, 3) := by decide +kernel
theorem d_Ke_init_59 : decode b_Ke_init 59 = .ok (.iconst 0, 1) := by decide +kernel
theorem d_Ke_init_60 : decode b_Ke_init 60 = .ok (.istore_n 1, 1) := by decide +kernel
theorem d_Ke_init_61 : decode b_Ke_init 61 = .ok (.iload_n 1, 1) := by decide +kernel
theorem d_Ke_init_62 : decode b_Ke_init 62 = .ok (.bipush 6, 2) := by decide +kernel
theorem d_Ke_init_64 : decode b_Ke_init 64 = .ok (.if_icmp .ge 23, 3) := by decide +kernel
theorem d_Ke_init_67 : decode b_Ke_init 67 = .ok (.aload_n 0, 1) := by decide +kernel
theorem d_Ke_init_68 : decode b_Ke_init 68 = .ok (.getfield 25, 3) := by decide +kernel
theorem d_Ke_init_71 : decode b_Ke_init 71 = .ok (.iload_n 1, 1) := by decide +kernel
theorem d_Ke_init_72 : decode b_Ke_init 72 = .ok (.new 23, 3) := by decide +kernel
theorem d_Ke_init_75 : decode b_Ke_init 75 = .ok (.dup, 1) := by decide +kernel
theorem d_Ke_init_76 : decode b_Ke_init 76 = .ok (.iload_n 1, 1) := by decide +kernel
theorem d_Ke_init_77 : decode b_Ke_init 77 = .ok (.invokespecial 47, 3) := by decide +kernel
theorem d_Ke_init_80 : decode b_Ke_init 80 = .ok (.aastore, 1) := by decide +kernel
theorem d_Ke_init_81 : decode b_Ke_init 81 = .ok (.iinc 1 1, 3) := by decide +kernel
theorem d_Ke_init_84 : decode b_Ke_init 84 = .ok (.goto (-23), 3) := by decide +kernel
theorem d_Ke_init_87 : decode b_Ke_init 87 = .ok (.iconst 0, 1) := by decide +kernel
theorem d_Ke_init_88 : decode b_Ke_init 88 = .ok (.istore_n 1, 1) := by decide +kernel
theorem d_Ke_init_89 : decode b_Ke_init 89 = .ok (.iload_n 1, 1) := by decide +kernel
theorem d_Ke_init_90 : decode b_Ke_init 90 = .ok (.iconst 2, 1) := by decide +kernel
theorem d_Ke_init_91 : decode b_Ke_init 91 = .ok (.if_icmp .ge 22, 3) := by decide +kernel
theorem d_Ke_init_94 : decode b_Ke_init 94 = .ok (.aload_n 0, 1) := by decide +kernel
theorem d_Ke_init_95 : decode b_Ke_init 95 = .ok (.getfield 31, 3) := by decide +kernel
theorem d_Ke_init_98 : decode b_Ke_init 98 = .ok (.iload_n 1, 1) := by decide +kernel
theorem d_Ke_init_99 : decode b_Ke_init 99 = .ok (.new 29, 3) := by decide +kernel
theorem d_Ke_init_102 : decode b_Ke_init 102 = .ok (.dup, 1) := by decide +kernel
theorem d_Ke_init_103 : decode b_Ke_init 103 = .ok (.invokespecial 50, 3) := by decide +kernel
theorem d_Ke_init_106 : decode b_Ke_init 106 = .ok (.aastore, 1) := by decide +kernel
theorem d_Ke_init_107 : decode b_Ke_init 107 = .ok (.iinc 1 1, 3) := by decide +kernel
theorem d_Ke_init_110 : decode b_Ke_init 110 = .ok (.goto (-21), 3) := by decide +kernel
theorem d_Ke_init_113 : decode b_Ke_init 113 = .ok (.iconst 0, 1) := by decide +kernel
theorem d_Ke_init_114 : decode b_Ke_init 114 = .ok (.istore_n 1, 1) := by decide +kernel
theorem d_Ke_init_115 : decode b_Ke_init 115 = .ok (.iload_n 1, 1) := by decide +kernel
theorem d_Ke_init_116 : decode b_Ke_init 116 = .ok (.iconst 4, 1) := by decide +kernel
theorem d_Ke_init_117 : decode b_Ke_init 117 = .ok (.if_icmp .ge 35, 3) := by decide +kernel
theorem d_Ke_init_120 : decode b_Ke_init 120 = .ok (.aload_n 0, 1) := by decide +kernel
theorem d_Ke_init_121 : decode b_Ke_init 121 = .ok (.getfield 37, 3) := by decide +kernel
theorem d_Ke_init_124 : decode b_Ke_init 124 = .ok (.iload_n 1, 1) := by decide +kernel
theorem d_Ke_init_125 : decode b_Ke_init 125 = .ok (.new 35, 3) := by decide +kernel
theorem d_Ke_init_128 : decode b_Ke_init 128 = .ok (.dup, 1) := by decide +kernel
theorem d_Ke_init_129 : decode b_Ke_init 129 = .ok (.invokespecial 51, 3) := by decide +kernel
theorem d_Ke_init_132 : decode b_Ke_init 132 = .ok (.aastore, 1) := by decide +kernel
theorem d_Ke_init_133 : decode b_Ke_init 133 = .ok (.aload_n 0, 1) := by decide +kernel
theorem d_Ke_init_134 : decode b_Ke_init 134 = .ok (.getfield 43, 3) := by decide +kernel
theorem d_Ke_init_137 : decode b_Ke_init 137 = .ok (.iload_n 1, 1) := by decide +kernel
theorem d_Ke_init_138 : decode b_Ke_init 138 = .ok (.new 41, 3) := by decide +kernel
theorem d_Ke_init_141 : decode b_Ke_init 141 = .ok (.dup, 1) := by decide +kernel
theorem d_Ke_init_142 : decode b_Ke_init 142 = .ok (.invokespecial 52, 3) := by decide +kernel
theorem d_Ke_init_145 : decode b_Ke_init 145 = .ok (.aastore, 1) := by decide +kernel
theorem d_Ke_init_146 : decode b_Ke_init 146 = .ok (.iinc 1 1, 3) := by decide +kernel
theorem d_Ke_init_149 : decode b_Ke_init 149 = .ok (.goto (-34), 3) := by decide +kernel
theorem d_Ke_init_152 : decode b_Ke_init 152 = .ok (.aload_n 0, 1) := by decide +kernel
theorem d_Ke_init_153 : decode b_Ke_init 153 = .ok (.getfield 25, 3) := by decide +kernel
theorem d_Ke_init_156 : decode b_Ke_init 156 = .ok (.iconst 0, 1) := by decide +kernel
theorem d_Ke_init_157 : decode b_Ke_init 157 = .ok (.aaload, 1) := by decide +kernel
theorem d_Ke_init_158 : decode b_Ke_init 158 = .ok (.iconst 0, 1) := by decide +kernel
theorem d_Ke_init_159 : decode b_Ke_init 159 = .ok (.bipush 12, 2) := by decide +kernel
theorem d_Ke_init_161 : decode b_Ke_init 161 = .ok (.iconst (-1), 1) := by decide +kernel
theorem d_Ke_init_162 : decode b_Ke_init 162 = .ok (.invokevirtual 53, 3) := by decide +kernel
theorem d_Ke_init_165 : decode b_Ke_init 165 = .ok (.aload_n 0, 1) := by decide +kernel
theorem d_Ke_init_166 : decode b_Ke_init 166 = .ok (.aload_n 0, 1) := by decide +kernel
theorem d_Ke_init_167 : decode b_Ke_init 167 = .ok (.getfield 25, 3) := by decide +kernel
theorem d_Ke_init_170 : decode b_Ke_init 170 = .ok (.iconst 0, 1) := by decide +kernel
theorem d_Ke_init_171 : decode b_Ke_init 171 = .ok (.aaload, 1) := by decide +kernel
theorem d_Ke_init_172 : decode b_Ke_init 172 = .ok (.invokevirtual 57, 3) := by decide +kernel
theorem d_Ke_init_175 : decode b_Ke_init 175 = .ok (.return_, 1) := by decide +kernel
theorem d_Ke_code_0 : decode b_Ke_code 0 = .ok (.iload_n 1, 1) := by decide +kernel
theorem d_Ke_code_1 : decode b_Ke_code 1 = .ok (.bipush 32, 2) := by decide +kernel
theorem d_Ke_code_3 : decode b_Ke_code 3 = .ok (.invokestatic 61, 3) := by decide +kernel
theorem d_Ke_code_6 : decode b_Ke_code 6 = .ok (.iload_n 2, 1) := by decide +kernel
theorem d_Ke_code_7 : decode b_Ke_code 7 = .ok (.bipush 22, 2) := by decide +kernel
theorem d_Ke_code_9 : decode b_Ke_code 9 = .ok (.invokestatic 61, 3) := by decide +kernel
theorem d_Ke_code_12 : decode b_Ke_code 12 = .ok (.iload_n 3, 1) := by decide +kernel
theorem d_Ke_code_13 : decode b_Ke_code 13 = .ok (.iconst 4, 1) := by decide +kernel
theorem d_Ke_code_14 : decode b_Ke_code 14 = .ok (.invokestatic 61, 3) := by decide +kernel
theorem d_Ke_code_17 : decode b_Ke_code 17 = .ok (.iload 4, 2) := by decide +kernel
theorem d_Ke_code_19 : decode b_Ke_code 19 = .ok (.iconst 4, 1) := by decide +kernel
theorem d_Ke_code_20 : decode b_Ke_code 20 = .ok (.invokestatic 61, 3) := by decide +kernel
theorem d_Ke_code_23 : decode b_Ke_code 23 = .ok (.aload_n 0, 1) := by decide +kernel
theorem d_Ke_code_24 : decode b_Ke_code 24 = .ok (.getfield 12, 3) := by decide +kernel
theorem d_Ke_code_27 : decode b_Ke_code 27 = .ok (.iload_n 1, 1) := by decide +kernel
theorem d_Ke_code_28 : decode b_Ke_code 28 = .ok (.iload_n 2, 1) := by decide +kernel
theorem d_Ke_code_29 : decode b_Ke_code 29 = .ok (.iload_n 3, 1) := by decide +kernel
theorem d_Ke_code_30 : decode b_Ke_code 30 = .ok (.iload 4, 2) := by decide +kernel
theorem d_Ke_code_32 : decode b_Ke_code 32 = .ok (.iload 5, 2) := by decide +kernel
theorem d_Ke_code_34 : decode b_Ke_code 34 = .ok (.invokevirtual 65, 3) := by decide +kernel
theorem d_Ke_code_37 : decode b_Ke_code 37 = .ok (.return_, 1) := by decide +kernel
theorem d_Ke_run_0 : decode b_Ke_run 0 = .ok (.iload_n 1, 1) := by decide +kernel
theorem d_Ke_run_1 : decode b_Ke_run 1 = .ok (.iconst 1, 1) := by decide +kernel
theorem d_Ke_run_2 : decode b_Ke_run 2 = .ok (.if_icmp .lt 10, 3) := by decide +kernel
theorem d_Ke_run_5 : decode b_Ke_run 5 = .ok (.iload_n 1, 1) := by decide +kernel
theorem d_Ke_run_6 : decode b_Ke_run 6 = .ok (.sipush 300, 3) := by decide +kernel
theorem d_Ke_run_9 : decode b_Ke_run 9 = .ok (.if_icmp .le 13, 3) := by decide +kernel
theorem d_Ke_run_12 : decode b_Ke_run 12 = .ok (.new 69, 3) := by decide +kernel
theorem d_Ke_run_15 : decode b_Ke_run 15 = .ok (.dup, 1) := by decide +kernel
theorem d_Ke_run_16 : decode b_Ke_run 16 = .ok (.ldc 71, 2) := by decide +kernel
theorem d_Ke_run_18 : decode b_Ke_run 18 = .ok (.invokespecial 73, 3) := by decide +kernel
theorem d_Ke_run_21 : decode b_Ke_run 21 = .ok (.athrow, 1) := by decide +kernel
theorem d_Ke_run_22 : decode b_Ke_run 22 = .ok (.iconst 0, 1) := by decide +kernel
theorem d_Ke_run_23 : decode b_Ke_run 23 = .ok (.istore_n 2, 1) := by decide +kernel
theorem d_Ke_run_24 : decode b_Ke_run 24 = .ok (.iload_n 2, 1) := by decide +kernel
theorem d_Ke_run_25 : decode b_Ke_run 25 = .ok (.iload_n 1, 1) := by decide +kernel
theorem d_Ke_run_26 : decode b_Ke_run 26 = .ok (.if_icmp .ge 69, 3) := by decide +kernel
theorem d_Ke_run_29 : decode b_Ke_run 29 = .ok (.aload_n 0, 1) := by decide +kernel
theorem d_Ke_run_30 : decode b_Ke_run 30 = .ok (.getfield 31, 3) := by decide +kernel
theorem d_Ke_run_33 : decode b_Ke_run 33 = .ok (.iconst 0, 1) := by decide +kernel
theorem d_Ke_run_34 : decode b_Ke_run 34 = .ok (.aaload, 1) := by decide +kernel
theorem d_Ke_run_35 : decode b_Ke_run 35 = .ok (.invokevirtual 76, 3) := by decide +kernel
theorem d_Ke_run_38 : decode b_Ke_run 38 = .ok (.ifCond .eq 21, 3) := by decide +kernel
theorem d_Ke_run_41 : decode b_Ke_run 41 = .ok (.aload_n 0, 1) := by decide +kernel
theorem d_Ke_run_42 : decode b_Ke_run 42 = .ok (.getfield 31, 3) := by decide +kernel
theorem d_Ke_run_45 : decode b_Ke_run 45 = .ok (.iconst 1, 1) := by decide +kernel
theorem d_Ke_run_46 : decode b_Ke_run 46 = .ok (.aaload, 1) := by decide +kernel
theorem d_Ke_run_47 : decode b_Ke_run 47 = .ok (.invokevirtual 76, 3) := by decide +kernel
theorem d_Ke_run_50 : decode b_Ke_run 50 = .ok (.ifCond .eq 9, 3) := by decide +kernel
theorem d_Ke_run_53 : decode b_Ke_run 53 = .ok (.aload_n 0, 1) := by decide +kernel
theorem d_Ke_run_54 : decode b_Ke_run 54 = .ok (.invokevirtual 80, 3) := by decide +kernel
theorem d_Ke_run_57 : decode b_Ke_run 57 = .ok (.iload_n 2, 1) := by decide +kernel
theorem d_Ke_run_58 : decode b_Ke_run 58 = .ok (.ireturn, 1) := by decide +kernel
theorem d_Ke_run_59 : decode b_Ke_run 59 = .ok (.aload_n 0, 1) := by decide +kernel
theorem d_Ke_run_60 : decode b_Ke_run 60 = .ok (.dup, 1) := by decide +kernel
theorem d_Ke_run_61 : decode b_Ke_run 61 = .ok (.getfield 83, 3) := by decide +kernel
theorem d_Ke_run_64 : decode b_Ke_run 64 = .ok (.iconst 1, 1) := by decide +kernel
theorem d_Ke_run_65 : decode b_Ke_run 65 = .ok (.iadd, 1) := by decide +kernel
theorem d_Ke_run_66 : decode b_Ke_run 66 = .ok (.putfield 83, 3) := by decide +kernel
theorem d_Ke_run_69 : decode b_Ke_run 69 = .ok (.aload_n 0, 1) := by decide +kernel
theorem d_Ke_run_70 : decode b_Ke_run 70 = .ok (.aload_n 0, 1) := by decide +kernel
theorem d_Ke_run_71 : decode b_Ke_run 71 = .ok (.getfield 31, 3) := by decide +kernel
theorem d_Ke_run_74 : decode b_Ke_run 74 = .ok (.iconst 0, 1) := by decide +kernel
theorem d_Ke_run_75 : decode b_Ke_run 75 = .ok (.aaload, 1) := by decide +kernel
theorem d_Ke_run_76 : decode b_Ke_run 76 = .ok (.invokevirtual 87, 3) := by decide +kernel
theorem d_Ke_run_79 : decode b_Ke_run 79 = .ok (.aload_n 0, 1) := by decide +kernel
theorem d_Ke_run_80 : decode b_Ke_run 80 = .ok (.aload_n 0, 1) := by decide +kernel
theorem d_Ke_run_81 : decode b_Ke_run 81 = .ok (.getfield 31, 3) := by decide +kernel
theorem d_Ke_run_84 : decode b_Ke_run 84 = .ok (.iconst 1, 1) := by decide +kernel
theorem d_Ke_run_85 : decode b_Ke_run 85 = .ok (.aaload, 1) := by decide +kernel
theorem d_Ke_run_86 : decode b_Ke_run 86 = .ok (.invokevirtual 87, 3) := by decide +kernel
theorem d_Ke_run_89 : decode b_Ke_run 89 = .ok (.iinc 2 1, 3) := by decide +kernel
theorem d_Ke_run_92 : decode b_Ke_run 92 = .ok (.goto (-68), 3) := by decide +kernel
theorem d_Ke_run_95 : decode b_Ke_run 95 = .ok (.iload_n 1, 1) := by decide +kernel
theorem d_Ke_run_96 : decode b_Ke_run 96 = .ok (.ireturn, 1) := by decide +kernel
theorem d_Ke_register_0 : decode b_Ke_register 0 = .ok (.iload_n 1, 1) := by decide +kernel
theorem d_Ke_register_1 : decode b_Ke_register 1 = .ok (.bipush 6, 2) := by decide +kernel
theorem d_Ke_register_3 : decode b_Ke_register 3 = .ok (.invokestatic 61, 3) := by decide +kernel
theorem d_Ke_register_6 : decode b_Ke_register 6 = .ok (.iload_n 2, 1) := by decide +kernel
theorem d_Ke_register_7 : decode b_Ke_register 7 = .ok (.iconst 4, 1) := by decide +kernel
theorem d_Ke_register_8 : decode b_Ke_register 8 = .ok (.invokestatic 61, 3) := by decide +kernel
theorem d_Ke_register_11 : decode b_Ke_register 11 = .ok (.aload_n 0, 1) := by decide +kernel
theorem d_Ke_register_12 : decode b_Ke_register 12 = .ok (.iload_n 1, 1) := by decide +kernel
theorem d_Ke_register_13 : decode b_Ke_register 13 = .ok (.invokevirtual 91, 3) := by decide +kernel
theorem d_Ke_register_16 : decode b_Ke_register 16 = .ok (.aload_n 0, 1) := by decide +kernel
theorem d_Ke_register_17 : decode b_Ke_register 17 = .ok (.getfield 25, 3) := by decide +kernel
theorem d_Ke_register_20 : decode b_Ke_register 20 = .ok (.iload_n 1, 1) := by decide +kernel
theorem d_Ke_register_21 : decode b_Ke_register 21 = .ok (.aaload, 1) := by decide +kernel
theorem d_Ke_register_22 : decode b_Ke_register 22 = .ok (.getfield 94, 3) := by decide +kernel
theorem d_Ke_register_25 : decode b_Ke_register 25 = .ok (.iload_n 2, 1) := by decide +kernel
theorem d_Ke_register_26 : decode b_Ke_register 26 = .ok (.iaload, 1) := by decide +kernel
theorem d_Ke_register_27 : decode b_Ke_register 27 = .ok (.ireturn, 1) := by decide +kernel
theorem d_Ke_told_0 : decode b_Ke_told 0 = .ok (.iload_n 1, 1) := by decide +kernel
theorem d_Ke_told_1 : decode b_Ke_told 1 = .ok (.bipush 6, 2) := by decide +kernel
theorem d_Ke_told_3 : decode b_Ke_told 3 = .ok (.invokestatic 61, 3) := by decide +kernel
theorem d_Ke_told_6 : decode b_Ke_told 6 = .ok (.iload_n 2, 1) := by decide +kernel
theorem d_Ke_told_7 : decode b_Ke_told 7 = .ok (.bipush 9, 2) := by decide +kernel
theorem d_Ke_told_9 : decode b_Ke_told 9 = .ok (.invokestatic 61, 3) := by decide +kernel
theorem d_Ke_told_12 : decode b_Ke_told 12 = .ok (.aload_n 0, 1) := by decide +kernel
theorem d_Ke_told_13 : decode b_Ke_told 13 = .ok (.iload_n 1, 1) := by decide +kernel
theorem d_Ke_told_14 : decode b_Ke_told 14 = .ok (.invokevirtual 91, 3) := by decide +kernel
theorem d_Ke_told_17 : decode b_Ke_told 17 = .ok (.aload_n 0, 1) := by decide +kernel
theorem d_Ke_told_18 : decode b_Ke_told 18 = .ok (.getfield 25, 3) := by decide +kernel
theorem d_Ke_told_21 : decode b_Ke_told 21 = .ok (.iload_n 1, 1) := by decide +kernel
theorem d_Ke_told_22 : decode b_Ke_told 22 = .ok (.aaload, 1) := by decide +kernel
theorem d_Ke_told_23 : decode b_Ke_told 23 = .ok (.astore_n 3, 1) := by decide +kernel
theorem d_Ke_told_24 : decode b_Ke_told 24 = .ok (.iload_n 2, 1) := by decide +kernel
theorem d_Ke_told_25 : decode b_Ke_told 25 = .ok (.tableswitch 87 0 7 #[47, 52, 57, 62, 67, 72, 77, 82], 47) := by decide +kernel
theorem d_Ke_told_72 : decode b_Ke_told 72 = .ok (.aload_n 3, 1) := by decide +kernel
theorem d_Ke_told_73 : decode b_Ke_told 73 = .ok (.getfield 98, 3) := by decide +kernel
theorem d_Ke_told_76 : decode b_Ke_told 76 = .ok (.ireturn, 1) := by decide +kernel
theorem d_Ke_told_77 : decode b_Ke_told 77 = .ok (.aload_n 3, 1) := by decide +kernel
theorem d_Ke_told_78 : decode b_Ke_told 78 = .ok (.getfield 101, 3) := by decide +kernel
theorem d_Ke_told_81 : decode b_Ke_told 81 = .ok (.ireturn, 1) := by decide +kernel
theorem d_Ke_told_82 : decode b_Ke_told 82 = .ok (.aload_n 3, 1) := by decide +kernel
theorem d_Ke_told_83 : decode b_Ke_told 83 = .ok (.getfield 104, 3) := by decide +kernel
theorem d_Ke_told_86 : decode b_Ke_told 86 = .ok (.ireturn, 1) := by decide +kernel
theorem d_Ke_told_87 : decode b_Ke_told 87 = .ok (.aload_n 3, 1) := by decide +kernel
theorem d_Ke_told_88 : decode b_Ke_told 88 = .ok (.getfield 107, 3) := by decide +kernel
theorem d_Ke_told_91 : decode b_Ke_told 91 = .ok (.ireturn, 1) := by decide +kernel
theorem d_Ke_told_92 : decode b_Ke_told 92 = .ok (.aload_n 3, 1) := by decide +kernel
theorem d_Ke_told_93 : decode b_Ke_told 93 = .ok (.getfield 110, 3) := by decide +kernel
theorem d_Ke_told_96 : decode b_Ke_told 96 = .ok (.ireturn, 1) := by decide +kernel
theorem d_Ke_told_97 : decode b_Ke_told 97 = .ok (.aload_n 3, 1) := by decide +kernel
theorem d_Ke_told_98 : decode b_Ke_told 98 = .ok (.getfield 113, 3) := by decide +kernel
theorem d_Ke_told_101 : decode b_Ke_told 101 = .ok (.ireturn, 1) := by decide +kernel
theorem d_Ke_told_102 : decode b_Ke_told 102 = .ok (.aload_n 3, 1) := by decide +kernel
theorem d_Ke_told_103 : decode b_Ke_told 103 = .ok (.getfield 116, 3) := by decide +kernel
theorem d_Ke_told_106 : decode b_Ke_told 106 = .ok (.ireturn, 1) := by decide +kernel
theorem d_Ke_told_107 : decode b_Ke_told 107 = .ok (.aload_n 3, 1) := by decide +kernel
theorem d_Ke_told_108 : decode b_Ke_told 108 = .ok (.getfield 119, 3) := by decide +kernel
theorem d_Ke_told_111 : decode b_Ke_told 111 = .ok (.ireturn, 1) := by decide +kernel
theorem d_Ke_told_112 : decode b_Ke_told 112 = .ok (.aload_n 3, 1) := by decide +kernel
theorem d_Ke_told_113 : decode b_Ke_told 113 = .ok (.getfield 122, 3) := by decide +kernel
theorem d_Ke_told_116 : decode b_Ke_told 116 = .ok (.ireturn, 1) := by decide +kernel
theorem d_Ke_page_0 : decode b_Ke_page 0 = .ok (.iload_n 1, 1) := by decide +kernel
theorem d_Ke_page_1 : decode b_Ke_page 1 = .ok (.bipush 6, 2) := by decide +kernel
theorem d_Ke_page_3 : decode b_Ke_page 3 = .ok (.invokestatic 61, 3) := by decide +kernel
theorem d_Ke_page_6 : decode b_Ke_page 6 = .ok (.iload_n 2, 1) := by decide +kernel
theorem d_Ke_page_7 : decode b_Ke_page 7 = .ok (.iconst 4, 1) := by decide +kernel
theorem d_Ke_page_8 : decode b_Ke_page 8 = .ok (.invokestatic 61, 3) := by decide +kernel
theorem d_Ke_page_11 : decode b_Ke_page 11 = .ok (.aload_n 0, 1) := by decide +kernel
theorem d_Ke_page_12 : decode b_Ke_page 12 = .ok (.iload_n 1, 1) := by decide +kernel
theorem d_Ke_page_13 : decode b_Ke_page 13 = .ok (.invokevirtual 91, 3) := by decide +kernel
theorem d_Ke_page_16 : decode b_Ke_page 16 = .ok (.aload_n 0, 1) := by decide +kernel
theorem d_Ke_page_17 : decode b_Ke_page 17 = .ok (.getfield 25, 3) := by decide +kernel
theorem d_Ke_page_20 : decode b_Ke_page 20 = .ok (.iload_n 1, 1) := by decide +kernel
theorem d_Ke_page_21 : decode b_Ke_page 21 = .ok (.aaload, 1) := by decide +kernel
theorem d_Ke_page_22 : decode b_Ke_page 22 = .ok (.getfield 125, 3) := by decide +kernel
theorem d_Ke_page_25 : decode b_Ke_page 25 = .ok (.iload_n 2, 1) := by decide +kernel
theorem d_Ke_page_26 : decode b_Ke_page 26 = .ok (.iaload, 1) := by decide +kernel
theorem d_Ke_page_27 : decode b_Ke_page 27 = .ok (.ireturn, 1) := by decide +kernel
theorem d_Ke_memory_0 : decode b_Ke_memory 0 = .ok (.iload_n 1, 1) := by decide +kernel
theorem d_Ke_memory_1 : decode b_Ke_memory 1 = .ok (.bipush 12, 2) := by decide +kernel
theorem d_Ke_memory_3 : decode b_Ke_memory 3 = .ok (.invokestatic 61, 3) := by decide +kernel
theorem d_Ke_memory_6 : decode b_Ke_memory 6 = .ok (.iload_n 2, 1) := by decide +kernel
theorem d_Ke_memory_7 : decode b_Ke_memory 7 = .ok (.bipush 8, 2) := by decide +kernel
theorem d_Ke_memory_9 : decode b_Ke_memory 9 = .ok (.invokestatic 61, 3) := by decide +kernel
theorem d_Ke_memory_12 : decode b_Ke_memory 12 = .ok (.aload_n 0, 1) := by decide +kernel
theorem d_Ke_memory_13 : decode b_Ke_memory 13 = .ok (.getfield 19, 3) := by decide +kernel
theorem d_Ke_memory_16 : decode b_Ke_memory 16 = .ok (.iload_n 1, 1) := by decide +kernel
theorem d_Ke_memory_17 : decode b_Ke_memory 17 = .ok (.iload_n 2, 1) := by decide +kernel
theorem d_Ke_memory_18 : decode b_Ke_memory 18 = .ok (.invokevirtual 128, 3) := by decide +kernel
theorem d_Ke_memory_21 : decode b_Ke_memory 21 = .ok (.ireturn, 1) := by decide +kernel
theorem d_Ke_object_0 : decode b_Ke_object 0 = .ok (.iload_n 1, 1) := by decide +kernel
theorem d_Ke_object_1 : decode b_Ke_object 1 = .ok (.iconst 4, 1) := by decide +kernel
theorem d_Ke_object_2 : decode b_Ke_object 2 = .ok (.invokestatic 61, 3) := by decide +kernel
theorem d_Ke_object_5 : decode b_Ke_object 5 = .ok (.iload_n 2, 1) := by decide +kernel
theorem d_Ke_object_6 : decode b_Ke_object 6 = .ok (.iconst 5, 1) := by decide +kernel
theorem d_Ke_object_7 : decode b_Ke_object 7 = .ok (.invokestatic 61, 3) := by decide +kernel
theorem d_Ke_object_10 : decode b_Ke_object 10 = .ok (.iload_n 2, 1) := by decide +kernel
theorem d_Ke_object_11 : decode b_Ke_object 11 = .ok (.tableswitch 75 0 3 #[29, 39, 52, 62], 29) := by decide +kernel
theorem d_Ke_object_40 : decode b_Ke_object 40 = .ok (.aload_n 0, 1) := by decide +kernel
theorem d_Ke_object_41 : decode b_Ke_object 41 = .ok (.getfield 37, 3) := by decide +kernel
theorem d_Ke_object_44 : decode b_Ke_object 44 = .ok (.iload_n 1, 1) := by decide +kernel
theorem d_Ke_object_45 : decode b_Ke_object 45 = .ok (.aaload, 1) := by decide +kernel
theorem d_Ke_object_46 : decode b_Ke_object 46 = .ok (.getfield 132, 3) := by decide +kernel
theorem d_Ke_object_49 : decode b_Ke_object 49 = .ok (.ireturn, 1) := by decide +kernel
theorem d_Ke_object_50 : decode b_Ke_object 50 = .ok (.aload_n 0, 1) := by decide +kernel
theorem d_Ke_object_51 : decode b_Ke_object 51 = .ok (.getfield 37, 3) := by decide +kernel
theorem d_Ke_object_54 : decode b_Ke_object 54 = .ok (.iload_n 1, 1) := by decide +kernel
theorem d_Ke_object_55 : decode b_Ke_object 55 = .ok (.aaload, 1) := by decide +kernel
theorem d_Ke_object_56 : decode b_Ke_object 56 = .ok (.getfield 135, 3) := by decide +kernel
theorem d_Ke_object_59 : decode b_Ke_object 59 = .ok (.getfield 139, 3) := by decide +kernel
theorem d_Ke_object_62 : decode b_Ke_object 62 = .ok (.ireturn, 1) := by decide +kernel
theorem d_Ke_object_63 : decode b_Ke_object 63 = .ok (.aload_n 0, 1) := by decide +kernel
theorem d_Ke_object_64 : decode b_Ke_object 64 = .ok (.getfield 43, 3) := by decide +kernel
theorem d_Ke_object_67 : decode b_Ke_object 67 = .ok (.iload_n 1, 1) := by decide +kernel
theorem d_Ke_object_68 : decode b_Ke_object 68 = .ok (.aaload, 1) := by decide +kernel
theorem d_Ke_object_69 : decode b_Ke_object 69 = .ok (.getfield 144, 3) := by decide +kernel
theorem d_Ke_object_72 : decode b_Ke_object 72 = .ok (.ireturn, 1) := by decide +kernel
theorem d_Ke_object_73 : decode b_Ke_object 73 = .ok (.aload_n 0, 1) := by decide +kernel
theorem d_Ke_object_74 : decode b_Ke_object 74 = .ok (.getfield 43, 3) := by decide +kernel
theorem d_Ke_object_77 : decode b_Ke_object 77 = .ok (.iload_n 1, 1) := by decide +kernel
theorem d_Ke_object_78 : decode b_Ke_object 78 = .ok (.aaload, 1) := by decide +kernel
theorem d_Ke_object_79 : decode b_Ke_object 79 = .ok (.getfield 145, 3) := by decide +kernel
theorem d_Ke_object_82 : decode b_Ke_object 82 = .ok (.getfield 139, 3) := by decide +kernel
theorem d_Ke_object_85 : decode b_Ke_object 85 = .ok (.ireturn, 1) := by decide +kernel
theorem d_Ke_object_86 : decode b_Ke_object 86 = .ok (.aload_n 0, 1) := by decide +kernel
theorem d_Ke_object_87 : decode b_Ke_object 87 = .ok (.getfield 43, 3) := by decide +kernel
theorem d_Ke_object_90 : decode b_Ke_object 90 = .ok (.iload_n 1, 1) := by decide +kernel
theorem d_Ke_object_91 : decode b_Ke_object 91 = .ok (.aaload, 1) := by decide +kernel
theorem d_Ke_object_92 : decode b_Ke_object 92 = .ok (.getfield 148, 3) := by decide +kernel
theorem d_Ke_object_95 : decode b_Ke_object 95 = .ok (.getfield 139, 3) := by decide +kernel
theorem d_Ke_object_98 : decode b_Ke_object 98 = .ok (.ireturn, 1) := by decide +kernel
theorem d_Ke_written_0 : decode b_Ke_written 0 = .ok (.iload_n 1, 1) := by decide +kernel
theorem d_Ke_written_1 : decode b_Ke_written 1 = .ok (.bipush 32, 2) := by decide +kernel
theorem d_Ke_written_3 : decode b_Ke_written 3 = .ok (.invokestatic 61, 3) := by decide +kernel
theorem d_Ke_written_6 : decode b_Ke_written 6 = .ok (.iload_n 2, 1) := by decide +kernel
theorem d_Ke_written_7 : decode b_Ke_written 7 = .ok (.iconst 4, 1) := by decide +kernel
theorem d_Ke_written_8 : decode b_Ke_written 8 = .ok (.invokestatic 61, 3) := by decide +kernel
theorem d_Ke_written_11 : decode b_Ke_written 11 = .ok (.aload_n 0, 1) := by decide +kernel
theorem d_Ke_written_12 : decode b_Ke_written 12 = .ok (.getfield 12, 3) := by decide +kernel
theorem d_Ke_written_15 : decode b_Ke_written 15 = .ok (.iload_n 1, 1) := by decide +kernel
theorem d_Ke_written_16 : decode b_Ke_written 16 = .ok (.iload_n 2, 1) := by decide +kernel
theorem d_Ke_written_17 : decode b_Ke_written 17 = .ok (.invokevirtual 151, 3) := by decide +kernel
theorem d_Ke_written_20 : decode b_Ke_written 20 = .ok (.ireturn, 1) := by decide +kernel
theorem d_Ke_count_0 : decode b_Ke_count 0 = .ok (.iload_n 1, 1) := by decide +kernel
theorem d_Ke_count_1 : decode b_Ke_count 1 = .ok (.tableswitch 192 0 21 #[103, 108, 113, 118, 123, 128, 136, 141, 192, 192, 146, 156, 192, 192, 192, 192, 192, 192, 192, 192, 166, 179], 103) := by decide +kernel
theorem d_Ke_count_104 : decode b_Ke_count 104 = .ok (.aload_n 0, 1) := by decide +kernel
theorem d_Ke_count_105 : decode b_Ke_count 105 = .ok (.getfield 83, 3) := by decide +kernel
theorem d_Ke_count_108 : decode b_Ke_count 108 = .ok (.ireturn, 1) := by decide +kernel
theorem d_Ke_count_109 : decode b_Ke_count 109 = .ok (.aload_n 0, 1) := by decide +kernel
theorem d_Ke_count_110 : decode b_Ke_count 110 = .ok (.getfield 154, 3) := by decide +kernel
theorem d_Ke_count_113 : decode b_Ke_count 113 = .ok (.ireturn, 1) := by decide +kernel
theorem d_Ke_count_114 : decode b_Ke_count 114 = .ok (.aload_n 0, 1) := by decide +kernel
theorem d_Ke_count_115 : decode b_Ke_count 115 = .ok (.getfield 157, 3) := by decide +kernel
theorem d_Ke_count_118 : decode b_Ke_count 118 = .ok (.ireturn, 1) := by decide +kernel
theorem d_Ke_count_119 : decode b_Ke_count 119 = .ok (.aload_n 0, 1) := by decide +kernel
theorem d_Ke_count_120 : decode b_Ke_count 120 = .ok (.getfield 158, 3) := by decide +kernel
theorem d_Ke_count_123 : decode b_Ke_count 123 = .ok (.ireturn, 1) := by decide +kernel
theorem d_Ke_count_124 : decode b_Ke_count 124 = .ok (.aload_n 0, 1) := by decide +kernel
theorem d_Ke_count_125 : decode b_Ke_count 125 = .ok (.getfield 161, 3) := by decide +kernel
theorem d_Ke_count_128 : decode b_Ke_count 128 = .ok (.ireturn, 1) := by decide +kernel
theorem d_Ke_count_129 : decode b_Ke_count 129 = .ok (.aload_n 0, 1) := by decide +kernel
theorem d_Ke_count_130 : decode b_Ke_count 130 = .ok (.getfield 19, 3) := by decide +kernel
theorem d_Ke_count_133 : decode b_Ke_count 133 = .ok (.getfield 164, 3) := by decide +kernel
theorem d_Ke_count_136 : decode b_Ke_count 136 = .ok (.ireturn, 1) := by decide +kernel
theorem d_Ke_count_137 : decode b_Ke_count 137 = .ok (.aload_n 0, 1) := by decide +kernel
theorem d_Ke_count_138 : decode b_Ke_count 138 = .ok (.getfield 167, 3) := by decide +kernel
theorem d_Ke_count_141 : decode b_Ke_count 141 = .ok (.ireturn, 1) := by decide +kernel
theorem d_Ke_count_142 : decode b_Ke_count 142 = .ok (.aload_n 0, 1) := by decide +kernel
theorem d_Ke_count_143 : decode b_Ke_count 143 = .ok (.getfield 170, 3) := by decide +kernel
theorem d_Ke_count_146 : decode b_Ke_count 146 = .ok (.ireturn, 1) := by decide +kernel
theorem d_Ke_count_147 : decode b_Ke_count 147 = .ok (.aload_n 0, 1) := by decide +kernel
theorem d_Ke_count_148 : decode b_Ke_count 148 = .ok (.getfield 31, 3) := by decide +kernel
theorem d_Ke_count_151 : decode b_Ke_count 151 = .ok (.iconst 0, 1) := by decide +kernel
theorem d_Ke_count_152 : decode b_Ke_count 152 = .ok (.aaload, 1) := by decide +kernel
theorem d_Ke_count_153 : decode b_Ke_count 153 = .ok (.getfield 173, 3) := by decide +kernel
theorem d_Ke_count_156 : decode b_Ke_count 156 = .ok (.ireturn, 1) := by decide +kernel
theorem d_Ke_count_157 : decode b_Ke_count 157 = .ok (.aload_n 0, 1) := by decide +kernel
theorem d_Ke_count_158 : decode b_Ke_count 158 = .ok (.getfield 31, 3) := by decide +kernel
theorem d_Ke_count_161 : decode b_Ke_count 161 = .ok (.iconst 1, 1) := by decide +kernel
theorem d_Ke_count_162 : decode b_Ke_count 162 = .ok (.aaload, 1) := by decide +kernel
theorem d_Ke_count_163 : decode b_Ke_count 163 = .ok (.getfield 173, 3) := by decide +kernel
theorem d_Ke_count_166 : decode b_Ke_count 166 = .ok (.ireturn, 1) := by decide +kernel
theorem d_Ke_count_167 : decode b_Ke_count 167 = .ok (.aload_n 0, 1) := by decide +kernel
theorem d_Ke_count_168 : decode b_Ke_count 168 = .ok (.getfield 31, 3) := by decide +kernel
theorem d_Ke_count_171 : decode b_Ke_count 171 = .ok (.iconst 0, 1) := by decide +kernel
theorem d_Ke_count_172 : decode b_Ke_count 172 = .ok (.aaload, 1) := by decide +kernel
theorem d_Ke_count_173 : decode b_Ke_count 173 = .ok (.getfield 176, 3) := by decide +kernel
theorem d_Ke_count_176 : decode b_Ke_count 176 = .ok (.getfield 139, 3) := by decide +kernel
theorem d_Ke_count_179 : decode b_Ke_count 179 = .ok (.ireturn, 1) := by decide +kernel
theorem d_Ke_count_180 : decode b_Ke_count 180 = .ok (.aload_n 0, 1) := by decide +kernel
theorem d_Ke_count_181 : decode b_Ke_count 181 = .ok (.getfield 31, 3) := by decide +kernel
theorem d_Ke_count_184 : decode b_Ke_count 184 = .ok (.iconst 1, 1) := by decide +kernel
theorem d_Ke_count_185 : decode b_Ke_count 185 = .ok (.aaload, 1) := by decide +kernel
theorem d_Ke_count_186 : decode b_Ke_count 186 = .ok (.getfield 176, 3) := by decide +kernel
theorem d_Ke_count_189 : decode b_Ke_count 189 = .ok (.getfield 139, 3) := by decide +kernel
theorem d_Ke_count_192 : decode b_Ke_count 192 = .ok (.ireturn, 1) := by decide +kernel
theorem d_Ke_count_193 : decode b_Ke_count 193 = .ok (.bipush (-2), 2) := by decide +kernel
theorem d_Ke_count_195 : decode b_Ke_count 195 = .ok (.ireturn, 1) := by decide +kernel
theorem d_Ke_isOutside_0 : decode b_Ke_isOutside 0 = .ok (.iload_n 0, 1) := by decide +kernel
theorem d_Ke_isOutside_1 : decode b_Ke_isOutside 1 = .ok (.ifCond .lt 8, 3) := by decide +kernel
theorem d_Ke_isOutside_4 : decode b_Ke_isOutside 4 = .ok (.iload_n 0, 1) := by decide +kernel
theorem d_Ke_isOutside_5 : decode b_Ke_isOutside 5 = .ok (.iload_n 1, 1) := by decide +kernel
theorem d_Ke_isOutside_6 : decode b_Ke_isOutside 6 = .ok (.if_icmp .lt 7, 3) := by decide +kernel
theorem d_Ke_isOutside_9 : decode b_Ke_isOutside 9 = .ok (.iconst 1, 1) := by decide +kernel
theorem d_Ke_isOutside_10 : decode b_Ke_isOutside 10 = .ok (.goto 4, 3) := by decide +kernel
theorem d_Ke_isOutside_13 : decode b_Ke_isOutside 13 = .ok (.iconst 0, 1) := by decide +kernel
theorem d_Ke_isOutside_14 : decode b_Ke_isOutside 14 = .ok (.ireturn, 1) := by decide +kernel
theorem d_Ke_requireBelow_0 : decode b_Ke_requireBelow 0 = .ok (.iload_n 0, 1) := by decide +kernel
theorem d_Ke_requireBelow_1 : decode b_Ke_requireBelow 1 = .ok (.iload_n 1, 1) := by decide +kernel
theorem d_Ke_requireBelow_2 : decode b_Ke_requireBelow 2 = .ok (.invokestatic 179, 3) := by decide +kernel
theorem d_Ke_requireBelow_5 : decode b_Ke_requireBelow 5 = .ok (.ifCond .eq 13, 3) := by decide +kernel
theorem d_Ke_requireBelow_8 : decode b_Ke_requireBelow 8 = .ok (.new 69, 3) := by decide +kernel
theorem d_Ke_requireBelow_11 : decode b_Ke_requireBelow 11 = .ok (.dup, 1) := by decide +kernel
theorem d_Ke_requireBelow_12 : decode b_Ke_requireBelow 12 = .ok (.ldc 71, 2) := by decide +kernel
theorem d_Ke_requireBelow_14 : decode b_Ke_requireBelow 14 = .ok (.invokespecial 73, 3) := by decide +kernel
theorem d_Ke_requireBelow_17 : decode b_Ke_requireBelow 17 = .ok (.athrow, 1) := by decide +kernel
theorem d_Ke_requireBelow_18 : decode b_Ke_requireBelow 18 = .ok (.return_, 1) := by decide +kernel
theorem d_Ke_requirePresent_0 : decode b_Ke_requirePresent 0 = .ok (.aload_n 0, 1) := by decide +kernel
theorem d_Ke_requirePresent_1 : decode b_Ke_requirePresent 1 = .ok (.getfield 25, 3) := by decide +kernel
theorem d_Ke_requirePresent_4 : decode b_Ke_requirePresent 4 = .ok (.iload_n 1, 1) := by decide +kernel
theorem d_Ke_requirePresent_5 : decode b_Ke_requirePresent 5 = .ok (.aaload, 1) := by decide +kernel
theorem d_Ke_requirePresent_6 : decode b_Ke_requirePresent 6 = .ok (.getfield 98, 3) := by decide +kernel
theorem d_Ke_requirePresent_9 : decode b_Ke_requirePresent 9 = .ok (.iconst (-1), 1) := by decide +kernel
theorem d_Ke_requirePresent_10 : decode b_Ke_requirePresent 10 = .ok (.if_icmp .ne 13, 3) := by decide +kernel
theorem d_Ke_requirePresent_13 : decode b_Ke_requirePresent 13 = .ok (.new 183, 3) := by decide +kernel
theorem d_Ke_requirePresent_16 : decode b_Ke_requirePresent 16 = .ok (.dup, 1) := by decide +kernel
theorem d_Ke_requirePresent_17 : decode b_Ke_requirePresent 17 = .ok (.ldc 185, 2) := by decide +kernel
theorem d_Ke_requirePresent_19 : decode b_Ke_requirePresent 19 = .ok (.invokespecial 187, 3) := by decide +kernel
theorem d_Ke_requirePresent_22 : decode b_Ke_requirePresent 22 = .ok (.athrow, 1) := by decide +kernel
theorem d_Ke_requirePresent_23 : decode b_Ke_requirePresent 23 = .ok (.return_, 1) := by decide +kernel
theorem d_Ke_requireNoneBlocked_0 : decode b_Ke_requireNoneBlocked 0 = .ok (.iconst 0, 1) := by decide +kernel
theorem d_Ke_requireNoneBlocked_1 : decode b_Ke_requireNoneBlocked 1 = .ok (.istore_n 1, 1) := by decide +kernel
theorem d_Ke_requireNoneBlocked_2 : decode b_Ke_requireNoneBlocked 2 = .ok (.iload_n 1, 1) := by decide +kernel
theorem d_Ke_requireNoneBlocked_3 : decode b_Ke_requireNoneBlocked 3 = .ok (.bipush 6, 2) := by decide +kernel
theorem d_Ke_requireNoneBlocked_5 : decode b_Ke_requireNoneBlocked 5 = .ok (.if_icmp .ge 32, 3) := by decide +kernel
theorem d_Ke_requireNoneBlocked_8 : decode b_Ke_requireNoneBlocked 8 = .ok (.aload_n 0, 1) := by decide +kernel
theorem d_Ke_requireNoneBlocked_9 : decode b_Ke_requireNoneBlocked 9 = .ok (.getfield 25, 3) := by decide +kernel
theorem d_Ke_requireNoneBlocked_12 : decode b_Ke_requireNoneBlocked 12 = .ok (.iload_n 1, 1) := by decide +kernel
theorem d_Ke_requireNoneBlocked_13 : decode b_Ke_requireNoneBlocked 13 = .ok (.aaload, 1) := by decide +kernel
theorem d_Ke_requireNoneBlocked_14 : decode b_Ke_requireNoneBlocked 14 = .ok (.getfield 98, 3) := by decide +kernel
theorem d_Ke_requireNoneBlocked_17 : decode b_Ke_requireNoneBlocked 17 = .ok (.iconst 2, 1) := by decide +kernel
theorem d_Ke_requireNoneBlocked_18 : decode b_Ke_requireNoneBlocked 18 = .ok (.if_icmp .ne 13, 3) := by decide +kernel
theorem d_Ke_requireNoneBlocked_21 : decode b_Ke_requireNoneBlocked 21 = .ok (.new 188, 3) := by decide +kernel
theorem d_Ke_requireNoneBlocked_24 : decode b_Ke_requireNoneBlocked 24 = .ok (.dup, 1) := by decide +kernel
theorem d_Ke_requireNoneBlocked_25 : decode b_Ke_requireNoneBlocked 25 = .ok (.ldc 190, 2) := by decide +kernel
theorem d_Ke_requireNoneBlocked_27 : decode b_Ke_requireNoneBlocked 27 = .ok (.invokespecial 192, 3) := by decide +kernel
theorem d_Ke_requireNoneBlocked_30 : decode b_Ke_requireNoneBlocked 30 = .ok (.athrow, 1) := by decide +kernel
theorem d_Ke_requireNoneBlocked_31 : decode b_Ke_requireNoneBlocked 31 = .ok (.iinc 1 1, 3) := by decide +kernel
theorem d_Ke_requireNoneBlocked_34 : decode b_Ke_requireNoneBlocked 34 = .ok (.goto (-32), 3) := by decide +kernel
theorem d_Ke_requireNoneBlocked_37 : decode b_Ke_requireNoneBlocked 37 = .ok (.return_, 1) := by decide +kernel
theorem d_Ke_takeTurn_0 : decode b_Ke_takeTurn 0 = .ok (.aload_n 1, 1) := by decide +kernel
theorem d_Ke_takeTurn_1 : decode b_Ke_takeTurn 1 = .ok (.getfield 173, 3) := by decide +kernel
theorem d_Ke_takeTurn_4 : decode b_Ke_takeTurn 4 = .ok (.iconst (-1), 1) := by decide +kernel
theorem d_Ke_takeTurn_5 : decode b_Ke_takeTurn 5 = .ok (.if_icmp .ne 11, 3) := by decide +kernel
theorem d_Ke_takeTurn_8 : decode b_Ke_takeTurn 8 = .ok (.aload_n 0, 1) := by decide +kernel
theorem d_Ke_takeTurn_9 : decode b_Ke_takeTurn 9 = .ok (.aload_n 1, 1) := by decide +kernel
theorem d_Ke_takeTurn_10 : decode b_Ke_takeTurn 10 = .ok (.invokevirtual 193, 3) := by decide +kernel
theorem d_Ke_takeTurn_13 : decode b_Ke_takeTurn 13 = .ok (.goto 7, 3) := by decide +kernel
theorem d_Ke_takeTurn_16 : decode b_Ke_takeTurn 16 = .ok (.aload_n 1, 1) := by decide +kernel
theorem d_Ke_takeTurn_17 : decode b_Ke_takeTurn 17 = .ok (.getfield 173, 3) := by decide +kernel
theorem d_Ke_takeTurn_20 : decode b_Ke_takeTurn 20 = .ok (.istore_n 2, 1) := by decide +kernel
theorem d_Ke_takeTurn_21 : decode b_Ke_takeTurn 21 = .ok (.iload_n 2, 1) := by decide +kernel
theorem d_Ke_takeTurn_22 : decode b_Ke_takeTurn 22 = .ok (.iconst (-1), 1) := by decide +kernel
theorem d_Ke_takeTurn_23 : decode b_Ke_takeTurn 23 = .ok (.if_icmp .ne 14, 3) := by decide +kernel
theorem d_Ke_takeTurn_26 : decode b_Ke_takeTurn 26 = .ok (.aload_n 0, 1) := by decide +kernel
theorem d_Ke_takeTurn_27 : decode b_Ke_takeTurn 27 = .ok (.dup, 1) := by decide +kernel
theorem d_Ke_takeTurn_28 : decode b_Ke_takeTurn 28 = .ok (.getfield 167, 3) := by decide +kernel
theorem d_Ke_takeTurn_31 : decode b_Ke_takeTurn 31 = .ok (.iconst 1, 1) := by decide +kernel
theorem d_Ke_takeTurn_32 : decode b_Ke_takeTurn 32 = .ok (.iadd, 1) := by decide +kernel
theorem d_Ke_takeTurn_33 : decode b_Ke_takeTurn 33 = .ok (.putfield 167, 3) := by decide +kernel
theorem d_Ke_takeTurn_36 : decode b_Ke_takeTurn 36 = .ok (.return_, 1) := by decide +kernel
theorem d_Ke_takeTurn_37 : decode b_Ke_takeTurn 37 = .ok (.aload_n 0, 1) := by decide +kernel
theorem d_Ke_takeTurn_38 : decode b_Ke_takeTurn 38 = .ok (.getfield 25, 3) := by decide +kernel
theorem d_Ke_takeTurn_41 : decode b_Ke_takeTurn 41 = .ok (.iload_n 2, 1) := by decide +kernel
theorem d_Ke_takeTurn_42 : decode b_Ke_takeTurn 42 = .ok (.aaload, 1) := by decide +kernel
theorem d_Ke_takeTurn_43 : decode b_Ke_takeTurn 43 = .ok (.astore_n 3, 1) := by decide +kernel
theorem d_Ke_takeTurn_44 : decode b_Ke_takeTurn 44 = .ok (.aload_n 3, 1) := by decide +kernel
theorem d_Ke_takeTurn_45 : decode b_Ke_takeTurn 45 = .ok (.getfield 101, 3) := by decide +kernel
theorem d_Ke_takeTurn_48 : decode b_Ke_takeTurn 48 = .ok (.istore 4, 2) := by decide +kernel
theorem d_Ke_takeTurn_50 : decode b_Ke_takeTurn 50 = .ok (.aload_n 0, 1) := by decide +kernel
theorem d_Ke_takeTurn_51 : decode b_Ke_takeTurn 51 = .ok (.getfield 12, 3) := by decide +kernel
theorem d_Ke_takeTurn_54 : decode b_Ke_takeTurn 54 = .ok (.iload 4, 2) := by decide +kernel
theorem d_Ke_takeTurn_56 : decode b_Ke_takeTurn 56 = .ok (.iconst 0, 1) := by decide +kernel
theorem d_Ke_takeTurn_57 : decode b_Ke_takeTurn 57 = .ok (.invokevirtual 151, 3) := by decide +kernel
theorem d_Ke_takeTurn_60 : decode b_Ke_takeTurn 60 = .ok (.istore 5, 2) := by decide +kernel
theorem d_Ke_takeTurn_62 : decode b_Ke_takeTurn 62 = .ok (.aload_n 3, 1) := by decide +kernel
theorem d_Ke_takeTurn_63 : decode b_Ke_takeTurn 63 = .ok (.iload 4, 2) := by decide +kernel
theorem d_Ke_takeTurn_65 : decode b_Ke_takeTurn 65 = .ok (.iconst 1, 1) := by decide +kernel
theorem d_Ke_takeTurn_66 : decode b_Ke_takeTurn 66 = .ok (.iadd, 1) := by decide +kernel
theorem d_Ke_takeTurn_67 : decode b_Ke_takeTurn 67 = .ok (.invokevirtual 197, 3) := by decide +kernel
theorem d_Ke_takeTurn_70 : decode b_Ke_takeTurn 70 = .ok (.aload_n 1, 1) := by decide +kernel
theorem d_Ke_takeTurn_71 : decode b_Ke_takeTurn 71 = .ok (.dup, 1) := by decide +kernel
theorem d_Ke_takeTurn_72 : decode b_Ke_takeTurn 72 = .ok (.getfield 200, 3) := by decide +kernel
theorem d_Ke_takeTurn_75 : decode b_Ke_takeTurn 75 = .ok (.iconst 1, 1) := by decide +kernel
theorem d_Ke_takeTurn_76 : decode b_Ke_takeTurn 76 = .ok (.isub, 1) := by decide +kernel
theorem d_Ke_takeTurn_77 : decode b_Ke_takeTurn 77 = .ok (.putfield 200, 3) := by decide +kernel
theorem d_Ke_takeTurn_80 : decode b_Ke_takeTurn 80 = .ok (.aload_n 0, 1) := by decide +kernel
theorem d_Ke_takeTurn_81 : decode b_Ke_takeTurn 81 = .ok (.dup, 1) := by decide +kernel
theorem d_Ke_takeTurn_82 : decode b_Ke_takeTurn 82 = .ok (.getfield 154, 3) := by decide +kernel
theorem d_Ke_takeTurn_85 : decode b_Ke_takeTurn 85 = .ok (.iconst 1, 1) := by decide +kernel
theorem d_Ke_takeTurn_86 : decode b_Ke_takeTurn 86 = .ok (.iadd, 1) := by decide +kernel
theorem d_Ke_takeTurn_87 : decode b_Ke_takeTurn 87 = .ok (.putfield 154, 3) := by decide +kernel
theorem d_Ke_takeTurn_90 : decode b_Ke_takeTurn 90 = .ok (.aload_n 0, 1) := by decide +kernel
theorem d_Ke_takeTurn_91 : decode b_Ke_takeTurn 91 = .ok (.aload_n 3, 1) := by decide +kernel
theorem d_Ke_takeTurn_92 : decode b_Ke_takeTurn 92 = .ok (.iload 5, 2) := by decide +kernel
theorem d_Ke_takeTurn_94 : decode b_Ke_takeTurn 94 = .ok (.iload 4, 2) := by decide +kernel
theorem d_Ke_takeTurn_96 : decode b_Ke_takeTurn 96 = .ok (.invokevirtual 203, 3) := by decide +kernel
theorem d_Ke_takeTurn_99 : decode b_Ke_takeTurn 99 = .ok (.istore 6, 2) := by decide +kernel
theorem d_Ke_takeTurn_101 : decode b_Ke_takeTurn 101 = .ok (.iload 6, 2) := by decide +kernel
theorem d_Ke_takeTurn_103 : decode b_Ke_takeTurn 103 = .ok (.ifCond .eq 12, 3) := by decide +kernel
theorem d_Ke_takeTurn_106 : decode b_Ke_takeTurn 106 = .ok (.aload_n 0, 1) := by decide +kernel
theorem d_Ke_takeTurn_107 : decode b_Ke_takeTurn 107 = .ok (.aload_n 3, 1) := by decide +kernel
theorem d_Ke_takeTurn_108 : decode b_Ke_takeTurn 108 = .ok (.iload 6, 2) := by decide +kernel
theorem d_Ke_takeTurn_110 : decode b_Ke_takeTurn 110 = .ok (.iload 4, 2) := by decide +kernel
theorem d_Ke_takeTurn_112 : decode b_Ke_takeTurn 112 = .ok (.invokevirtual 207, 3) := by decide +kernel
theorem d_Ke_takeTurn_115 : decode b_Ke_takeTurn 115 = .ok (.aload_n 3, 1) := by decide +kernel
theorem d_Ke_takeTurn_116 : decode b_Ke_takeTurn 116 = .ok (.getfield 98, 3) := by decide +kernel
theorem d_Ke_takeTurn_119 : decode b_Ke_takeTurn 119 = .ok (.iconst 1, 1) := by decide +kernel
theorem d_Ke_takeTurn_120 : decode b_Ke_takeTurn 120 = .ok (.if_icmp .eq 11, 3) := by decide +kernel
theorem d_Ke_takeTurn_123 : decode b_Ke_takeTurn 123 = .ok (.aload_n 1, 1) := by decide +kernel
theorem d_Ke_takeTurn_124 : decode b_Ke_takeTurn 124 = .ok (.iconst (-1), 1) := by decide +kernel
theorem d_Ke_takeTurn_125 : decode b_Ke_takeTurn 125 = .ok (.putfield 173, 3) := by decide +kernel
theorem d_Ke_takeTurn_128 : decode b_Ke_takeTurn 128 = .ok (.goto 27, 3) := by decide +kernel
theorem d_Ke_takeTurn_131 : decode b_Ke_takeTurn 131 = .ok (.aload_n 1, 1) := by decide +kernel
theorem d_Ke_takeTurn_132 : decode b_Ke_takeTurn 132 = .ok (.getfield 200, 3) := by decide +kernel
theorem d_Ke_takeTurn_135 : decode b_Ke_takeTurn 135 = .ok (.ifCond .le 10, 3) := by decide +kernel
theorem d_Ke_takeTurn_138 : decode b_Ke_takeTurn 138 = .ok (.iload 5, 2) := by decide +kernel
theorem d_Ke_takeTurn_140 : decode b_Ke_takeTurn 140 = .ok (.bipush 12, 2) := by decide +kernel
theorem d_Ke_takeTurn_142 : decode b_Ke_takeTurn 142 = .ok (.if_icmp .ne 13, 3) := by decide +kernel
theorem d_Ke_takeTurn_145 : decode b_Ke_takeTurn 145 = .ok (.aload_n 1, 1) := by decide +kernel
theorem d_Ke_takeTurn_146 : decode b_Ke_takeTurn 146 = .ok (.iconst (-1), 1) := by decide +kernel
theorem d_Ke_takeTurn_147 : decode b_Ke_takeTurn 147 = .ok (.putfield 173, 3) := by decide +kernel
theorem d_Ke_takeTurn_150 : decode b_Ke_takeTurn 150 = .ok (.aload_n 0, 1) := by decide +kernel
theorem d_Ke_takeTurn_151 : decode b_Ke_takeTurn 151 = .ok (.aload_n 3, 1) := by decide +kernel
theorem d_Ke_takeTurn_152 : decode b_Ke_takeTurn 152 = .ok (.invokevirtual 57, 3) := by decide +kernel
theorem d_Ke_takeTurn_155 : decode b_Ke_takeTurn 155 = .ok (.return_, 1) := by decide +kernel
theorem d_Ke_takeNext_0 : decode b_Ke_takeNext 0 = .ok (.aload_n 1, 1) := by decide +kernel
theorem d_Ke_takeNext_1 : decode b_Ke_takeNext 1 = .ok (.getfield 176, 3) := by decide +kernel
theorem d_Ke_takeNext_4 : decode b_Ke_takeNext 4 = .ok (.invokevirtual 211, 3) := by decide +kernel
theorem d_Ke_takeNext_7 : decode b_Ke_takeNext 7 = .ok (.istore_n 2, 1) := by decide +kernel
theorem d_Ke_takeNext_8 : decode b_Ke_takeNext 8 = .ok (.iload_n 2, 1) := by decide +kernel
theorem d_Ke_takeNext_9 : decode b_Ke_takeNext 9 = .ok (.iconst (-1), 1) := by decide +kernel
theorem d_Ke_takeNext_10 : decode b_Ke_takeNext 10 = .ok (.if_icmp .eq 33, 3) := by decide +kernel
theorem d_Ke_takeNext_13 : decode b_Ke_takeNext 13 = .ok (.aload_n 0, 1) := by decide +kernel
theorem d_Ke_takeNext_14 : decode b_Ke_takeNext 14 = .ok (.getfield 25, 3) := by decide +kernel
theorem d_Ke_takeNext_17 : decode b_Ke_takeNext 17 = .ok (.iload_n 2, 1) := by decide +kernel
theorem d_Ke_takeNext_18 : decode b_Ke_takeNext 18 = .ok (.aaload, 1) := by decide +kernel
theorem d_Ke_takeNext_19 : decode b_Ke_takeNext 19 = .ok (.iconst 1, 1) := by decide +kernel
theorem d_Ke_takeNext_20 : decode b_Ke_takeNext 20 = .ok (.putfield 98, 3) := by decide +kernel
theorem d_Ke_takeNext_23 : decode b_Ke_takeNext 23 = .ok (.aload_n 1, 1) := by decide +kernel
theorem d_Ke_takeNext_24 : decode b_Ke_takeNext 24 = .ok (.iload_n 2, 1) := by decide +kernel
theorem d_Ke_takeNext_25 : decode b_Ke_takeNext 25 = .ok (.putfield 173, 3) := by decide +kernel
theorem d_Ke_takeNext_28 : decode b_Ke_takeNext 28 = .ok (.aload_n 1, 1) := by decide +kernel
theorem d_Ke_takeNext_29 : decode b_Ke_takeNext 29 = .ok (.iconst 3, 1) := by decide +kernel
theorem d_Ke_takeNext_30 : decode b_Ke_takeNext 30 = .ok (.putfield 200, 3) := by decide +kernel
theorem d_Ke_takeNext_33 : decode b_Ke_takeNext 33 = .ok (.aload_n 0, 1) := by decide +kernel
theorem d_Ke_takeNext_34 : decode b_Ke_takeNext 34 = .ok (.dup, 1) := by decide +kernel
theorem d_Ke_takeNext_35 : decode b_Ke_takeNext 35 = .ok (.getfield 170, 3) := by decide +kernel
theorem d_Ke_takeNext_38 : decode b_Ke_takeNext 38 = .ok (.iconst 1, 1) := by decide +kernel
theorem d_Ke_takeNext_39 : decode b_Ke_takeNext 39 = .ok (.iadd, 1) := by decide +kernel
theorem d_Ke_takeNext_40 : decode b_Ke_takeNext 40 = .ok (.putfield 170, 3) := by decide +kernel
theorem d_Ke_takeNext_43 : decode b_Ke_takeNext 43 = .ok (.iload_n 2, 1) := by decide +kernel
theorem d_Ke_takeNext_44 : decode b_Ke_takeNext 44 = .ok (.ireturn, 1) := by decide +kernel
theorem d_Ke_perform_0 : decode b_Ke_perform 0 = .ok (.aload_n 0, 1) := by decide +kernel
theorem d_Ke_perform_1 : decode b_Ke_perform 1 = .ok (.getfield 12, 3) := by decide +kernel
theorem d_Ke_perform_4 : decode b_Ke_perform 4 = .ok (.iload_n 3, 1) := by decide +kernel
theorem d_Ke_perform_5 : decode b_Ke_perform 5 = .ok (.iconst 1, 1) := by decide +kernel
theorem d_Ke_perform_6 : decode b_Ke_perform 6 = .ok (.invokevirtual 151, 3) := by decide +kernel
theorem d_Ke_perform_9 : decode b_Ke_perform 9 = .ok (.istore 4, 2) := by decide +kernel
theorem d_Ke_perform_11 : decode b_Ke_perform 11 = .ok (.aload_n 0, 1) := by decide +kernel
theorem d_Ke_perform_12 : decode b_Ke_perform 12 = .ok (.getfield 12, 3) := by decide +kernel
theorem d_Ke_perform_15 : decode b_Ke_perform 15 = .ok (.iload_n 3, 1) := by decide +kernel
theorem d_Ke_perform_16 : decode b_Ke_perform 16 = .ok (.iconst 2, 1) := by decide +kernel
theorem d_Ke_perform_17 : decode b_Ke_perform 17 = .ok (.invokevirtual 151, 3) := by decide +kernel
theorem d_Ke_perform_20 : decode b_Ke_perform 20 = .ok (.istore 5, 2) := by decide +kernel
theorem d_Ke_perform_22 : decode b_Ke_perform 22 = .ok (.aload_n 0, 1) := by decide +kernel
theorem d_Ke_perform_23 : decode b_Ke_perform 23 = .ok (.getfield 12, 3) := by decide +kernel
theorem d_Ke_perform_26 : decode b_Ke_perform 26 = .ok (.iload_n 3, 1) := by decide +kernel
theorem d_Ke_perform_27 : decode b_Ke_perform 27 = .ok (.iconst 3, 1) := by decide +kernel
theorem d_Ke_perform_28 : decode b_Ke_perform 28 = .ok (.invokevirtual 151, 3) := by decide +kernel
theorem d_Ke_perform_31 : decode b_Ke_perform 31 = .ok (.istore 6, 2) := by decide +kernel
theorem d_Ke_perform_33 : decode b_Ke_perform 33 = .ok (.iload_n 2, 1) := by decide +kernel
theorem d_Ke_perform_34 : decode b_Ke_perform 34 = .ok (.tableswitch 259 0 21 #[102, 259, 259, 259, 259, 259, 259, 110, 128, 259, 259, 259, 259, 146, 156, 166, 196, 206, 216, 226, 234, 248], 102) := by decide +kernel
theorem d_Ke_perform_136 : decode b_Ke_perform 136 = .ok (.aload_n 0, 1) := by decide +kernel
theorem d_Ke_perform_137 : decode b_Ke_perform 137 = .ok (.aload_n 1, 1) := by decide +kernel
theorem d_Ke_perform_138 : decode b_Ke_perform 138 = .ok (.iconst 0, 1) := by decide +kernel
theorem d_Ke_perform_139 : decode b_Ke_perform 139 = .ok (.invokevirtual 215, 3) := by decide +kernel
theorem d_Ke_perform_142 : decode b_Ke_perform 142 = .ok (.iconst 0, 1) := by decide +kernel
theorem d_Ke_perform_143 : decode b_Ke_perform 143 = .ok (.ireturn, 1) := by decide +kernel
theorem d_Ke_perform_144 : decode b_Ke_perform 144 = .ok (.aload_n 0, 1) := by decide +kernel
theorem d_Ke_perform_145 : decode b_Ke_perform 145 = .ok (.aload_n 1, 1) := by decide +kernel
theorem d_Ke_perform_146 : decode b_Ke_perform 146 = .ok (.iload 4, 2) := by decide +kernel
theorem d_Ke_perform_148 : decode b_Ke_perform 148 = .ok (.aload_n 1, 1) := by decide +kernel
theorem d_Ke_perform_149 : decode b_Ke_perform 149 = .ok (.getfield 94, 3) := by decide +kernel
theorem d_Ke_perform_152 : decode b_Ke_perform 152 = .ok (.iload 5, 2) := by decide +kernel
theorem d_Ke_perform_154 : decode b_Ke_perform 154 = .ok (.iaload, 1) := by decide +kernel
theorem d_Ke_perform_155 : decode b_Ke_perform 155 = .ok (.iload 6, 2) := by decide +kernel
theorem d_Ke_perform_157 : decode b_Ke_perform 157 = .ok (.iadd, 1) := by decide +kernel
theorem d_Ke_perform_158 : decode b_Ke_perform 158 = .ok (.invokevirtual 219, 3) := by decide +kernel
theorem d_Ke_perform_161 : decode b_Ke_perform 161 = .ok (.ireturn, 1) := by decide +kernel
theorem d_Ke_perform_162 : decode b_Ke_perform 162 = .ok (.aload_n 0, 1) := by decide +kernel
theorem d_Ke_perform_163 : decode b_Ke_perform 163 = .ok (.aload_n 1, 1) := by decide +kernel
theorem d_Ke_perform_164 : decode b_Ke_perform 164 = .ok (.iload 4, 2) := by decide +kernel
theorem d_Ke_perform_166 : decode b_Ke_perform 166 = .ok (.aload_n 1, 1) := by decide +kernel
theorem d_Ke_perform_167 : decode b_Ke_perform 167 = .ok (.getfield 94, 3) := by decide +kernel
theorem d_Ke_perform_170 : decode b_Ke_perform 170 = .ok (.iload 5, 2) := by decide +kernel
theorem d_Ke_perform_172 : decode b_Ke_perform 172 = .ok (.iaload, 1) := by decide +kernel
theorem d_Ke_perform_173 : decode b_Ke_perform 173 = .ok (.iload 6, 2) := by decide +kernel
theorem d_Ke_perform_175 : decode b_Ke_perform 175 = .ok (.iadd, 1) := by decide +kernel
theorem d_Ke_perform_176 : decode b_Ke_perform 176 = .ok (.invokevirtual 222, 3) := by decide +kernel
theorem d_Ke_perform_179 : decode b_Ke_perform 179 = .ok (.ireturn, 1) := by decide +kernel
theorem d_Ke_perform_180 : decode b_Ke_perform 180 = .ok (.aload_n 0, 1) := by decide +kernel
theorem d_Ke_perform_181 : decode b_Ke_perform 181 = .ok (.aload_n 1, 1) := by decide +kernel
theorem d_Ke_perform_182 : decode b_Ke_perform 182 = .ok (.iload 4, 2) := by decide +kernel
theorem d_Ke_perform_184 : decode b_Ke_perform 184 = .ok (.iload 6, 2) := by decide +kernel
theorem d_Ke_perform_186 : decode b_Ke_perform 186 = .ok (.invokevirtual 225, 3) := by decide +kernel
theorem d_Ke_perform_189 : decode b_Ke_perform 189 = .ok (.ireturn, 1) := by decide +kernel
theorem d_Ke_perform_190 : decode b_Ke_perform 190 = .ok (.aload_n 0, 1) := by decide +kernel
theorem d_Ke_perform_191 : decode b_Ke_perform 191 = .ok (.aload_n 1, 1) := by decide +kernel
theorem d_Ke_perform_192 : decode b_Ke_perform 192 = .ok (.iload 4, 2) := by decide +kernel
theorem d_Ke_perform_194 : decode b_Ke_perform 194 = .ok (.iload 6, 2) := by decide +kernel
theorem d_Ke_perform_196 : decode b_Ke_perform 196 = .ok (.invokevirtual 228, 3) := by decide +kernel
theorem d_Ke_perform_199 : decode b_Ke_perform 199 = .ok (.ireturn, 1) := by decide +kernel
theorem d_Ke_perform_200 : decode b_Ke_perform 200 = .ok (.aload_n 1, 1) := by decide +kernel
theorem d_Ke_perform_201 : decode b_Ke_perform 201 = .ok (.getfield 94, 3) := by decide +kernel
theorem d_Ke_perform_204 : decode b_Ke_perform 204 = .ok (.iload 4, 2) := by decide +kernel
theorem d_Ke_perform_206 : decode b_Ke_perform 206 = .ok (.aload_n 0, 1) := by decide +kernel
theorem d_Ke_perform_207 : decode b_Ke_perform 207 = .ok (.aload_n 1, 1) := by decide +kernel
theorem d_Ke_perform_208 : decode b_Ke_perform 208 = .ok (.aload_n 1, 1) := by decide +kernel
theorem d_Ke_perform_209 : decode b_Ke_perform 209 = .ok (.getfield 94, 3) := by decide +kernel
theorem d_Ke_perform_212 : decode b_Ke_perform 212 = .ok (.iload 4, 2) := by decide +kernel
theorem d_Ke_perform_214 : decode b_Ke_perform 214 = .ok (.iaload, 1) := by decide +kernel
theorem d_Ke_perform_215 : decode b_Ke_perform 215 = .ok (.aload_n 1, 1) := by decide +kernel
theorem d_Ke_perform_216 : decode b_Ke_perform 216 = .ok (.getfield 94, 3) := by decide +kernel
theorem d_Ke_perform_219 : decode b_Ke_perform 219 = .ok (.iload 5, 2) := by decide +kernel
theorem d_Ke_perform_221 : decode b_Ke_perform 221 = .ok (.iaload, 1) := by decide +kernel
theorem d_Ke_perform_222 : decode b_Ke_perform 222 = .ok (.iload 6, 2) := by decide +kernel
theorem d_Ke_perform_224 : decode b_Ke_perform 224 = .ok (.invokevirtual 231, 3) := by decide +kernel
theorem d_Ke_perform_227 : decode b_Ke_perform 227 = .ok (.iastore, 1) := by decide +kernel
theorem d_Ke_perform_228 : decode b_Ke_perform 228 = .ok (.iconst 0, 1) := by decide +kernel
theorem d_Ke_perform_229 : decode b_Ke_perform 229 = .ok (.ireturn, 1) := by decide +kernel
theorem d_Ke_perform_230 : decode b_Ke_perform 230 = .ok (.aload_n 0, 1) := by decide +kernel
theorem d_Ke_perform_231 : decode b_Ke_perform 231 = .ok (.aload_n 1, 1) := by decide +kernel
theorem d_Ke_perform_232 : decode b_Ke_perform 232 = .ok (.iload 4, 2) := by decide +kernel
theorem d_Ke_perform_234 : decode b_Ke_perform 234 = .ok (.iload 6, 2) := by decide +kernel
theorem d_Ke_perform_236 : decode b_Ke_perform 236 = .ok (.invokevirtual 235, 3) := by decide +kernel
theorem d_Ke_perform_239 : decode b_Ke_perform 239 = .ok (.ireturn, 1) := by decide +kernel
theorem d_Ke_perform_240 : decode b_Ke_perform 240 = .ok (.aload_n 0, 1) := by decide +kernel
theorem d_Ke_perform_241 : decode b_Ke_perform 241 = .ok (.aload_n 1, 1) := by decide +kernel
theorem d_Ke_perform_242 : decode b_Ke_perform 242 = .ok (.iload 4, 2) := by decide +kernel
theorem d_Ke_perform_244 : decode b_Ke_perform 244 = .ok (.iload 6, 2) := by decide +kernel
theorem d_Ke_perform_246 : decode b_Ke_perform 246 = .ok (.invokevirtual 238, 3) := by decide +kernel
theorem d_Ke_perform_249 : decode b_Ke_perform 249 = .ok (.ireturn, 1) := by decide +kernel
theorem d_Ke_perform_250 : decode b_Ke_perform 250 = .ok (.aload_n 0, 1) := by decide +kernel
theorem d_Ke_perform_251 : decode b_Ke_perform 251 = .ok (.aload_n 1, 1) := by decide +kernel
theorem d_Ke_perform_252 : decode b_Ke_perform 252 = .ok (.iload 4, 2) := by decide +kernel
theorem d_Ke_perform_254 : decode b_Ke_perform 254 = .ok (.iload 6, 2) := by decide +kernel
theorem d_Ke_perform_256 : decode b_Ke_perform 256 = .ok (.invokevirtual 241, 3) := by decide +kernel
theorem d_Ke_perform_259 : decode b_Ke_perform 259 = .ok (.ireturn, 1) := by decide +kernel
theorem d_Ke_perform_260 : decode b_Ke_perform 260 = .ok (.aload_n 0, 1) := by decide +kernel
theorem d_Ke_perform_261 : decode b_Ke_perform 261 = .ok (.aload_n 1, 1) := by decide +kernel
theorem d_Ke_perform_262 : decode b_Ke_perform 262 = .ok (.iload 6, 2) := by decide +kernel
theorem d_Ke_perform_264 : decode b_Ke_perform 264 = .ok (.invokevirtual 244, 3) := by decide +kernel
theorem d_Ke_perform_267 : decode b_Ke_perform 267 = .ok (.ireturn, 1) := by decide +kernel
theorem d_Ke_perform_268 : decode b_Ke_perform 268 = .ok (.aload_n 0, 1) := by decide +kernel
theorem d_Ke_perform_269 : decode b_Ke_perform 269 = .ok (.aload_n 1, 1) := by decide +kernel
theorem d_Ke_perform_270 : decode b_Ke_perform 270 = .ok (.aload_n 1, 1) := by decide +kernel
theorem d_Ke_perform_271 : decode b_Ke_perform 271 = .ok (.getfield 94, 3) := by decide +kernel
theorem d_Ke_perform_274 : decode b_Ke_perform 274 = .ok (.iload 4, 2) := by decide +kernel
theorem d_Ke_perform_276 : decode b_Ke_perform 276 = .ok (.iaload, 1) := by decide +kernel
theorem d_Ke_perform_277 : decode b_Ke_perform 277 = .ok (.invokevirtual 215, 3) := by decide +kernel
theorem d_Ke_perform_280 : decode b_Ke_perform 280 = .ok (.iconst 0, 1) := by decide +kernel
theorem d_Ke_perform_281 : decode b_Ke_perform 281 = .ok (.ireturn, 1) := by decide +kernel
theorem d_Ke_perform_282 : decode b_Ke_perform 282 = .ok (.aload_n 0, 1) := by decide +kernel
theorem d_Ke_perform_283 : decode b_Ke_perform 283 = .ok (.aload_n 1, 1) := by decide +kernel
theorem d_Ke_perform_284 : decode b_Ke_perform 284 = .ok (.iload 4, 2) := by decide +kernel
theorem d_Ke_perform_286 : decode b_Ke_perform 286 = .ok (.iload 5, 2) := by decide +kernel
theorem d_Ke_perform_288 : decode b_Ke_perform 288 = .ok (.invokevirtual 248, 3) := by decide +kernel
theorem d_Ke_perform_291 : decode b_Ke_perform 291 = .ok (.iconst 0, 1) := by decide +kernel
theorem d_Ke_perform_292 : decode b_Ke_perform 292 = .ok (.ireturn, 1) := by decide +kernel
theorem d_Ke_perform_293 : decode b_Ke_perform 293 = .ok (.aload_n 1, 1) := by decide +kernel
theorem d_Ke_perform_294 : decode b_Ke_perform 294 = .ok (.iload_n 2, 1) := by decide +kernel
theorem d_Ke_perform_295 : decode b_Ke_perform 295 = .ok (.iload 4, 2) := by decide +kernel
theorem d_Ke_perform_297 : decode b_Ke_perform 297 = .ok (.iload 5, 2) := by decide +kernel
theorem d_Ke_perform_299 : decode b_Ke_perform 299 = .ok (.iload 6, 2) := by decide +kernel
theorem d_Ke_perform_301 : decode b_Ke_perform 301 = .ok (.invokevirtual 251, 3) := by decide +kernel
theorem d_Ke_perform_304 : decode b_Ke_perform 304 = .ok (.ireturn, 1) := by decide +kernel
theorem d_Ke_trap_0 : decode b_Ke_trap 0 = .ok (.aload_n 0, 1) := by decide +kernel
theorem d_Ke_trap_1 : decode b_Ke_trap 1 = .ok (.dup, 1) := by decide +kernel
theorem d_Ke_trap_2 : decode b_Ke_trap 2 = .ok (.getfield 157, 3) := by decide +kernel
theorem d_Ke_trap_5 : decode b_Ke_trap 5 = .ok (.iconst 1, 1) := by decide +kernel
theorem d_Ke_trap_6 : decode b_Ke_trap 6 = .ok (.iadd, 1) := by decide +kernel
theorem d_Ke_trap_7 : decode b_Ke_trap 7 = .ok (.putfield 157, 3) := by decide +kernel
theorem d_Ke_trap_10 : decode b_Ke_trap 10 = .ok (.aload_n 1, 1) := by decide +kernel
theorem d_Ke_trap_11 : decode b_Ke_trap 11 = .ok (.dup, 1) := by decide +kernel
theorem d_Ke_trap_12 : decode b_Ke_trap 12 = .ok (.getfield 122, 3) := by decide +kernel
theorem d_Ke_trap_15 : decode b_Ke_trap 15 = .ok (.iconst 1, 1) := by decide +kernel
theorem d_Ke_trap_16 : decode b_Ke_trap 16 = .ok (.iadd, 1) := by decide +kernel
theorem d_Ke_trap_17 : decode b_Ke_trap 17 = .ok (.putfield 122, 3) := by decide +kernel
theorem d_Ke_trap_20 : decode b_Ke_trap 20 = .ok (.aload_n 1, 1) := by decide +kernel
theorem d_Ke_trap_21 : decode b_Ke_trap 21 = .ok (.getfield 104, 3) := by decide +kernel
theorem d_Ke_trap_24 : decode b_Ke_trap 24 = .ok (.iconst (-1), 1) := by decide +kernel
theorem d_Ke_trap_25 : decode b_Ke_trap 25 = .ok (.if_icmp .ne 20, 3) := by decide +kernel
theorem d_Ke_trap_28 : decode b_Ke_trap 28 = .ok (.aload_n 1, 1) := by decide +kernel
theorem d_Ke_trap_29 : decode b_Ke_trap 29 = .ok (.iload_n 3, 1) := by decide +kernel
theorem d_Ke_trap_30 : decode b_Ke_trap 30 = .ok (.invokevirtual 197, 3) := by decide +kernel
theorem d_Ke_trap_33 : decode b_Ke_trap 33 = .ok (.aload_n 0, 1) := by decide +kernel
theorem d_Ke_trap_34 : decode b_Ke_trap 34 = .ok (.aload_n 1, 1) := by decide +kernel
theorem d_Ke_trap_35 : decode b_Ke_trap 35 = .ok (.bipush (-100), 2) := by decide +kernel
theorem d_Ke_trap_37 : decode b_Ke_trap 37 = .ok (.iload_n 2, 1) := by decide +kernel
theorem d_Ke_trap_38 : decode b_Ke_trap 38 = .ok (.isub, 1) := by decide +kernel
theorem d_Ke_trap_39 : decode b_Ke_trap 39 = .ok (.invokevirtual 215, 3) := by decide +kernel
theorem d_Ke_trap_42 : decode b_Ke_trap 42 = .ok (.goto 23, 3) := by decide +kernel
theorem d_Ke_trap_45 : decode b_Ke_trap 45 = .ok (.aload_n 1, 1) := by decide +kernel
theorem d_Ke_trap_46 : decode b_Ke_trap 46 = .ok (.getfield 94, 3) := by decide +kernel
theorem d_Ke_trap_49 : decode b_Ke_trap 49 = .ok (.iconst 3, 1) := by decide +kernel
theorem d_Ke_trap_50 : decode b_Ke_trap 50 = .ok (.iload_n 2, 1) := by decide +kernel
theorem d_Ke_trap_51 : decode b_Ke_trap 51 = .ok (.iastore, 1) := by decide +kernel
theorem d_Ke_trap_52 : decode b_Ke_trap 52 = .ok (.aload_n 1, 1) := by decide +kernel
theorem d_Ke_trap_53 : decode b_Ke_trap 53 = .ok (.aload_n 1, 1) := by decide +kernel
theorem d_Ke_trap_54 : decode b_Ke_trap 54 = .ok (.getfield 104, 3) := by decide +kernel
theorem d_Ke_trap_57 : decode b_Ke_trap 57 = .ok (.invokevirtual 197, 3) := by decide +kernel
theorem d_Ke_trap_60 : decode b_Ke_trap 60 = .ok (.aload_n 1, 1) := by decide +kernel
theorem d_Ke_trap_61 : decode b_Ke_trap 61 = .ok (.iconst (-1), 1) := by decide +kernel
theorem d_Ke_trap_62 : decode b_Ke_trap 62 = .ok (.putfield 104, 3) := by decide +kernel
theorem d_Ke_trap_65 : decode b_Ke_trap 65 = .ok (.return_, 1) := by decide +kernel
theorem d_Ke_addressTrap_0 : decode b_Ke_addressTrap 0 = .ok (.iload_n 1, 1) := by decide +kernel
theorem d_Ke_addressTrap_1 : decode b_Ke_addressTrap 1 = .ok (.bipush 32, 2) := by decide +kernel
theorem d_Ke_addressTrap_3 : decode b_Ke_addressTrap 3 = .ok (.invokestatic 179, 3) := by decide +kernel
theorem d_Ke_addressTrap_6 : decode b_Ke_addressTrap 6 = .ok (.ifCond .eq 5, 3) := by decide +kernel
theorem d_Ke_addressTrap_9 : decode b_Ke_addressTrap 9 = .ok (.iconst 2, 1) := by decide +kernel
theorem d_Ke_addressTrap_10 : decode b_Ke_addressTrap 10 = .ok (.ireturn, 1) := by decide +kernel
theorem d_Ke_addressTrap_11 : decode b_Ke_addressTrap 11 = .ok (.aload_n 0, 1) := by decide +kernel
theorem d_Ke_addressTrap_12 : decode b_Ke_addressTrap 12 = .ok (.getfield 125, 3) := by decide +kernel
theorem d_Ke_addressTrap_15 : decode b_Ke_addressTrap 15 = .ok (.iload_n 1, 1) := by decide +kernel
theorem d_Ke_addressTrap_16 : decode b_Ke_addressTrap 16 = .ok (.bipush 8, 2) := by decide +kernel
theorem d_Ke_addressTrap_18 : decode b_Ke_addressTrap 18 = .ok (.idiv, 1) := by decide +kernel
theorem d_Ke_addressTrap_19 : decode b_Ke_addressTrap 19 = .ok (.iaload, 1) := by decide +kernel
theorem d_Ke_addressTrap_20 : decode b_Ke_addressTrap 20 = .ok (.iconst (-1), 1) := by decide +kernel
theorem d_Ke_addressTrap_21 : decode b_Ke_addressTrap 21 = .ok (.if_icmp .ne 7, 3) := by decide +kernel
theorem d_Ke_addressTrap_24 : decode b_Ke_addressTrap 24 = .ok (.iconst 3, 1) := by decide +kernel
theorem d_Ke_addressTrap_25 : decode b_Ke_addressTrap 25 = .ok (.goto 4, 3) := by decide +kernel
theorem d_Ke_addressTrap_28 : decode b_Ke_addressTrap 28 = .ok (.iconst 0, 1) := by decide +kernel
theorem d_Ke_addressTrap_29 : decode b_Ke_addressTrap 29 = .ok (.ireturn, 1) := by decide +kernel
theorem d_Ke_load_0 : decode b_Ke_load 0 = .ok (.aload_n 1, 1) := by decide +kernel
theorem d_Ke_load_1 : decode b_Ke_load 1 = .ok (.iload_n 3, 1) := by decide +kernel
theorem d_Ke_load_2 : decode b_Ke_load 2 = .ok (.invokestatic 255, 3) := by decide +kernel
theorem d_Ke_load_5 : decode b_Ke_load 5 = .ok (.istore 4, 2) := by decide +kernel
theorem d_Ke_load_7 : decode b_Ke_load 7 = .ok (.iload 4, 2) := by decide +kernel
theorem d_Ke_load_9 : decode b_Ke_load 9 = .ok (.ifCond .ne 33, 3) := by decide +kernel
theorem d_Ke_load_12 : decode b_Ke_load 12 = .ok (.aload_n 1, 1) := by decide +kernel
theorem d_Ke_load_13 : decode b_Ke_load 13 = .ok (.getfield 125, 3) := by decide +kernel
theorem d_Ke_load_16 : decode b_Ke_load 16 = .ok (.iload_n 3, 1) := by decide +kernel
theorem d_Ke_load_17 : decode b_Ke_load 17 = .ok (.bipush 8, 2) := by decide +kernel
theorem d_Ke_load_19 : decode b_Ke_load 19 = .ok (.idiv, 1) := by decide +kernel
theorem d_Ke_load_20 : decode b_Ke_load 20 = .ok (.iaload, 1) := by decide +kernel
theorem d_Ke_load_21 : decode b_Ke_load 21 = .ok (.istore 5, 2) := by decide +kernel
theorem d_Ke_load_23 : decode b_Ke_load 23 = .ok (.aload_n 1, 1) := by decide +kernel
theorem d_Ke_load_24 : decode b_Ke_load 24 = .ok (.getfield 94, 3) := by decide +kernel
theorem d_Ke_load_27 : decode b_Ke_load 27 = .ok (.iload_n 2, 1) := by decide +kernel
theorem d_Ke_load_28 : decode b_Ke_load 28 = .ok (.aload_n 0, 1) := by decide +kernel
theorem d_Ke_load_29 : decode b_Ke_load 29 = .ok (.getfield 19, 3) := by decide +kernel
theorem d_Ke_load_32 : decode b_Ke_load 32 = .ok (.iload 5, 2) := by decide +kernel
theorem d_Ke_load_34 : decode b_Ke_load 34 = .ok (.iload_n 3, 1) := by decide +kernel
theorem d_Ke_load_35 : decode b_Ke_load 35 = .ok (.bipush 8, 2) := by decide +kernel
theorem d_Ke_load_37 : decode b_Ke_load 37 = .ok (.irem, 1) := by decide +kernel
theorem d_Ke_load_38 : decode b_Ke_load 38 = .ok (.invokevirtual 128, 3) := by decide +kernel
theorem d_Ke_load_41 : decode b_Ke_load 41 = .ok (.iastore, 1) := by decide +kernel
theorem d_Ke_load_42 : decode b_Ke_load 42 = .ok (.iload 4, 2) := by decide +kernel
theorem d_Ke_load_44 : decode b_Ke_load 44 = .ok (.ireturn, 1) := by decide +kernel
theorem d_Ke_store_0 : decode b_Ke_store 0 = .ok (.aload_n 1, 1) := by decide +kernel
theorem d_Ke_store_1 : decode b_Ke_store 1 = .ok (.iload_n 3, 1) := by decide +kernel
theorem d_Ke_store_2 : decode b_Ke_store 2 = .ok (.invokestatic 255, 3) := by decide +kernel
theorem d_Ke_store_5 : decode b_Ke_store 5 = .ok (.istore 4, 2) := by decide +kernel
theorem d_Ke_store_7 : decode b_Ke_store 7 = .ok (.iload 4, 2) := by decide +kernel
theorem d_Ke_store_9 : decode b_Ke_store 9 = .ok (.ifCond .ne 33, 3) := by decide +kernel
theorem d_Ke_store_12 : decode b_Ke_store 12 = .ok (.aload_n 1, 1) := by decide +kernel
theorem d_Ke_store_13 : decode b_Ke_store 13 = .ok (.getfield 125, 3) := by decide +kernel
theorem d_Ke_store_16 : decode b_Ke_store 16 = .ok (.iload_n 3, 1) := by decide +kernel
theorem d_Ke_store_17 : decode b_Ke_store 17 = .ok (.bipush 8, 2) := by decide +kernel
theorem d_Ke_store_19 : decode b_Ke_store 19 = .ok (.idiv, 1) := by decide +kernel
theorem d_Ke_store_20 : decode b_Ke_store 20 = .ok (.iaload, 1) := by decide +kernel
theorem d_Ke_store_21 : decode b_Ke_store 21 = .ok (.istore 5, 2) := by decide +kernel
theorem d_Ke_store_23 : decode b_Ke_store 23 = .ok (.aload_n 0, 1) := by decide +kernel
theorem d_Ke_store_24 : decode b_Ke_store 24 = .ok (.getfield 19, 3) := by decide +kernel
theorem d_Ke_store_27 : decode b_Ke_store 27 = .ok (.iload 5, 2) := by decide +kernel
theorem d_Ke_store_29 : decode b_Ke_store 29 = .ok (.iload_n 3, 1) := by decide +kernel
theorem d_Ke_store_30 : decode b_Ke_store 30 = .ok (.bipush 8, 2) := by decide +kernel
theorem d_Ke_store_32 : decode b_Ke_store 32 = .ok (.irem, 1) := by decide +kernel
theorem d_Ke_store_33 : decode b_Ke_store 33 = .ok (.aload_n 1, 1) := by decide +kernel
theorem d_Ke_store_34 : decode b_Ke_store 34 = .ok (.getfield 94, 3) := by decide +kernel
theorem d_Ke_store_37 : decode b_Ke_store 37 = .ok (.iload_n 2, 1) := by decide +kernel
theorem d_Ke_store_38 : decode b_Ke_store 38 = .ok (.iaload, 1) := by decide +kernel
theorem d_Ke_store_39 : decode b_Ke_store 39 = .ok (.invokevirtual 258, 3) := by decide +kernel
theorem d_Ke_store_42 : decode b_Ke_store 42 = .ok (.iload 4, 2) := by decide +kernel
theorem d_Ke_store_44 : decode b_Ke_store 44 = .ok (.ireturn, 1) := by decide +kernel
theorem d_Ke_map_0 : decode b_Ke_map 0 = .ok (.iload_n 3, 1) := by decide +kernel
theorem d_Ke_map_1 : decode b_Ke_map 1 = .ok (.iconst 4, 1) := by decide +kernel
theorem d_Ke_map_2 : decode b_Ke_map 2 = .ok (.invokestatic 179, 3) := by decide +kernel
theorem d_Ke_map_5 : decode b_Ke_map 5 = .ok (.ifCond .eq 5, 3) := by decide +kernel
theorem d_Ke_map_8 : decode b_Ke_map 8 = .ok (.iconst 4, 1) := by decide +kernel
theorem d_Ke_map_9 : decode b_Ke_map 9 = .ok (.ireturn, 1) := by decide +kernel
theorem d_Ke_map_10 : decode b_Ke_map 10 = .ok (.iconst (-1), 1) := by decide +kernel
theorem d_Ke_map_11 : decode b_Ke_map 11 = .ok (.istore 4, 2) := by decide +kernel
theorem d_Ke_map_13 : decode b_Ke_map 13 = .ok (.aload_n 1, 1) := by decide +kernel
theorem d_Ke_map_14 : decode b_Ke_map 14 = .ok (.getfield 125, 3) := by decide +kernel
theorem d_Ke_map_17 : decode b_Ke_map 17 = .ok (.iload_n 3, 1) := by decide +kernel
theorem d_Ke_map_18 : decode b_Ke_map 18 = .ok (.iaload, 1) := by decide +kernel
theorem d_Ke_map_19 : decode b_Ke_map 19 = .ok (.iconst (-1), 1) := by decide +kernel
theorem d_Ke_map_20 : decode b_Ke_map 20 = .ok (.if_icmp .ne 19, 3) := by decide +kernel
theorem d_Ke_map_23 : decode b_Ke_map 23 = .ok (.aload_n 1, 1) := by decide +kernel
theorem d_Ke_map_24 : decode b_Ke_map 24 = .ok (.invokevirtual 260, 3) := by decide +kernel
theorem d_Ke_map_27 : decode b_Ke_map 27 = .ok (.ifCond .le 12, 3) := by decide +kernel
theorem d_Ke_map_30 : decode b_Ke_map 30 = .ok (.aload_n 0, 1) := by decide +kernel
theorem d_Ke_map_31 : decode b_Ke_map 31 = .ok (.getfield 19, 3) := by decide +kernel
theorem d_Ke_map_34 : decode b_Ke_map 34 = .ok (.invokevirtual 263, 3) := by decide +kernel
theorem d_Ke_map_37 : decode b_Ke_map 37 = .ok (.istore 4, 2) := by decide +kernel
theorem d_Ke_map_39 : decode b_Ke_map 39 = .ok (.iload 4, 2) := by decide +kernel
theorem d_Ke_map_41 : decode b_Ke_map 41 = .ok (.iconst (-1), 1) := by decide +kernel
theorem d_Ke_map_42 : decode b_Ke_map 42 = .ok (.if_icmp .eq 21, 3) := by decide +kernel
theorem d_Ke_map_45 : decode b_Ke_map 45 = .ok (.aload_n 1, 1) := by decide +kernel
theorem d_Ke_map_46 : decode b_Ke_map 46 = .ok (.getfield 125, 3) := by decide +kernel
theorem d_Ke_map_49 : decode b_Ke_map 49 = .ok (.iload_n 3, 1) := by decide +kernel
theorem d_Ke_map_50 : decode b_Ke_map 50 = .ok (.iload 4, 2) := by decide +kernel
theorem d_Ke_map_52 : decode b_Ke_map 52 = .ok (.iastore, 1) := by decide +kernel
theorem d_Ke_map_53 : decode b_Ke_map 53 = .ok (.aload_n 1, 1) := by decide +kernel
theorem d_Ke_map_54 : decode b_Ke_map 54 = .ok (.dup, 1) := by decide +kernel
theorem d_Ke_map_55 : decode b_Ke_map 55 = .ok (.getfield 110, 3) := by decide +kernel
theorem d_Ke_map_58 : decode b_Ke_map 58 = .ok (.iconst 1, 1) := by decide +kernel
theorem d_Ke_map_59 : decode b_Ke_map 59 = .ok (.iadd, 1) := by decide +kernel
theorem d_Ke_map_60 : decode b_Ke_map 60 = .ok (.putfield 110, 3) := by decide +kernel
theorem d_Ke_map_63 : decode b_Ke_map 63 = .ok (.aload_n 1, 1) := by decide +kernel
theorem d_Ke_map_64 : decode b_Ke_map 64 = .ok (.getfield 94, 3) := by decide +kernel
theorem d_Ke_map_67 : decode b_Ke_map 67 = .ok (.iload_n 2, 1) := by decide +kernel
theorem d_Ke_map_68 : decode b_Ke_map 68 = .ok (.iload 4, 2) := by decide +kernel
theorem d_Ke_map_70 : decode b_Ke_map 70 = .ok (.iconst (-1), 1) := by decide +kernel
theorem d_Ke_map_71 : decode b_Ke_map 71 = .ok (.if_icmp .ne 7, 3) := by decide +kernel
theorem d_Ke_map_74 : decode b_Ke_map 74 = .ok (.iconst 0, 1) := by decide +kernel
theorem d_Ke_map_75 : decode b_Ke_map 75 = .ok (.goto 4, 3) := by decide +kernel
theorem d_Ke_map_78 : decode b_Ke_map 78 = .ok (.iconst 1, 1) := by decide +kernel
theorem d_Ke_map_79 : decode b_Ke_map 79 = .ok (.iastore, 1) := by decide +kernel
theorem d_Ke_map_80 : decode b_Ke_map 80 = .ok (.iconst 0, 1) := by decide +kernel
theorem d_Ke_map_81 : decode b_Ke_map 81 = .ok (.ireturn, 1) := by decide +kernel
theorem d_Ke_unmap_0 : decode b_Ke_unmap 0 = .ok (.iload_n 3, 1) := by decide +kernel
theorem d_Ke_unmap_1 : decode b_Ke_unmap 1 = .ok (.iconst 4, 1) := by decide +kernel
theorem d_Ke_unmap_2 : decode b_Ke_unmap 2 = .ok (.invokestatic 179, 3) := by decide +kernel
theorem d_Ke_unmap_5 : decode b_Ke_unmap 5 = .ok (.ifCond .eq 5, 3) := by decide +kernel
theorem d_Ke_unmap_8 : decode b_Ke_unmap 8 = .ok (.iconst 4, 1) := by decide +kernel
theorem d_Ke_unmap_9 : decode b_Ke_unmap 9 = .ok (.ireturn, 1) := by decide +kernel
theorem d_Ke_unmap_10 : decode b_Ke_unmap 10 = .ok (.aload_n 1, 1) := by decide +kernel
theorem d_Ke_unmap_11 : decode b_Ke_unmap 11 = .ok (.getfield 94, 3) := by decide +kernel
theorem d_Ke_unmap_14 : decode b_Ke_unmap 14 = .ok (.iload_n 2, 1) := by decide +kernel
theorem d_Ke_unmap_15 : decode b_Ke_unmap 15 = .ok (.aload_n 0, 1) := by decide +kernel
theorem d_Ke_unmap_16 : decode b_Ke_unmap 16 = .ok (.aload_n 1, 1) := by decide +kernel
theorem d_Ke_unmap_17 : decode b_Ke_unmap 17 = .ok (.iload_n 3, 1) := by decide +kernel
theorem d_Ke_unmap_18 : decode b_Ke_unmap 18 = .ok (.invokevirtual 266, 3) := by decide +kernel
theorem d_Ke_unmap_21 : decode b_Ke_unmap 21 = .ok (.ifCond .eq 7, 3) := by decide +kernel
theorem d_Ke_unmap_24 : decode b_Ke_unmap 24 = .ok (.iconst 1, 1) := by decide +kernel
theorem d_Ke_unmap_25 : decode b_Ke_unmap 25 = .ok (.goto 4, 3) := by decide +kernel
theorem d_Ke_unmap_28 : decode b_Ke_unmap 28 = .ok (.iconst 0, 1) := by decide +kernel
theorem d_Ke_unmap_29 : decode b_Ke_unmap 29 = .ok (.iastore, 1) := by decide +kernel
theorem d_Ke_unmap_30 : decode b_Ke_unmap 30 = .ok (.iconst 0, 1) := by decide +kernel
theorem d_Ke_unmap_31 : decode b_Ke_unmap 31 = .ok (.ireturn, 1) := by decide +kernel
theorem d_Ke_dropPage_0 : decode b_Ke_dropPage 0 = .ok (.aload_n 1, 1) := by decide +kernel
theorem d_Ke_dropPage_1 : decode b_Ke_dropPage 1 = .ok (.getfield 125, 3) := by decide +kernel
theorem d_Ke_dropPage_4 : decode b_Ke_dropPage 4 = .ok (.iload_n 2, 1) := by decide +kernel
theorem d_Ke_dropPage_5 : decode b_Ke_dropPage 5 = .ok (.iaload, 1) := by decide +kernel
theorem d_Ke_dropPage_6 : decode b_Ke_dropPage 6 = .ok (.istore_n 3, 1) := by decide +kernel
theorem d_Ke_dropPage_7 : decode b_Ke_dropPage 7 = .ok (.iload_n 3, 1) := by decide +kernel
theorem d_Ke_dropPage_8 : decode b_Ke_dropPage 8 = .ok (.iconst (-1), 1) := by decide +kernel
theorem d_Ke_dropPage_9 : decode b_Ke_dropPage 9 = .ok (.if_icmp .ne 5, 3) := by decide +kernel
theorem d_Ke_dropPage_12 : decode b_Ke_dropPage 12 = .ok (.iconst 0, 1) := by decide +kernel
theorem d_Ke_dropPage_13 : decode b_Ke_dropPage 13 = .ok (.ireturn, 1) := by decide +kernel
theorem d_Ke_dropPage_14 : decode b_Ke_dropPage 14 = .ok (.aload_n 1, 1) := by decide +kernel
theorem d_Ke_dropPage_15 : decode b_Ke_dropPage 15 = .ok (.getfield 125, 3) := by decide +kernel
theorem d_Ke_dropPage_18 : decode b_Ke_dropPage 18 = .ok (.iload_n 2, 1) := by decide +kernel
theorem d_Ke_dropPage_19 : decode b_Ke_dropPage 19 = .ok (.iconst (-1), 1) := by decide +kernel
theorem d_Ke_dropPage_20 : decode b_Ke_dropPage 20 = .ok (.iastore, 1) := by decide +kernel
theorem d_Ke_dropPage_21 : decode b_Ke_dropPage 21 = .ok (.aload_n 1, 1) := by decide +kernel
theorem d_Ke_dropPage_22 : decode b_Ke_dropPage 22 = .ok (.dup, 1) := by decide +kernel
theorem d_Ke_dropPage_23 : decode b_Ke_dropPage 23 = .ok (.getfield 110, 3) := by decide +kernel
theorem d_Ke_dropPage_26 : decode b_Ke_dropPage 26 = .ok (.iconst 1, 1) := by decide +kernel
theorem d_Ke_dropPage_27 : decode b_Ke_dropPage 27 = .ok (.isub, 1) := by decide +kernel
theorem d_Ke_dropPage_28 : decode b_Ke_dropPage 28 = .ok (.putfield 110, 3) := by decide +kernel
theorem d_Ke_dropPage_31 : decode b_Ke_dropPage 31 = .ok (.aload_n 0, 1) := by decide +kernel
theorem d_Ke_dropPage_32 : decode b_Ke_dropPage 32 = .ok (.getfield 19, 3) := by decide +kernel
theorem d_Ke_dropPage_35 : decode b_Ke_dropPage 35 = .ok (.iload_n 3, 1) := by decide +kernel
theorem d_Ke_dropPage_36 : decode b_Ke_dropPage 36 = .ok (.invokevirtual 270, 3) := by decide +kernel
theorem d_Ke_dropPage_39 : decode b_Ke_dropPage 39 = .ok (.iconst 1, 1) := by decide +kernel
theorem d_Ke_dropPage_40 : decode b_Ke_dropPage 40 = .ok (.ireturn, 1) := by decide +kernel
theorem d_Ke_spawn_0 : decode b_Ke_spawn 0 = .ok (.iload_n 3, 1) := by decide +kernel
theorem d_Ke_spawn_1 : decode b_Ke_spawn 1 = .ok (.ifCond .lt 11, 3) := by decide +kernel
theorem d_Ke_spawn_4 : decode b_Ke_spawn 4 = .ok (.iload_n 3, 1) := by decide +kernel
theorem d_Ke_spawn_5 : decode b_Ke_spawn 5 = .ok (.aload_n 1, 1) := by decide +kernel
theorem d_Ke_spawn_6 : decode b_Ke_spawn 6 = .ok (.invokevirtual 260, 3) := by decide +kernel
theorem d_Ke_spawn_9 : decode b_Ke_spawn 9 = .ok (.if_icmp .le 5, 3) := by decide +kernel
theorem d_Ke_spawn_12 : decode b_Ke_spawn 12 = .ok (.iconst (-1), 1) := by decide +kernel
theorem d_Ke_spawn_13 : decode b_Ke_spawn 13 = .ok (.ireturn, 1) := by decide +kernel
theorem d_Ke_spawn_14 : decode b_Ke_spawn 14 = .ok (.iconst 0, 1) := by decide +kernel
theorem d_Ke_spawn_15 : decode b_Ke_spawn 15 = .ok (.istore 5, 2) := by decide +kernel
theorem d_Ke_spawn_17 : decode b_Ke_spawn 17 = .ok (.iload 5, 2) := by decide +kernel
theorem d_Ke_spawn_19 : decode b_Ke_spawn 19 = .ok (.bipush 6, 2) := by decide +kernel
