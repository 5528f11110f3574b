/-! decode rows (by program: gen_dec.py) -/
theorem d_Mo_act_0 : decode prog_9_method_11_code 0 = .ok (.iload_n 2, 1) := by decide +kernel
theorem d_Mo_act_1 : decode prog_9_method_11_code 1 = .ok (.bipush 6, 2) := by decide +kernel
theorem d_Mo_act_3 : decode prog_9_method_11_code 3 = .ok (.if_icmp .ne 10, 3) := by decide +kernel
theorem d_Mo_act_6 : decode prog_9_method_11_code 6 = .ok (.aload_n 0, 1) := by decide +kernel
theorem d_Mo_act_7 : decode prog_9_method_11_code 7 = .ok (.iload_n 1, 1) := by decide +kernel
theorem d_Mo_act_8 : decode prog_9_method_11_code 8 = .ok (.invokevirtual 91, 3) := by decide +kernel
theorem d_Mo_act_11 : decode prog_9_method_11_code 11 = .ok (.iconst 1, 1) := by decide +kernel
theorem d_Mo_act_12 : decode prog_9_method_11_code 12 = .ok (.ireturn, 1) := by decide +kernel
theorem d_Mo_act_13 : decode prog_9_method_11_code 13 = .ok (.iload_n 2, 1) := by decide +kernel
theorem d_Mo_act_14 : decode prog_9_method_11_code 14 = .ok (.iconst 1, 1) := by decide +kernel
theorem d_Mo_act_15 : decode prog_9_method_11_code 15 = .ok (.if_icmp .ne 63, 3) := by decide +kernel
theorem d_Mo_act_18 : decode prog_9_method_11_code 18 = .ok (.aload_n 0, 1) := by decide +kernel
theorem d_Mo_act_19 : decode prog_9_method_11_code 19 = .ok (.iload_n 1, 1) := by decide +kernel
theorem d_Mo_act_20 : decode prog_9_method_11_code 20 = .ok (.invokevirtual 94, 3) := by decide +kernel
theorem d_Mo_act_23 : decode prog_9_method_11_code 23 = .ok (.istore 6, 2) := by decide +kernel
theorem d_Mo_act_25 : decode prog_9_method_11_code 25 = .ok (.iload_n 3, 1) := by decide +kernel
theorem d_Mo_act_26 : decode prog_9_method_11_code 26 = .ok (.ifCond .lt 32, 3) := by decide +kernel
theorem d_Mo_act_29 : decode prog_9_method_11_code 29 = .ok (.iload_n 3, 1) := by decide +kernel
theorem d_Mo_act_30 : decode prog_9_method_11_code 30 = .ok (.sipush 4095, 3) := by decide +kernel
theorem d_Mo_act_33 : decode prog_9_method_11_code 33 = .ok (.if_icmp .gt 25, 3) := by decide +kernel
theorem d_Mo_act_36 : decode prog_9_method_11_code 36 = .ok (.iload 4, 2) := by decide +kernel
theorem d_Mo_act_38 : decode prog_9_method_11_code 38 = .ok (.ifCond .lt 20, 3) := by decide +kernel
theorem d_Mo_act_41 : decode prog_9_method_11_code 41 = .ok (.iload 4, 2) := by decide +kernel
theorem d_Mo_act_43 : decode prog_9_method_11_code 43 = .ok (.sipush 4095, 3) := by decide +kernel
theorem d_Mo_act_46 : decode prog_9_method_11_code 46 = .ok (.if_icmp .gt 12, 3) := by decide +kernel
theorem d_Mo_act_49 : decode prog_9_method_11_code 49 = .ok (.iload 6, 2) := by decide +kernel
theorem d_Mo_act_51 : decode prog_9_method_11_code 51 = .ok (.ifCond .lt 7, 3) := by decide +kernel
theorem d_Mo_act_54 : decode prog_9_method_11_code 54 = .ok (.iconst 1, 1) := by decide +kernel
theorem d_Mo_act_55 : decode prog_9_method_11_code 55 = .ok (.goto 4, 3) := by decide +kernel
theorem d_Mo_act_58 : decode prog_9_method_11_code 58 = .ok (.iconst 0, 1) := by decide +kernel
theorem d_Mo_act_59 : decode prog_9_method_11_code 59 = .ok (.istore 7, 2) := by decide +kernel
theorem d_Mo_act_61 : decode prog_9_method_11_code 61 = .ok (.iload 7, 2) := by decide +kernel
theorem d_Mo_act_63 : decode prog_9_method_11_code 63 = .ok (.ifCond .eq 12, 3) := by decide +kernel
theorem d_Mo_act_66 : decode prog_9_method_11_code 66 = .ok (.aload_n 0, 1) := by decide +kernel
theorem d_Mo_act_67 : decode prog_9_method_11_code 67 = .ok (.iload 6, 2) := by decide +kernel
theorem d_Mo_act_69 : decode prog_9_method_11_code 69 = .ok (.iload_n 3, 1) := by decide +kernel
theorem d_Mo_act_70 : decode prog_9_method_11_code 70 = .ok (.iload 4, 2) := by decide +kernel
theorem d_Mo_act_72 : decode prog_9_method_11_code 72 = .ok (.invokevirtual 98, 3) := by decide +kernel
theorem d_Mo_act_75 : decode prog_9_method_11_code 75 = .ok (.iload 7, 2) := by decide +kernel
theorem d_Mo_act_77 : decode prog_9_method_11_code 77 = .ok (.ireturn, 1) := by decide +kernel
theorem d_Mo_act_78 : decode prog_9_method_11_code 78 = .ok (.aload_n 0, 1) := by decide +kernel
theorem d_Mo_act_79 : decode prog_9_method_11_code 79 = .ok (.iload_n 1, 1) := by decide +kernel
theorem d_Mo_act_80 : decode prog_9_method_11_code 80 = .ok (.iload_n 3, 1) := by decide +kernel
theorem d_Mo_act_81 : decode prog_9_method_11_code 81 = .ok (.invokevirtual 102, 3) := by decide +kernel
theorem d_Mo_act_84 : decode prog_9_method_11_code 84 = .ok (.istore 6, 2) := by decide +kernel
theorem d_Mo_act_86 : decode prog_9_method_11_code 86 = .ok (.iload 6, 2) := by decide +kernel
theorem d_Mo_act_88 : decode prog_9_method_11_code 88 = .ok (.ifCond .lt 14, 3) := by decide +kernel
theorem d_Mo_act_91 : decode prog_9_method_11_code 91 = .ok (.iload_n 2, 1) := by decide +kernel
theorem d_Mo_act_92 : decode prog_9_method_11_code 92 = .ok (.iload 4, 2) := by decide +kernel
theorem d_Mo_act_94 : decode prog_9_method_11_code 94 = .ok (.iload 5, 2) := by decide +kernel
theorem d_Mo_act_96 : decode prog_9_method_11_code 96 = .ok (.invokestatic 106, 3) := by decide +kernel
theorem d_Mo_act_99 : decode prog_9_method_11_code 99 = .ok (.ifCond .ne 5, 3) := by decide +kernel
theorem d_Mo_act_102 : decode prog_9_method_11_code 102 = .ok (.iconst 0, 1) := by decide +kernel
theorem d_Mo_act_103 : decode prog_9_method_11_code 103 = .ok (.ireturn, 1) := by decide +kernel
theorem d_Mo_act_104 : decode prog_9_method_11_code 104 = .ok (.iload_n 2, 1) := by decide +kernel
theorem d_Mo_act_105 : decode prog_9_method_11_code 105 = .ok (.tableswitch 75 2 4 #[27, 35, 55], 27) := by decide +kernel
theorem d_Mo_act_132 : decode prog_9_method_11_code 132 = .ok (.aload_n 0, 1) := by decide +kernel
theorem d_Mo_act_133 : decode prog_9_method_11_code 133 = .ok (.iload 6, 2) := by decide +kernel
theorem d_Mo_act_135 : decode prog_9_method_11_code 135 = .ok (.invokevirtual 79, 3) := by decide +kernel
theorem d_Mo_act_138 : decode prog_9_method_11_code 138 = .ok (.iconst 1, 1) := by decide +kernel
theorem d_Mo_act_139 : decode prog_9_method_11_code 139 = .ok (.ireturn, 1) := by decide +kernel
theorem d_Mo_act_140 : decode prog_9_method_11_code 140 = .ok (.aload_n 0, 1) := by decide +kernel
theorem d_Mo_act_141 : decode prog_9_method_11_code 141 = .ok (.getfield 26, 3) := by decide +kernel
theorem d_Mo_act_144 : decode prog_9_method_11_code 144 = .ok (.iload 6, 2) := by decide +kernel
theorem d_Mo_act_146 : decode prog_9_method_11_code 146 = .ok (.iload 4, 2) := by decide +kernel
theorem d_Mo_act_148 : decode prog_9_method_11_code 148 = .ok (.iastore, 1) := by decide +kernel
theorem d_Mo_act_149 : decode prog_9_method_11_code 149 = .ok (.aload_n 0, 1) := by decide +kernel
theorem d_Mo_act_150 : decode prog_9_method_11_code 150 = .ok (.getfield 29, 3) := by decide +kernel
theorem d_Mo_act_153 : decode prog_9_method_11_code 153 = .ok (.iload 6, 2) := by decide +kernel
theorem d_Mo_act_155 : decode prog_9_method_11_code 155 = .ok (.iload 5, 2) := by decide +kernel
theorem d_Mo_act_157 : decode prog_9_method_11_code 157 = .ok (.iastore, 1) := by decide +kernel
theorem d_Mo_act_158 : decode prog_9_method_11_code 158 = .ok (.iconst 1, 1) := by decide +kernel
theorem d_Mo_act_159 : decode prog_9_method_11_code 159 = .ok (.ireturn, 1) := by decide +kernel
theorem d_Mo_act_160 : decode prog_9_method_11_code 160 = .ok (.aload_n 0, 1) := by decide +kernel
theorem d_Mo_act_161 : decode prog_9_method_11_code 161 = .ok (.getfield 32, 3) := by decide +kernel
theorem d_Mo_act_164 : decode prog_9_method_11_code 164 = .ok (.iload 6, 2) := by decide +kernel
theorem d_Mo_act_166 : decode prog_9_method_11_code 166 = .ok (.iload 4, 2) := by decide +kernel
theorem d_Mo_act_168 : decode prog_9_method_11_code 168 = .ok (.iastore, 1) := by decide +kernel
theorem d_Mo_act_169 : decode prog_9_method_11_code 169 = .ok (.aload_n 0, 1) := by decide +kernel
theorem d_Mo_act_170 : decode prog_9_method_11_code 170 = .ok (.getfield 35, 3) := by decide +kernel
theorem d_Mo_act_173 : decode prog_9_method_11_code 173 = .ok (.iload 6, 2) := by decide +kernel
theorem d_Mo_act_175 : decode prog_9_method_11_code 175 = .ok (.iload 5, 2) := by decide +kernel
theorem d_Mo_act_177 : decode prog_9_method_11_code 177 = .ok (.iastore, 1) := by decide +kernel
theorem d_Mo_act_178 : decode prog_9_method_11_code 178 = .ok (.iconst 1, 1) := by decide +kernel
theorem d_Mo_act_179 : decode prog_9_method_11_code 179 = .ok (.ireturn, 1) := by decide +kernel
theorem d_Mo_act_180 : decode prog_9_method_11_code 180 = .ok (.aload_n 0, 1) := by decide +kernel
theorem d_Mo_act_181 : decode prog_9_method_11_code 181 = .ok (.getfield 38, 3) := by decide +kernel
theorem d_Mo_act_184 : decode prog_9_method_11_code 184 = .ok (.iload 6, 2) := by decide +kernel
theorem d_Mo_act_186 : decode prog_9_method_11_code 186 = .ok (.iload 4, 2) := by decide +kernel
theorem d_Mo_act_188 : decode prog_9_method_11_code 188 = .ok (.iastore, 1) := by decide +kernel
theorem d_Mo_act_189 : decode prog_9_method_11_code 189 = .ok (.iconst 1, 1) := by decide +kernel
theorem d_Mo_act_190 : decode prog_9_method_11_code 190 = .ok (.ireturn, 1) := by decide +kernel
theorem d_Mo_fits_0 : decode prog_9_method_12_code 0 = .ok (.iload_n 0, 1) := by decide +kernel
theorem d_Mo_fits_1 : decode prog_9_method_12_code 1 = .ok (.tableswitch 111 3 5 #[27, 57, 95], 27) := by decide +kernel
theorem d_Mo_fits_28 : decode prog_9_method_12_code 28 = .ok (.iload_n 1, 1) := by decide +kernel
theorem d_Mo_fits_29 : decode prog_9_method_12_code 29 = .ok (.bipush (-100), 2) := by decide +kernel
theorem d_Mo_fits_31 : decode prog_9_method_12_code 31 = .ok (.if_icmp .lt 25, 3) := by decide +kernel
theorem d_Mo_fits_34 : decode prog_9_method_12_code 34 = .ok (.iload_n 1, 1) := by decide +kernel
theorem d_Mo_fits_35 : decode prog_9_method_12_code 35 = .ok (.bipush 100, 2) := by decide +kernel
theorem d_Mo_fits_37 : decode prog_9_method_12_code 37 = .ok (.if_icmp .gt 19, 3) := by decide +kernel
theorem d_Mo_fits_40 : decode prog_9_method_12_code 40 = .ok (.iload_n 2, 1) := by decide +kernel
theorem d_Mo_fits_41 : decode prog_9_method_12_code 41 = .ok (.bipush (-100), 2) := by decide +kernel
theorem d_Mo_fits_43 : decode prog_9_method_12_code 43 = .ok (.if_icmp .lt 13, 3) := by decide +kernel
theorem d_Mo_fits_46 : decode prog_9_method_12_code 46 = .ok (.iload_n 2, 1) := by decide +kernel
theorem d_Mo_fits_47 : decode prog_9_method_12_code 47 = .ok (.bipush 100, 2) := by decide +kernel
theorem d_Mo_fits_49 : decode prog_9_method_12_code 49 = .ok (.if_icmp .gt 7, 3) := by decide +kernel
theorem d_Mo_fits_52 : decode prog_9_method_12_code 52 = .ok (.iconst 1, 1) := by decide +kernel
theorem d_Mo_fits_53 : decode prog_9_method_12_code 53 = .ok (.goto 4, 3) := by decide +kernel
theorem d_Mo_fits_56 : decode prog_9_method_12_code 56 = .ok (.iconst 0, 1) := by decide +kernel
theorem d_Mo_fits_57 : decode prog_9_method_12_code 57 = .ok (.ireturn, 1) := by decide +kernel
theorem d_Mo_fits_58 : decode prog_9_method_12_code 58 = .ok (.iload_n 1, 1) := by decide +kernel
theorem d_Mo_fits_59 : decode prog_9_method_12_code 59 = .ok (.ifCond .ne 7, 3) := by decide +kernel
theorem d_Mo_fits_62 : decode prog_9_method_12_code 62 = .ok (.iload_n 2, 1) := by decide +kernel
theorem d_Mo_fits_63 : decode prog_9_method_12_code 63 = .ok (.ifCond .eq 27, 3) := by decide +kernel
theorem d_Mo_fits_66 : decode prog_9_method_12_code 66 = .ok (.iload_n 1, 1) := by decide +kernel
theorem d_Mo_fits_67 : decode prog_9_method_12_code 67 = .ok (.iconst 1, 1) := by decide +kernel
theorem d_Mo_fits_68 : decode prog_9_method_12_code 68 = .ok (.if_icmp .lt 26, 3) := by decide +kernel
theorem d_Mo_fits_71 : decode prog_9_method_12_code 71 = .ok (.iload_n 1, 1) := by decide +kernel
theorem d_Mo_fits_72 : decode prog_9_method_12_code 72 = .ok (.sipush 200, 3) := by decide +kernel
theorem d_Mo_fits_75 : decode prog_9_method_12_code 75 = .ok (.if_icmp .gt 19, 3) := by decide +kernel
theorem d_Mo_fits_78 : decode prog_9_method_12_code 78 = .ok (.iload_n 2, 1) := by decide +kernel
theorem d_Mo_fits_79 : decode prog_9_method_12_code 79 = .ok (.iconst 1, 1) := by decide +kernel
theorem d_Mo_fits_80 : decode prog_9_method_12_code 80 = .ok (.if_icmp .lt 14, 3) := by decide +kernel
theorem d_Mo_fits_83 : decode prog_9_method_12_code 83 = .ok (.iload_n 2, 1) := by decide +kernel
theorem d_Mo_fits_84 : decode prog_9_method_12_code 84 = .ok (.sipush 200, 3) := by decide +kernel
theorem d_Mo_fits_87 : decode prog_9_method_12_code 87 = .ok (.if_icmp .gt 7, 3) := by decide +kernel
theorem d_Mo_fits_90 : decode prog_9_method_12_code 90 = .ok (.iconst 1, 1) := by decide +kernel
theorem d_Mo_fits_91 : decode prog_9_method_12_code 91 = .ok (.goto 4, 3) := by decide +kernel
theorem d_Mo_fits_94 : decode prog_9_method_12_code 94 = .ok (.iconst 0, 1) := by decide +kernel
theorem d_Mo_fits_95 : decode prog_9_method_12_code 95 = .ok (.ireturn, 1) := by decide +kernel
theorem d_Mo_fits_96 : decode prog_9_method_12_code 96 = .ok (.iload_n 1, 1) := by decide +kernel
theorem d_Mo_fits_97 : decode prog_9_method_12_code 97 = .ok (.ifCond .lt 13, 3) := by decide +kernel
theorem d_Mo_fits_100 : decode prog_9_method_12_code 100 = .ok (.iload_n 1, 1) := by decide +kernel
theorem d_Mo_fits_101 : decode prog_9_method_12_code 101 = .ok (.ldc 109, 2) := by decide +kernel
theorem d_Mo_fits_103 : decode prog_9_method_12_code 103 = .ok (.if_icmp .gt 7, 3) := by decide +kernel
theorem d_Mo_fits_106 : decode prog_9_method_12_code 106 = .ok (.iconst 1, 1) := by decide +kernel
theorem d_Mo_fits_107 : decode prog_9_method_12_code 107 = .ok (.goto 4, 3) := by decide +kernel
theorem d_Mo_fits_110 : decode prog_9_method_12_code 110 = .ok (.iconst 0, 1) := by decide +kernel
theorem d_Mo_fits_111 : decode prog_9_method_12_code 111 = .ok (.ireturn, 1) := by decide +kernel
theorem d_Mo_fits_112 : decode prog_9_method_12_code 112 = .ok (.iconst 1, 1) := by decide +kernel
theorem d_Mo_fits_113 : decode prog_9_method_12_code 113 = .ok (.ireturn, 1) := by decide +kernel
theorem d_Mo_add_0 : decode prog_9_method_13_code 0 = .ok (.aload_n 0, 1) := by decide +kernel
theorem d_Mo_add_1 : decode prog_9_method_13_code 1 = .ok (.getfield 59, 3) := by decide +kernel
theorem d_Mo_add_4 : decode prog_9_method_13_code 4 = .ok (.aload_n 0, 1) := by decide +kernel
theorem d_Mo_add_5 : decode prog_9_method_13_code 5 = .ok (.getfield 110, 3) := by decide +kernel
theorem d_Mo_add_8 : decode prog_9_method_13_code 8 = .ok (.iload_n 1, 1) := by decide +kernel
theorem d_Mo_add_9 : decode prog_9_method_13_code 9 = .ok (.sipush 255, 3) := by decide +kernel
theorem d_Mo_add_12 : decode prog_9_method_13_code 12 = .ok (.iand, 1) := by decide +kernel
theorem d_Mo_add_13 : decode prog_9_method_13_code 13 = .ok (.iastore, 1) := by decide +kernel
theorem d_Mo_add_14 : decode prog_9_method_13_code 14 = .ok (.aload_n 0, 1) := by decide +kernel
theorem d_Mo_add_15 : decode prog_9_method_13_code 15 = .ok (.dup, 1) := by decide +kernel
theorem d_Mo_add_16 : decode prog_9_method_13_code 16 = .ok (.getfield 110, 3) := by decide +kernel
theorem d_Mo_add_19 : decode prog_9_method_13_code 19 = .ok (.iconst 1, 1) := by decide +kernel
theorem d_Mo_add_20 : decode prog_9_method_13_code 20 = .ok (.iadd, 1) := by decide +kernel
theorem d_Mo_add_21 : decode prog_9_method_13_code 21 = .ok (.putfield 110, 3) := by decide +kernel
theorem d_Mo_add_24 : decode prog_9_method_13_code 24 = .ok (.return_, 1) := by decide +kernel
theorem d_Mo_addHandle_0 : decode prog_9_method_14_code 0 = .ok (.aload_n 0, 1) := by decide +kernel
theorem d_Mo_addHandle_1 : decode prog_9_method_14_code 1 = .ok (.iload_n 1, 1) := by decide +kernel
theorem d_Mo_addHandle_2 : decode prog_9_method_14_code 2 = .ok (.bipush 16, 2) := by decide +kernel
theorem d_Mo_addHandle_4 : decode prog_9_method_14_code 4 = .ok (.ishr, 1) := by decide +kernel
theorem d_Mo_addHandle_5 : decode prog_9_method_14_code 5 = .ok (.invokevirtual 113, 3) := by decide +kernel
theorem d_Mo_addHandle_8 : decode prog_9_method_14_code 8 = .ok (.aload_n 0, 1) := by decide +kernel
theorem d_Mo_addHandle_9 : decode prog_9_method_14_code 9 = .ok (.iload_n 1, 1) := by decide +kernel
theorem d_Mo_addHandle_10 : decode prog_9_method_14_code 10 = .ok (.bipush 8, 2) := by decide +kernel
theorem d_Mo_addHandle_12 : decode prog_9_method_14_code 12 = .ok (.ishr, 1) := by decide +kernel
theorem d_Mo_addHandle_13 : decode prog_9_method_14_code 13 = .ok (.invokevirtual 113, 3) := by decide +kernel
theorem d_Mo_addHandle_16 : decode prog_9_method_14_code 16 = .ok (.aload_n 0, 1) := by decide +kernel
theorem d_Mo_addHandle_17 : decode prog_9_method_14_code 17 = .ok (.iload_n 1, 1) := by decide +kernel
theorem d_Mo_addHandle_18 : decode prog_9_method_14_code 18 = .ok (.invokevirtual 113, 3) := by decide +kernel
theorem d_Mo_addHandle_21 : decode prog_9_method_14_code 21 = .ok (.return_, 1) := by decide +kernel
theorem d_Mo_create_0 : decode prog_9_method_15_code 0 = .ok (.aload_n 0, 1) := by decide +kernel
theorem d_Mo_create_1 : decode prog_9_method_15_code 1 = .ok (.iconst 0, 1) := by decide +kernel
theorem d_Mo_create_2 : decode prog_9_method_15_code 2 = .ok (.invokevirtual 94, 3) := by decide +kernel
theorem d_Mo_create_5 : decode prog_9_method_15_code 5 = .ok (.istore_n 3, 1) := by decide +kernel
theorem d_Mo_create_6 : decode prog_9_method_15_code 6 = .ok (.aload_n 0, 1) := by decide +kernel
theorem d_Mo_create_7 : decode prog_9_method_15_code 7 = .ok (.iload_n 1, 1) := by decide +kernel
theorem d_Mo_create_8 : decode prog_9_method_15_code 8 = .ok (.ifCond .lt 21, 3) := by decide +kernel
theorem d_Mo_create_11 : decode prog_9_method_15_code 11 = .ok (.iload_n 1, 1) := by decide +kernel
theorem d_Mo_create_12 : decode prog_9_method_15_code 12 = .ok (.sipush 4095, 3) := by decide +kernel
theorem d_Mo_create_15 : decode prog_9_method_15_code 15 = .ok (.if_icmp .gt 14, 3) := by decide +kernel
theorem d_Mo_create_18 : decode prog_9_method_15_code 18 = .ok (.iload_n 2, 1) := by decide +kernel
theorem d_Mo_create_19 : decode prog_9_method_15_code 19 = .ok (.ifCond .lt 10, 3) := by decide +kernel
theorem d_Mo_create_22 : decode prog_9_method_15_code 22 = .ok (.iload_n 2, 1) := by decide +kernel
theorem d_Mo_create_23 : decode prog_9_method_15_code 23 = .ok (.sipush 4095, 3) := by decide +kernel
theorem d_Mo_create_26 : decode prog_9_method_15_code 26 = .ok (.if_icmp .le 7, 3) := by decide +kernel
theorem d_Mo_create_29 : decode prog_9_method_15_code 29 = .ok (.iconst 1, 1) := by decide +kernel
theorem d_Mo_create_30 : decode prog_9_method_15_code 30 = .ok (.goto 28, 3) := by decide +kernel
theorem d_Mo_create_33 : decode prog_9_method_15_code 33 = .ok (.iload_n 3, 1) := by decide +kernel
theorem d_Mo_create_34 : decode prog_9_method_15_code 34 = .ok (.ifCond .ge 7, 3) := by decide +kernel
theorem d_Mo_create_37 : decode prog_9_method_15_code 37 = .ok (.iconst 2, 1) := by decide +kernel
theorem d_Mo_create_38 : decode prog_9_method_15_code 38 = .ok (.goto 20, 3) := by decide +kernel
theorem d_Mo_create_41 : decode prog_9_method_15_code 41 = .ok (.aload_n 0, 1) := by decide +kernel
theorem d_Mo_create_42 : decode prog_9_method_15_code 42 = .ok (.getfield 110, 3) := by decide +kernel
theorem d_Mo_create_45 : decode prog_9_method_15_code 45 = .ok (.iconst 5, 1) := by decide +kernel
theorem d_Mo_create_46 : decode prog_9_method_15_code 46 = .ok (.iadd, 1) := by decide +kernel
theorem d_Mo_create_47 : decode prog_9_method_15_code 47 = .ok (.sipush 400, 3) := by decide +kernel
theorem d_Mo_create_50 : decode prog_9_method_15_code 50 = .ok (.if_icmp .le 7, 3) := by decide +kernel
theorem d_Mo_create_53 : decode prog_9_method_15_code 53 = .ok (.iconst 3, 1) := by decide +kernel
theorem d_Mo_create_54 : decode prog_9_method_15_code 54 = .ok (.goto 4, 3) := by decide +kernel
theorem d_Mo_create_57 : decode prog_9_method_15_code 57 = .ok (.iconst 0, 1) := by decide +kernel
theorem d_Mo_create_58 : decode prog_9_method_15_code 58 = .ok (.putfield 69, 3) := by decide +kernel
theorem d_Mo_create_61 : decode prog_9_method_15_code 61 = .ok (.aload_n 0, 1) := by decide +kernel
theorem d_Mo_create_62 : decode prog_9_method_15_code 62 = .ok (.getfield 69, 3) := by decide +kernel
theorem d_Mo_create_65 : decode prog_9_method_15_code 65 = .ok (.ifCond .le 5, 3) := by decide +kernel
theorem d_Mo_create_68 : decode prog_9_method_15_code 68 = .ok (.iconst 0, 1) := by decide +kernel
theorem d_Mo_create_69 : decode prog_9_method_15_code 69 = .ok (.ireturn, 1) := by decide +kernel
theorem d_Mo_create_70 : decode prog_9_method_15_code 70 = .ok (.aload_n 0, 1) := by decide +kernel
theorem d_Mo_create_71 : decode prog_9_method_15_code 71 = .ok (.iconst 1, 1) := by decide +kernel
theorem d_Mo_create_72 : decode prog_9_method_15_code 72 = .ok (.invokevirtual 113, 3) := by decide +kernel
theorem d_Mo_create_75 : decode prog_9_method_15_code 75 = .ok (.aload_n 0, 1) := by decide +kernel
theorem d_Mo_create_76 : decode prog_9_method_15_code 76 = .ok (.iload_n 1, 1) := by decide +kernel
theorem d_Mo_create_77 : decode prog_9_method_15_code 77 = .ok (.bipush 8, 2) := by decide +kernel
theorem d_Mo_create_79 : decode prog_9_method_15_code 79 = .ok (.ishr, 1) := by decide +kernel
theorem d_Mo_create_80 : decode prog_9_method_15_code 80 = .ok (.invokevirtual 113, 3) := by decide +kernel
theorem d_Mo_create_83 : decode prog_9_method_15_code 83 = .ok (.aload_n 0, 1) := by decide +kernel
theorem d_Mo_create_84 : decode prog_9_method_15_code 84 = .ok (.iload_n 1, 1) := by decide +kernel
theorem d_Mo_create_85 : decode prog_9_method_15_code 85 = .ok (.invokevirtual 113, 3) := by decide +kernel
theorem d_Mo_create_88 : decode prog_9_method_15_code 88 = .ok (.aload_n 0, 1) := by decide +kernel
theorem d_Mo_create_89 : decode prog_9_method_15_code 89 = .ok (.iload_n 2, 1) := by decide +kernel
theorem d_Mo_create_90 : decode prog_9_method_15_code 90 = .ok (.bipush 8, 2) := by decide +kernel
theorem d_Mo_create_92 : decode prog_9_method_15_code 92 = .ok (.ishr, 1) := by decide +kernel
theorem d_Mo_create_93 : decode prog_9_method_15_code 93 = .ok (.invokevirtual 113, 3) := by decide +kernel
theorem d_Mo_create_96 : decode prog_9_method_15_code 96 = .ok (.aload_n 0, 1) := by decide +kernel
theorem d_Mo_create_97 : decode prog_9_method_15_code 97 = .ok (.iload_n 2, 1) := by decide +kernel
theorem d_Mo_create_98 : decode prog_9_method_15_code 98 = .ok (.invokevirtual 113, 3) := by decide +kernel
theorem d_Mo_create_101 : decode prog_9_method_15_code 101 = .ok (.aload_n 0, 1) := by decide +kernel
theorem d_Mo_create_102 : decode prog_9_method_15_code 102 = .ok (.iload_n 3, 1) := by decide +kernel
theorem d_Mo_create_103 : decode prog_9_method_15_code 103 = .ok (.iload_n 1, 1) := by decide +kernel
theorem d_Mo_create_104 : decode prog_9_method_15_code 104 = .ok (.iload_n 2, 1) := by decide +kernel
theorem d_Mo_create_105 : decode prog_9_method_15_code 105 = .ok (.invokevirtual 98, 3) := by decide +kernel
theorem d_Mo_create_108 : decode prog_9_method_15_code 108 = .ok (.iload_n 3, 1) := by decide +kernel
theorem d_Mo_create_109 : decode prog_9_method_15_code 109 = .ok (.bipush 16, 2) := by decide +kernel
theorem d_Mo_create_111 : decode prog_9_method_15_code 111 = .ok (.aload_n 0, 1) := by decide +kernel
theorem d_Mo_create_112 : decode prog_9_method_15_code 112 = .ok (.getfield 13, 3) := by decide +kernel
theorem d_Mo_create_115 : decode prog_9_method_15_code 115 = .ok (.iload_n 3, 1) := by decide +kernel
theorem d_Mo_create_116 : decode prog_9_method_15_code 116 = .ok (.iaload, 1) := by decide +kernel
theorem d_Mo_create_117 : decode prog_9_method_15_code 117 = .ok (.imul, 1) := by decide +kernel
theorem d_Mo_create_118 : decode prog_9_method_15_code 118 = .ok (.iadd, 1) := by decide +kernel
theorem d_Mo_create_119 : decode prog_9_method_15_code 119 = .ok (.ireturn, 1) := by decide +kernel
theorem d_Mo_allowed_0 : decode prog_9_method_16_code 0 = .ok (.aload_n 0, 1) := by decide +kernel
theorem d_Mo_allowed_1 : decode prog_9_method_16_code 1 = .ok (.aload_n 0, 1) := by decide +kernel
theorem d_Mo_allowed_2 : decode prog_9_method_16_code 2 = .ok (.iconst 0, 1) := by decide +kernel
theorem d_Mo_allowed_3 : decode prog_9_method_16_code 3 = .ok (.iload_n 1, 1) := by decide +kernel
theorem d_Mo_allowed_4 : decode prog_9_method_16_code 4 = .ok (.invokevirtual 102, 3) := by decide +kernel
theorem d_Mo_allowed_7 : decode prog_9_method_16_code 7 = .ok (.ifCond .lt 13, 3) := by decide +kernel
theorem d_Mo_allowed_10 : decode prog_9_method_16_code 10 = .ok (.iload_n 2, 1) := by decide +kernel
theorem d_Mo_allowed_11 : decode prog_9_method_16_code 11 = .ok (.iload_n 3, 1) := by decide +kernel
theorem d_Mo_allowed_12 : decode prog_9_method_16_code 12 = .ok (.iload 4, 2) := by decide +kernel
theorem d_Mo_allowed_14 : decode prog_9_method_16_code 14 = .ok (.invokestatic 106, 3) := by decide +kernel
theorem d_Mo_allowed_17 : decode prog_9_method_16_code 17 = .ok (.ifCond .ne 7, 3) := by decide +kernel
theorem d_Mo_allowed_20 : decode prog_9_method_16_code 20 = .ok (.iconst 1, 1) := by decide +kernel
theorem d_Mo_allowed_21 : decode prog_9_method_16_code 21 = .ok (.goto 21, 3) := by decide +kernel
theorem d_Mo_allowed_24 : decode prog_9_method_16_code 24 = .ok (.aload_n 0, 1) := by decide +kernel
theorem d_Mo_allowed_25 : decode prog_9_method_16_code 25 = .ok (.getfield 110, 3) := by decide +kernel
theorem d_Mo_allowed_28 : decode prog_9_method_16_code 28 = .ok (.iload 5, 2) := by decide +kernel
theorem d_Mo_allowed_30 : decode prog_9_method_16_code 30 = .ok (.iadd, 1) := by decide +kernel
theorem d_Mo_allowed_31 : decode prog_9_method_16_code 31 = .ok (.sipush 400, 3) := by decide +kernel
theorem d_Mo_allowed_34 : decode prog_9_method_16_code 34 = .ok (.if_icmp .le 7, 3) := by decide +kernel
theorem d_Mo_allowed_37 : decode prog_9_method_16_code 37 = .ok (.iconst 2, 1) := by decide +kernel
theorem d_Mo_allowed_38 : decode prog_9_method_16_code 38 = .ok (.goto 4, 3) := by decide +kernel
theorem d_Mo_allowed_41 : decode prog_9_method_16_code 41 = .ok (.iconst 0, 1) := by decide +kernel
theorem d_Mo_allowed_42 : decode prog_9_method_16_code 42 = .ok (.putfield 69, 3) := by decide +kernel
theorem d_Mo_allowed_45 : decode prog_9_method_16_code 45 = .ok (.aload_n 0, 1) := by decide +kernel
theorem d_Mo_allowed_46 : decode prog_9_method_16_code 46 = .ok (.getfield 69, 3) := by decide +kernel
theorem d_Mo_allowed_49 : decode prog_9_method_16_code 49 = .ok (.ifCond .le 5, 3) := by decide +kernel
theorem d_Mo_allowed_52 : decode prog_9_method_16_code 52 = .ok (.iconst 0, 1) := by decide +kernel
theorem d_Mo_allowed_53 : decode prog_9_method_16_code 53 = .ok (.ireturn, 1) := by decide +kernel
theorem d_Mo_allowed_54 : decode prog_9_method_16_code 54 = .ok (.aload_n 0, 1) := by decide +kernel
theorem d_Mo_allowed_55 : decode prog_9_method_16_code 55 = .ok (.iload_n 2, 1) := by decide +kernel
theorem d_Mo_allowed_56 : decode prog_9_method_16_code 56 = .ok (.invokevirtual 113, 3) := by decide +kernel
theorem d_Mo_allowed_59 : decode prog_9_method_16_code 59 = .ok (.aload_n 0, 1) := by decide +kernel
theorem d_Mo_allowed_60 : decode prog_9_method_16_code 60 = .ok (.iload_n 1, 1) := by decide +kernel
theorem d_Mo_allowed_61 : decode prog_9_method_16_code 61 = .ok (.invokevirtual 116, 3) := by decide +kernel
theorem d_Mo_allowed_64 : decode prog_9_method_16_code 64 = .ok (.aload_n 0, 1) := by decide +kernel
theorem d_Mo_allowed_65 : decode prog_9_method_16_code 65 = .ok (.iconst 0, 1) := by decide +kernel
theorem d_Mo_allowed_66 : decode prog_9_method_16_code 66 = .ok (.iload_n 2, 1) := by decide +kernel
theorem d_Mo_allowed_67 : decode prog_9_method_16_code 67 = .ok (.iload_n 1, 1) := by decide +kernel
theorem d_Mo_allowed_68 : decode prog_9_method_16_code 68 = .ok (.iload_n 3, 1) := by decide +kernel
theorem d_Mo_allowed_69 : decode prog_9_method_16_code 69 = .ok (.iload 4, 2) := by decide +kernel
theorem d_Mo_allowed_71 : decode prog_9_method_16_code 71 = .ok (.invokevirtual 119, 3) := by decide +kernel
theorem d_Mo_allowed_74 : decode prog_9_method_16_code 74 = .ok (.ireturn, 1) := by decide +kernel
theorem d_Mo_destroy_0 : decode prog_9_method_17_code 0 = .ok (.aload_n 0, 1) := by decide +kernel
theorem d_Mo_destroy_1 : decode prog_9_method_17_code 1 = .ok (.iload_n 1, 1) := by decide +kernel
theorem d_Mo_destroy_2 : decode prog_9_method_17_code 2 = .ok (.iconst 2, 1) := by decide +kernel
theorem d_Mo_destroy_3 : decode prog_9_method_17_code 3 = .ok (.iconst 0, 1) := by decide +kernel
theorem d_Mo_destroy_4 : decode prog_9_method_17_code 4 = .ok (.iconst 0, 1) := by decide +kernel
theorem d_Mo_destroy_5 : decode prog_9_method_17_code 5 = .ok (.iconst 4, 1) := by decide +kernel
theorem d_Mo_destroy_6 : decode prog_9_method_17_code 6 = .ok (.invokevirtual 123, 3) := by decide +kernel
theorem d_Mo_destroy_9 : decode prog_9_method_17_code 9 = .ok (.istore_n 2, 1) := by decide +kernel
theorem d_Mo_destroy_10 : decode prog_9_method_17_code 10 = .ok (.return_, 1) := by decide +kernel
theorem d_Mo_speed_0 : decode prog_9_method_18_code 0 = .ok (.aload_n 0, 1) := by decide +kernel
theorem d_Mo_speed_1 : decode prog_9_method_18_code 1 = .ok (.iload_n 1, 1) := by decide +kernel
theorem d_Mo_speed_2 : decode prog_9_method_18_code 2 = .ok (.iconst 3, 1) := by decide +kernel
theorem d_Mo_speed_3 : decode prog_9_method_18_code 3 = .ok (.iload_n 2, 1) := by decide +kernel
theorem d_Mo_speed_4 : decode prog_9_method_18_code 4 = .ok (.iload_n 3, 1) := by decide +kernel
theorem d_Mo_speed_5 : decode prog_9_method_18_code 5 = .ok (.bipush 6, 2) := by decide +kernel
theorem d_Mo_speed_7 : decode prog_9_method_18_code 7 = .ok (.invokevirtual 123, 3) := by decide +kernel
theorem d_Mo_speed_10 : decode prog_9_method_18_code 10 = .ok (.ifCond .eq 21, 3) := by decide +kernel
theorem d_Mo_speed_13 : decode prog_9_method_18_code 13 = .ok (.aload_n 0, 1) := by decide +kernel
theorem d_Mo_speed_14 : decode prog_9_method_18_code 14 = .ok (.iload_n 2, 1) := by decide +kernel
theorem d_Mo_speed_15 : decode prog_9_method_18_code 15 = .ok (.sipush 128, 3) := by decide +kernel
theorem d_Mo_speed_18 : decode prog_9_method_18_code 18 = .ok (.iadd, 1) := by decide +kernel
theorem d_Mo_speed_19 : decode prog_9_method_18_code 19 = .ok (.invokevirtual 113, 3) := by decide +kernel
theorem d_Mo_speed_22 : decode prog_9_method_18_code 22 = .ok (.aload_n 0, 1) := by decide +kernel
theorem d_Mo_speed_23 : decode prog_9_method_18_code 23 = .ok (.iload_n 3, 1) := by decide +kernel
theorem d_Mo_speed_24 : decode prog_9_method_18_code 24 = .ok (.sipush 128, 3) := by decide +kernel
theorem d_Mo_speed_27 : decode prog_9_method_18_code 27 = .ok (.iadd, 1) := by decide +kernel
theorem d_Mo_speed_28 : decode prog_9_method_18_code 28 = .ok (.invokevirtual 113, 3) := by decide +kernel
theorem d_Mo_speed_31 : decode prog_9_method_18_code 31 = .ok (.return_, 1) := by decide +kernel
theorem d_Mo_shape_0 : decode prog_9_method_19_code 0 = .ok (.aload_n 0, 1) := by decide +kernel
theorem d_Mo_shape_1 : decode prog_9_method_19_code 1 = .ok (.iload_n 1, 1) := by decide +kernel
theorem d_Mo_shape_2 : decode prog_9_method_19_code 2 = .ok (.iconst 4, 1) := by decide +kernel
theorem d_Mo_shape_3 : decode prog_9_method_19_code 3 = .ok (.iload_n 2, 1) := by decide +kernel
theorem d_Mo_shape_4 : decode prog_9_method_19_code 4 = .ok (.iload_n 3, 1) := by decide +kernel
theorem d_Mo_shape_5 : decode prog_9_method_19_code 5 = .ok (.bipush 6, 2) := by decide +kernel
theorem d_Mo_shape_7 : decode prog_9_method_19_code 7 = .ok (.invokevirtual 123, 3) := by decide +kernel
theorem d_Mo_shape_10 : decode prog_9_method_19_code 10 = .ok (.ifCond .eq 13, 3) := by decide +kernel
theorem d_Mo_shape_13 : decode prog_9_method_19_code 13 = .ok (.aload_n 0, 1) := by decide +kernel
theorem d_Mo_shape_14 : decode prog_9_method_19_code 14 = .ok (.iload_n 2, 1) := by decide +kernel
theorem d_Mo_shape_15 : decode prog_9_method_19_code 15 = .ok (.invokevirtual 113, 3) := by decide +kernel
theorem d_Mo_shape_18 : decode prog_9_method_19_code 18 = .ok (.aload_n 0, 1) := by decide +kernel
theorem d_Mo_shape_19 : decode prog_9_method_19_code 19 = .ok (.iload_n 3, 1) := by decide +kernel
theorem d_Mo_shape_20 : decode prog_9_method_19_code 20 = .ok (.invokevirtual 113, 3) := by decide +kernel
theorem d_Mo_shape_23 : decode prog_9_method_19_code 23 = .ok (.return_, 1) := by decide +kernel
theorem d_Mo_timer_0 : decode prog_9_method_20_code 0 = .ok (.aload_n 0, 1) := by decide +kernel
theorem d_Mo_timer_1 : decode prog_9_method_20_code 1 = .ok (.iload_n 1, 1) := by decide +kernel
theorem d_Mo_timer_2 : decode prog_9_method_20_code 2 = .ok (.iconst 5, 1) := by decide +kernel
theorem d_Mo_timer_3 : decode prog_9_method_20_code 3 = .ok (.iload_n 2, 1) := by decide +kernel
theorem d_Mo_timer_4 : decode prog_9_method_20_code 4 = .ok (.iconst 0, 1) := by decide +kernel
theorem d_Mo_timer_5 : decode prog_9_method_20_code 5 = .ok (.bipush 6, 2) := by decide +kernel
theorem d_Mo_timer_7 : decode prog_9_method_20_code 7 = .ok (.invokevirtual 123, 3) := by decide +kernel
theorem d_Mo_timer_10 : decode prog_9_method_20_code 10 = .ok (.ifCond .eq 16, 3) := by decide +kernel
theorem d_Mo_timer_13 : decode prog_9_method_20_code 13 = .ok (.aload_n 0, 1) := by decide +kernel
theorem d_Mo_timer_14 : decode prog_9_method_20_code 14 = .ok (.iload_n 2, 1) := by decide +kernel
theorem d_Mo_timer_15 : decode prog_9_method_20_code 15 = .ok (.bipush 8, 2) := by decide +kernel
theorem d_Mo_timer_17 : decode prog_9_method_20_code 17 = .ok (.ishr, 1) := by decide +kernel
theorem d_Mo_timer_18 : decode prog_9_method_20_code 18 = .ok (.invokevirtual 113, 3) := by decide +kernel
theorem d_Mo_timer_21 : decode prog_9_method_20_code 21 = .ok (.aload_n 0, 1) := by decide +kernel
theorem d_Mo_timer_22 : decode prog_9_method_20_code 22 = .ok (.iload_n 2, 1) := by decide +kernel
theorem d_Mo_timer_23 : decode prog_9_method_20_code 23 = .ok (.invokevirtual 113, 3) := by decide +kernel
theorem d_Mo_timer_26 : decode prog_9_method_20_code 26 = .ok (.return_, 1) := by decide +kernel
theorem d_Mo_tick_0 : decode prog_9_method_21_code 0 = .ok (.aload_n 0, 1) := by decide +kernel
theorem d_Mo_tick_1 : decode prog_9_method_21_code 1 = .ok (.iload_n 1, 1) := by decide +kernel
theorem d_Mo_tick_2 : decode prog_9_method_21_code 2 = .ok (.iconst 1, 1) := by decide +kernel
theorem d_Mo_tick_3 : decode prog_9_method_21_code 3 = .ok (.if_icmp .lt 9, 3) := by decide +kernel
theorem d_Mo_tick_6 : decode prog_9_method_21_code 6 = .ok (.iload_n 1, 1) := by decide +kernel
theorem d_Mo_tick_7 : decode prog_9_method_21_code 7 = .ok (.bipush 50, 2) := by decide +kernel
theorem d_Mo_tick_9 : decode prog_9_method_21_code 9 = .ok (.if_icmp .le 7, 3) := by decide +kernel
theorem d_Mo_tick_12 : decode prog_9_method_21_code 12 = .ok (.iconst 1, 1) := by decide +kernel
theorem d_Mo_tick_13 : decode prog_9_method_21_code 13 = .ok (.goto 20, 3) := by decide +kernel
theorem d_Mo_tick_16 : decode prog_9_method_21_code 16 = .ok (.aload_n 0, 1) := by decide +kernel
theorem d_Mo_tick_17 : decode prog_9_method_21_code 17 = .ok (.getfield 110, 3) := by decide +kernel
theorem d_Mo_tick_20 : decode prog_9_method_21_code 20 = .ok (.iload_n 1, 1) := by decide +kernel
theorem d_Mo_tick_21 : decode prog_9_method_21_code 21 = .ok (.iadd, 1) := by decide +kernel
theorem d_Mo_tick_22 : decode prog_9_method_21_code 22 = .ok (.sipush 400, 3) := by decide +kernel
theorem d_Mo_tick_25 : decode prog_9_method_21_code 25 = .ok (.if_icmp .le 7, 3) := by decide +kernel
theorem d_Mo_tick_28 : decode prog_9_method_21_code 28 = .ok (.iconst 2, 1) := by decide +kernel
theorem d_Mo_tick_29 : decode prog_9_method_21_code 29 = .ok (.goto 4, 3) := by decide +kernel
theorem d_Mo_tick_32 : decode prog_9_method_21_code 32 = .ok (.iconst 0, 1) := by decide +kernel
theorem d_Mo_tick_33 : decode prog_9_method_21_code 33 = .ok (.putfield 69, 3) := by decide +kernel
theorem d_Mo_tick_36 : decode prog_9_method_21_code 36 = .ok (.aload_n 0, 1) := by decide +kernel
theorem d_Mo_tick_37 : decode prog_9_method_21_code 37 = .ok (.getfield 69, 3) := by decide +kernel
theorem d_Mo_tick_40 : decode prog_9_method_21_code 40 = .ok (.ifCond .le 5, 3) := by decide +kernel
theorem d_Mo_tick_43 : decode prog_9_method_21_code 43 = .ok (.iconst 0, 1) := by decide +kernel
theorem d_Mo_tick_44 : decode prog_9_method_21_code 44 = .ok (.ireturn, 1) := by decide +kernel
theorem d_Mo_tick_45 : decode prog_9_method_21_code 45 = .ok (.iconst 0, 1) := by decide +kernel
theorem d_Mo_tick_46 : decode prog_9_method_21_code 46 = .ok (.istore_n 2, 1) := by decide +kernel
theorem d_Mo_tick_47 : decode prog_9_method_21_code 47 = .ok (.iload_n 2, 1) := by decide +kernel
theorem d_Mo_tick_48 : decode prog_9_method_21_code 48 = .ok (.iload_n 1, 1) := by decide +kernel
theorem d_Mo_tick_49 : decode prog_9_method_21_code 49 = .ok (.if_icmp .ge 20, 3) := by decide +kernel
theorem d_Mo_tick_52 : decode prog_9_method_21_code 52 = .ok (.aload_n 0, 1) := by decide +kernel
theorem d_Mo_tick_53 : decode prog_9_method_21_code 53 = .ok (.bipush 6, 2) := by decide +kernel
theorem d_Mo_tick_55 : decode prog_9_method_21_code 55 = .ok (.invokevirtual 113, 3) := by decide +kernel
theorem d_Mo_tick_58 : decode prog_9_method_21_code 58 = .ok (.aload_n 0, 1) := by decide +kernel
theorem d_Mo_tick_59 : decode prog_9_method_21_code 59 = .ok (.iconst 0, 1) := by decide +kernel
theorem d_Mo_tick_60 : decode prog_9_method_21_code 60 = .ok (.invokevirtual 91, 3) := by decide +kernel
theorem d_Mo_tick_63 : decode prog_9_method_21_code 63 = .ok (.iinc 2 1, 3) := by decide +kernel
theorem d_Mo_tick_66 : decode prog_9_method_21_code 66 = .ok (.goto (-19), 3) := by decide +kernel
theorem d_Mo_tick_69 : decode prog_9_method_21_code 69 = .ok (.aload_n 0, 1) := by decide +kernel
theorem d_Mo_tick_70 : decode prog_9_method_21_code 70 = .ok (.getfield 44, 3) := by decide +kernel
theorem d_Mo_tick_73 : decode prog_9_method_21_code 73 = .ok (.iconst 0, 1) := by decide +kernel
theorem d_Mo_tick_74 : decode prog_9_method_21_code 74 = .ok (.iaload, 1) := by decide +kernel
theorem d_Mo_tick_75 : decode prog_9_method_21_code 75 = .ok (.ireturn, 1) := by decide +kernel
theorem d_Mo_event_0 : decode prog_9_method_22_code 0 = .ok (.aload_n 0, 1) := by decide +kernel
theorem d_Mo_event_1 : decode prog_9_method_22_code 1 = .ok (.iload_n 1, 1) := by decide +kernel
theorem d_Mo_event_2 : decode prog_9_method_22_code 2 = .ok (.ifCond .lt 13, 3) := by decide +kernel
theorem d_Mo_event_5 : decode prog_9_method_22_code 5 = .ok (.iload_n 1, 1) := by decide +kernel
theorem d_Mo_event_6 : decode prog_9_method_22_code 6 = .ok (.aload_n 0, 1) := by decide +kernel
theorem d_Mo_event_7 : decode prog_9_method_22_code 7 = .ok (.getfield 44, 3) := by decide +kernel
theorem d_Mo_event_10 : decode prog_9_method_22_code 10 = .ok (.iconst 0, 1) := by decide +kernel
theorem d_Mo_event_11 : decode prog_9_method_22_code 11 = .ok (.iaload, 1) := by decide +kernel
theorem d_Mo_event_12 : decode prog_9_method_22_code 12 = .ok (.if_icmp .lt 7, 3) := by decide +kernel
theorem d_Mo_event_15 : decode prog_9_method_22_code 15 = .ok (.iconst 1, 1) := by decide +kernel
theorem d_Mo_event_16 : decode prog_9_method_22_code 16 = .ok (.goto 17, 3) := by decide +kernel
theorem d_Mo_event_19 : decode prog_9_method_22_code 19 = .ok (.iload_n 2, 1) := by decide +kernel
theorem d_Mo_event_20 : decode prog_9_method_22_code 20 = .ok (.ifCond .lt 8, 3) := by decide +kernel
theorem d_Mo_event_23 : decode prog_9_method_22_code 23 = .ok (.iload_n 2, 1) := by decide +kernel
theorem d_Mo_event_24 : decode prog_9_method_22_code 24 = .ok (.iconst 2, 1) := by decide +kernel
theorem d_Mo_event_25 : decode prog_9_method_22_code 25 = .ok (.if_icmp .le 7, 3) := by decide +kernel
theorem d_Mo_event_28 : decode prog_9_method_22_code 28 = .ok (.iconst 2, 1) := by decide +kernel
theorem d_Mo_event_29 : decode prog_9_method_22_code 29 = .ok (.goto 4, 3) := by decide +kernel
theorem d_Mo_event_32 : decode prog_9_method_22_code 32 = .ok (.iconst 0, 1) := by decide +kernel
theorem d_Mo_event_33 : decode prog_9_method_22_code 33 = .ok (.putfield 69, 3) := by decide +kernel
theorem d_Mo_event_36 : decode prog_9_method_22_code 36 = .ok (.aload_n 0, 1) := by decide +kernel
theorem d_Mo_event_37 : decode prog_9_method_22_code 37 = .ok (.getfield 69, 3) := by decide +kernel
theorem d_Mo_event_40 : decode prog_9_method_22_code 40 = .ok (.ifCond .le 5, 3) := by decide +kernel
theorem d_Mo_event_43 : decode prog_9_method_22_code 43 = .ok (.iconst 0, 1) := by decide +kernel
theorem d_Mo_event_44 : decode prog_9_method_22_code 44 = .ok (.ireturn, 1) := by decide +kernel
theorem d_Mo_event_45 : decode prog_9_method_22_code 45 = .ok (.iload_n 2, 1) := by decide +kernel
theorem d_Mo_event_46 : decode prog_9_method_22_code 46 = .ok (.ifCond .ne 12, 3) := by decide +kernel
theorem d_Mo_event_49 : decode prog_9_method_22_code 49 = .ok (.aload_n 0, 1) := by decide +kernel
theorem d_Mo_event_50 : decode prog_9_method_22_code 50 = .ok (.getfield 47, 3) := by decide +kernel
theorem d_Mo_event_53 : decode prog_9_method_22_code 53 = .ok (.iload_n 1, 1) := by decide +kernel
theorem d_Mo_event_54 : decode prog_9_method_22_code 54 = .ok (.iaload, 1) := by decide +kernel
theorem d_Mo_event_55 : decode prog_9_method_22_code 55 = .ok (.goto 23, 3) := by decide +kernel
theorem d_Mo_event_58 : decode prog_9_method_22_code 58 = .ok (.iload_n 2, 1) := by decide +kernel
theorem d_Mo_event_59 : decode prog_9_method_22_code 59 = .ok (.iconst 1, 1) := by decide +kernel
theorem d_Mo_event_60 : decode prog_9_method_22_code 60 = .ok (.if_icmp .ne 12, 3) := by decide +kernel
theorem d_Mo_event_63 : decode prog_9_method_22_code 63 = .ok (.aload_n 0, 1) := by decide +kernel
theorem d_Mo_event_64 : decode prog_9_method_22_code 64 = .ok (.getfield 50, 3) := by decide +kernel
theorem d_Mo_event_67 : decode prog_9_method_22_code 67 = .ok (.iload_n 1, 1) := by decide +kernel
theorem d_Mo_event_68 : decode prog_9_method_22_code 68 = .ok (.iaload, 1) := by decide +kernel
theorem d_Mo_event_69 : decode prog_9_method_22_code 69 = .ok (.goto 9, 3) := by decide +kernel
theorem d_Mo_event_72 : decode prog_9_method_22_code 72 = .ok (.aload_n 0, 1) := by decide +kernel
theorem d_Mo_event_73 : decode prog_9_method_22_code 73 = .ok (.getfield 53, 3) := by decide +kernel
theorem d_Mo_event_76 : decode prog_9_method_22_code 76 = .ok (.iload_n 1, 1) := by decide +kernel
theorem d_Mo_event_77 : decode prog_9_method_22_code 77 = .ok (.iaload, 1) := by decide +kernel
theorem d_Mo_event_78 : decode prog_9_method_22_code 78 = .ok (.ireturn, 1) := by decide +kernel
theorem d_Mo_good_0 : decode prog_9_method_23_code 0 = .ok (.aload_n 0, 1) := by decide +kernel
theorem d_Mo_good_1 : decode prog_9_method_23_code 1 = .ok (.iconst 0, 1) := by decide +kernel
theorem d_Mo_good_2 : decode prog_9_method_23_code 2 = .ok (.putfield 69, 3) := by decide +kernel
theorem d_Mo_good_5 : decode prog_9_method_23_code 5 = .ok (.aload_n 0, 1) := by decide +kernel
theorem d_Mo_good_6 : decode prog_9_method_23_code 6 = .ok (.iconst 0, 1) := by decide +kernel
theorem d_Mo_good_7 : decode prog_9_method_23_code 7 = .ok (.iload_n 1, 1) := by decide +kernel
theorem d_Mo_good_8 : decode prog_9_method_23_code 8 = .ok (.invokevirtual 102, 3) := by decide +kernel
theorem d_Mo_good_11 : decode prog_9_method_23_code 11 = .ok (.ifCond .lt 7, 3) := by decide +kernel
theorem d_Mo_good_14 : decode prog_9_method_23_code 14 = .ok (.iconst 1, 1) := by decide +kernel
theorem d_Mo_good_15 : decode prog_9_method_23_code 15 = .ok (.goto 4, 3) := by decide +kernel
theorem d_Mo_good_18 : decode prog_9_method_23_code 18 = .ok (.iconst 0, 1) := by decide +kernel
theorem d_Mo_good_19 : decode prog_9_method_23_code 19 = .ok (.ireturn, 1) := by decide +kernel
theorem d_Mo_about_0 : decode prog_9_method_24_code 0 = .ok (.aload_n 0, 1) := by decide +kernel
theorem d_Mo_about_1 : decode prog_9_method_24_code 1 = .ok (.iconst 0, 1) := by decide +kernel
theorem d_Mo_about_2 : decode prog_9_method_24_code 2 = .ok (.iload_n 1, 1) := by decide +kernel
theorem d_Mo_about_3 : decode prog_9_method_24_code 3 = .ok (.invokevirtual 102, 3) := by decide +kernel
theorem d_Mo_about_6 : decode prog_9_method_24_code 6 = .ok (.istore_n 3, 1) := by decide +kernel
theorem d_Mo_about_7 : decode prog_9_method_24_code 7 = .ok (.aload_n 0, 1) := by decide +kernel
theorem d_Mo_about_8 : decode prog_9_method_24_code 8 = .ok (.iload_n 3, 1) := by decide +kernel
theorem d_Mo_about_9 : decode prog_9_method_24_code 9 = .ok (.ifCond .ge 7, 3) := by decide +kernel
theorem d_Mo_about_12 : decode prog_9_method_24_code 12 = .ok (.iconst 1, 1) := by decide +kernel
theorem d_Mo_about_13 : decode prog_9_method_24_code 13 = .ok (.goto 18, 3) := by decide +kernel
theorem d_Mo_about_16 : decode prog_9_method_24_code 16 = .ok (.iload_n 2, 1) := by decide +kernel
theorem d_Mo_about_17 : decode prog_9_method_24_code 17 = .ok (.ifCond .lt 9, 3) := by decide +kernel
theorem d_Mo_about_20 : decode prog_9_method_24_code 20 = .ok (.iload_n 2, 1) := by decide +kernel
theorem d_Mo_about_21 : decode prog_9_method_24_code 21 = .ok (.bipush 6, 2) := by decide +kernel
theorem d_Mo_about_23 : decode prog_9_method_24_code 23 = .ok (.if_icmp .le 7, 3) := by decide +kernel
theorem d_Mo_about_26 : decode prog_9_method_24_code 26 = .ok (.iconst 2, 1) := by decide +kernel
theorem d_Mo_about_27 : decode prog_9_method_24_code 27 = .ok (.goto 4, 3) := by decide +kernel
theorem d_Mo_about_30 : decode prog_9_method_24_code 30 = .ok (.iconst 0, 1) := by decide +kernel
theorem d_Mo_about_31 : decode prog_9_method_24_code 31 = .ok (.putfield 69, 3) := by decide +kernel
theorem d_Mo_about_34 : decode prog_9_method_24_code 34 = .ok (.aload_n 0, 1) := by decide +kernel
theorem d_Mo_about_35 : decode prog_9_method_24_code 35 = .ok (.getfield 69, 3) := by decide +kernel
theorem d_Mo_about_38 : decode prog_9_method_24_code 38 = .ok (.ifCond .le 5, 3) := by decide +kernel
theorem d_Mo_about_41 : decode prog_9_method_24_code 41 = .ok (.iconst 0, 1) := by decide +kernel
theorem d_Mo_about_42 : decode prog_9_method_24_code 42 = .ok (.ireturn, 1) := by decide +kernel
theorem d_Mo_about_43 : decode prog_9_method_24_code 43 = .ok (.iload_n 2, 1) := by decide +kernel
theorem d_Mo_about_44 : decode prog_9_method_24_code 44 = .ok (.tableswitch 82 0 5 #[40, 47, 54, 61, 68, 75], 40) := by decide +kernel
theorem d_Mo_about_84 : decode prog_9_method_24_code 84 = .ok (.aload_n 0, 1) := by decide +kernel
theorem d_Mo_about_85 : decode prog_9_method_24_code 85 = .ok (.getfield 20, 3) := by decide +kernel
theorem d_Mo_about_88 : decode prog_9_method_24_code 88 = .ok (.iload_n 3, 1) := by decide +kernel
theorem d_Mo_about_89 : decode prog_9_method_24_code 89 = .ok (.iaload, 1) := by decide +kernel
theorem d_Mo_about_90 : decode prog_9_method_24_code 90 = .ok (.ireturn, 1) := by decide +kernel
theorem d_Mo_about_91 : decode prog_9_method_24_code 91 = .ok (.aload_n 0, 1) := by decide +kernel
theorem d_Mo_about_92 : decode prog_9_method_24_code 92 = .ok (.getfield 23, 3) := by decide +kernel
theorem d_Mo_about_95 : decode prog_9_method_24_code 95 = .ok (.iload_n 3, 1) := by decide +kernel
theorem d_Mo_about_96 : decode prog_9_method_24_code 96 = .ok (.iaload, 1) := by decide +kernel
theorem d_Mo_about_97 : decode prog_9_method_24_code 97 = .ok (.ireturn, 1) := by decide +kernel
theorem d_Mo_about_98 : decode prog_9_method_24_code 98 = .ok (.aload_n 0, 1) := by decide +kernel
theorem d_Mo_about_99 : decode prog_9_method_24_code 99 = .ok (.getfield 26, 3) := by decide +kernel
theorem d_Mo_about_102 : decode prog_9_method_24_code 102 = .ok (.iload_n 3, 1) := by decide +kernel
theorem d_Mo_about_103 : decode prog_9_method_24_code 103 = .ok (.iaload, 1) := by decide +kernel
theorem d_Mo_about_104 : decode prog_9_method_24_code 104 = .ok (.ireturn, 1) := by decide +kernel
theorem d_Mo_about_105 : decode prog_9_method_24_code 105 = .ok (.aload_n 0, 1) := by decide +kernel
theorem d_Mo_about_106 : decode prog_9_method_24_code 106 = .ok (.getfield 29, 3) := by decide +kernel
theorem d_Mo_about_109 : decode prog_9_method_24_code 109 = .ok (.iload_n 3, 1) := by decide +kernel
theorem d_Mo_about_110 : decode prog_9_method_24_code 110 = .ok (.iaload, 1) := by decide +kernel
theorem d_Mo_about_111 : decode prog_9_method_24_code 111 = .ok (.ireturn, 1) := by decide +kernel
theorem d_Mo_about_112 : decode prog_9_method_24_code 112 = .ok (.aload_n 0, 1) := by decide +kernel
theorem d_Mo_about_113 : decode prog_9_method_24_code 113 = .ok (.getfield 32, 3) := by decide +kernel
theorem d_Mo_about_116 : decode prog_9_method_24_code 116 = .ok (.iload_n 3, 1) := by decide +kernel
theorem d_Mo_about_117 : decode prog_9_method_24_code 117 = .ok (.iaload, 1) := by decide +kernel
theorem d_Mo_about_118 : decode prog_9_method_24_code 118 = .ok (.ireturn, 1) := by decide +kernel
theorem d_Mo_about_119 : decode prog_9_method_24_code 119 = .ok (.aload_n 0, 1) := by decide +kernel
theorem d_Mo_about_120 : decode prog_9_method_24_code 120 = .ok (.getfield 35, 3) := by decide +kernel
theorem d_Mo_about_123 : decode prog_9_method_24_code 123 = .ok (.iload_n 3, 1) := by decide +kernel
theorem d_Mo_about_124 : decode prog_9_method_24_code 124 = .ok (.iaload, 1) := by decide +kernel
theorem d_Mo_about_125 : decode prog_9_method_24_code 125 = .ok (.ireturn, 1) := by decide +kernel
theorem d_Mo_about_126 : decode prog_9_method_24_code 126 = .ok (.aload_n 0, 1) := by decide +kernel
theorem d_Mo_about_127 : decode prog_9_method_24_code 127 = .ok (.getfield 38, 3) := by decide +kernel
theorem d_Mo_about_130 : decode prog_9_method_24_code 130 = .ok (.iload_n 3, 1) := by decide +kernel
theorem d_Mo_about_131 : decode prog_9_method_24_code 131 = .ok (.iaload, 1) := by decide +kernel
theorem d_Mo_about_132 : decode prog_9_method_24_code 132 = .ok (.ireturn, 1) := by decide +kernel
theorem d_Mo_handleOf_0 : decode prog_9_method_25_code 0 = .ok (.aload_n 0, 1) := by decide +kernel
theorem d_Mo_handleOf_1 : decode prog_9_method_25_code 1 = .ok (.iload_n 1, 1) := by decide +kernel
theorem d_Mo_handleOf_2 : decode prog_9_method_25_code 2 = .ok (.ifCond .lt 9, 3) := by decide +kernel
theorem d_Mo_handleOf_5 : decode prog_9_method_25_code 5 = .ok (.iload_n 1, 1) := by decide +kernel
theorem d_Mo_handleOf_6 : decode prog_9_method_25_code 6 = .ok (.bipush 15, 2) := by decide +kernel
theorem d_Mo_handleOf_8 : decode prog_9_method_25_code 8 = .ok (.if_icmp .le 7, 3) := by decide +kernel
theorem d_Mo_handleOf_11 : decode prog_9_method_25_code 11 = .ok (.iconst 1, 1) := by decide +kernel
theorem d_Mo_handleOf_12 : decode prog_9_method_25_code 12 = .ok (.goto 4, 3) := by decide +kernel
theorem d_Mo_handleOf_15 : decode prog_9_method_25_code 15 = .ok (.iconst 0, 1) := by decide +kernel
theorem d_Mo_handleOf_16 : decode prog_9_method_25_code 16 = .ok (.putfield 69, 3) := by decide +kernel
theorem d_Mo_handleOf_19 : decode prog_9_method_25_code 19 = .ok (.aload_n 0, 1) := by decide +kernel
theorem d_Mo_handleOf_20 : decode prog_9_method_25_code 20 = .ok (.getfield 69, 3) := by decide +kernel
theorem d_Mo_handleOf_23 : decode prog_9_method_25_code 23 = .ok (.ifCond .le 7, 3) := by decide +kernel
theorem d_Mo_handleOf_26 : decode prog_9_method_25_code 26 = .ok (.iconst 0, 1) := by decide +kernel
theorem d_Mo_handleOf_27 : decode prog_9_method_25_code 27 = .ok (.goto 27, 3) := by decide +kernel
theorem d_Mo_handleOf_30 : decode prog_9_method_25_code 30 = .ok (.aload_n 0, 1) := by decide +kernel
theorem d_Mo_handleOf_31 : decode prog_9_method_25_code 31 = .ok (.getfield 16, 3) := by decide +kernel
theorem d_Mo_handleOf_34 : decode prog_9_method_25_code 34 = .ok (.iload_n 1, 1) := by decide +kernel
theorem d_Mo_handleOf_35 : decode prog_9_method_25_code 35 = .ok (.baload, 1) := by decide +kernel
theorem d_Mo_handleOf_36 : decode prog_9_method_25_code 36 = .ok (.ifCond .eq 17, 3) := by decide +kernel
theorem d_Mo_handleOf_39 : decode prog_9_method_25_code 39 = .ok (.iload_n 1, 1) := by decide +kernel
theorem d_Mo_handleOf_40 : decode prog_9_method_25_code 40 = .ok (.bipush 16, 2) := by decide +kernel
theorem d_Mo_handleOf_42 : decode prog_9_method_25_code 42 = .ok (.aload_n 0, 1) := by decide +kernel
theorem d_Mo_handleOf_43 : decode prog_9_method_25_code 43 = .ok (.getfield 13, 3) := by decide +kernel
theorem d_Mo_handleOf_46 : decode prog_9_method_25_code 46 = .ok (.iload_n 1, 1) := by decide +kernel
theorem d_Mo_handleOf_47 : decode prog_9_method_25_code 47 = .ok (.iaload, 1) := by decide +kernel
theorem d_Mo_handleOf_48 : decode prog_9_method_25_code 48 = .ok (.imul, 1) := by decide +kernel
theorem d_Mo_handleOf_49 : decode prog_9_method_25_code 49 = .ok (.iadd, 1) := by decide +kernel
theorem d_Mo_handleOf_50 : decode prog_9_method_25_code 50 = .ok (.goto 4, 3) := by decide +kernel
theorem d_Mo_handleOf_53 : decode prog_9_method_25_code 53 = .ok (.iconst (-1), 1) := by decide +kernel
theorem d_Mo_handleOf_54 : decode prog_9_method_25_code 54 = .ok (.ireturn, 1) := by decide +kernel
theorem d_Mo_under_0 : decode prog_9_method_26_code 0 = .ok (.aload_n 0, 1) := by decide +kernel
theorem d_Mo_under_1 : decode prog_9_method_26_code 1 = .ok (.iload_n 1, 1) := by decide +kernel
theorem d_Mo_under_2 : decode prog_9_method_26_code 2 = .ok (.ifCond .lt 21, 3) := by decide +kernel
theorem d_Mo_under_5 : decode prog_9_method_26_code 5 = .ok (.iload_n 1, 1) := by decide +kernel
theorem d_Mo_under_6 : decode prog_9_method_26_code 6 = .ok (.sipush 4095, 3) := by decide +kernel
theorem d_Mo_under_9 : decode prog_9_method_26_code 9 = .ok (.if_icmp .gt 14, 3) := by decide +kernel
theorem d_Mo_under_12 : decode prog_9_method_26_code 12 = .ok (.iload_n 2, 1) := by decide +kernel
theorem d_Mo_under_13 : decode prog_9_method_26_code 13 = .ok (.ifCond .lt 10, 3) := by decide +kernel
theorem d_Mo_under_16 : decode prog_9_method_26_code 16 = .ok (.iload_n 2, 1) := by decide +kernel
theorem d_Mo_under_17 : decode prog_9_method_26_code 17 = .ok (.sipush 4095, 3) := by decide +kernel
theorem d_Mo_under_20 : decode prog_9_method_26_code 20 = .ok (.if_icmp .le 7, 3) := by decide +kernel
theorem d_Mo_under_23 : decode prog_9_method_26_code 23 = .ok (.iconst 1, 1) := by decide +kernel
theorem d_Mo_under_24 : decode prog_9_method_26_code 24 = .ok (.goto 4, 3) := by decide +kernel
theorem d_Mo_under_27 : decode prog_9_method_26_code 27 = .ok (.iconst 0, 1) := by decide +kernel
theorem d_Mo_under_28 : decode prog_9_method_26_code 28 = .ok (.putfield 69, 3) := by decide +kernel
theorem d_Mo_under_31 : decode prog_9_method_26_code 31 = .ok (.iconst 0, 1) := by decide +kernel
theorem d_Mo_under_32 : decode prog_9_method_26_code 32 = .ok (.istore_n 3, 1) := by decide +kernel
theorem d_Mo_under_33 : decode prog_9_method_26_code 33 = .ok (.iconst 0, 1) := by decide +kernel
theorem d_Mo_under_34 : decode prog_9_method_26_code 34 = .ok (.istore 4, 2) := by decide +kernel
theorem d_Mo_under_36 : decode prog_9_method_26_code 36 = .ok (.iload 4, 2) := by decide +kernel
theorem d_Mo_under_38 : decode prog_9_method_26_code 38 = .ok (.bipush 16, 2) := by decide +kernel
theorem d_Mo_under_40 : decode prog_9_method_26_code 40 = .ok (.if_icmp .ge 101, 3) := by decide +kernel
theorem d_Mo_under_43 : decode prog_9_method_26_code 43 = .ok (.aload_n 0, 1) := by decide +kernel
theorem d_Mo_under_44 : decode prog_9_method_26_code 44 = .ok (.getfield 69, 3) := by decide +kernel
theorem d_Mo_under_47 : decode prog_9_method_26_code 47 = .ok (.ifCond .ne 94, 3) := by decide +kernel
theorem d_Mo_under_50 : decode prog_9_method_26_code 50 = .ok (.aload_n 0, 1) := by decide +kernel
theorem d_Mo_under_51 : decode prog_9_method_26_code 51 = .ok (.getfield 16, 3) := by decide +kernel
theorem d_Mo_under_54 : decode prog_9_method_26_code 54 = .ok (.iload 4, 2) := by decide +kernel
theorem d_Mo_under_56 : decode prog_9_method_26_code 56 = .ok (.baload, 1) := by decide +kernel
theorem d_Mo_under_57 : decode prog_9_method_26_code 57 = .ok (.ifCond .eq 59, 3) := by decide +kernel
theorem d_Mo_under_60 : decode prog_9_method_26_code 60 = .ok (.aload_n 0, 1) := by decide +kernel
theorem d_Mo_under_61 : decode prog_9_method_26_code 61 = .ok (.getfield 32, 3) := by decide +kernel
theorem d_Mo_under_64 : decode prog_9_method_26_code 64 = .ok (.iload 4, 2) := by decide +kernel
theorem d_Mo_under_66 : decode prog_9_method_26_code 66 = .ok (.iaload, 1) := by decide +kernel
theorem d_Mo_under_67 : decode prog_9_method_26_code 67 = .ok (.ifCond .le 49, 3) := by decide +kernel
theorem d_Mo_under_70 : decode prog_9_method_26_code 70 = .ok (.aload_n 0, 1) := by decide +kernel
theorem d_Mo_under_71 : decode prog_9_method_26_code 71 = .ok (.getfield 20, 3) := by decide +kernel
theorem d_Mo_under_74 : decode prog_9_method_26_code 74 = .ok (.iload 4, 2) := by decide +kernel
theorem d_Mo_under_76 : decode prog_9_method_26_code 76 = .ok (.iaload, 1) := by decide +kernel
theorem d_Mo_under_77 : decode prog_9_method_26_code 77 = .ok (.iload_n 1, 1) := by decide +kernel
theorem d_Mo_under_78 : decode prog_9_method_26_code 78 = .ok (.aload_n 0, 1) := by decide +kernel
theorem d_Mo_under_79 : decode prog_9_method_26_code 79 = .ok (.getfield 32, 3) := by decide +kernel
theorem d_Mo_under_82 : decode prog_9_method_26_code 82 = .ok (.iload 4, 2) := by decide +kernel
theorem d_Mo_under_84 : decode prog_9_method_26_code 84 = .ok (.iaload, 1) := by decide +kernel
theorem d_Mo_under_85 : decode prog_9_method_26_code 85 = .ok (.invokestatic 74, 3) := by decide +kernel
theorem d_Mo_under_88 : decode prog_9_method_26_code 88 = .ok (.ifCond .eq 28, 3) := by decide +kernel
theorem d_Mo_under_91 : decode prog_9_method_26_code 91 = .ok (.aload_n 0, 1) := by decide +kernel
theorem d_Mo_under_92 : decode prog_9_method_26_code 92 = .ok (.getfield 23, 3) := by decide +kernel
theorem d_Mo_under_95 : decode prog_9_method_26_code 95 = .ok (.iload 4, 2) := by decide +kernel
theorem d_Mo_under_97 : decode prog_9_method_26_code 97 = .ok (.iaload, 1) := by decide +kernel
theorem d_Mo_under_98 : decode prog_9_method_26_code 98 = .ok (.iload_n 2, 1) := by decide +kernel
theorem d_Mo_under_99 : decode prog_9_method_26_code 99 = .ok (.aload_n 0, 1) := by decide +kernel
theorem d_Mo_under_100 : decode prog_9_method_26_code 100 = .ok (.getfield 35, 3) := by decide +kernel
theorem d_Mo_under_103 : decode prog_9_method_26_code 103 = .ok (.iload 4, 2) := by decide +kernel
theorem d_Mo_under_105 : decode prog_9_method_26_code 105 = .ok (.iaload, 1) := by decide +kernel
theorem d_Mo_under_106 : decode prog_9_method_26_code 106 = .ok (.invokestatic 74, 3) := by decide +kernel
theorem d_Mo_under_109 : decode prog_9_method_26_code 109 = .ok (.ifCond .eq 7, 3) := by decide +kernel
theorem d_Mo_under_112 : decode prog_9_method_26_code 112 = .ok (.iconst 1, 1) := by decide +kernel
theorem d_Mo_under_113 : decode prog_9_method_26_code 113 = .ok (.goto 4, 3) := by decide +kernel
theorem d_Mo_under_116 : decode prog_9_method_26_code 116 = .ok (.iconst 0, 1) := by decide +kernel
theorem d_Mo_under_117 : decode prog_9_method_26_code 117 = .ok (.istore 5, 2) := by decide +kernel
theorem d_Mo_under_119 : decode prog_9_method_26_code 119 = .ok (.iload 5, 2) := by decide +kernel
theorem d_Mo_under_121 : decode prog_9_method_26_code 121 = .ok (.ifCond .eq 12, 3) := by decide +kernel
theorem d_Mo_under_124 : decode prog_9_method_26_code 124 = .ok (.iload_n 3, 1) := by decide +kernel
theorem d_Mo_under_125 : decode prog_9_method_26_code 125 = .ok (.iconst 1, 1) := by decide +kernel
theorem d_Mo_under_126 : decode prog_9_method_26_code 126 = .ok (.iload 4, 2) := by decide +kernel
theorem d_Mo_under_128 : decode prog_9_method_26_code 128 = .ok (.ishl, 1) := by decide +kernel
theorem d_Mo_under_129 : decode prog_9_method_26_code 129 = .ok (.ior, 1) := by decide +kernel
theorem d_Mo_under_130 : decode prog_9_method_26_code 130 = .ok (.goto 4, 3) := by decide +kernel
theorem d_Mo_under_133 : decode prog_9_method_26_code 133 = .ok (.iload_n 3, 1) := by decide +kernel
theorem d_Mo_under_134 : decode prog_9_method_26_code 134 = .ok (.istore_n 3, 1) := by decide +kernel
theorem d_Mo_under_135 : decode prog_9_method_26_code 135 = .ok (.iinc 4 1, 3) := by decide +kernel
theorem d_Mo_under_138 : decode prog_9_method_26_code 138 = .ok (.goto (-102), 3) := by decide +kernel
theorem d_Mo_under_141 : decode prog_9_method_26_code 141 = .ok (.iload_n 3, 1) := by decide +kernel
theorem d_Mo_under_142 : decode prog_9_method_26_code 142 = .ok (.ireturn, 1) := by decide +kernel
theorem d_Mo_clock_0 : decode prog_9_method_27_code 0 = .ok (.aload_n 0, 1) := by decide +kernel
theorem d_Mo_clock_1 : decode prog_9_method_27_code 1 = .ok (.iconst 0, 1) := by decide +kernel
theorem d_Mo_clock_2 : decode prog_9_method_27_code 2 = .ok (.putfield 69, 3) := by decide +kernel
theorem d_Mo_clock_5 : decode prog_9_method_27_code 5 = .ok (.aload_n 0, 1) := by decide +kernel
theorem d_Mo_clock_6 : decode prog_9_method_27_code 6 = .ok (.getfield 7, 3) := by decide +kernel
theorem d_Mo_clock_9 : decode prog_9_method_27_code 9 = .ok (.iconst 0, 1) := by decide +kernel
theorem d_Mo_clock_10 : decode prog_9_method_27_code 10 = .ok (.iaload, 1) := by decide +kernel
theorem d_Mo_clock_11 : decode prog_9_method_27_code 11 = .ok (.ireturn, 1) := by decide +kernel
