/-! decode rows (by program: gen_dec.py) -/
theorem d_Mo_init_0 : decode prog_9_method_1_code 0 = .ok (.aload_n 0, 1) := by decide +kernel
theorem d_Mo_init_1 : decode prog_9_method_1_code 1 = .ok (.invokespecial 1, 3) := by decide +kernel
theorem d_Mo_init_4 : decode prog_9_method_1_code 4 = .ok (.aload_n 0, 1) := by decide +kernel
theorem d_Mo_init_5 : decode prog_9_method_1_code 5 = .ok (.iconst 2, 1) := by decide +kernel
theorem d_Mo_init_6 : decode prog_9_method_1_code 6 = .ok (.newarray .int, 2) := by decide +kernel
theorem d_Mo_init_8 : decode prog_9_method_1_code 8 = .ok (.putfield 7, 3) := by decide +kernel
theorem d_Mo_init_11 : decode prog_9_method_1_code 11 = .ok (.aload_n 0, 1) := by decide +kernel
theorem d_Mo_init_12 : decode prog_9_method_1_code 12 = .ok (.bipush 32, 2) := by decide +kernel
theorem d_Mo_init_14 : decode prog_9_method_1_code 14 = .ok (.newarray .int, 2) := by decide +kernel
theorem d_Mo_init_16 : decode prog_9_method_1_code 16 = .ok (.putfield 13, 3) := by decide +kernel
theorem d_Mo_init_19 : decode prog_9_method_1_code 19 = .ok (.aload_n 0, 1) := by decide +kernel
theorem d_Mo_init_20 : decode prog_9_method_1_code 20 = .ok (.bipush 32, 2) := by decide +kernel
theorem d_Mo_init_22 : decode prog_9_method_1_code 22 = .ok (.newarray .boolean, 2) := by decide +kernel
theorem d_Mo_init_24 : decode prog_9_method_1_code 24 = .ok (.putfield 16, 3) := by decide +kernel
theorem d_Mo_init_27 : decode prog_9_method_1_code 27 = .ok (.aload_n 0, 1) := by decide +kernel
theorem d_Mo_init_28 : decode prog_9_method_1_code 28 = .ok (.bipush 32, 2) := by decide +kernel
theorem d_Mo_init_30 : decode prog_9_method_1_code 30 = .ok (.newarray .int, 2) := by decide +kernel
theorem d_Mo_init_32 : decode prog_9_method_1_code 32 = .ok (.putfield 20, 3) := by decide +kernel
theorem d_Mo_init_35 : decode prog_9_method_1_code 35 = .ok (.aload_n 0, 1) := by decide +kernel
theorem d_Mo_init_36 : decode prog_9_method_1_code 36 = .ok (.bipush 32, 2) := by decide +kernel
theorem d_Mo_init_38 : decode prog_9_method_1_code 38 = .ok (.newarray .int, 2) := by decide +kernel
theorem d_Mo_init_40 : decode prog_9_method_1_code 40 = .ok (.putfield 23, 3) := by decide +kernel
theorem d_Mo_init_43 : decode prog_9_method_1_code 43 = .ok (.aload_n 0, 1) := by decide +kernel
theorem d_Mo_init_44 : decode prog_9_method_1_code 44 = .ok (.bipush 32, 2) := by decide +kernel
theorem d_Mo_init_46 : decode prog_9_method_1_code 46 = .ok (.newarray .int, 2) := by decide +kernel
theorem d_Mo_init_48 : decode prog_9_method_1_code 48 = .ok (.putfield 26, 3) := by decide +kernel
theorem d_Mo_init_51 : decode prog_9_method_1_code 51 = .ok (.aload_n 0, 1) := by decide +kernel
theorem d_Mo_init_52 : decode prog_9_method_1_code 52 = .ok (.bipush 32, 2) := by decide +kernel
theorem d_Mo_init_54 : decode prog_9_method_1_code 54 = .ok (.newarray .int, 2) := by decide +kernel
theorem d_Mo_init_56 : decode prog_9_method_1_code 56 = .ok (.putfield 29, 3) := by decide +kernel
theorem d_Mo_init_59 : decode prog_9_method_1_code 59 = .ok (.aload_n 0, 1) := by decide +kernel
theorem d_Mo_init_60 : decode prog_9_method_1_code 60 = .ok (.bipush 32, 2) := by decide +kernel
theorem d_Mo_init_62 : decode prog_9_method_1_code 62 = .ok (.newarray .int, 2) := by decide +kernel
theorem d_Mo_init_64 : decode prog_9_method_1_code 64 = .ok (.putfield 32, 3) := by decide +kernel
theorem d_Mo_init_67 : decode prog_9_method_1_code 67 = .ok (.aload_n 0, 1) := by decide +kernel
theorem d_Mo_init_68 : decode prog_9_method_1_code 68 = .ok (.bipush 32, 2) := by decide +kernel
theorem d_Mo_init_70 : decode prog_9_method_1_code 70 = .ok (.newarray .int, 2) := by decide +kernel
theorem d_Mo_init_72 : decode prog_9_method_1_code 72 = .ok (.putfield 35, 3) := by decide +kernel
theorem d_Mo_init_75 : decode prog_9_method_1_code 75 = .ok (.aload_n 0, 1) := by decide +kernel
theorem d_Mo_init_76 : decode prog_9_method_1_code 76 = .ok (.bipush 32, 2) := by decide +kernel
theorem d_Mo_init_78 : decode prog_9_method_1_code 78 = .ok (.newarray .int, 2) := by decide +kernel
theorem d_Mo_init_80 : decode prog_9_method_1_code 80 = .ok (.putfield 38, 3) := by decide +kernel
theorem d_Mo_init_83 : decode prog_9_method_1_code 83 = .ok (.aload_n 0, 1) := by decide +kernel
theorem d_Mo_init_84 : decode prog_9_method_1_code 84 = .ok (.sipush 512, 3) := by decide +kernel
theorem d_Mo_init_87 : decode prog_9_method_1_code 87 = .ok (.newarray .boolean, 2) := by decide +kernel
theorem d_Mo_init_89 : decode prog_9_method_1_code 89 = .ok (.putfield 41, 3) := by decide +kernel
theorem d_Mo_init_92 : decode prog_9_method_1_code 92 = .ok (.aload_n 0, 1) := by decide +kernel
theorem d_Mo_init_93 : decode prog_9_method_1_code 93 = .ok (.iconst 2, 1) := by decide +kernel
theorem d_Mo_init_94 : decode prog_9_method_1_code 94 = .ok (.newarray .int, 2) := by decide +kernel
theorem d_Mo_init_96 : decode prog_9_method_1_code 96 = .ok (.putfield 44, 3) := by decide +kernel
theorem d_Mo_init_99 : decode prog_9_method_1_code 99 = .ok (.aload_n 0, 1) := by decide +kernel
theorem d_Mo_init_100 : decode prog_9_method_1_code 100 = .ok (.sipush 240, 3) := by decide +kernel
theorem d_Mo_init_103 : decode prog_9_method_1_code 103 = .ok (.newarray .int, 2) := by decide +kernel
theorem d_Mo_init_105 : decode prog_9_method_1_code 105 = .ok (.putfield 47, 3) := by decide +kernel
theorem d_Mo_init_108 : decode prog_9_method_1_code 108 = .ok (.aload_n 0, 1) := by decide +kernel
theorem d_Mo_init_109 : decode prog_9_method_1_code 109 = .ok (.sipush 240, 3) := by decide +kernel
theorem d_Mo_init_112 : decode prog_9_method_1_code 112 = .ok (.newarray .int, 2) := by decide +kernel
theorem d_Mo_init_114 : decode prog_9_method_1_code 114 = .ok (.putfield 50, 3) := by decide +kernel
theorem d_Mo_init_117 : decode prog_9_method_1_code 117 = .ok (.aload_n 0, 1) := by decide +kernel
theorem d_Mo_init_118 : decode prog_9_method_1_code 118 = .ok (.sipush 240, 3) := by decide +kernel
theorem d_Mo_init_121 : decode prog_9_method_1_code 121 = .ok (.newarray .int, 2) := by decide +kernel
theorem d_Mo_init_123 : decode prog_9_method_1_code 123 = .ok (.putfield 53, 3) := by decide +kernel
theorem d_Mo_init_126 : decode prog_9_method_1_code 126 = .ok (.aload_n 0, 1) := by decide +kernel
theorem d_Mo_init_127 : decode prog_9_method_1_code 127 = .ok (.sipush 600, 3) := by decide +kernel
theorem d_Mo_init_130 : decode prog_9_method_1_code 130 = .ok (.newarray .int, 2) := by decide +kernel
theorem d_Mo_init_132 : decode prog_9_method_1_code 132 = .ok (.putfield 56, 3) := by decide +kernel
theorem d_Mo_init_135 : decode prog_9_method_1_code 135 = .ok (.aload_n 0, 1) := by decide +kernel
theorem d_Mo_init_136 : decode prog_9_method_1_code 136 = .ok (.sipush 400, 3) := by decide +kernel
theorem d_Mo_init_139 : decode prog_9_method_1_code 139 = .ok (.newarray .int, 2) := by decide +kernel
theorem d_Mo_init_141 : decode prog_9_method_1_code 141 = .ok (.putfield 59, 3) := by decide +kernel
theorem d_Mo_init_144 : decode prog_9_method_1_code 144 = .ok (.aload_n 0, 1) := by decide +kernel
theorem d_Mo_init_145 : decode prog_9_method_1_code 145 = .ok (.sipush 600, 3) := by decide +kernel
theorem d_Mo_init_148 : decode prog_9_method_1_code 148 = .ok (.newarray .int, 2) := by decide +kernel
theorem d_Mo_init_150 : decode prog_9_method_1_code 150 = .ok (.putfield 62, 3) := by decide +kernel
theorem d_Mo_init_153 : decode prog_9_method_1_code 153 = .ok (.aload_n 0, 1) := by decide +kernel
theorem d_Mo_init_154 : decode prog_9_method_1_code 154 = .ok (.invokevirtual 65, 3) := by decide +kernel
theorem d_Mo_init_157 : decode prog_9_method_1_code 157 = .ok (.istore_n 1, 1) := by decide +kernel
theorem d_Mo_init_158 : decode prog_9_method_1_code 158 = .ok (.return_, 1) := by decide +kernel
theorem d_Mo_thrown_0 : decode prog_9_method_2_code 0 = .ok (.aload_n 0, 1) := by decide +kernel
theorem d_Mo_thrown_1 : decode prog_9_method_2_code 1 = .ok (.getfield 69, 3) := by decide +kernel
theorem d_Mo_thrown_4 : decode prog_9_method_2_code 4 = .ok (.ireturn, 1) := by decide +kernel
theorem d_Mo_seek_0 : decode prog_9_method_3_code 0 = .ok (.iload_n 2, 1) := by decide +kernel
theorem d_Mo_seek_1 : decode prog_9_method_3_code 1 = .ok (.ifCond .ge 5, 3) := by decide +kernel
theorem d_Mo_seek_4 : decode prog_9_method_3_code 4 = .ok (.iconst (-1), 1) := by decide +kernel
theorem d_Mo_seek_5 : decode prog_9_method_3_code 5 = .ok (.ireturn, 1) := by decide +kernel
theorem d_Mo_seek_6 : decode prog_9_method_3_code 6 = .ok (.bipush 16, 2) := by decide +kernel
theorem d_Mo_seek_8 : decode prog_9_method_3_code 8 = .ok (.iload_n 1, 1) := by decide +kernel
theorem d_Mo_seek_9 : decode prog_9_method_3_code 9 = .ok (.imul, 1) := by decide +kernel
theorem d_Mo_seek_10 : decode prog_9_method_3_code 10 = .ok (.iload_n 2, 1) := by decide +kernel
theorem d_Mo_seek_11 : decode prog_9_method_3_code 11 = .ok (.bipush 16, 2) := by decide +kernel
theorem d_Mo_seek_13 : decode prog_9_method_3_code 13 = .ok (.irem, 1) := by decide +kernel
theorem d_Mo_seek_14 : decode prog_9_method_3_code 14 = .ok (.iadd, 1) := by decide +kernel
theorem d_Mo_seek_15 : decode prog_9_method_3_code 15 = .ok (.istore_n 3, 1) := by decide +kernel
theorem d_Mo_seek_16 : decode prog_9_method_3_code 16 = .ok (.aload_n 0, 1) := by decide +kernel
theorem d_Mo_seek_17 : decode prog_9_method_3_code 17 = .ok (.getfield 16, 3) := by decide +kernel
theorem d_Mo_seek_20 : decode prog_9_method_3_code 20 = .ok (.iload_n 3, 1) := by decide +kernel
theorem d_Mo_seek_21 : decode prog_9_method_3_code 21 = .ok (.baload, 1) := by decide +kernel
theorem d_Mo_seek_22 : decode prog_9_method_3_code 22 = .ok (.ifCond .eq 20, 3) := by decide +kernel
theorem d_Mo_seek_25 : decode prog_9_method_3_code 25 = .ok (.aload_n 0, 1) := by decide +kernel
theorem d_Mo_seek_26 : decode prog_9_method_3_code 26 = .ok (.getfield 13, 3) := by decide +kernel
theorem d_Mo_seek_29 : decode prog_9_method_3_code 29 = .ok (.iload_n 3, 1) := by decide +kernel
theorem d_Mo_seek_30 : decode prog_9_method_3_code 30 = .ok (.iaload, 1) := by decide +kernel
theorem d_Mo_seek_31 : decode prog_9_method_3_code 31 = .ok (.iload_n 2, 1) := by decide +kernel
theorem d_Mo_seek_32 : decode prog_9_method_3_code 32 = .ok (.bipush 16, 2) := by decide +kernel
theorem d_Mo_seek_34 : decode prog_9_method_3_code 34 = .ok (.idiv, 1) := by decide +kernel
theorem d_Mo_seek_35 : decode prog_9_method_3_code 35 = .ok (.if_icmp .ne 7, 3) := by decide +kernel
theorem d_Mo_seek_38 : decode prog_9_method_3_code 38 = .ok (.iload_n 3, 1) := by decide +kernel
theorem d_Mo_seek_39 : decode prog_9_method_3_code 39 = .ok (.goto 4, 3) := by decide +kernel
theorem d_Mo_seek_42 : decode prog_9_method_3_code 42 = .ok (.iconst (-1), 1) := by decide +kernel
theorem d_Mo_seek_43 : decode prog_9_method_3_code 43 = .ok (.ireturn, 1) := by decide +kernel
theorem d_Mo_emptySlot_0 : decode prog_9_method_4_code 0 = .ok (.bipush 16, 2) := by decide +kernel
theorem d_Mo_emptySlot_2 : decode prog_9_method_4_code 2 = .ok (.iload_n 1, 1) := by decide +kernel
theorem d_Mo_emptySlot_3 : decode prog_9_method_4_code 3 = .ok (.imul, 1) := by decide +kernel
theorem d_Mo_emptySlot_4 : decode prog_9_method_4_code 4 = .ok (.istore_n 2, 1) := by decide +kernel
theorem d_Mo_emptySlot_5 : decode prog_9_method_4_code 5 = .ok (.iload_n 2, 1) := by decide +kernel
theorem d_Mo_emptySlot_6 : decode prog_9_method_4_code 6 = .ok (.bipush 16, 2) := by decide +kernel
theorem d_Mo_emptySlot_8 : decode prog_9_method_4_code 8 = .ok (.iload_n 1, 1) := by decide +kernel
theorem d_Mo_emptySlot_9 : decode prog_9_method_4_code 9 = .ok (.imul, 1) := by decide +kernel
theorem d_Mo_emptySlot_10 : decode prog_9_method_4_code 10 = .ok (.bipush 16, 2) := by decide +kernel
theorem d_Mo_emptySlot_12 : decode prog_9_method_4_code 12 = .ok (.iadd, 1) := by decide +kernel
theorem d_Mo_emptySlot_13 : decode prog_9_method_4_code 13 = .ok (.if_icmp .ge 20, 3) := by decide +kernel
theorem d_Mo_emptySlot_16 : decode prog_9_method_4_code 16 = .ok (.aload_n 0, 1) := by decide +kernel
theorem d_Mo_emptySlot_17 : decode prog_9_method_4_code 17 = .ok (.getfield 16, 3) := by decide +kernel
theorem d_Mo_emptySlot_20 : decode prog_9_method_4_code 20 = .ok (.iload_n 2, 1) := by decide +kernel
theorem d_Mo_emptySlot_21 : decode prog_9_method_4_code 21 = .ok (.baload, 1) := by decide +kernel
theorem d_Mo_emptySlot_22 : decode prog_9_method_4_code 22 = .ok (.ifCond .ne 5, 3) := by decide +kernel
theorem d_Mo_emptySlot_25 : decode prog_9_method_4_code 25 = .ok (.iload_n 2, 1) := by decide +kernel
theorem d_Mo_emptySlot_26 : decode prog_9_method_4_code 26 = .ok (.ireturn, 1) := by decide +kernel
theorem d_Mo_emptySlot_27 : decode prog_9_method_4_code 27 = .ok (.iinc 2 1, 3) := by decide +kernel
theorem d_Mo_emptySlot_30 : decode prog_9_method_4_code 30 = .ok (.goto (-25), 3) := by decide +kernel
theorem d_Mo_emptySlot_33 : decode prog_9_method_4_code 33 = .ok (.iconst (-1), 1) := by decide +kernel
theorem d_Mo_emptySlot_34 : decode prog_9_method_4_code 34 = .ok (.ireturn, 1) := by decide +kernel
theorem d_Mo_make_0 : decode prog_9_method_5_code 0 = .ok (.aload_n 0, 1) := by decide +kernel
theorem d_Mo_make_1 : decode prog_9_method_5_code 1 = .ok (.getfield 16, 3) := by decide +kernel
theorem d_Mo_make_4 : decode prog_9_method_5_code 4 = .ok (.iload_n 1, 1) := by decide +kernel
theorem d_Mo_make_5 : decode prog_9_method_5_code 5 = .ok (.iconst 1, 1) := by decide +kernel
theorem d_Mo_make_6 : decode prog_9_method_5_code 6 = .ok (.bastore, 1) := by decide +kernel
theorem d_Mo_make_7 : decode prog_9_method_5_code 7 = .ok (.aload_n 0, 1) := by decide +kernel
theorem d_Mo_make_8 : decode prog_9_method_5_code 8 = .ok (.getfield 20, 3) := by decide +kernel
theorem d_Mo_make_11 : decode prog_9_method_5_code 11 = .ok (.iload_n 1, 1) := by decide +kernel
theorem d_Mo_make_12 : decode prog_9_method_5_code 12 = .ok (.iload_n 2, 1) := by decide +kernel
theorem d_Mo_make_13 : decode prog_9_method_5_code 13 = .ok (.iastore, 1) := by decide +kernel
theorem d_Mo_make_14 : decode prog_9_method_5_code 14 = .ok (.aload_n 0, 1) := by decide +kernel
theorem d_Mo_make_15 : decode prog_9_method_5_code 15 = .ok (.getfield 23, 3) := by decide +kernel
theorem d_Mo_make_18 : decode prog_9_method_5_code 18 = .ok (.iload_n 1, 1) := by decide +kernel
theorem d_Mo_make_19 : decode prog_9_method_5_code 19 = .ok (.iload_n 3, 1) := by decide +kernel
theorem d_Mo_make_20 : decode prog_9_method_5_code 20 = .ok (.iastore, 1) := by decide +kernel
theorem d_Mo_make_21 : decode prog_9_method_5_code 21 = .ok (.aload_n 0, 1) := by decide +kernel
theorem d_Mo_make_22 : decode prog_9_method_5_code 22 = .ok (.getfield 26, 3) := by decide +kernel
theorem d_Mo_make_25 : decode prog_9_method_5_code 25 = .ok (.iload_n 1, 1) := by decide +kernel
theorem d_Mo_make_26 : decode prog_9_method_5_code 26 = .ok (.iconst 0, 1) := by decide +kernel
theorem d_Mo_make_27 : decode prog_9_method_5_code 27 = .ok (.iastore, 1) := by decide +kernel
theorem d_Mo_make_28 : decode prog_9_method_5_code 28 = .ok (.aload_n 0, 1) := by decide +kernel
theorem d_Mo_make_29 : decode prog_9_method_5_code 29 = .ok (.getfield 29, 3) := by decide +kernel
theorem d_Mo_make_32 : decode prog_9_method_5_code 32 = .ok (.iload_n 1, 1) := by decide +kernel
theorem d_Mo_make_33 : decode prog_9_method_5_code 33 = .ok (.iconst 0, 1) := by decide +kernel
theorem d_Mo_make_34 : decode prog_9_method_5_code 34 = .ok (.iastore, 1) := by decide +kernel
theorem d_Mo_make_35 : decode prog_9_method_5_code 35 = .ok (.aload_n 0, 1) := by decide +kernel
theorem d_Mo_make_36 : decode prog_9_method_5_code 36 = .ok (.getfield 32, 3) := by decide +kernel
theorem d_Mo_make_39 : decode prog_9_method_5_code 39 = .ok (.iload_n 1, 1) := by decide +kernel
theorem d_Mo_make_40 : decode prog_9_method_5_code 40 = .ok (.iconst 0, 1) := by decide +kernel
theorem d_Mo_make_41 : decode prog_9_method_5_code 41 = .ok (.iastore, 1) := by decide +kernel
theorem d_Mo_make_42 : decode prog_9_method_5_code 42 = .ok (.aload_n 0, 1) := by decide +kernel
theorem d_Mo_make_43 : decode prog_9_method_5_code 43 = .ok (.getfield 35, 3) := by decide +kernel
theorem d_Mo_make_46 : decode prog_9_method_5_code 46 = .ok (.iload_n 1, 1) := by decide +kernel
theorem d_Mo_make_47 : decode prog_9_method_5_code 47 = .ok (.iconst 0, 1) := by decide +kernel
theorem d_Mo_make_48 : decode prog_9_method_5_code 48 = .ok (.iastore, 1) := by decide +kernel
theorem d_Mo_make_49 : decode prog_9_method_5_code 49 = .ok (.aload_n 0, 1) := by decide +kernel
theorem d_Mo_make_50 : decode prog_9_method_5_code 50 = .ok (.getfield 38, 3) := by decide +kernel
theorem d_Mo_make_53 : decode prog_9_method_5_code 53 = .ok (.iload_n 1, 1) := by decide +kernel
theorem d_Mo_make_54 : decode prog_9_method_5_code 54 = .ok (.iconst 0, 1) := by decide +kernel
theorem d_Mo_make_55 : decode prog_9_method_5_code 55 = .ok (.iastore, 1) := by decide +kernel
theorem d_Mo_make_56 : decode prog_9_method_5_code 56 = .ok (.return_, 1) := by decide +kernel
theorem d_Mo_remove_0 : decode prog_9_method_6_code 0 = .ok (.iload_n 1, 1) := by decide +kernel
theorem d_Mo_remove_1 : decode prog_9_method_6_code 1 = .ok (.bipush 16, 2) := by decide +kernel
theorem d_Mo_remove_3 : decode prog_9_method_6_code 3 = .ok (.idiv, 1) := by decide +kernel
theorem d_Mo_remove_4 : decode prog_9_method_6_code 4 = .ok (.istore_n 2, 1) := by decide +kernel
theorem d_Mo_remove_5 : decode prog_9_method_6_code 5 = .ok (.aload_n 0, 1) := by decide +kernel
theorem d_Mo_remove_6 : decode prog_9_method_6_code 6 = .ok (.getfield 16, 3) := by decide +kernel
theorem d_Mo_remove_9 : decode prog_9_method_6_code 9 = .ok (.iload_n 1, 1) := by decide +kernel
theorem d_Mo_remove_10 : decode prog_9_method_6_code 10 = .ok (.iconst 0, 1) := by decide +kernel
theorem d_Mo_remove_11 : decode prog_9_method_6_code 11 = .ok (.bastore, 1) := by decide +kernel
theorem d_Mo_remove_12 : decode prog_9_method_6_code 12 = .ok (.aload_n 0, 1) := by decide +kernel
theorem d_Mo_remove_13 : decode prog_9_method_6_code 13 = .ok (.getfield 13, 3) := by decide +kernel
theorem d_Mo_remove_16 : decode prog_9_method_6_code 16 = .ok (.iload_n 1, 1) := by decide +kernel
theorem d_Mo_remove_17 : decode prog_9_method_6_code 17 = .ok (.aload_n 0, 1) := by decide +kernel
theorem d_Mo_remove_18 : decode prog_9_method_6_code 18 = .ok (.getfield 13, 3) := by decide +kernel
theorem d_Mo_remove_21 : decode prog_9_method_6_code 21 = .ok (.iload_n 1, 1) := by decide +kernel
theorem d_Mo_remove_22 : decode prog_9_method_6_code 22 = .ok (.iaload, 1) := by decide +kernel
theorem d_Mo_remove_23 : decode prog_9_method_6_code 23 = .ok (.ldc 73, 2) := by decide +kernel
theorem d_Mo_remove_25 : decode prog_9_method_6_code 25 = .ok (.if_icmp .ne 7, 3) := by decide +kernel
theorem d_Mo_remove_28 : decode prog_9_method_6_code 28 = .ok (.iconst 0, 1) := by decide +kernel
theorem d_Mo_remove_29 : decode prog_9_method_6_code 29 = .ok (.goto 11, 3) := by decide +kernel
theorem d_Mo_remove_32 : decode prog_9_method_6_code 32 = .ok (.aload_n 0, 1) := by decide +kernel
theorem d_Mo_remove_33 : decode prog_9_method_6_code 33 = .ok (.getfield 13, 3) := by decide +kernel
theorem d_Mo_remove_36 : decode prog_9_method_6_code 36 = .ok (.iload_n 1, 1) := by decide +kernel
theorem d_Mo_remove_37 : decode prog_9_method_6_code 37 = .ok (.iaload, 1) := by decide +kernel
theorem d_Mo_remove_38 : decode prog_9_method_6_code 38 = .ok (.iconst 1, 1) := by decide +kernel
theorem d_Mo_remove_39 : decode prog_9_method_6_code 39 = .ok (.iadd, 1) := by decide +kernel
theorem d_Mo_remove_40 : decode prog_9_method_6_code 40 = .ok (.iastore, 1) := by decide +kernel
theorem d_Mo_remove_41 : decode prog_9_method_6_code 41 = .ok (.iconst 0, 1) := by decide +kernel
theorem d_Mo_remove_42 : decode prog_9_method_6_code 42 = .ok (.istore_n 3, 1) := by decide +kernel
theorem d_Mo_remove_43 : decode prog_9_method_6_code 43 = .ok (.iload_n 3, 1) := by decide +kernel
theorem d_Mo_remove_44 : decode prog_9_method_6_code 44 = .ok (.bipush 16, 2) := by decide +kernel
theorem d_Mo_remove_46 : decode prog_9_method_6_code 46 = .ok (.if_icmp .ge 51, 3) := by decide +kernel
theorem d_Mo_remove_49 : decode prog_9_method_6_code 49 = .ok (.aload_n 0, 1) := by decide +kernel
theorem d_Mo_remove_50 : decode prog_9_method_6_code 50 = .ok (.getfield 41, 3) := by decide +kernel
theorem d_Mo_remove_53 : decode prog_9_method_6_code 53 = .ok (.sipush 256, 3) := by decide +kernel
theorem d_Mo_remove_56 : decode prog_9_method_6_code 56 = .ok (.iload_n 2, 1) := by decide +kernel
theorem d_Mo_remove_57 : decode prog_9_method_6_code 57 = .ok (.imul, 1) := by decide +kernel
theorem d_Mo_remove_58 : decode prog_9_method_6_code 58 = .ok (.bipush 16, 2) := by decide +kernel
theorem d_Mo_remove_60 : decode prog_9_method_6_code 60 = .ok (.iload_n 1, 1) := by decide +kernel
theorem d_Mo_remove_61 : decode prog_9_method_6_code 61 = .ok (.bipush 16, 2) := by decide +kernel
theorem d_Mo_remove_63 : decode prog_9_method_6_code 63 = .ok (.irem, 1) := by decide +kernel
theorem d_Mo_remove_64 : decode prog_9_method_6_code 64 = .ok (.imul, 1) := by decide +kernel
theorem d_Mo_remove_65 : decode prog_9_method_6_code 65 = .ok (.iadd, 1) := by decide +kernel
theorem d_Mo_remove_66 : decode prog_9_method_6_code 66 = .ok (.iload_n 3, 1) := by decide +kernel
theorem d_Mo_remove_67 : decode prog_9_method_6_code 67 = .ok (.iadd, 1) := by decide +kernel
theorem d_Mo_remove_68 : decode prog_9_method_6_code 68 = .ok (.iconst 0, 1) := by decide +kernel
theorem d_Mo_remove_69 : decode prog_9_method_6_code 69 = .ok (.bastore, 1) := by decide +kernel
theorem d_Mo_remove_70 : decode prog_9_method_6_code 70 = .ok (.aload_n 0, 1) := by decide +kernel
theorem d_Mo_remove_71 : decode prog_9_method_6_code 71 = .ok (.getfield 41, 3) := by decide +kernel
theorem d_Mo_remove_74 : decode prog_9_method_6_code 74 = .ok (.sipush 256, 3) := by decide +kernel
theorem d_Mo_remove_77 : decode prog_9_method_6_code 77 = .ok (.iload_n 2, 1) := by decide +kernel
theorem d_Mo_remove_78 : decode prog_9_method_6_code 78 = .ok (.imul, 1) := by decide +kernel
theorem d_Mo_remove_79 : decode prog_9_method_6_code 79 = .ok (.bipush 16, 2) := by decide +kernel
theorem d_Mo_remove_81 : decode prog_9_method_6_code 81 = .ok (.iload_n 3, 1) := by decide +kernel
theorem d_Mo_remove_82 : decode prog_9_method_6_code 82 = .ok (.imul, 1) := by decide +kernel
theorem d_Mo_remove_83 : decode prog_9_method_6_code 83 = .ok (.iadd, 1) := by decide +kernel
theorem d_Mo_remove_84 : decode prog_9_method_6_code 84 = .ok (.iload_n 1, 1) := by decide +kernel
theorem d_Mo_remove_85 : decode prog_9_method_6_code 85 = .ok (.bipush 16, 2) := by decide +kernel
theorem d_Mo_remove_87 : decode prog_9_method_6_code 87 = .ok (.irem, 1) := by decide +kernel
theorem d_Mo_remove_88 : decode prog_9_method_6_code 88 = .ok (.iadd, 1) := by decide +kernel
theorem d_Mo_remove_89 : decode prog_9_method_6_code 89 = .ok (.iconst 0, 1) := by decide +kernel
theorem d_Mo_remove_90 : decode prog_9_method_6_code 90 = .ok (.bastore, 1) := by decide +kernel
theorem d_Mo_remove_91 : decode prog_9_method_6_code 91 = .ok (.iinc 3 1, 3) := by decide +kernel
theorem d_Mo_remove_94 : decode prog_9_method_6_code 94 = .ok (.goto (-51), 3) := by decide +kernel
theorem d_Mo_remove_97 : decode prog_9_method_6_code 97 = .ok (.return_, 1) := by decide +kernel
theorem d_Mo_near_0 : decode prog_9_method_7_code 0 = .ok (.iload_n 0, 1) := by decide +kernel
theorem d_Mo_near_1 : decode prog_9_method_7_code 1 = .ok (.iload_n 1, 1) := by decide +kernel
theorem d_Mo_near_2 : decode prog_9_method_7_code 2 = .ok (.if_icmp .le 9, 3) := by decide +kernel
theorem d_Mo_near_5 : decode prog_9_method_7_code 5 = .ok (.iload_n 0, 1) := by decide +kernel
theorem d_Mo_near_6 : decode prog_9_method_7_code 6 = .ok (.iload_n 1, 1) := by decide +kernel
theorem d_Mo_near_7 : decode prog_9_method_7_code 7 = .ok (.isub, 1) := by decide +kernel
theorem d_Mo_near_8 : decode prog_9_method_7_code 8 = .ok (.goto 6, 3) := by decide +kernel
theorem d_Mo_near_11 : decode prog_9_method_7_code 11 = .ok (.iload_n 1, 1) := by decide +kernel
theorem d_Mo_near_12 : decode prog_9_method_7_code 12 = .ok (.iload_n 0, 1) := by decide +kernel
theorem d_Mo_near_13 : decode prog_9_method_7_code 13 = .ok (.isub, 1) := by decide +kernel
theorem d_Mo_near_14 : decode prog_9_method_7_code 14 = .ok (.istore_n 3, 1) := by decide +kernel
theorem d_Mo_near_15 : decode prog_9_method_7_code 15 = .ok (.iload_n 3, 1) := by decide +kernel
theorem d_Mo_near_16 : decode prog_9_method_7_code 16 = .ok (.iload_n 2, 1) := by decide +kernel
theorem d_Mo_near_17 : decode prog_9_method_7_code 17 = .ok (.if_icmp .ge 7, 3) := by decide +kernel
theorem d_Mo_near_20 : decode prog_9_method_7_code 20 = .ok (.iconst 1, 1) := by decide +kernel
theorem d_Mo_near_21 : decode prog_9_method_7_code 21 = .ok (.goto 4, 3) := by decide +kernel
theorem d_Mo_near_24 : decode prog_9_method_7_code 24 = .ok (.iconst 0, 1) := by decide +kernel
theorem d_Mo_near_25 : decode prog_9_method_7_code 25 = .ok (.ireturn, 1) := by decide +kernel
theorem d_Mo_overlap_0 : decode prog_9_method_8_code 0 = .ok (.aload_n 0, 1) := by decide +kernel
theorem d_Mo_overlap_1 : decode prog_9_method_8_code 1 = .ok (.getfield 16, 3) := by decide +kernel
theorem d_Mo_overlap_4 : decode prog_9_method_8_code 4 = .ok (.iload_n 1, 1) := by decide +kernel
theorem d_Mo_overlap_5 : decode prog_9_method_8_code 5 = .ok (.baload, 1) := by decide +kernel
theorem d_Mo_overlap_6 : decode prog_9_method_8_code 6 = .ok (.ifCond .eq 96, 3) := by decide +kernel
theorem d_Mo_overlap_9 : decode prog_9_method_8_code 9 = .ok (.aload_n 0, 1) := by decide +kernel
theorem d_Mo_overlap_10 : decode prog_9_method_8_code 10 = .ok (.getfield 16, 3) := by decide +kernel
theorem d_Mo_overlap_13 : decode prog_9_method_8_code 13 = .ok (.iload_n 2, 1) := by decide +kernel
theorem d_Mo_overlap_14 : decode prog_9_method_8_code 14 = .ok (.baload, 1) := by decide +kernel
theorem d_Mo_overlap_15 : decode prog_9_method_8_code 15 = .ok (.ifCond .eq 87, 3) := by decide +kernel
theorem d_Mo_overlap_18 : decode prog_9_method_8_code 18 = .ok (.aload_n 0, 1) := by decide +kernel
theorem d_Mo_overlap_19 : decode prog_9_method_8_code 19 = .ok (.getfield 32, 3) := by decide +kernel
theorem d_Mo_overlap_22 : decode prog_9_method_8_code 22 = .ok (.iload_n 1, 1) := by decide +kernel
theorem d_Mo_overlap_23 : decode prog_9_method_8_code 23 = .ok (.iaload, 1) := by decide +kernel
theorem d_Mo_overlap_24 : decode prog_9_method_8_code 24 = .ok (.ifCond .le 78, 3) := by decide +kernel
theorem d_Mo_overlap_27 : decode prog_9_method_8_code 27 = .ok (.aload_n 0, 1) := by decide +kernel
theorem d_Mo_overlap_28 : decode prog_9_method_8_code 28 = .ok (.getfield 32, 3) := by decide +kernel
theorem d_Mo_overlap_31 : decode prog_9_method_8_code 31 = .ok (.iload_n 2, 1) := by decide +kernel
theorem d_Mo_overlap_32 : decode prog_9_method_8_code 32 = .ok (.iaload, 1) := by decide +kernel
theorem d_Mo_overlap_33 : decode prog_9_method_8_code 33 = .ok (.ifCond .le 69, 3) := by decide +kernel
theorem d_Mo_overlap_36 : decode prog_9_method_8_code 36 = .ok (.aload_n 0, 1) := by decide +kernel
theorem d_Mo_overlap_37 : decode prog_9_method_8_code 37 = .ok (.getfield 20, 3) := by decide +kernel
theorem d_Mo_overlap_40 : decode prog_9_method_8_code 40 = .ok (.iload_n 1, 1) := by decide +kernel
theorem d_Mo_overlap_41 : decode prog_9_method_8_code 41 = .ok (.iaload, 1) := by decide +kernel
theorem d_Mo_overlap_42 : decode prog_9_method_8_code 42 = .ok (.aload_n 0, 1) := by decide +kernel
theorem d_Mo_overlap_43 : decode prog_9_method_8_code 43 = .ok (.getfield 20, 3) := by decide +kernel
theorem d_Mo_overlap_46 : decode prog_9_method_8_code 46 = .ok (.iload_n 2, 1) := by decide +kernel
theorem d_Mo_overlap_47 : decode prog_9_method_8_code 47 = .ok (.iaload, 1) := by decide +kernel
theorem d_Mo_overlap_48 : decode prog_9_method_8_code 48 = .ok (.aload_n 0, 1) := by decide +kernel
theorem d_Mo_overlap_49 : decode prog_9_method_8_code 49 = .ok (.getfield 32, 3) := by decide +kernel
theorem d_Mo_overlap_52 : decode prog_9_method_8_code 52 = .ok (.iload_n 1, 1) := by decide +kernel
theorem d_Mo_overlap_53 : decode prog_9_method_8_code 53 = .ok (.iaload, 1) := by decide +kernel
theorem d_Mo_overlap_54 : decode prog_9_method_8_code 54 = .ok (.aload_n 0, 1) := by decide +kernel
theorem d_Mo_overlap_55 : decode prog_9_method_8_code 55 = .ok (.getfield 32, 3) := by decide +kernel
theorem d_Mo_overlap_58 : decode prog_9_method_8_code 58 = .ok (.iload_n 2, 1) := by decide +kernel
theorem d_Mo_overlap_59 : decode prog_9_method_8_code 59 = .ok (.iaload, 1) := by decide +kernel
theorem d_Mo_overlap_60 : decode prog_9_method_8_code 60 = .ok (.iadd, 1) := by decide +kernel
theorem d_Mo_overlap_61 : decode prog_9_method_8_code 61 = .ok (.invokestatic 74, 3) := by decide +kernel
theorem d_Mo_overlap_64 : decode prog_9_method_8_code 64 = .ok (.ifCond .eq 38, 3) := by decide +kernel
theorem d_Mo_overlap_67 : decode prog_9_method_8_code 67 = .ok (.aload_n 0, 1) := by decide +kernel
theorem d_Mo_overlap_68 : decode prog_9_method_8_code 68 = .ok (.getfield 23, 3) := by decide +kernel
theorem d_Mo_overlap_71 : decode prog_9_method_8_code 71 = .ok (.iload_n 1, 1) := by decide +kernel
theorem d_Mo_overlap_72 : decode prog_9_method_8_code 72 = .ok (.iaload, 1) := by decide +kernel
theorem d_Mo_overlap_73 : decode prog_9_method_8_code 73 = .ok (.aload_n 0, 1) := by decide +kernel
theorem d_Mo_overlap_74 : decode prog_9_method_8_code 74 = .ok (.getfield 23, 3) := by decide +kernel
theorem d_Mo_overlap_77 : decode prog_9_method_8_code 77 = .ok (.iload_n 2, 1) := by decide +kernel
theorem d_Mo_overlap_78 : decode prog_9_method_8_code 78 = .ok (.iaload, 1) := by decide +kernel
theorem d_Mo_overlap_79 : decode prog_9_method_8_code 79 = .ok (.aload_n 0, 1) := by decide +kernel
theorem d_Mo_overlap_80 : decode prog_9_method_8_code 80 = .ok (.getfield 35, 3) := by decide +kernel
theorem d_Mo_overlap_83 : decode prog_9_method_8_code 83 = .ok (.iload_n 1, 1) := by decide +kernel
theorem d_Mo_overlap_84 : decode prog_9_method_8_code 84 = .ok (.iaload, 1) := by decide +kernel
theorem d_Mo_overlap_85 : decode prog_9_method_8_code 85 = .ok (.aload_n 0, 1) := by decide +kernel
theorem d_Mo_overlap_86 : decode prog_9_method_8_code 86 = .ok (.getfield 35, 3) := by decide +kernel
theorem d_Mo_overlap_89 : decode prog_9_method_8_code 89 = .ok (.iload_n 2, 1) := by decide +kernel
theorem d_Mo_overlap_90 : decode prog_9_method_8_code 90 = .ok (.iaload, 1) := by decide +kernel
theorem d_Mo_overlap_91 : decode prog_9_method_8_code 91 = .ok (.iadd, 1) := by decide +kernel
theorem d_Mo_overlap_92 : decode prog_9_method_8_code 92 = .ok (.invokestatic 74, 3) := by decide +kernel
theorem d_Mo_overlap_95 : decode prog_9_method_8_code 95 = .ok (.ifCond .eq 7, 3) := by decide +kernel
theorem d_Mo_overlap_98 : decode prog_9_method_8_code 98 = .ok (.iconst 1, 1) := by decide +kernel
theorem d_Mo_overlap_99 : decode prog_9_method_8_code 99 = .ok (.goto 4, 3) := by decide +kernel
theorem d_Mo_overlap_102 : decode prog_9_method_8_code 102 = .ok (.iconst 0, 1) := by decide +kernel
theorem d_Mo_overlap_103 : decode prog_9_method_8_code 103 = .ok (.ireturn, 1) := by decide +kernel
theorem d_Mo_note_0 : decode prog_9_method_9_code 0 = .ok (.bipush 120, 2) := by decide +kernel
theorem d_Mo_note_2 : decode prog_9_method_9_code 2 = .ok (.iload_n 1, 1) := by decide +kernel
theorem d_Mo_note_3 : decode prog_9_method_9_code 3 = .ok (.imul, 1) := by decide +kernel
theorem d_Mo_note_4 : decode prog_9_method_9_code 4 = .ok (.aload_n 0, 1) := by decide +kernel
theorem d_Mo_note_5 : decode prog_9_method_9_code 5 = .ok (.getfield 44, 3) := by decide +kernel
theorem d_Mo_note_8 : decode prog_9_method_9_code 8 = .ok (.iload_n 1, 1) := by decide +kernel
theorem d_Mo_note_9 : decode prog_9_method_9_code 9 = .ok (.iaload, 1) := by decide +kernel
theorem d_Mo_note_10 : decode prog_9_method_9_code 10 = .ok (.iadd, 1) := by decide +kernel
theorem d_Mo_note_11 : decode prog_9_method_9_code 11 = .ok (.istore 5, 2) := by decide +kernel
theorem d_Mo_note_13 : decode prog_9_method_9_code 13 = .ok (.aload_n 0, 1) := by decide +kernel
theorem d_Mo_note_14 : decode prog_9_method_9_code 14 = .ok (.getfield 47, 3) := by decide +kernel
theorem d_Mo_note_17 : decode prog_9_method_9_code 17 = .ok (.iload 5, 2) := by decide +kernel
theorem d_Mo_note_19 : decode prog_9_method_9_code 19 = .ok (.iload_n 2, 1) := by decide +kernel
theorem d_Mo_note_20 : decode prog_9_method_9_code 20 = .ok (.iastore, 1) := by decide +kernel
theorem d_Mo_note_21 : decode prog_9_method_9_code 21 = .ok (.aload_n 0, 1) := by decide +kernel
theorem d_Mo_note_22 : decode prog_9_method_9_code 22 = .ok (.getfield 50, 3) := by decide +kernel
theorem d_Mo_note_25 : decode prog_9_method_9_code 25 = .ok (.iload 5, 2) := by decide +kernel
theorem d_Mo_note_27 : decode prog_9_method_9_code 27 = .ok (.iload_n 3, 1) := by decide +kernel
theorem d_Mo_note_28 : decode prog_9_method_9_code 28 = .ok (.iastore, 1) := by decide +kernel
theorem d_Mo_note_29 : decode prog_9_method_9_code 29 = .ok (.aload_n 0, 1) := by decide +kernel
theorem d_Mo_note_30 : decode prog_9_method_9_code 30 = .ok (.getfield 53, 3) := by decide +kernel
theorem d_Mo_note_33 : decode prog_9_method_9_code 33 = .ok (.iload 5, 2) := by decide +kernel
theorem d_Mo_note_35 : decode prog_9_method_9_code 35 = .ok (.iload 4, 2) := by decide +kernel
theorem d_Mo_note_37 : decode prog_9_method_9_code 37 = .ok (.iastore, 1) := by decide +kernel
theorem d_Mo_note_38 : decode prog_9_method_9_code 38 = .ok (.aload_n 0, 1) := by decide +kernel
theorem d_Mo_note_39 : decode prog_9_method_9_code 39 = .ok (.getfield 44, 3) := by decide +kernel
theorem d_Mo_note_42 : decode prog_9_method_9_code 42 = .ok (.iload_n 1, 1) := by decide +kernel
theorem d_Mo_note_43 : decode prog_9_method_9_code 43 = .ok (.dup2, 1) := by decide +kernel
theorem d_Mo_note_44 : decode prog_9_method_9_code 44 = .ok (.iaload, 1) := by decide +kernel
theorem d_Mo_note_45 : decode prog_9_method_9_code 45 = .ok (.iconst 1, 1) := by decide +kernel
theorem d_Mo_note_46 : decode prog_9_method_9_code 46 = .ok (.iadd, 1) := by decide +kernel
theorem d_Mo_note_47 : decode prog_9_method_9_code 47 = .ok (.iastore, 1) := by decide +kernel
theorem d_Mo_note_48 : decode prog_9_method_9_code 48 = .ok (.return_, 1) := by decide +kernel
theorem d_Mo_step_0 : decode prog_9_method_10_code 0 = .ok (.aload_n 0, 1) := by decide +kernel
theorem d_Mo_step_1 : decode prog_9_method_10_code 1 = .ok (.getfield 7, 3) := by decide +kernel
theorem d_Mo_step_4 : decode prog_9_method_10_code 4 = .ok (.iload_n 1, 1) := by decide +kernel
theorem d_Mo_step_5 : decode prog_9_method_10_code 5 = .ok (.aload_n 0, 1) := by decide +kernel
theorem d_Mo_step_6 : decode prog_9_method_10_code 6 = .ok (.getfield 7, 3) := by decide +kernel
theorem d_Mo_step_9 : decode prog_9_method_10_code 9 = .ok (.iload_n 1, 1) := by decide +kernel
theorem d_Mo_step_10 : decode prog_9_method_10_code 10 = .ok (.iaload, 1) := by decide +kernel
theorem d_Mo_step_11 : decode prog_9_method_10_code 11 = .ok (.ldc 78, 2) := by decide +kernel
theorem d_Mo_step_13 : decode prog_9_method_10_code 13 = .ok (.if_icmp .ne 8, 3) := by decide +kernel
theorem d_Mo_step_16 : decode prog_9_method_10_code 16 = .ok (.ldc 78, 2) := by decide +kernel
theorem d_Mo_step_18 : decode prog_9_method_10_code 18 = .ok (.goto 11, 3) := by decide +kernel
theorem d_Mo_step_21 : decode prog_9_method_10_code 21 = .ok (.aload_n 0, 1) := by decide +kernel
theorem d_Mo_step_22 : decode prog_9_method_10_code 22 = .ok (.getfield 7, 3) := by decide +kernel
theorem d_Mo_step_25 : decode prog_9_method_10_code 25 = .ok (.iload_n 1, 1) := by decide +kernel
theorem d_Mo_step_26 : decode prog_9_method_10_code 26 = .ok (.iaload, 1) := by decide +kernel
theorem d_Mo_step_27 : decode prog_9_method_10_code 27 = .ok (.iconst 1, 1) := by decide +kernel
theorem d_Mo_step_28 : decode prog_9_method_10_code 28 = .ok (.iadd, 1) := by decide +kernel
theorem d_Mo_step_29 : decode prog_9_method_10_code 29 = .ok (.iastore, 1) := by decide +kernel
theorem d_Mo_step_30 : decode prog_9_method_10_code 30 = .ok (.bipush 16, 2) := by decide +kernel
theorem d_Mo_step_32 : decode prog_9_method_10_code 32 = .ok (.iload_n 1, 1) := by decide +kernel
theorem d_Mo_step_33 : decode prog_9_method_10_code 33 = .ok (.imul, 1) := by decide +kernel
theorem d_Mo_step_34 : decode prog_9_method_10_code 34 = .ok (.istore_n 2, 1) := by decide +kernel
theorem d_Mo_step_35 : decode prog_9_method_10_code 35 = .ok (.iload_n 2, 1) := by decide +kernel
theorem d_Mo_step_36 : decode prog_9_method_10_code 36 = .ok (.bipush 16, 2) := by decide +kernel
theorem d_Mo_step_38 : decode prog_9_method_10_code 38 = .ok (.iload_n 1, 1) := by decide +kernel
theorem d_Mo_step_39 : decode prog_9_method_10_code 39 = .ok (.imul, 1) := by decide +kernel
theorem d_Mo_step_40 : decode prog_9_method_10_code 40 = .ok (.bipush 16, 2) := by decide +kernel
theorem d_Mo_step_42 : decode prog_9_method_10_code 42 = .ok (.iadd, 1) := by decide +kernel
theorem d_Mo_step_43 : decode prog_9_method_10_code 43 = .ok (.if_icmp .ge 51, 3) := by decide +kernel
theorem d_Mo_step_46 : decode prog_9_method_10_code 46 = .ok (.aload_n 0, 1) := by decide +kernel
theorem d_Mo_step_47 : decode prog_9_method_10_code 47 = .ok (.getfield 16, 3) := by decide +kernel
theorem d_Mo_step_50 : decode prog_9_method_10_code 50 = .ok (.iload_n 2, 1) := by decide +kernel
theorem d_Mo_step_51 : decode prog_9_method_10_code 51 = .ok (.baload, 1) := by decide +kernel
theorem d_Mo_step_52 : decode prog_9_method_10_code 52 = .ok (.ifCond .eq 36, 3) := by decide +kernel
theorem d_Mo_step_55 : decode prog_9_method_10_code 55 = .ok (.aload_n 0, 1) := by decide +kernel
theorem d_Mo_step_56 : decode prog_9_method_10_code 56 = .ok (.getfield 38, 3) := by decide +kernel
theorem d_Mo_step_59 : decode prog_9_method_10_code 59 = .ok (.iload_n 2, 1) := by decide +kernel
theorem d_Mo_step_60 : decode prog_9_method_10_code 60 = .ok (.iaload, 1) := by decide +kernel
theorem d_Mo_step_61 : decode prog_9_method_10_code 61 = .ok (.ifCond .le 27, 3) := by decide +kernel
theorem d_Mo_step_64 : decode prog_9_method_10_code 64 = .ok (.aload_n 0, 1) := by decide +kernel
theorem d_Mo_step_65 : decode prog_9_method_10_code 65 = .ok (.getfield 38, 3) := by decide +kernel
theorem d_Mo_step_68 : decode prog_9_method_10_code 68 = .ok (.iload_n 2, 1) := by decide +kernel
theorem d_Mo_step_69 : decode prog_9_method_10_code 69 = .ok (.dup2, 1) := by decide +kernel
theorem d_Mo_step_70 : decode prog_9_method_10_code 70 = .ok (.iaload, 1) := by decide +kernel
theorem d_Mo_step_71 : decode prog_9_method_10_code 71 = .ok (.iconst 1, 1) := by decide +kernel
theorem d_Mo_step_72 : decode prog_9_method_10_code 72 = .ok (.isub, 1) := by decide +kernel
theorem d_Mo_step_73 : decode prog_9_method_10_code 73 = .ok (.iastore, 1) := by decide +kernel
theorem d_Mo_step_74 : decode prog_9_method_10_code 74 = .ok (.aload_n 0, 1) := by decide +kernel
theorem d_Mo_step_75 : decode prog_9_method_10_code 75 = .ok (.getfield 38, 3) := by decide +kernel
theorem d_Mo_step_78 : decode prog_9_method_10_code 78 = .ok (.iload_n 2, 1) := by decide +kernel
theorem d_Mo_step_79 : decode prog_9_method_10_code 79 = .ok (.iaload, 1) := by decide +kernel
theorem d_Mo_step_80 : decode prog_9_method_10_code 80 = .ok (.ifCond .ne 8, 3) := by decide +kernel
theorem d_Mo_step_83 : decode prog_9_method_10_code 83 = .ok (.aload_n 0, 1) := by decide +kernel
theorem d_Mo_step_84 : decode prog_9_method_10_code 84 = .ok (.iload_n 2, 1) := by decide +kernel
theorem d_Mo_step_85 : decode prog_9_method_10_code 85 = .ok (.invokevirtual 79, 3) := by decide +kernel
theorem d_Mo_step_88 : decode prog_9_method_10_code 88 = .ok (.iinc 2 1, 3) := by decide +kernel
theorem d_Mo_step_91 : decode prog_9_method_10_code 91 = .ok (.goto (-56), 3) := by decide +kernel
theorem d_Mo_step_94 : decode prog_9_method_10_code 94 = .ok (.bipush 16, 2) := by decide +kernel
theorem d_Mo_step_96 : decode prog_9_method_10_code 96 = .ok (.iload_n 1, 1) := by decide +kernel
theorem d_Mo_step_97 : decode prog_9_method_10_code 97 = .ok (.imul, 1) := by decide +kernel
theorem d_Mo_step_98 : decode prog_9_method_10_code 98 = .ok (.istore_n 2, 1) := by decide +kernel
theorem d_Mo_step_99 : decode prog_9_method_10_code 99 = .ok (.iload_n 2, 1) := by decide +kernel
theorem d_Mo_step_100 : decode prog_9_method_10_code 100 = .ok (.bipush 16, 2) := by decide +kernel
theorem d_Mo_step_102 : decode prog_9_method_10_code 102 = .ok (.iload_n 1, 1) := by decide +kernel
theorem d_Mo_step_103 : decode prog_9_method_10_code 103 = .ok (.imul, 1) := by decide +kernel
theorem d_Mo_step_104 : decode prog_9_method_10_code 104 = .ok (.bipush 16, 2) := by decide +kernel
theorem d_Mo_step_106 : decode prog_9_method_10_code 106 = .ok (.iadd, 1) := by decide +kernel
theorem d_Mo_step_107 : decode prog_9_method_10_code 107 = .ok (.if_icmp .ge 182, 3) := by decide +kernel
theorem d_Mo_step_110 : decode prog_9_method_10_code 110 = .ok (.aload_n 0, 1) := by decide +kernel
theorem d_Mo_step_111 : decode prog_9_method_10_code 111 = .ok (.getfield 16, 3) := by decide +kernel
theorem d_Mo_step_114 : decode prog_9_method_10_code 114 = .ok (.iload_n 2, 1) := by decide +kernel
theorem d_Mo_step_115 : decode prog_9_method_10_code 115 = .ok (.baload, 1) := by decide +kernel
theorem d_Mo_step_116 : decode prog_9_method_10_code 116 = .ok (.ifCond .eq 167, 3) := by decide +kernel
theorem d_Mo_step_119 : decode prog_9_method_10_code 119 = .ok (.aload_n 0, 1) := by decide +kernel
theorem d_Mo_step_120 : decode prog_9_method_10_code 120 = .ok (.getfield 20, 3) := by decide +kernel
theorem d_Mo_step_123 : decode prog_9_method_10_code 123 = .ok (.iload_n 2, 1) := by decide +kernel
theorem d_Mo_step_124 : decode prog_9_method_10_code 124 = .ok (.iaload, 1) := by decide +kernel
theorem d_Mo_step_125 : decode prog_9_method_10_code 125 = .ok (.aload_n 0, 1) := by decide +kernel
theorem d_Mo_step_126 : decode prog_9_method_10_code 126 = .ok (.getfield 26, 3) := by decide +kernel
theorem d_Mo_step_129 : decode prog_9_method_10_code 129 = .ok (.iload_n 2, 1) := by decide +kernel
theorem d_Mo_step_130 : decode prog_9_method_10_code 130 = .ok (.iaload, 1) := by decide +kernel
theorem d_Mo_step_131 : decode prog_9_method_10_code 131 = .ok (.iadd, 1) := by decide +kernel
theorem d_Mo_step_132 : decode prog_9_method_10_code 132 = .ok (.istore_n 3, 1) := by decide +kernel
theorem d_Mo_step_133 : decode prog_9_method_10_code 133 = .ok (.aload_n 0, 1) := by decide +kernel
theorem d_Mo_step_134 : decode prog_9_method_10_code 134 = .ok (.getfield 23, 3) := by decide +kernel
theorem d_Mo_step_137 : decode prog_9_method_10_code 137 = .ok (.iload_n 2, 1) := by decide +kernel
theorem d_Mo_step_138 : decode prog_9_method_10_code 138 = .ok (.iaload, 1) := by decide +kernel
theorem d_Mo_step_139 : decode prog_9_method_10_code 139 = .ok (.aload_n 0, 1) := by decide +kernel
theorem d_Mo_step_140 : decode prog_9_method_10_code 140 = .ok (.getfield 29, 3) := by decide +kernel
theorem d_Mo_step_143 : decode prog_9_method_10_code 143 = .ok (.iload_n 2, 1) := by decide +kernel
theorem d_Mo_step_144 : decode prog_9_method_10_code 144 = .ok (.iaload, 1) := by decide +kernel
theorem d_Mo_step_145 : decode prog_9_method_10_code 145 = .ok (.iadd, 1) := by decide +kernel
theorem d_Mo_step_146 : decode prog_9_method_10_code 146 = .ok (.istore 4, 2) := by decide +kernel
theorem d_Mo_step_148 : decode prog_9_method_10_code 148 = .ok (.aload_n 0, 1) := by decide +kernel
theorem d_Mo_step_149 : decode prog_9_method_10_code 149 = .ok (.getfield 26, 3) := by decide +kernel
theorem d_Mo_step_152 : decode prog_9_method_10_code 152 = .ok (.iload_n 2, 1) := by decide +kernel
theorem d_Mo_step_153 : decode prog_9_method_10_code 153 = .ok (.iload_n 3, 1) := by decide +kernel
theorem d_Mo_step_154 : decode prog_9_method_10_code 154 = .ok (.ifCond .lt 10, 3) := by decide +kernel
theorem d_Mo_step_157 : decode prog_9_method_10_code 157 = .ok (.iload_n 3, 1) := by decide +kernel
theorem d_Mo_step_158 : decode prog_9_method_10_code 158 = .ok (.sipush 4095, 3) := by decide +kernel
theorem d_Mo_step_161 : decode prog_9_method_10_code 161 = .ok (.if_icmp .le 13, 3) := by decide +kernel
theorem d_Mo_step_164 : decode prog_9_method_10_code 164 = .ok (.aload_n 0, 1) := by decide +kernel
theorem d_Mo_step_165 : decode prog_9_method_10_code 165 = .ok (.getfield 26, 3) := by decide +kernel
theorem d_Mo_step_168 : decode prog_9_method_10_code 168 = .ok (.iload_n 2, 1) := by decide +kernel
theorem d_Mo_step_169 : decode prog_9_method_10_code 169 = .ok (.iaload, 1) := by decide +kernel
theorem d_Mo_step_170 : decode prog_9_method_10_code 170 = .ok (.ineg, 1) := by decide +kernel
theorem d_Mo_step_171 : decode prog_9_method_10_code 171 = .ok (.goto 9, 3) := by decide +kernel
theorem d_Mo_step_174 : decode prog_9_method_10_code 174 = .ok (.aload_n 0, 1) := by decide +kernel
theorem d_Mo_step_175 : decode prog_9_method_10_code 175 = .ok (.getfield 26, 3) := by decide +kernel
theorem d_Mo_step_178 : decode prog_9_method_10_code 178 = .ok (.iload_n 2, 1) := by decide +kernel
theorem d_Mo_step_179 : decode prog_9_method_10_code 179 = .ok (.iaload, 1) := by decide +kernel
theorem d_Mo_step_180 : decode prog_9_method_10_code 180 = .ok (.iastore, 1) := by decide +kernel
theorem d_Mo_step_181 : decode prog_9_method_10_code 181 = .ok (.aload_n 0, 1) := by decide +kernel
theorem d_Mo_step_182 : decode prog_9_method_10_code 182 = .ok (.getfield 29, 3) := by decide +kernel
theorem d_Mo_step_185 : decode prog_9_method_10_code 185 = .ok (.iload_n 2, 1) := by decide +kernel
theorem d_Mo_step_186 : decode prog_9_method_10_code 186 = .ok (.iload 4, 2) := by decide +kernel
theorem d_Mo_step_188 : decode prog_9_method_10_code 188 = .ok (.ifCond .lt 11, 3) := by decide +kernel
theorem d_Mo_step_191 : decode prog_9_method_10_code 191 = .ok (.iload 4, 2) := by decide +kernel
theorem d_Mo_step_193 : decode prog_9_method_10_code 193 = .ok (.sipush 4095, 3) := by decide +kernel
theorem d_Mo_step_196 : decode prog_9_method_10_code 196 = .ok (.if_icmp .le 13, 3) := by decide +kernel
theorem d_Mo_step_199 : decode prog_9_method_10_code 199 = .ok (.aload_n 0, 1) := by decide +kernel
theorem d_Mo_step_200 : decode prog_9_method_10_code 200 = .ok (.getfield 29, 3) := by decide +kernel
theorem d_Mo_step_203 : decode prog_9_method_10_code 203 = .ok (.iload_n 2, 1) := by decide +kernel
theorem d_Mo_step_204 : decode prog_9_method_10_code 204 = .ok (.iaload, 1) := by decide +kernel
theorem d_Mo_step_205 : decode prog_9_method_10_code 205 = .ok (.ineg, 1) := by decide +kernel
theorem d_Mo_step_206 : decode prog_9_method_10_code 206 = .ok (.goto 9, 3) := by decide +kernel
theorem d_Mo_step_209 : decode prog_9_method_10_code 209 = .ok (.aload_n 0, 1) := by decide +kernel
theorem d_Mo_step_210 : decode prog_9_method_10_code 210 = .ok (.getfield 29, 3) := by decide +kernel
theorem d_Mo_step_213 : decode prog_9_method_10_code 213 = .ok (.iload_n 2, 1) := by decide +kernel
theorem d_Mo_step_214 : decode prog_9_method_10_code 214 = .ok (.iaload, 1) := by decide +kernel
theorem d_Mo_step_215 : decode prog_9_method_10_code 215 = .ok (.iastore, 1) := by decide +kernel
theorem d_Mo_step_216 : decode prog_9_method_10_code 216 = .ok (.aload_n 0, 1) := by decide +kernel
theorem d_Mo_step_217 : decode prog_9_method_10_code 217 = .ok (.getfield 20, 3) := by decide +kernel
theorem d_Mo_step_220 : decode prog_9_method_10_code 220 = .ok (.iload_n 2, 1) := by decide +kernel
theorem d_Mo_step_221 : decode prog_9_method_10_code 221 = .ok (.iload_n 3, 1) := by decide +kernel
theorem d_Mo_step_222 : decode prog_9_method_10_code 222 = .ok (.ifCond .ge 8, 3) := by decide +kernel
theorem d_Mo_step_225 : decode prog_9_method_10_code 225 = .ok (.iload_n 3, 1) := by decide +kernel
theorem d_Mo_step_226 : decode prog_9_method_10_code 226 = .ok (.ineg, 1) := by decide +kernel
theorem d_Mo_step_227 : decode prog_9_method_10_code 227 = .ok (.goto 19, 3) := by decide +kernel
theorem d_Mo_step_230 : decode prog_9_method_10_code 230 = .ok (.iload_n 3, 1) := by decide +kernel
theorem d_Mo_step_231 : decode prog_9_method_10_code 231 = .ok (.sipush 4095, 3) := by decide +kernel
theorem d_Mo_step_234 : decode prog_9_method_10_code 234 = .ok (.if_icmp .le 11, 3) := by decide +kernel
theorem d_Mo_step_237 : decode prog_9_method_10_code 237 = .ok (.sipush 8190, 3) := by decide +kernel
theorem d_Mo_step_240 : decode prog_9_method_10_code 240 = .ok (.iload_n 3, 1) := by decide +kernel
theorem d_Mo_step_241 : decode prog_9_method_10_code 241 = .ok (.isub, 1) := by decide +kernel
theorem d_Mo_step_242 : decode prog_9_method_10_code 242 = .ok (.goto 4, 3) := by decide +kernel
theorem d_Mo_step_245 : decode prog_9_method_10_code 245 = .ok (.iload_n 3, 1) := by decide +kernel
theorem d_Mo_step_246 : decode prog_9_method_10_code 246 = .ok (.iastore, 1) := by decide +kernel
theorem d_Mo_step_247 : decode prog_9_method_10_code 247 = .ok (.aload_n 0, 1) := by decide +kernel
theorem d_Mo_step_248 : decode prog_9_method_10_code 248 = .ok (.getfield 23, 3) := by decide +kernel
theorem d_Mo_step_251 : decode prog_9_method_10_code 251 = .ok (.iload_n 2, 1) := by decide +kernel
theorem d_Mo_step_252 : decode prog_9_method_10_code 252 = .ok (.iload 4, 2) := by decide +kernel
theorem d_Mo_step_254 : decode prog_9_method_10_code 254 = .ok (.ifCond .ge 9, 3) := by decide +kernel
theorem d_Mo_step_257 : decode prog_9_method_10_code 257 = .ok (.iload 4, 2) := by decide +kernel
theorem d_Mo_step_259 : decode prog_9_method_10_code 259 = .ok (.ineg, 1) := by decide +kernel
theorem d_Mo_step_260 : decode prog_9_method_10_code 260 = .ok (.goto 22, 3) := by decide +kernel
theorem d_Mo_step_263 : decode prog_9_method_10_code 263 = .ok (.iload 4, 2) := by decide +kernel
theorem d_Mo_step_265 : decode prog_9_method_10_code 265 = .ok (.sipush 4095, 3) := by decide +kernel
theorem d_Mo_step_268 : decode prog_9_method_10_code 268 = .ok (.if_icmp .le 12, 3) := by decide +kernel
theorem d_Mo_step_271 : decode prog_9_method_10_code 271 = .ok (.sipush 8190, 3) := by decide +kernel
theorem d_Mo_step_274 : decode prog_9_method_10_code 274 = .ok (.iload 4, 2) := by decide +kernel
theorem d_Mo_step_276 : decode prog_9_method_10_code 276 = .ok (.isub, 1) := by decide +kernel
theorem d_Mo_step_277 : decode prog_9_method_10_code 277 = .ok (.goto 5, 3) := by decide +kernel
theorem d_Mo_step_280 : decode prog_9_method_10_code 280 = .ok (.iload 4, 2) := by decide +kernel
theorem d_Mo_step_282 : decode prog_9_method_10_code 282 = .ok (.iastore, 1) := by decide +kernel
theorem d_Mo_step_283 : decode prog_9_method_10_code 283 = .ok (.iinc 2 1, 3) := by decide +kernel
theorem d_Mo_step_286 : decode prog_9_method_10_code 286 = .ok (.goto (-187), 3) := by decide +kernel
theorem d_Mo_step_289 : decode prog_9_method_10_code 289 = .ok (.aload_n 0, 1) := by decide +kernel
theorem d_Mo_step_290 : decode prog_9_method_10_code 290 = .ok (.getfield 44, 3) := by decide +kernel
theorem d_Mo_step_293 : decode prog_9_method_10_code 293 = .ok (.iload_n 1, 1) := by decide +kernel
theorem d_Mo_step_294 : decode prog_9_method_10_code 294 = .ok (.iconst 0, 1) := by decide +kernel
theorem d_Mo_step_295 : decode prog_9_method_10_code 295 = .ok (.iastore, 1) := by decide +kernel
theorem d_Mo_step_296 : decode prog_9_method_10_code 296 = .ok (.iconst 0, 1) := by decide +kernel
theorem d_Mo_step_297 : decode prog_9_method_10_code 297 = .ok (.istore_n 2, 1) := by decide +kernel
theorem d_Mo_step_298 : decode prog_9_method_10_code 298 = .ok (.iload_n 2, 1) := by decide +kernel
theorem d_Mo_step_299 : decode prog_9_method_10_code 299 = .ok (.bipush 16, 2) := by decide +kernel
theorem d_Mo_step_301 : decode prog_9_method_10_code 301 = .ok (.if_icmp .ge 116, 3) := by decide +kernel
theorem d_Mo_step_304 : decode prog_9_method_10_code 304 = .ok (.iload_n 2, 1) := by decide +kernel
theorem d_Mo_step_305 : decode prog_9_method_10_code 305 = .ok (.iconst 1, 1) := by decide +kernel
theorem d_Mo_step_306 : decode prog_9_method_10_code 306 = .ok (.iadd, 1) := by decide +kernel
theorem d_Mo_step_307 : decode prog_9_method_10_code 307 = .ok (.istore_n 3, 1) := by decide +kernel
theorem d_Mo_step_308 : decode prog_9_method_10_code 308 = .ok (.iload_n 3, 1) := by decide +kernel
theorem d_Mo_step_309 : decode prog_9_method_10_code 309 = .ok (.bipush 16, 2) := by decide +kernel
theorem d_Mo_step_311 : decode prog_9_method_10_code 311 = .ok (.if_icmp .ge 100, 3) := by decide +kernel
theorem d_Mo_step_314 : decode prog_9_method_10_code 314 = .ok (.sipush 256, 3) := by decide +kernel
theorem d_Mo_step_317 : decode prog_9_method_10_code 317 = .ok (.iload_n 1, 1) := by decide +kernel
theorem d_Mo_step_318 : decode prog_9_method_10_code 318 = .ok (.imul, 1) := by decide +kernel
theorem d_Mo_step_319 : decode prog_9_method_10_code 319 = .ok (.bipush 16, 2) := by decide +kernel
theorem d_Mo_step_321 : decode prog_9_method_10_code 321 = .ok (.iload_n 2, 1) := by decide +kernel
theorem d_Mo_step_322 : decode prog_9_method_10_code 322 = .ok (.imul, 1) := by decide +kernel
theorem d_Mo_step_323 : decode prog_9_method_10_code 323 = .ok (.iadd, 1) := by decide +kernel
theorem d_Mo_step_324 : decode prog_9_method_10_code 324 = .ok (.iload_n 3, 1) := by decide +kernel
theorem d_Mo_step_325 : decode prog_9_method_10_code 325 = .ok (.iadd, 1) := by decide +kernel
theorem d_Mo_step_326 : decode prog_9_method_10_code 326 = .ok (.istore 4, 2) := by decide +kernel
theorem d_Mo_step_328 : decode prog_9_method_10_code 328 = .ok (.aload_n 0, 1) := by decide +kernel
theorem d_Mo_step_329 : decode prog_9_method_10_code 329 = .ok (.bipush 16, 2) := by decide +kernel
theorem d_Mo_step_331 : decode prog_9_method_10_code 331 = .ok (.iload_n 1, 1) := by decide +kernel
theorem d_Mo_step_332 : decode prog_9_method_10_code 332 = .ok (.imul, 1) := by decide +kernel
theorem d_Mo_step_333 : decode prog_9_method_10_code 333 = .ok (.iload_n 2, 1) := by decide +kernel
theorem d_Mo_step_334 : decode prog_9_method_10_code 334 = .ok (.iadd, 1) := by decide +kernel
theorem d_Mo_step_335 : decode prog_9_method_10_code 335 = .ok (.bipush 16, 2) := by decide +kernel
theorem d_Mo_step_337 : decode prog_9_method_10_code 337 = .ok (.iload_n 1, 1) := by decide +kernel
theorem d_Mo_step_338 : decode prog_9_method_10_code 338 = .ok (.imul, 1) := by decide +kernel
theorem d_Mo_step_339 : decode prog_9_method_10_code 339 = .ok (.iload_n 3, 1) := by decide +kernel
theorem d_Mo_step_340 : decode prog_9_method_10_code 340 = .ok (.iadd, 1) := by decide +kernel
theorem d_Mo_step_341 : decode prog_9_method_10_code 341 = .ok (.invokevirtual 83, 3) := by decide +kernel
theorem d_Mo_step_344 : decode prog_9_method_10_code 344 = .ok (.istore 5, 2) := by decide +kernel
theorem d_Mo_step_346 : decode prog_9_method_10_code 346 = .ok (.iload 5, 2) := by decide +kernel
theorem d_Mo_step_348 : decode prog_9_method_10_code 348 = .ok (.ifCond .eq 25, 3) := by decide +kernel
theorem d_Mo_step_351 : decode prog_9_method_10_code 351 = .ok (.aload_n 0, 1) := by decide +kernel
theorem d_Mo_step_352 : decode prog_9_method_10_code 352 = .ok (.iload_n 1, 1) := by decide +kernel
theorem d_Mo_step_353 : decode prog_9_method_10_code 353 = .ok (.aload_n 0, 1) := by decide +kernel
theorem d_Mo_step_354 : decode prog_9_method_10_code 354 = .ok (.getfield 41, 3) := by decide +kernel
theorem d_Mo_step_357 : decode prog_9_method_10_code 357 = .ok (.iload 4, 2) := by decide +kernel
theorem d_Mo_step_359 : decode prog_9_method_10_code 359 = .ok (.baload, 1) := by decide +kernel
theorem d_Mo_step_360 : decode prog_9_method_10_code 360 = .ok (.ifCond .eq 7, 3) := by decide +kernel
theorem d_Mo_step_363 : decode prog_9_method_10_code 363 = .ok (.iconst 1, 1) := by decide +kernel
theorem d_Mo_step_364 : decode prog_9_method_10_code 364 = .ok (.goto 4, 3) := by decide +kernel
theorem d_Mo_step_367 : decode prog_9_method_10_code 367 = .ok (.iconst 0, 1) := by decide +kernel
theorem d_Mo_step_368 : decode prog_9_method_10_code 368 = .ok (.iload_n 2, 1) := by decide +kernel
theorem d_Mo_step_369 : decode prog_9_method_10_code 369 = .ok (.iload_n 3, 1) := by decide +kernel
theorem d_Mo_step_370 : decode prog_9_method_10_code 370 = .ok (.invokevirtual 87, 3) := by decide +kernel
theorem d_Mo_step_373 : decode prog_9_method_10_code 373 = .ok (.iload 5, 2) := by decide +kernel
theorem d_Mo_step_375 : decode prog_9_method_10_code 375 = .ok (.ifCond .ne 21, 3) := by decide +kernel
theorem d_Mo_step_378 : decode prog_9_method_10_code 378 = .ok (.aload_n 0, 1) := by decide +kernel
theorem d_Mo_step_379 : decode prog_9_method_10_code 379 = .ok (.getfield 41, 3) := by decide +kernel
theorem d_Mo_step_382 : decode prog_9_method_10_code 382 = .ok (.iload 4, 2) := by decide +kernel
theorem d_Mo_step_384 : decode prog_9_method_10_code 384 = .ok (.baload, 1) := by decide +kernel
theorem d_Mo_step_385 : decode prog_9_method_10_code 385 = .ok (.ifCond .eq 11, 3) := by decide +kernel
theorem d_Mo_step_388 : decode prog_9_method_10_code 388 = .ok (.aload_n 0, 1) := by decide +kernel
theorem d_Mo_step_389 : decode prog_9_method_10_code 389 = .ok (.iload_n 1, 1) := by decide +kernel
theorem d_Mo_step_390 : decode prog_9_method_10_code 390 = .ok (.iconst 2, 1) := by decide +kernel
theorem d_Mo_step_391 : decode prog_9_method_10_code 391 = .ok (.iload_n 2, 1) := by decide +kernel
theorem d_Mo_step_392 : decode prog_9_method_10_code 392 = .ok (.iload_n 3, 1) := by decide +kernel
theorem d_Mo_step_393 : decode prog_9_method_10_code 393 = .ok (.invokevirtual 87, 3) := by decide +kernel
theorem d_Mo_step_396 : decode prog_9_method_10_code 396 = .ok (.aload_n 0, 1) := by decide +kernel
theorem d_Mo_step_397 : decode prog_9_method_10_code 397 = .ok (.getfield 41, 3) := by decide +kernel
theorem d_Mo_step_400 : decode prog_9_method_10_code 400 = .ok (.iload 4, 2) := by decide +kernel
theorem d_Mo_step_402 : decode prog_9_method_10_code 402 = .ok (.iload 5, 2) := by decide +kernel
theorem d_Mo_step_404 : decode prog_9_method_10_code 404 = .ok (.bastore, 1) := by decide +kernel
theorem d_Mo_step_405 : decode prog_9_method_10_code 405 = .ok (.iinc 3 1, 3) := by decide +kernel
theorem d_Mo_step_408 : decode prog_9_method_10_code 408 = .ok (.goto (-100), 3) := by decide +kernel
theorem d_Mo_step_411 : decode prog_9_method_10_code 411 = .ok (.iinc 2 1, 3) := by decide +kernel
theorem d_Mo_step_414 : decode prog_9_method_10_code 414 = .ok (.goto (-116), 3) := by decide +kernel
theorem d_Mo_step_417 : decode prog_9_method_10_code 417 = .ok (.return_, 1) := by decide +kernel
