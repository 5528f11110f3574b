/-! decode rows (by program: gen_dec.py) -/
theorem d_Mo_take_0 : decode prog_9_method_35_code 0 = .ok (.aload_n 0, 1) := by decide +kernel
theorem d_Mo_take_1 : decode prog_9_method_35_code 1 = .ok (.getfield 7, 3) := by decide +kernel
theorem d_Mo_take_4 : decode prog_9_method_35_code 4 = .ok (.iconst 0, 1) := by decide +kernel
theorem d_Mo_take_5 : decode prog_9_method_35_code 5 = .ok (.aload_n 0, 1) := by decide +kernel
theorem d_Mo_take_6 : decode prog_9_method_35_code 6 = .ok (.getfield 7, 3) := by decide +kernel
theorem d_Mo_take_9 : decode prog_9_method_35_code 9 = .ok (.iconst 1, 1) := by decide +kernel
theorem d_Mo_take_10 : decode prog_9_method_35_code 10 = .ok (.iaload, 1) := by decide +kernel
theorem d_Mo_take_11 : decode prog_9_method_35_code 11 = .ok (.iastore, 1) := by decide +kernel
theorem d_Mo_take_12 : decode prog_9_method_35_code 12 = .ok (.iconst 0, 1) := by decide +kernel
theorem d_Mo_take_13 : decode prog_9_method_35_code 13 = .ok (.istore_n 1, 1) := by decide +kernel
theorem d_Mo_take_14 : decode prog_9_method_35_code 14 = .ok (.iload_n 1, 1) := by decide +kernel
theorem d_Mo_take_15 : decode prog_9_method_35_code 15 = .ok (.bipush 16, 2) := by decide +kernel
theorem d_Mo_take_17 : decode prog_9_method_35_code 17 = .ok (.if_icmp .ge 144, 3) := by decide +kernel
theorem d_Mo_take_20 : decode prog_9_method_35_code 20 = .ok (.aload_n 0, 1) := by decide +kernel
theorem d_Mo_take_21 : decode prog_9_method_35_code 21 = .ok (.getfield 13, 3) := by decide +kernel
theorem d_Mo_take_24 : decode prog_9_method_35_code 24 = .ok (.iload_n 1, 1) := by decide +kernel
theorem d_Mo_take_25 : decode prog_9_method_35_code 25 = .ok (.aload_n 0, 1) := by decide +kernel
theorem d_Mo_take_26 : decode prog_9_method_35_code 26 = .ok (.getfield 13, 3) := by decide +kernel
theorem d_Mo_take_29 : decode prog_9_method_35_code 29 = .ok (.bipush 16, 2) := by decide +kernel
theorem d_Mo_take_31 : decode prog_9_method_35_code 31 = .ok (.iload_n 1, 1) := by decide +kernel
theorem d_Mo_take_32 : decode prog_9_method_35_code 32 = .ok (.iadd, 1) := by decide +kernel
theorem d_Mo_take_33 : decode prog_9_method_35_code 33 = .ok (.iaload, 1) := by decide +kernel
theorem d_Mo_take_34 : decode prog_9_method_35_code 34 = .ok (.iastore, 1) := by decide +kernel
theorem d_Mo_take_35 : decode prog_9_method_35_code 35 = .ok (.aload_n 0, 1) := by decide +kernel
theorem d_Mo_take_36 : decode prog_9_method_35_code 36 = .ok (.getfield 16, 3) := by decide +kernel
theorem d_Mo_take_39 : decode prog_9_method_35_code 39 = .ok (.iload_n 1, 1) := by decide +kernel
theorem d_Mo_take_40 : decode prog_9_method_35_code 40 = .ok (.aload_n 0, 1) := by decide +kernel
theorem d_Mo_take_41 : decode prog_9_method_35_code 41 = .ok (.getfield 16, 3) := by decide +kernel
theorem d_Mo_take_44 : decode prog_9_method_35_code 44 = .ok (.bipush 16, 2) := by decide +kernel
theorem d_Mo_take_46 : decode prog_9_method_35_code 46 = .ok (.iload_n 1, 1) := by decide +kernel
theorem d_Mo_take_47 : decode prog_9_method_35_code 47 = .ok (.iadd, 1) := by decide +kernel
theorem d_Mo_take_48 : decode prog_9_method_35_code 48 = .ok (.baload, 1) := by decide +kernel
theorem d_Mo_take_49 : decode prog_9_method_35_code 49 = .ok (.bastore, 1) := by decide +kernel
theorem d_Mo_take_50 : decode prog_9_method_35_code 50 = .ok (.aload_n 0, 1) := by decide +kernel
theorem d_Mo_take_51 : decode prog_9_method_35_code 51 = .ok (.getfield 20, 3) := by decide +kernel
theorem d_Mo_take_54 : decode prog_9_method_35_code 54 = .ok (.iload_n 1, 1) := by decide +kernel
theorem d_Mo_take_55 : decode prog_9_method_35_code 55 = .ok (.aload_n 0, 1) := by decide +kernel
theorem d_Mo_take_56 : decode prog_9_method_35_code 56 = .ok (.getfield 20, 3) := by decide +kernel
theorem d_Mo_take_59 : decode prog_9_method_35_code 59 = .ok (.bipush 16, 2) := by decide +kernel
theorem d_Mo_take_61 : decode prog_9_method_35_code 61 = .ok (.iload_n 1, 1) := by decide +kernel
theorem d_Mo_take_62 : decode prog_9_method_35_code 62 = .ok (.iadd, 1) := by decide +kernel
theorem d_Mo_take_63 : decode prog_9_method_35_code 63 = .ok (.iaload, 1) := by decide +kernel
theorem d_Mo_take_64 : decode prog_9_method_35_code 64 = .ok (.iastore, 1) := by decide +kernel
theorem d_Mo_take_65 : decode prog_9_method_35_code 65 = .ok (.aload_n 0, 1) := by decide +kernel
theorem d_Mo_take_66 : decode prog_9_method_35_code 66 = .ok (.getfield 23, 3) := by decide +kernel
theorem d_Mo_take_69 : decode prog_9_method_35_code 69 = .ok (.iload_n 1, 1) := by decide +kernel
theorem d_Mo_take_70 : decode prog_9_method_35_code 70 = .ok (.aload_n 0, 1) := by decide +kernel
theorem d_Mo_take_71 : decode prog_9_method_35_code 71 = .ok (.getfield 23, 3) := by decide +kernel
theorem d_Mo_take_74 : decode prog_9_method_35_code 74 = .ok (.bipush 16, 2) := by decide +kernel
theorem d_Mo_take_76 : decode prog_9_method_35_code 76 = .ok (.iload_n 1, 1) := by decide +kernel
theorem d_Mo_take_77 : decode prog_9_method_35_code 77 = .ok (.iadd, 1) := by decide +kernel
theorem d_Mo_take_78 : decode prog_9_method_35_code 78 = .ok (.iaload, 1) := by decide +kernel
theorem d_Mo_take_79 : decode prog_9_method_35_code 79 = .ok (.iastore, 1) := by decide +kernel
theorem d_Mo_take_80 : decode prog_9_method_35_code 80 = .ok (.aload_n 0, 1) := by decide +kernel
theorem d_Mo_take_81 : decode prog_9_method_35_code 81 = .ok (.getfield 26, 3) := by decide +kernel
theorem d_Mo_take_84 : decode prog_9_method_35_code 84 = .ok (.iload_n 1, 1) := by decide +kernel
theorem d_Mo_take_85 : decode prog_9_method_35_code 85 = .ok (.aload_n 0, 1) := by decide +kernel
theorem d_Mo_take_86 : decode prog_9_method_35_code 86 = .ok (.getfield 26, 3) := by decide +kernel
theorem d_Mo_take_89 : decode prog_9_method_35_code 89 = .ok (.bipush 16, 2) := by decide +kernel
theorem d_Mo_take_91 : decode prog_9_method_35_code 91 = .ok (.iload_n 1, 1) := by decide +kernel
theorem d_Mo_take_92 : decode prog_9_method_35_code 92 = .ok (.iadd, 1) := by decide +kernel
theorem d_Mo_take_93 : decode prog_9_method_35_code 93 = .ok (.iaload, 1) := by decide +kernel
theorem d_Mo_take_94 : decode prog_9_method_35_code 94 = .ok (.iastore, 1) := by decide +kernel
theorem d_Mo_take_95 : decode prog_9_method_35_code 95 = .ok (.aload_n 0, 1) := by decide +kernel
theorem d_Mo_take_96 : decode prog_9_method_35_code 96 = .ok (.getfield 29, 3) := by decide +kernel
theorem d_Mo_take_99 : decode prog_9_method_35_code 99 = .ok (.iload_n 1, 1) := by decide +kernel
theorem d_Mo_take_100 : decode prog_9_method_35_code 100 = .ok (.aload_n 0, 1) := by decide +kernel
theorem d_Mo_take_101 : decode prog_9_method_35_code 101 = .ok (.getfield 29, 3) := by decide +kernel
theorem d_Mo_take_104 : decode prog_9_method_35_code 104 = .ok (.bipush 16, 2) := by decide +kernel
theorem d_Mo_take_106 : decode prog_9_method_35_code 106 = .ok (.iload_n 1, 1) := by decide +kernel
theorem d_Mo_take_107 : decode prog_9_method_35_code 107 = .ok (.iadd, 1) := by decide +kernel
theorem d_Mo_take_108 : decode prog_9_method_35_code 108 = .ok (.iaload, 1) := by decide +kernel
theorem d_Mo_take_109 : decode prog_9_method_35_code 109 = .ok (.iastore, 1) := by decide +kernel
theorem d_Mo_take_110 : decode prog_9_method_35_code 110 = .ok (.aload_n 0, 1) := by decide +kernel
theorem d_Mo_take_111 : decode prog_9_method_35_code 111 = .ok (.getfield 32, 3) := by decide +kernel
theorem d_Mo_take_114 : decode prog_9_method_35_code 114 = .ok (.iload_n 1, 1) := by decide +kernel
theorem d_Mo_take_115 : decode prog_9_method_35_code 115 = .ok (.aload_n 0, 1) := by decide +kernel
theorem d_Mo_take_116 : decode prog_9_method_35_code 116 = .ok (.getfield 32, 3) := by decide +kernel
theorem d_Mo_take_119 : decode prog_9_method_35_code 119 = .ok (.bipush 16, 2) := by decide +kernel
theorem d_Mo_take_121 : decode prog_9_method_35_code 121 = .ok (.iload_n 1, 1) := by decide +kernel
theorem d_Mo_take_122 : decode prog_9_method_35_code 122 = .ok (.iadd, 1) := by decide +kernel
theorem d_Mo_take_123 : decode prog_9_method_35_code 123 = .ok (.iaload, 1) := by decide +kernel
theorem d_Mo_take_124 : decode prog_9_method_35_code 124 = .ok (.iastore, 1) := by decide +kernel
theorem d_Mo_take_125 : decode prog_9_method_35_code 125 = .ok (.aload_n 0, 1) := by decide +kernel
theorem d_Mo_take_126 : decode prog_9_method_35_code 126 = .ok (.getfield 35, 3) := by decide +kernel
theorem d_Mo_take_129 : decode prog_9_method_35_code 129 = .ok (.iload_n 1, 1) := by decide +kernel
theorem d_Mo_take_130 : decode prog_9_method_35_code 130 = .ok (.aload_n 0, 1) := by decide +kernel
theorem d_Mo_take_131 : decode prog_9_method_35_code 131 = .ok (.getfield 35, 3) := by decide +kernel
theorem d_Mo_take_134 : decode prog_9_method_35_code 134 = .ok (.bipush 16, 2) := by decide +kernel
theorem d_Mo_take_136 : decode prog_9_method_35_code 136 = .ok (.iload_n 1, 1) := by decide +kernel
theorem d_Mo_take_137 : decode prog_9_method_35_code 137 = .ok (.iadd, 1) := by decide +kernel
theorem d_Mo_take_138 : decode prog_9_method_35_code 138 = .ok (.iaload, 1) := by decide +kernel
theorem d_Mo_take_139 : decode prog_9_method_35_code 139 = .ok (.iastore, 1) := by decide +kernel
theorem d_Mo_take_140 : decode prog_9_method_35_code 140 = .ok (.aload_n 0, 1) := by decide +kernel
theorem d_Mo_take_141 : decode prog_9_method_35_code 141 = .ok (.getfield 38, 3) := by decide +kernel
theorem d_Mo_take_144 : decode prog_9_method_35_code 144 = .ok (.iload_n 1, 1) := by decide +kernel
theorem d_Mo_take_145 : decode prog_9_method_35_code 145 = .ok (.aload_n 0, 1) := by decide +kernel
theorem d_Mo_take_146 : decode prog_9_method_35_code 146 = .ok (.getfield 38, 3) := by decide +kernel
theorem d_Mo_take_149 : decode prog_9_method_35_code 149 = .ok (.bipush 16, 2) := by decide +kernel
theorem d_Mo_take_151 : decode prog_9_method_35_code 151 = .ok (.iload_n 1, 1) := by decide +kernel
theorem d_Mo_take_152 : decode prog_9_method_35_code 152 = .ok (.iadd, 1) := by decide +kernel
theorem d_Mo_take_153 : decode prog_9_method_35_code 153 = .ok (.iaload, 1) := by decide +kernel
theorem d_Mo_take_154 : decode prog_9_method_35_code 154 = .ok (.iastore, 1) := by decide +kernel
theorem d_Mo_take_155 : decode prog_9_method_35_code 155 = .ok (.iinc 1 1, 3) := by decide +kernel
theorem d_Mo_take_158 : decode prog_9_method_35_code 158 = .ok (.goto (-144), 3) := by decide +kernel
theorem d_Mo_take_161 : decode prog_9_method_35_code 161 = .ok (.iconst 0, 1) := by decide +kernel
theorem d_Mo_take_162 : decode prog_9_method_35_code 162 = .ok (.istore_n 1, 1) := by decide +kernel
theorem d_Mo_take_163 : decode prog_9_method_35_code 163 = .ok (.iload_n 1, 1) := by decide +kernel
theorem d_Mo_take_164 : decode prog_9_method_35_code 164 = .ok (.sipush 256, 3) := by decide +kernel
theorem d_Mo_take_167 : decode prog_9_method_35_code 167 = .ok (.if_icmp .ge 25, 3) := by decide +kernel
theorem d_Mo_take_170 : decode prog_9_method_35_code 170 = .ok (.aload_n 0, 1) := by decide +kernel
theorem d_Mo_take_171 : decode prog_9_method_35_code 171 = .ok (.getfield 41, 3) := by decide +kernel
theorem d_Mo_take_174 : decode prog_9_method_35_code 174 = .ok (.iload_n 1, 1) := by decide +kernel
theorem d_Mo_take_175 : decode prog_9_method_35_code 175 = .ok (.aload_n 0, 1) := by decide +kernel
theorem d_Mo_take_176 : decode prog_9_method_35_code 176 = .ok (.getfield 41, 3) := by decide +kernel
theorem d_Mo_take_179 : decode prog_9_method_35_code 179 = .ok (.sipush 256, 3) := by decide +kernel
theorem d_Mo_take_182 : decode prog_9_method_35_code 182 = .ok (.iload_n 1, 1) := by decide +kernel
theorem d_Mo_take_183 : decode prog_9_method_35_code 183 = .ok (.iadd, 1) := by decide +kernel
theorem d_Mo_take_184 : decode prog_9_method_35_code 184 = .ok (.baload, 1) := by decide +kernel
theorem d_Mo_take_185 : decode prog_9_method_35_code 185 = .ok (.bastore, 1) := by decide +kernel
theorem d_Mo_take_186 : decode prog_9_method_35_code 186 = .ok (.iinc 1 1, 3) := by decide +kernel
theorem d_Mo_take_189 : decode prog_9_method_35_code 189 = .ok (.goto (-26), 3) := by decide +kernel
theorem d_Mo_take_192 : decode prog_9_method_35_code 192 = .ok (.return_, 1) := by decide +kernel
theorem d_Mo_load_0 : decode prog_9_method_36_code 0 = .ok (.aload_n 0, 1) := by decide +kernel
theorem d_Mo_load_1 : decode prog_9_method_36_code 1 = .ok (.aload_n 0, 1) := by decide +kernel
theorem d_Mo_load_2 : decode prog_9_method_36_code 2 = .ok (.invokevirtual 156, 3) := by decide +kernel
theorem d_Mo_load_5 : decode prog_9_method_36_code 5 = .ok (.ifCond .eq 7, 3) := by decide +kernel
theorem d_Mo_load_8 : decode prog_9_method_36_code 8 = .ok (.iconst 0, 1) := by decide +kernel
theorem d_Mo_load_9 : decode prog_9_method_36_code 9 = .ok (.goto 4, 3) := by decide +kernel
theorem d_Mo_load_12 : decode prog_9_method_36_code 12 = .ok (.iconst 1, 1) := by decide +kernel
theorem d_Mo_load_13 : decode prog_9_method_36_code 13 = .ok (.putfield 69, 3) := by decide +kernel
theorem d_Mo_load_16 : decode prog_9_method_36_code 16 = .ok (.aload_n 0, 1) := by decide +kernel
theorem d_Mo_load_17 : decode prog_9_method_36_code 17 = .ok (.getfield 69, 3) := by decide +kernel
theorem d_Mo_load_20 : decode prog_9_method_36_code 20 = .ok (.ifCond .le 4, 3) := by decide +kernel
theorem d_Mo_load_23 : decode prog_9_method_36_code 23 = .ok (.return_, 1) := by decide +kernel
theorem d_Mo_load_24 : decode prog_9_method_36_code 24 = .ok (.aload_n 0, 1) := by decide +kernel
theorem d_Mo_load_25 : decode prog_9_method_36_code 25 = .ok (.invokevirtual 160, 3) := by decide +kernel
theorem d_Mo_load_28 : decode prog_9_method_36_code 28 = .ok (.aload_n 0, 1) := by decide +kernel
theorem d_Mo_load_29 : decode prog_9_method_36_code 29 = .ok (.iconst 0, 1) := by decide +kernel
theorem d_Mo_load_30 : decode prog_9_method_36_code 30 = .ok (.putfield 110, 3) := by decide +kernel
theorem d_Mo_load_33 : decode prog_9_method_36_code 33 = .ok (.aload_n 0, 1) := by decide +kernel
theorem d_Mo_load_34 : decode prog_9_method_36_code 34 = .ok (.getfield 44, 3) := by decide +kernel
theorem d_Mo_load_37 : decode prog_9_method_36_code 37 = .ok (.iconst 0, 1) := by decide +kernel
theorem d_Mo_load_38 : decode prog_9_method_36_code 38 = .ok (.iconst 0, 1) := by decide +kernel
theorem d_Mo_load_39 : decode prog_9_method_36_code 39 = .ok (.iastore, 1) := by decide +kernel
theorem d_Mo_load_40 : decode prog_9_method_36_code 40 = .ok (.return_, 1) := by decide +kernel
theorem d_Mo_logged_0 : decode prog_9_method_37_code 0 = .ok (.iconst 0, 1) := by decide +kernel
theorem d_Mo_logged_1 : decode prog_9_method_37_code 1 = .ok (.istore_n 3, 1) := by decide +kernel
theorem d_Mo_logged_2 : decode prog_9_method_37_code 2 = .ok (.iconst 0, 1) := by decide +kernel
theorem d_Mo_logged_3 : decode prog_9_method_37_code 3 = .ok (.istore 4, 2) := by decide +kernel
theorem d_Mo_logged_5 : decode prog_9_method_37_code 5 = .ok (.iload 4, 2) := by decide +kernel
theorem d_Mo_logged_7 : decode prog_9_method_37_code 7 = .ok (.iload_n 2, 1) := by decide +kernel
theorem d_Mo_logged_8 : decode prog_9_method_37_code 8 = .ok (.if_icmp .ge 24, 3) := by decide +kernel
theorem d_Mo_logged_11 : decode prog_9_method_37_code 11 = .ok (.iload_n 3, 1) := by decide +kernel
theorem d_Mo_logged_12 : decode prog_9_method_37_code 12 = .ok (.bipush 8, 2) := by decide +kernel
theorem d_Mo_logged_14 : decode prog_9_method_37_code 14 = .ok (.ishl, 1) := by decide +kernel
theorem d_Mo_logged_15 : decode prog_9_method_37_code 15 = .ok (.aload_n 0, 1) := by decide +kernel
theorem d_Mo_logged_16 : decode prog_9_method_37_code 16 = .ok (.getfield 59, 3) := by decide +kernel
theorem d_Mo_logged_19 : decode prog_9_method_37_code 19 = .ok (.iload_n 1, 1) := by decide +kernel
theorem d_Mo_logged_20 : decode prog_9_method_37_code 20 = .ok (.iload 4, 2) := by decide +kernel
theorem d_Mo_logged_22 : decode prog_9_method_37_code 22 = .ok (.iadd, 1) := by decide +kernel
theorem d_Mo_logged_23 : decode prog_9_method_37_code 23 = .ok (.iaload, 1) := by decide +kernel
theorem d_Mo_logged_24 : decode prog_9_method_37_code 24 = .ok (.ior, 1) := by decide +kernel
theorem d_Mo_logged_25 : decode prog_9_method_37_code 25 = .ok (.istore_n 3, 1) := by decide +kernel
theorem d_Mo_logged_26 : decode prog_9_method_37_code 26 = .ok (.iinc 4 1, 3) := by decide +kernel
theorem d_Mo_logged_29 : decode prog_9_method_37_code 29 = .ok (.goto (-24), 3) := by decide +kernel
theorem d_Mo_logged_32 : decode prog_9_method_37_code 32 = .ok (.iload_n 3, 1) := by decide +kernel
theorem d_Mo_logged_33 : decode prog_9_method_37_code 33 = .ok (.ireturn, 1) := by decide +kernel
theorem d_Mo_entry_0 : decode prog_9_method_38_code 0 = .ok (.aload_n 0, 1) := by decide +kernel
theorem d_Mo_entry_1 : decode prog_9_method_38_code 1 = .ok (.getfield 59, 3) := by decide +kernel
theorem d_Mo_entry_4 : decode prog_9_method_38_code 4 = .ok (.iload_n 1, 1) := by decide +kernel
theorem d_Mo_entry_5 : decode prog_9_method_38_code 5 = .ok (.iaload, 1) := by decide +kernel
theorem d_Mo_entry_6 : decode prog_9_method_38_code 6 = .ok (.istore_n 2, 1) := by decide +kernel
theorem d_Mo_entry_7 : decode prog_9_method_38_code 7 = .ok (.iload_n 2, 1) := by decide +kernel
theorem d_Mo_entry_8 : decode prog_9_method_38_code 8 = .ok (.iconst 1, 1) := by decide +kernel
theorem d_Mo_entry_9 : decode prog_9_method_38_code 9 = .ok (.if_icmp .ne 7, 3) := by decide +kernel
theorem d_Mo_entry_12 : decode prog_9_method_38_code 12 = .ok (.iconst 5, 1) := by decide +kernel
theorem d_Mo_entry_13 : decode prog_9_method_38_code 13 = .ok (.goto 38, 3) := by decide +kernel
theorem d_Mo_entry_16 : decode prog_9_method_38_code 16 = .ok (.iload_n 2, 1) := by decide +kernel
theorem d_Mo_entry_17 : decode prog_9_method_38_code 17 = .ok (.iconst 2, 1) := by decide +kernel
theorem d_Mo_entry_18 : decode prog_9_method_38_code 18 = .ok (.if_icmp .ne 7, 3) := by decide +kernel
theorem d_Mo_entry_21 : decode prog_9_method_38_code 21 = .ok (.iconst 4, 1) := by decide +kernel
theorem d_Mo_entry_22 : decode prog_9_method_38_code 22 = .ok (.goto 29, 3) := by decide +kernel
theorem d_Mo_entry_25 : decode prog_9_method_38_code 25 = .ok (.iload_n 2, 1) := by decide +kernel
theorem d_Mo_entry_26 : decode prog_9_method_38_code 26 = .ok (.bipush 6, 2) := by decide +kernel
theorem d_Mo_entry_28 : decode prog_9_method_38_code 28 = .ok (.if_icmp .ne 7, 3) := by decide +kernel
theorem d_Mo_entry_31 : decode prog_9_method_38_code 31 = .ok (.iconst 1, 1) := by decide +kernel
theorem d_Mo_entry_32 : decode prog_9_method_38_code 32 = .ok (.goto 19, 3) := by decide +kernel
theorem d_Mo_entry_35 : decode prog_9_method_38_code 35 = .ok (.iload_n 2, 1) := by decide +kernel
theorem d_Mo_entry_36 : decode prog_9_method_38_code 36 = .ok (.iconst 3, 1) := by decide +kernel
theorem d_Mo_entry_37 : decode prog_9_method_38_code 37 = .ok (.if_icmp .lt 13, 3) := by decide +kernel
theorem d_Mo_entry_40 : decode prog_9_method_38_code 40 = .ok (.iload_n 2, 1) := by decide +kernel
theorem d_Mo_entry_41 : decode prog_9_method_38_code 41 = .ok (.iconst 5, 1) := by decide +kernel
theorem d_Mo_entry_42 : decode prog_9_method_38_code 42 = .ok (.if_icmp .gt 8, 3) := by decide +kernel
theorem d_Mo_entry_45 : decode prog_9_method_38_code 45 = .ok (.bipush 6, 2) := by decide +kernel
theorem d_Mo_entry_47 : decode prog_9_method_38_code 47 = .ok (.goto 4, 3) := by decide +kernel
theorem d_Mo_entry_50 : decode prog_9_method_38_code 50 = .ok (.iconst 0, 1) := by decide +kernel
theorem d_Mo_entry_51 : decode prog_9_method_38_code 51 = .ok (.istore_n 3, 1) := by decide +kernel
theorem d_Mo_entry_52 : decode prog_9_method_38_code 52 = .ok (.iload_n 3, 1) := by decide +kernel
theorem d_Mo_entry_53 : decode prog_9_method_38_code 53 = .ok (.ifCond .eq 13, 3) := by decide +kernel
theorem d_Mo_entry_56 : decode prog_9_method_38_code 56 = .ok (.iload_n 1, 1) := by decide +kernel
theorem d_Mo_entry_57 : decode prog_9_method_38_code 57 = .ok (.iload_n 3, 1) := by decide +kernel
theorem d_Mo_entry_58 : decode prog_9_method_38_code 58 = .ok (.iadd, 1) := by decide +kernel
theorem d_Mo_entry_59 : decode prog_9_method_38_code 59 = .ok (.aload_n 0, 1) := by decide +kernel
theorem d_Mo_entry_60 : decode prog_9_method_38_code 60 = .ok (.getfield 110, 3) := by decide +kernel
theorem d_Mo_entry_63 : decode prog_9_method_38_code 63 = .ok (.if_icmp .le 5, 3) := by decide +kernel
theorem d_Mo_entry_66 : decode prog_9_method_38_code 66 = .ok (.iconst 0, 1) := by decide +kernel
theorem d_Mo_entry_67 : decode prog_9_method_38_code 67 = .ok (.ireturn, 1) := by decide +kernel
theorem d_Mo_entry_68 : decode prog_9_method_38_code 68 = .ok (.iload_n 2, 1) := by decide +kernel
theorem d_Mo_entry_69 : decode prog_9_method_38_code 69 = .ok (.iconst 1, 1) := by decide +kernel
theorem d_Mo_entry_70 : decode prog_9_method_38_code 70 = .ok (.if_icmp .ne 14, 3) := by decide +kernel
theorem d_Mo_entry_73 : decode prog_9_method_38_code 73 = .ok (.aload_n 0, 1) := by decide +kernel
theorem d_Mo_entry_74 : decode prog_9_method_38_code 74 = .ok (.iload_n 1, 1) := by decide +kernel
theorem d_Mo_entry_75 : decode prog_9_method_38_code 75 = .ok (.iconst 1, 1) := by decide +kernel
theorem d_Mo_entry_76 : decode prog_9_method_38_code 76 = .ok (.iadd, 1) := by decide +kernel
theorem d_Mo_entry_77 : decode prog_9_method_38_code 77 = .ok (.iconst 2, 1) := by decide +kernel
theorem d_Mo_entry_78 : decode prog_9_method_38_code 78 = .ok (.invokevirtual 163, 3) := by decide +kernel
theorem d_Mo_entry_81 : decode prog_9_method_38_code 81 = .ok (.goto 21, 3) := by decide +kernel
theorem d_Mo_entry_84 : decode prog_9_method_38_code 84 = .ok (.iload_n 2, 1) := by decide +kernel
theorem d_Mo_entry_85 : decode prog_9_method_38_code 85 = .ok (.bipush 6, 2) := by decide +kernel
theorem d_Mo_entry_87 : decode prog_9_method_38_code 87 = .ok (.if_icmp .ne 7, 3) := by decide +kernel
theorem d_Mo_entry_90 : decode prog_9_method_38_code 90 = .ok (.iconst 0, 1) := by decide +kernel
theorem d_Mo_entry_91 : decode prog_9_method_38_code 91 = .ok (.goto 11, 3) := by decide +kernel
theorem d_Mo_entry_94 : decode prog_9_method_38_code 94 = .ok (.aload_n 0, 1) := by decide +kernel
theorem d_Mo_entry_95 : decode prog_9_method_38_code 95 = .ok (.iload_n 1, 1) := by decide +kernel
theorem d_Mo_entry_96 : decode prog_9_method_38_code 96 = .ok (.iconst 1, 1) := by decide +kernel
theorem d_Mo_entry_97 : decode prog_9_method_38_code 97 = .ok (.iadd, 1) := by decide +kernel
theorem d_Mo_entry_98 : decode prog_9_method_38_code 98 = .ok (.iconst 3, 1) := by decide +kernel
theorem d_Mo_entry_99 : decode prog_9_method_38_code 99 = .ok (.invokevirtual 163, 3) := by decide +kernel
theorem d_Mo_entry_102 : decode prog_9_method_38_code 102 = .ok (.istore 4, 2) := by decide +kernel
theorem d_Mo_entry_104 : decode prog_9_method_38_code 104 = .ok (.iload_n 2, 1) := by decide +kernel
theorem d_Mo_entry_105 : decode prog_9_method_38_code 105 = .ok (.iconst 1, 1) := by decide +kernel
theorem d_Mo_entry_106 : decode prog_9_method_38_code 106 = .ok (.if_icmp .ne 14, 3) := by decide +kernel
theorem d_Mo_entry_109 : decode prog_9_method_38_code 109 = .ok (.aload_n 0, 1) := by decide +kernel
theorem d_Mo_entry_110 : decode prog_9_method_38_code 110 = .ok (.iload_n 1, 1) := by decide +kernel
theorem d_Mo_entry_111 : decode prog_9_method_38_code 111 = .ok (.iconst 3, 1) := by decide +kernel
theorem d_Mo_entry_112 : decode prog_9_method_38_code 112 = .ok (.iadd, 1) := by decide +kernel
theorem d_Mo_entry_113 : decode prog_9_method_38_code 113 = .ok (.iconst 2, 1) := by decide +kernel
theorem d_Mo_entry_114 : decode prog_9_method_38_code 114 = .ok (.invokevirtual 163, 3) := by decide +kernel
theorem d_Mo_entry_117 : decode prog_9_method_38_code 117 = .ok (.goto 56, 3) := by decide +kernel
theorem d_Mo_entry_120 : decode prog_9_method_38_code 120 = .ok (.iload_n 2, 1) := by decide +kernel
theorem d_Mo_entry_121 : decode prog_9_method_38_code 121 = .ok (.iconst 3, 1) := by decide +kernel
theorem d_Mo_entry_122 : decode prog_9_method_38_code 122 = .ok (.if_icmp .ne 18, 3) := by decide +kernel
theorem d_Mo_entry_125 : decode prog_9_method_38_code 125 = .ok (.aload_n 0, 1) := by decide +kernel
theorem d_Mo_entry_126 : decode prog_9_method_38_code 126 = .ok (.getfield 59, 3) := by decide +kernel
theorem d_Mo_entry_129 : decode prog_9_method_38_code 129 = .ok (.iload_n 1, 1) := by decide +kernel
theorem d_Mo_entry_130 : decode prog_9_method_38_code 130 = .ok (.iconst 4, 1) := by decide +kernel
theorem d_Mo_entry_131 : decode prog_9_method_38_code 131 = .ok (.iadd, 1) := by decide +kernel
theorem d_Mo_entry_132 : decode prog_9_method_38_code 132 = .ok (.iaload, 1) := by decide +kernel
theorem d_Mo_entry_133 : decode prog_9_method_38_code 133 = .ok (.sipush 128, 3) := by decide +kernel
theorem d_Mo_entry_136 : decode prog_9_method_38_code 136 = .ok (.isub, 1) := by decide +kernel
theorem d_Mo_entry_137 : decode prog_9_method_38_code 137 = .ok (.goto 36, 3) := by decide +kernel
theorem d_Mo_entry_140 : decode prog_9_method_38_code 140 = .ok (.iload_n 2, 1) := by decide +kernel
theorem d_Mo_entry_141 : decode prog_9_method_38_code 141 = .ok (.iconst 4, 1) := by decide +kernel
theorem d_Mo_entry_142 : decode prog_9_method_38_code 142 = .ok (.if_icmp .ne 14, 3) := by decide +kernel
theorem d_Mo_entry_145 : decode prog_9_method_38_code 145 = .ok (.aload_n 0, 1) := by decide +kernel
theorem d_Mo_entry_146 : decode prog_9_method_38_code 146 = .ok (.getfield 59, 3) := by decide +kernel
theorem d_Mo_entry_149 : decode prog_9_method_38_code 149 = .ok (.iload_n 1, 1) := by decide +kernel
theorem d_Mo_entry_150 : decode prog_9_method_38_code 150 = .ok (.iconst 4, 1) := by decide +kernel
theorem d_Mo_entry_151 : decode prog_9_method_38_code 151 = .ok (.iadd, 1) := by decide +kernel
theorem d_Mo_entry_152 : decode prog_9_method_38_code 152 = .ok (.iaload, 1) := by decide +kernel
theorem d_Mo_entry_153 : decode prog_9_method_38_code 153 = .ok (.goto 20, 3) := by decide +kernel
theorem d_Mo_entry_156 : decode prog_9_method_38_code 156 = .ok (.iload_n 2, 1) := by decide +kernel
theorem d_Mo_entry_157 : decode prog_9_method_38_code 157 = .ok (.iconst 5, 1) := by decide +kernel
theorem d_Mo_entry_158 : decode prog_9_method_38_code 158 = .ok (.if_icmp .ne 14, 3) := by decide +kernel
theorem d_Mo_entry_161 : decode prog_9_method_38_code 161 = .ok (.aload_n 0, 1) := by decide +kernel
theorem d_Mo_entry_162 : decode prog_9_method_38_code 162 = .ok (.iload_n 1, 1) := by decide +kernel
theorem d_Mo_entry_163 : decode prog_9_method_38_code 163 = .ok (.iconst 4, 1) := by decide +kernel
theorem d_Mo_entry_164 : decode prog_9_method_38_code 164 = .ok (.iadd, 1) := by decide +kernel
theorem d_Mo_entry_165 : decode prog_9_method_38_code 165 = .ok (.iconst 2, 1) := by decide +kernel
theorem d_Mo_entry_166 : decode prog_9_method_38_code 166 = .ok (.invokevirtual 163, 3) := by decide +kernel
theorem d_Mo_entry_169 : decode prog_9_method_38_code 169 = .ok (.goto 4, 3) := by decide +kernel
theorem d_Mo_entry_172 : decode prog_9_method_38_code 172 = .ok (.iconst 0, 1) := by decide +kernel
theorem d_Mo_entry_173 : decode prog_9_method_38_code 173 = .ok (.istore 5, 2) := by decide +kernel
theorem d_Mo_entry_175 : decode prog_9_method_38_code 175 = .ok (.iload_n 2, 1) := by decide +kernel
theorem d_Mo_entry_176 : decode prog_9_method_38_code 176 = .ok (.iconst 3, 1) := by decide +kernel
theorem d_Mo_entry_177 : decode prog_9_method_38_code 177 = .ok (.if_icmp .ne 18, 3) := by decide +kernel
theorem d_Mo_entry_180 : decode prog_9_method_38_code 180 = .ok (.aload_n 0, 1) := by decide +kernel
theorem d_Mo_entry_181 : decode prog_9_method_38_code 181 = .ok (.getfield 59, 3) := by decide +kernel
theorem d_Mo_entry_184 : decode prog_9_method_38_code 184 = .ok (.iload_n 1, 1) := by decide +kernel
theorem d_Mo_entry_185 : decode prog_9_method_38_code 185 = .ok (.iconst 5, 1) := by decide +kernel
theorem d_Mo_entry_186 : decode prog_9_method_38_code 186 = .ok (.iadd, 1) := by decide +kernel
theorem d_Mo_entry_187 : decode prog_9_method_38_code 187 = .ok (.iaload, 1) := by decide +kernel
theorem d_Mo_entry_188 : decode prog_9_method_38_code 188 = .ok (.sipush 128, 3) := by decide +kernel
theorem d_Mo_entry_191 : decode prog_9_method_38_code 191 = .ok (.isub, 1) := by decide +kernel
theorem d_Mo_entry_192 : decode prog_9_method_38_code 192 = .ok (.goto 20, 3) := by decide +kernel
theorem d_Mo_entry_195 : decode prog_9_method_38_code 195 = .ok (.iload_n 2, 1) := by decide +kernel
theorem d_Mo_entry_196 : decode prog_9_method_38_code 196 = .ok (.iconst 4, 1) := by decide +kernel
theorem d_Mo_entry_197 : decode prog_9_method_38_code 197 = .ok (.if_icmp .ne 14, 3) := by decide +kernel
theorem d_Mo_entry_200 : decode prog_9_method_38_code 200 = .ok (.aload_n 0, 1) := by decide +kernel
theorem d_Mo_entry_201 : decode prog_9_method_38_code 201 = .ok (.getfield 59, 3) := by decide +kernel
theorem d_Mo_entry_204 : decode prog_9_method_38_code 204 = .ok (.iload_n 1, 1) := by decide +kernel
theorem d_Mo_entry_205 : decode prog_9_method_38_code 205 = .ok (.iconst 5, 1) := by decide +kernel
theorem d_Mo_entry_206 : decode prog_9_method_38_code 206 = .ok (.iadd, 1) := by decide +kernel
theorem d_Mo_entry_207 : decode prog_9_method_38_code 207 = .ok (.iaload, 1) := by decide +kernel
theorem d_Mo_entry_208 : decode prog_9_method_38_code 208 = .ok (.goto 4, 3) := by decide +kernel
theorem d_Mo_entry_211 : decode prog_9_method_38_code 211 = .ok (.iconst 0, 1) := by decide +kernel
theorem d_Mo_entry_212 : decode prog_9_method_38_code 212 = .ok (.istore 6, 2) := by decide +kernel
theorem d_Mo_entry_214 : decode prog_9_method_38_code 214 = .ok (.aload_n 0, 1) := by decide +kernel
theorem d_Mo_entry_215 : decode prog_9_method_38_code 215 = .ok (.iconst 1, 1) := by decide +kernel
theorem d_Mo_entry_216 : decode prog_9_method_38_code 216 = .ok (.iload_n 2, 1) := by decide +kernel
theorem d_Mo_entry_217 : decode prog_9_method_38_code 217 = .ok (.iload 4, 2) := by decide +kernel
theorem d_Mo_entry_219 : decode prog_9_method_38_code 219 = .ok (.iload 5, 2) := by decide +kernel
theorem d_Mo_entry_221 : decode prog_9_method_38_code 221 = .ok (.iload 6, 2) := by decide +kernel
theorem d_Mo_entry_223 : decode prog_9_method_38_code 223 = .ok (.invokevirtual 119, 3) := by decide +kernel
theorem d_Mo_entry_226 : decode prog_9_method_38_code 226 = .ok (.ifCond .eq 7, 3) := by decide +kernel
theorem d_Mo_entry_229 : decode prog_9_method_38_code 229 = .ok (.iload_n 3, 1) := by decide +kernel
theorem d_Mo_entry_230 : decode prog_9_method_38_code 230 = .ok (.goto 4, 3) := by decide +kernel
theorem d_Mo_entry_233 : decode prog_9_method_38_code 233 = .ok (.iconst 0, 1) := by decide +kernel
theorem d_Mo_entry_234 : decode prog_9_method_38_code 234 = .ok (.ireturn, 1) := by decide +kernel
theorem d_Mo_replay_0 : decode prog_9_method_39_code 0 = .ok (.aload_n 0, 1) := by decide +kernel
theorem d_Mo_replay_1 : decode prog_9_method_39_code 1 = .ok (.aload_n 0, 1) := by decide +kernel
theorem d_Mo_replay_2 : decode prog_9_method_39_code 2 = .ok (.invokevirtual 156, 3) := by decide +kernel
theorem d_Mo_replay_5 : decode prog_9_method_39_code 5 = .ok (.ifCond .eq 7, 3) := by decide +kernel
theorem d_Mo_replay_8 : decode prog_9_method_39_code 8 = .ok (.iconst 0, 1) := by decide +kernel
theorem d_Mo_replay_9 : decode prog_9_method_39_code 9 = .ok (.goto 4, 3) := by decide +kernel
theorem d_Mo_replay_12 : decode prog_9_method_39_code 12 = .ok (.iconst 1, 1) := by decide +kernel
theorem d_Mo_replay_13 : decode prog_9_method_39_code 13 = .ok (.putfield 69, 3) := by decide +kernel
theorem d_Mo_replay_16 : decode prog_9_method_39_code 16 = .ok (.aload_n 0, 1) := by decide +kernel
theorem d_Mo_replay_17 : decode prog_9_method_39_code 17 = .ok (.getfield 69, 3) := by decide +kernel
theorem d_Mo_replay_20 : decode prog_9_method_39_code 20 = .ok (.ifCond .le 5, 3) := by decide +kernel
theorem d_Mo_replay_23 : decode prog_9_method_39_code 23 = .ok (.iconst 0, 1) := by decide +kernel
theorem d_Mo_replay_24 : decode prog_9_method_39_code 24 = .ok (.ireturn, 1) := by decide +kernel
theorem d_Mo_replay_25 : decode prog_9_method_39_code 25 = .ok (.iconst 0, 1) := by decide +kernel
theorem d_Mo_replay_26 : decode prog_9_method_39_code 26 = .ok (.istore_n 1, 1) := by decide +kernel
theorem d_Mo_replay_27 : decode prog_9_method_39_code 27 = .ok (.iload_n 1, 1) := by decide +kernel
theorem d_Mo_replay_28 : decode prog_9_method_39_code 28 = .ok (.aload_n 0, 1) := by decide +kernel
theorem d_Mo_replay_29 : decode prog_9_method_39_code 29 = .ok (.getfield 110, 3) := by decide +kernel
theorem d_Mo_replay_32 : decode prog_9_method_39_code 32 = .ok (.if_icmp .ge 22, 3) := by decide +kernel
theorem d_Mo_replay_35 : decode prog_9_method_39_code 35 = .ok (.aload_n 0, 1) := by decide +kernel
theorem d_Mo_replay_36 : decode prog_9_method_39_code 36 = .ok (.iload_n 1, 1) := by decide +kernel
theorem d_Mo_replay_37 : decode prog_9_method_39_code 37 = .ok (.invokevirtual 166, 3) := by decide +kernel
theorem d_Mo_replay_40 : decode prog_9_method_39_code 40 = .ok (.istore_n 2, 1) := by decide +kernel
theorem d_Mo_replay_41 : decode prog_9_method_39_code 41 = .ok (.iload_n 2, 1) := by decide +kernel
theorem d_Mo_replay_42 : decode prog_9_method_39_code 42 = .ok (.ifCond .ne 5, 3) := by decide +kernel
theorem d_Mo_replay_45 : decode prog_9_method_39_code 45 = .ok (.iload_n 1, 1) := by decide +kernel
theorem d_Mo_replay_46 : decode prog_9_method_39_code 46 = .ok (.ireturn, 1) := by decide +kernel
theorem d_Mo_replay_47 : decode prog_9_method_39_code 47 = .ok (.iload_n 1, 1) := by decide +kernel
theorem d_Mo_replay_48 : decode prog_9_method_39_code 48 = .ok (.iload_n 2, 1) := by decide +kernel
theorem d_Mo_replay_49 : decode prog_9_method_39_code 49 = .ok (.iadd, 1) := by decide +kernel
theorem d_Mo_replay_50 : decode prog_9_method_39_code 50 = .ok (.istore_n 1, 1) := by decide +kernel
theorem d_Mo_replay_51 : decode prog_9_method_39_code 51 = .ok (.goto (-24), 3) := by decide +kernel
theorem d_Mo_replay_54 : decode prog_9_method_39_code 54 = .ok (.aload_n 0, 1) := by decide +kernel
theorem d_Mo_replay_55 : decode prog_9_method_39_code 55 = .ok (.invokevirtual 160, 3) := by decide +kernel
theorem d_Mo_replay_58 : decode prog_9_method_39_code 58 = .ok (.aload_n 0, 1) := by decide +kernel
theorem d_Mo_replay_59 : decode prog_9_method_39_code 59 = .ok (.getfield 44, 3) := by decide +kernel
theorem d_Mo_replay_62 : decode prog_9_method_39_code 62 = .ok (.iconst 0, 1) := by decide +kernel
theorem d_Mo_replay_63 : decode prog_9_method_39_code 63 = .ok (.iconst 0, 1) := by decide +kernel
theorem d_Mo_replay_64 : decode prog_9_method_39_code 64 = .ok (.iastore, 1) := by decide +kernel
theorem d_Mo_replay_65 : decode prog_9_method_39_code 65 = .ok (.iconst (-1), 1) := by decide +kernel
theorem d_Mo_replay_66 : decode prog_9_method_39_code 66 = .ok (.ireturn, 1) := by decide +kernel
theorem d_Mo_size_0 : decode prog_9_method_40_code 0 = .ok (.aload_n 0, 1) := by decide +kernel
theorem d_Mo_size_1 : decode prog_9_method_40_code 1 = .ok (.iconst 0, 1) := by decide +kernel
theorem d_Mo_size_2 : decode prog_9_method_40_code 2 = .ok (.putfield 69, 3) := by decide +kernel
theorem d_Mo_size_5 : decode prog_9_method_40_code 5 = .ok (.iload_n 1, 1) := by decide +kernel
theorem d_Mo_size_6 : decode prog_9_method_40_code 6 = .ok (.ifCond .eq 10, 3) := by decide +kernel
theorem d_Mo_size_9 : decode prog_9_method_40_code 9 = .ok (.aload_n 0, 1) := by decide +kernel
theorem d_Mo_size_10 : decode prog_9_method_40_code 10 = .ok (.getfield 110, 3) := by decide +kernel
theorem d_Mo_size_13 : decode prog_9_method_40_code 13 = .ok (.goto 7, 3) := by decide +kernel
theorem d_Mo_size_16 : decode prog_9_method_40_code 16 = .ok (.aload_n 0, 1) := by decide +kernel
theorem d_Mo_size_17 : decode prog_9_method_40_code 17 = .ok (.getfield 136, 3) := by decide +kernel
theorem d_Mo_size_20 : decode prog_9_method_40_code 20 = .ok (.ireturn, 1) := by decide +kernel
theorem d_Mo_at_0 : decode prog_9_method_41_code 0 = .ok (.aload_n 0, 1) := by decide +kernel
theorem d_Mo_at_1 : decode prog_9_method_41_code 1 = .ok (.iload_n 1, 1) := by decide +kernel
theorem d_Mo_at_2 : decode prog_9_method_41_code 2 = .ok (.ifCond .lt 22, 3) := by decide +kernel
theorem d_Mo_at_5 : decode prog_9_method_41_code 5 = .ok (.iload_n 1, 1) := by decide +kernel
theorem d_Mo_at_6 : decode prog_9_method_41_code 6 = .ok (.iload_n 2, 1) := by decide +kernel
theorem d_Mo_at_7 : decode prog_9_method_41_code 7 = .ok (.ifCond .eq 10, 3) := by decide +kernel
theorem d_Mo_at_10 : decode prog_9_method_41_code 10 = .ok (.aload_n 0, 1) := by decide +kernel
theorem d_Mo_at_11 : decode prog_9_method_41_code 11 = .ok (.getfield 110, 3) := by decide +kernel
theorem d_Mo_at_14 : decode prog_9_method_41_code 14 = .ok (.goto 7, 3) := by decide +kernel
theorem d_Mo_at_17 : decode prog_9_method_41_code 17 = .ok (.aload_n 0, 1) := by decide +kernel
theorem d_Mo_at_18 : decode prog_9_method_41_code 18 = .ok (.getfield 136, 3) := by decide +kernel
theorem d_Mo_at_21 : decode prog_9_method_41_code 21 = .ok (.if_icmp .lt 7, 3) := by decide +kernel
theorem d_Mo_at_24 : decode prog_9_method_41_code 24 = .ok (.iconst 1, 1) := by decide +kernel
theorem d_Mo_at_25 : decode prog_9_method_41_code 25 = .ok (.goto 4, 3) := by decide +kernel
theorem d_Mo_at_28 : decode prog_9_method_41_code 28 = .ok (.iconst 0, 1) := by decide +kernel
theorem d_Mo_at_29 : decode prog_9_method_41_code 29 = .ok (.putfield 69, 3) := by decide +kernel
theorem d_Mo_at_32 : decode prog_9_method_41_code 32 = .ok (.aload_n 0, 1) := by decide +kernel
theorem d_Mo_at_33 : decode prog_9_method_41_code 33 = .ok (.getfield 69, 3) := by decide +kernel
theorem d_Mo_at_36 : decode prog_9_method_41_code 36 = .ok (.ifCond .le 7, 3) := by decide +kernel
theorem d_Mo_at_39 : decode prog_9_method_41_code 39 = .ok (.iconst 0, 1) := by decide +kernel
theorem d_Mo_at_40 : decode prog_9_method_41_code 40 = .ok (.goto 22, 3) := by decide +kernel
theorem d_Mo_at_43 : decode prog_9_method_41_code 43 = .ok (.iload_n 2, 1) := by decide +kernel
theorem d_Mo_at_44 : decode prog_9_method_41_code 44 = .ok (.ifCond .eq 12, 3) := by decide +kernel
theorem d_Mo_at_47 : decode prog_9_method_41_code 47 = .ok (.aload_n 0, 1) := by decide +kernel
theorem d_Mo_at_48 : decode prog_9_method_41_code 48 = .ok (.getfield 59, 3) := by decide +kernel
theorem d_Mo_at_51 : decode prog_9_method_41_code 51 = .ok (.iload_n 1, 1) := by decide +kernel
theorem d_Mo_at_52 : decode prog_9_method_41_code 52 = .ok (.iaload, 1) := by decide +kernel
theorem d_Mo_at_53 : decode prog_9_method_41_code 53 = .ok (.goto 9, 3) := by decide +kernel
theorem d_Mo_at_56 : decode prog_9_method_41_code 56 = .ok (.aload_n 0, 1) := by decide +kernel
theorem d_Mo_at_57 : decode prog_9_method_41_code 57 = .ok (.getfield 56, 3) := by decide +kernel
theorem d_Mo_at_60 : decode prog_9_method_41_code 60 = .ok (.iload_n 1, 1) := by decide +kernel
theorem d_Mo_at_61 : decode prog_9_method_41_code 61 = .ok (.iaload, 1) := by decide +kernel
theorem d_Mo_at_62 : decode prog_9_method_41_code 62 = .ok (.ireturn, 1) := by decide +kernel
theorem d_Mo_corrupt_0 : decode prog_9_method_42_code 0 = .ok (.aload_n 0, 1) := by decide +kernel
theorem d_Mo_corrupt_1 : decode prog_9_method_42_code 1 = .ok (.iload_n 1, 1) := by decide +kernel
theorem d_Mo_corrupt_2 : decode prog_9_method_42_code 2 = .ok (.ifCond .lt 22, 3) := by decide +kernel
theorem d_Mo_corrupt_5 : decode prog_9_method_42_code 5 = .ok (.iload_n 1, 1) := by decide +kernel
theorem d_Mo_corrupt_6 : decode prog_9_method_42_code 6 = .ok (.iload_n 3, 1) := by decide +kernel
theorem d_Mo_corrupt_7 : decode prog_9_method_42_code 7 = .ok (.ifCond .eq 10, 3) := by decide +kernel
theorem d_Mo_corrupt_10 : decode prog_9_method_42_code 10 = .ok (.aload_n 0, 1) := by decide +kernel
theorem d_Mo_corrupt_11 : decode prog_9_method_42_code 11 = .ok (.getfield 110, 3) := by decide +kernel
theorem d_Mo_corrupt_14 : decode prog_9_method_42_code 14 = .ok (.goto 7, 3) := by decide +kernel
theorem d_Mo_corrupt_17 : decode prog_9_method_42_code 17 = .ok (.aload_n 0, 1) := by decide +kernel
theorem d_Mo_corrupt_18 : decode prog_9_method_42_code 18 = .ok (.getfield 136, 3) := by decide +kernel
theorem d_Mo_corrupt_21 : decode prog_9_method_42_code 21 = .ok (.if_icmp .lt 7, 3) := by decide +kernel
theorem d_Mo_corrupt_24 : decode prog_9_method_42_code 24 = .ok (.iconst 1, 1) := by decide +kernel
theorem d_Mo_corrupt_25 : decode prog_9_method_42_code 25 = .ok (.goto 19, 3) := by decide +kernel
theorem d_Mo_corrupt_28 : decode prog_9_method_42_code 28 = .ok (.iload_n 2, 1) := by decide +kernel
theorem d_Mo_corrupt_29 : decode prog_9_method_42_code 29 = .ok (.ifCond .lt 10, 3) := by decide +kernel
theorem d_Mo_corrupt_32 : decode prog_9_method_42_code 32 = .ok (.iload_n 2, 1) := by decide +kernel
theorem d_Mo_corrupt_33 : decode prog_9_method_42_code 33 = .ok (.sipush 255, 3) := by decide +kernel
theorem d_Mo_corrupt_36 : decode prog_9_method_42_code 36 = .ok (.if_icmp .le 7, 3) := by decide +kernel
theorem d_Mo_corrupt_39 : decode prog_9_method_42_code 39 = .ok (.iconst 2, 1) := by decide +kernel
theorem d_Mo_corrupt_40 : decode prog_9_method_42_code 40 = .ok (.goto 4, 3) := by decide +kernel
theorem d_Mo_corrupt_43 : decode prog_9_method_42_code 43 = .ok (.iconst 0, 1) := by decide +kernel
theorem d_Mo_corrupt_44 : decode prog_9_method_42_code 44 = .ok (.putfield 69, 3) := by decide +kernel
theorem d_Mo_corrupt_47 : decode prog_9_method_42_code 47 = .ok (.aload_n 0, 1) := by decide +kernel
theorem d_Mo_corrupt_48 : decode prog_9_method_42_code 48 = .ok (.getfield 69, 3) := by decide +kernel
theorem d_Mo_corrupt_51 : decode prog_9_method_42_code 51 = .ok (.ifCond .le 4, 3) := by decide +kernel
theorem d_Mo_corrupt_54 : decode prog_9_method_42_code 54 = .ok (.return_, 1) := by decide +kernel
theorem d_Mo_corrupt_55 : decode prog_9_method_42_code 55 = .ok (.iload_n 3, 1) := by decide +kernel
theorem d_Mo_corrupt_56 : decode prog_9_method_42_code 56 = .ok (.ifCond .eq 13, 3) := by decide +kernel
theorem d_Mo_corrupt_59 : decode prog_9_method_42_code 59 = .ok (.aload_n 0, 1) := by decide +kernel
theorem d_Mo_corrupt_60 : decode prog_9_method_42_code 60 = .ok (.getfield 59, 3) := by decide +kernel
theorem d_Mo_corrupt_63 : decode prog_9_method_42_code 63 = .ok (.iload_n 1, 1) := by decide +kernel
theorem d_Mo_corrupt_64 : decode prog_9_method_42_code 64 = .ok (.iload_n 2, 1) := by decide +kernel
theorem d_Mo_corrupt_65 : decode prog_9_method_42_code 65 = .ok (.iastore, 1) := by decide +kernel
theorem d_Mo_corrupt_66 : decode prog_9_method_42_code 66 = .ok (.goto 10, 3) := by decide +kernel
theorem d_Mo_corrupt_69 : decode prog_9_method_42_code 69 = .ok (.aload_n 0, 1) := by decide +kernel
theorem d_Mo_corrupt_70 : decode prog_9_method_42_code 70 = .ok (.getfield 56, 3) := by decide +kernel
theorem d_Mo_corrupt_73 : decode prog_9_method_42_code 73 = .ok (.iload_n 1, 1) := by decide +kernel
theorem d_Mo_corrupt_74 : decode prog_9_method_42_code 74 = .ok (.iload_n 2, 1) := by decide +kernel
theorem d_Mo_corrupt_75 : decode prog_9_method_42_code 75 = .ok (.iastore, 1) := by decide +kernel
theorem d_Mo_corrupt_76 : decode prog_9_method_42_code 76 = .ok (.return_, 1) := by decide +kernel
