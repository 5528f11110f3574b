/-! decode rows (by program: gen_dec.py) -/
theorem d_Mo_write_0 : decode prog_9_method_28_code 0 = .ok (.iload_n 2, 1) := by decide +kernel
theorem d_Mo_write_1 : decode prog_9_method_28_code 1 = .ok (.iconst 1, 1) := by decide +kernel
theorem d_Mo_write_2 : decode prog_9_method_28_code 2 = .ok (.isub, 1) := by decide +kernel
theorem d_Mo_write_3 : decode prog_9_method_28_code 3 = .ok (.istore_n 3, 1) := by decide +kernel
theorem d_Mo_write_4 : decode prog_9_method_28_code 4 = .ok (.iload_n 3, 1) := by decide +kernel
theorem d_Mo_write_5 : decode prog_9_method_28_code 5 = .ok (.ifCond .lt 38, 3) := by decide +kernel
theorem d_Mo_write_8 : decode prog_9_method_28_code 8 = .ok (.aload_n 0, 1) := by decide +kernel
theorem d_Mo_write_9 : decode prog_9_method_28_code 9 = .ok (.getfield 62, 3) := by decide +kernel
theorem d_Mo_write_12 : decode prog_9_method_28_code 12 = .ok (.aload_n 0, 1) := by decide +kernel
theorem d_Mo_write_13 : decode prog_9_method_28_code 13 = .ok (.getfield 126, 3) := by decide +kernel
theorem d_Mo_write_16 : decode prog_9_method_28_code 16 = .ok (.iload_n 1, 1) := by decide +kernel
theorem d_Mo_write_17 : decode prog_9_method_28_code 17 = .ok (.bipush 8, 2) := by decide +kernel
theorem d_Mo_write_19 : decode prog_9_method_28_code 19 = .ok (.iload_n 3, 1) := by decide +kernel
theorem d_Mo_write_20 : decode prog_9_method_28_code 20 = .ok (.imul, 1) := by decide +kernel
theorem d_Mo_write_21 : decode prog_9_method_28_code 21 = .ok (.ishr, 1) := by decide +kernel
theorem d_Mo_write_22 : decode prog_9_method_28_code 22 = .ok (.sipush 255, 3) := by decide +kernel
theorem d_Mo_write_25 : decode prog_9_method_28_code 25 = .ok (.iand, 1) := by decide +kernel
theorem d_Mo_write_26 : decode prog_9_method_28_code 26 = .ok (.iastore, 1) := by decide +kernel
theorem d_Mo_write_27 : decode prog_9_method_28_code 27 = .ok (.aload_n 0, 1) := by decide +kernel
theorem d_Mo_write_28 : decode prog_9_method_28_code 28 = .ok (.dup, 1) := by decide +kernel
theorem d_Mo_write_29 : decode prog_9_method_28_code 29 = .ok (.getfield 126, 3) := by decide +kernel
theorem d_Mo_write_32 : decode prog_9_method_28_code 32 = .ok (.iconst 1, 1) := by decide +kernel
theorem d_Mo_write_33 : decode prog_9_method_28_code 33 = .ok (.iadd, 1) := by decide +kernel
theorem d_Mo_write_34 : decode prog_9_method_28_code 34 = .ok (.putfield 126, 3) := by decide +kernel
theorem d_Mo_write_37 : decode prog_9_method_28_code 37 = .ok (.iinc 3 (-1), 3) := by decide +kernel
theorem d_Mo_write_40 : decode prog_9_method_28_code 40 = .ok (.goto (-36), 3) := by decide +kernel
theorem d_Mo_write_43 : decode prog_9_method_28_code 43 = .ok (.return_, 1) := by decide +kernel
theorem d_Mo_writeWorld_0 : decode prog_9_method_29_code 0 = .ok (.aload_n 0, 1) := by decide +kernel
theorem d_Mo_writeWorld_1 : decode prog_9_method_29_code 1 = .ok (.iconst 0, 1) := by decide +kernel
theorem d_Mo_writeWorld_2 : decode prog_9_method_29_code 2 = .ok (.putfield 126, 3) := by decide +kernel
theorem d_Mo_writeWorld_5 : decode prog_9_method_29_code 5 = .ok (.aload_n 0, 1) := by decide +kernel
theorem d_Mo_writeWorld_6 : decode prog_9_method_29_code 6 = .ok (.bipush 84, 2) := by decide +kernel
theorem d_Mo_writeWorld_8 : decode prog_9_method_29_code 8 = .ok (.iconst 1, 1) := by decide +kernel
theorem d_Mo_writeWorld_9 : decode prog_9_method_29_code 9 = .ok (.invokevirtual 129, 3) := by decide +kernel
theorem d_Mo_writeWorld_12 : decode prog_9_method_29_code 12 = .ok (.aload_n 0, 1) := by decide +kernel
theorem d_Mo_writeWorld_13 : decode prog_9_method_29_code 13 = .ok (.aload_n 0, 1) := by decide +kernel
theorem d_Mo_writeWorld_14 : decode prog_9_method_29_code 14 = .ok (.getfield 7, 3) := by decide +kernel
theorem d_Mo_writeWorld_17 : decode prog_9_method_29_code 17 = .ok (.iload_n 1, 1) := by decide +kernel
theorem d_Mo_writeWorld_18 : decode prog_9_method_29_code 18 = .ok (.iaload, 1) := by decide +kernel
theorem d_Mo_writeWorld_19 : decode prog_9_method_29_code 19 = .ok (.iconst 4, 1) := by decide +kernel
theorem d_Mo_writeWorld_20 : decode prog_9_method_29_code 20 = .ok (.invokevirtual 129, 3) := by decide +kernel
theorem d_Mo_writeWorld_23 : decode prog_9_method_29_code 23 = .ok (.bipush 16, 2) := by decide +kernel
theorem d_Mo_writeWorld_25 : decode prog_9_method_29_code 25 = .ok (.iload_n 1, 1) := by decide +kernel
theorem d_Mo_writeWorld_26 : decode prog_9_method_29_code 26 = .ok (.imul, 1) := by decide +kernel
theorem d_Mo_writeWorld_27 : decode prog_9_method_29_code 27 = .ok (.istore_n 2, 1) := by decide +kernel
theorem d_Mo_writeWorld_28 : decode prog_9_method_29_code 28 = .ok (.iload_n 2, 1) := by decide +kernel
theorem d_Mo_writeWorld_29 : decode prog_9_method_29_code 29 = .ok (.bipush 16, 2) := by decide +kernel
theorem d_Mo_writeWorld_31 : decode prog_9_method_29_code 31 = .ok (.iload_n 1, 1) := by decide +kernel
theorem d_Mo_writeWorld_32 : decode prog_9_method_29_code 32 = .ok (.imul, 1) := by decide +kernel
theorem d_Mo_writeWorld_33 : decode prog_9_method_29_code 33 = .ok (.bipush 16, 2) := by decide +kernel
theorem d_Mo_writeWorld_35 : decode prog_9_method_29_code 35 = .ok (.iadd, 1) := by decide +kernel
theorem d_Mo_writeWorld_36 : decode prog_9_method_29_code 36 = .ok (.if_icmp .ge 181, 3) := by decide +kernel
theorem d_Mo_writeWorld_39 : decode prog_9_method_29_code 39 = .ok (.aload_n 0, 1) := by decide +kernel
theorem d_Mo_writeWorld_40 : decode prog_9_method_29_code 40 = .ok (.aload_n 0, 1) := by decide +kernel
theorem d_Mo_writeWorld_41 : decode prog_9_method_29_code 41 = .ok (.getfield 13, 3) := by decide +kernel
theorem d_Mo_writeWorld_44 : decode prog_9_method_29_code 44 = .ok (.iload_n 2, 1) := by decide +kernel
theorem d_Mo_writeWorld_45 : decode prog_9_method_29_code 45 = .ok (.iaload, 1) := by decide +kernel
theorem d_Mo_writeWorld_46 : decode prog_9_method_29_code 46 = .ok (.iconst 2, 1) := by decide +kernel
theorem d_Mo_writeWorld_47 : decode prog_9_method_29_code 47 = .ok (.invokevirtual 129, 3) := by decide +kernel
theorem d_Mo_writeWorld_50 : decode prog_9_method_29_code 50 = .ok (.aload_n 0, 1) := by decide +kernel
theorem d_Mo_writeWorld_51 : decode prog_9_method_29_code 51 = .ok (.aload_n 0, 1) := by decide +kernel
theorem d_Mo_writeWorld_52 : decode prog_9_method_29_code 52 = .ok (.getfield 16, 3) := by decide +kernel
theorem d_Mo_writeWorld_55 : decode prog_9_method_29_code 55 = .ok (.iload_n 2, 1) := by decide +kernel
theorem d_Mo_writeWorld_56 : decode prog_9_method_29_code 56 = .ok (.baload, 1) := by decide +kernel
theorem d_Mo_writeWorld_57 : decode prog_9_method_29_code 57 = .ok (.ifCond .ne 7, 3) := by decide +kernel
theorem d_Mo_writeWorld_60 : decode prog_9_method_29_code 60 = .ok (.iconst 0, 1) := by decide +kernel
theorem d_Mo_writeWorld_61 : decode prog_9_method_29_code 61 = .ok (.goto 34, 3) := by decide +kernel
theorem d_Mo_writeWorld_64 : decode prog_9_method_29_code 64 = .ok (.iconst 1, 1) := by decide +kernel
theorem d_Mo_writeWorld_65 : decode prog_9_method_29_code 65 = .ok (.aload_n 0, 1) := by decide +kernel
theorem d_Mo_writeWorld_66 : decode prog_9_method_29_code 66 = .ok (.getfield 32, 3) := by decide +kernel
theorem d_Mo_writeWorld_69 : decode prog_9_method_29_code 69 = .ok (.iload_n 2, 1) := by decide +kernel
theorem d_Mo_writeWorld_70 : decode prog_9_method_29_code 70 = .ok (.iaload, 1) := by decide +kernel
theorem d_Mo_writeWorld_71 : decode prog_9_method_29_code 71 = .ok (.ifCond .le 7, 3) := by decide +kernel
theorem d_Mo_writeWorld_74 : decode prog_9_method_29_code 74 = .ok (.iconst 2, 1) := by decide +kernel
theorem d_Mo_writeWorld_75 : decode prog_9_method_29_code 75 = .ok (.goto 4, 3) := by decide +kernel
theorem d_Mo_writeWorld_78 : decode prog_9_method_29_code 78 = .ok (.iconst 0, 1) := by decide +kernel
theorem d_Mo_writeWorld_79 : decode prog_9_method_29_code 79 = .ok (.iadd, 1) := by decide +kernel
theorem d_Mo_writeWorld_80 : decode prog_9_method_29_code 80 = .ok (.aload_n 0, 1) := by decide +kernel
theorem d_Mo_writeWorld_81 : decode prog_9_method_29_code 81 = .ok (.getfield 38, 3) := by decide +kernel
theorem d_Mo_writeWorld_84 : decode prog_9_method_29_code 84 = .ok (.iload_n 2, 1) := by decide +kernel
theorem d_Mo_writeWorld_85 : decode prog_9_method_29_code 85 = .ok (.iaload, 1) := by decide +kernel
theorem d_Mo_writeWorld_86 : decode prog_9_method_29_code 86 = .ok (.ifCond .le 7, 3) := by decide +kernel
theorem d_Mo_writeWorld_89 : decode prog_9_method_29_code 89 = .ok (.iconst 4, 1) := by decide +kernel
theorem d_Mo_writeWorld_90 : decode prog_9_method_29_code 90 = .ok (.goto 4, 3) := by decide +kernel
theorem d_Mo_writeWorld_93 : decode prog_9_method_29_code 93 = .ok (.iconst 0, 1) := by decide +kernel
theorem d_Mo_writeWorld_94 : decode prog_9_method_29_code 94 = .ok (.iadd, 1) := by decide +kernel
theorem d_Mo_writeWorld_95 : decode prog_9_method_29_code 95 = .ok (.iconst 1, 1) := by decide +kernel
theorem d_Mo_writeWorld_96 : decode prog_9_method_29_code 96 = .ok (.invokevirtual 129, 3) := by decide +kernel
theorem d_Mo_writeWorld_99 : decode prog_9_method_29_code 99 = .ok (.aload_n 0, 1) := by decide +kernel
theorem d_Mo_writeWorld_100 : decode prog_9_method_29_code 100 = .ok (.getfield 16, 3) := by decide +kernel
theorem d_Mo_writeWorld_103 : decode prog_9_method_29_code 103 = .ok (.iload_n 2, 1) := by decide +kernel
theorem d_Mo_writeWorld_104 : decode prog_9_method_29_code 104 = .ok (.baload, 1) := by decide +kernel
theorem d_Mo_writeWorld_105 : decode prog_9_method_29_code 105 = .ok (.ifCond .eq 106, 3) := by decide +kernel
theorem d_Mo_writeWorld_108 : decode prog_9_method_29_code 108 = .ok (.aload_n 0, 1) := by decide +kernel
theorem d_Mo_writeWorld_109 : decode prog_9_method_29_code 109 = .ok (.aload_n 0, 1) := by decide +kernel
theorem d_Mo_writeWorld_110 : decode prog_9_method_29_code 110 = .ok (.getfield 20, 3) := by decide +kernel
theorem d_Mo_writeWorld_113 : decode prog_9_method_29_code 113 = .ok (.iload_n 2, 1) := by decide +kernel
theorem d_Mo_writeWorld_114 : decode prog_9_method_29_code 114 = .ok (.iaload, 1) := by decide +kernel
theorem d_Mo_writeWorld_115 : decode prog_9_method_29_code 115 = .ok (.iconst 2, 1) := by decide +kernel
theorem d_Mo_writeWorld_116 : decode prog_9_method_29_code 116 = .ok (.invokevirtual 129, 3) := by decide +kernel
theorem d_Mo_writeWorld_119 : decode prog_9_method_29_code 119 = .ok (.aload_n 0, 1) := by decide +kernel
theorem d_Mo_writeWorld_120 : decode prog_9_method_29_code 120 = .ok (.aload_n 0, 1) := by decide +kernel
theorem d_Mo_writeWorld_121 : decode prog_9_method_29_code 121 = .ok (.getfield 23, 3) := by decide +kernel
theorem d_Mo_writeWorld_124 : decode prog_9_method_29_code 124 = .ok (.iload_n 2, 1) := by decide +kernel
theorem d_Mo_writeWorld_125 : decode prog_9_method_29_code 125 = .ok (.iaload, 1) := by decide +kernel
theorem d_Mo_writeWorld_126 : decode prog_9_method_29_code 126 = .ok (.iconst 2, 1) := by decide +kernel
theorem d_Mo_writeWorld_127 : decode prog_9_method_29_code 127 = .ok (.invokevirtual 129, 3) := by decide +kernel
theorem d_Mo_writeWorld_130 : decode prog_9_method_29_code 130 = .ok (.aload_n 0, 1) := by decide +kernel
theorem d_Mo_writeWorld_131 : decode prog_9_method_29_code 131 = .ok (.aload_n 0, 1) := by decide +kernel
theorem d_Mo_writeWorld_132 : decode prog_9_method_29_code 132 = .ok (.getfield 26, 3) := by decide +kernel
theorem d_Mo_writeWorld_135 : decode prog_9_method_29_code 135 = .ok (.iload_n 2, 1) := by decide +kernel
theorem d_Mo_writeWorld_136 : decode prog_9_method_29_code 136 = .ok (.iaload, 1) := by decide +kernel
theorem d_Mo_writeWorld_137 : decode prog_9_method_29_code 137 = .ok (.sipush 128, 3) := by decide +kernel
theorem d_Mo_writeWorld_140 : decode prog_9_method_29_code 140 = .ok (.iadd, 1) := by decide +kernel
theorem d_Mo_writeWorld_141 : decode prog_9_method_29_code 141 = .ok (.iconst 1, 1) := by decide +kernel
theorem d_Mo_writeWorld_142 : decode prog_9_method_29_code 142 = .ok (.invokevirtual 129, 3) := by decide +kernel
theorem d_Mo_writeWorld_145 : decode prog_9_method_29_code 145 = .ok (.aload_n 0, 1) := by decide +kernel
theorem d_Mo_writeWorld_146 : decode prog_9_method_29_code 146 = .ok (.aload_n 0, 1) := by decide +kernel
theorem d_Mo_writeWorld_147 : decode prog_9_method_29_code 147 = .ok (.getfield 29, 3) := by decide +kernel
theorem d_Mo_writeWorld_150 : decode prog_9_method_29_code 150 = .ok (.iload_n 2, 1) := by decide +kernel
theorem d_Mo_writeWorld_151 : decode prog_9_method_29_code 151 = .ok (.iaload, 1) := by decide +kernel
theorem d_Mo_writeWorld_152 : decode prog_9_method_29_code 152 = .ok (.sipush 128, 3) := by decide +kernel
theorem d_Mo_writeWorld_155 : decode prog_9_method_29_code 155 = .ok (.iadd, 1) := by decide +kernel
theorem d_Mo_writeWorld_156 : decode prog_9_method_29_code 156 = .ok (.iconst 1, 1) := by decide +kernel
theorem d_Mo_writeWorld_157 : decode prog_9_method_29_code 157 = .ok (.invokevirtual 129, 3) := by decide +kernel
theorem d_Mo_writeWorld_160 : decode prog_9_method_29_code 160 = .ok (.aload_n 0, 1) := by decide +kernel
theorem d_Mo_writeWorld_161 : decode prog_9_method_29_code 161 = .ok (.getfield 32, 3) := by decide +kernel
theorem d_Mo_writeWorld_164 : decode prog_9_method_29_code 164 = .ok (.iload_n 2, 1) := by decide +kernel
theorem d_Mo_writeWorld_165 : decode prog_9_method_29_code 165 = .ok (.iaload, 1) := by decide +kernel
theorem d_Mo_writeWorld_166 : decode prog_9_method_29_code 166 = .ok (.ifCond .le 25, 3) := by decide +kernel
theorem d_Mo_writeWorld_169 : decode prog_9_method_29_code 169 = .ok (.aload_n 0, 1) := by decide +kernel
theorem d_Mo_writeWorld_170 : decode prog_9_method_29_code 170 = .ok (.aload_n 0, 1) := by decide +kernel
theorem d_Mo_writeWorld_171 : decode prog_9_method_29_code 171 = .ok (.getfield 32, 3) := by decide +kernel
theorem d_Mo_writeWorld_174 : decode prog_9_method_29_code 174 = .ok (.iload_n 2, 1) := by decide +kernel
theorem d_Mo_writeWorld_175 : decode prog_9_method_29_code 175 = .ok (.iaload, 1) := by decide +kernel
theorem d_Mo_writeWorld_176 : decode prog_9_method_29_code 176 = .ok (.iconst 1, 1) := by decide +kernel
theorem d_Mo_writeWorld_177 : decode prog_9_method_29_code 177 = .ok (.invokevirtual 129, 3) := by decide +kernel
theorem d_Mo_writeWorld_180 : decode prog_9_method_29_code 180 = .ok (.aload_n 0, 1) := by decide +kernel
theorem d_Mo_writeWorld_181 : decode prog_9_method_29_code 181 = .ok (.aload_n 0, 1) := by decide +kernel
theorem d_Mo_writeWorld_182 : decode prog_9_method_29_code 182 = .ok (.getfield 35, 3) := by decide +kernel
theorem d_Mo_writeWorld_185 : decode prog_9_method_29_code 185 = .ok (.iload_n 2, 1) := by decide +kernel
theorem d_Mo_writeWorld_186 : decode prog_9_method_29_code 186 = .ok (.iaload, 1) := by decide +kernel
theorem d_Mo_writeWorld_187 : decode prog_9_method_29_code 187 = .ok (.iconst 1, 1) := by decide +kernel
theorem d_Mo_writeWorld_188 : decode prog_9_method_29_code 188 = .ok (.invokevirtual 129, 3) := by decide +kernel
theorem d_Mo_writeWorld_191 : decode prog_9_method_29_code 191 = .ok (.aload_n 0, 1) := by decide +kernel
theorem d_Mo_writeWorld_192 : decode prog_9_method_29_code 192 = .ok (.getfield 38, 3) := by decide +kernel
theorem d_Mo_writeWorld_195 : decode prog_9_method_29_code 195 = .ok (.iload_n 2, 1) := by decide +kernel
theorem d_Mo_writeWorld_196 : decode prog_9_method_29_code 196 = .ok (.iaload, 1) := by decide +kernel
theorem d_Mo_writeWorld_197 : decode prog_9_method_29_code 197 = .ok (.ifCond .le 14, 3) := by decide +kernel
theorem d_Mo_writeWorld_200 : decode prog_9_method_29_code 200 = .ok (.aload_n 0, 1) := by decide +kernel
theorem d_Mo_writeWorld_201 : decode prog_9_method_29_code 201 = .ok (.aload_n 0, 1) := by decide +kernel
theorem d_Mo_writeWorld_202 : decode prog_9_method_29_code 202 = .ok (.getfield 38, 3) := by decide +kernel
theorem d_Mo_writeWorld_205 : decode prog_9_method_29_code 205 = .ok (.iload_n 2, 1) := by decide +kernel
theorem d_Mo_writeWorld_206 : decode prog_9_method_29_code 206 = .ok (.iaload, 1) := by decide +kernel
theorem d_Mo_writeWorld_207 : decode prog_9_method_29_code 207 = .ok (.iconst 2, 1) := by decide +kernel
theorem d_Mo_writeWorld_208 : decode prog_9_method_29_code 208 = .ok (.invokevirtual 129, 3) := by decide +kernel
theorem d_Mo_writeWorld_211 : decode prog_9_method_29_code 211 = .ok (.iinc 2 1, 3) := by decide +kernel
theorem d_Mo_writeWorld_214 : decode prog_9_method_29_code 214 = .ok (.goto (-186), 3) := by decide +kernel
theorem d_Mo_writeWorld_217 : decode prog_9_method_29_code 217 = .ok (.iconst 0, 1) := by decide +kernel
theorem d_Mo_writeWorld_218 : decode prog_9_method_29_code 218 = .ok (.istore_n 2, 1) := by decide +kernel
theorem d_Mo_writeWorld_219 : decode prog_9_method_29_code 219 = .ok (.sipush 256, 3) := by decide +kernel
theorem d_Mo_writeWorld_222 : decode prog_9_method_29_code 222 = .ok (.iload_n 1, 1) := by decide +kernel
theorem d_Mo_writeWorld_223 : decode prog_9_method_29_code 223 = .ok (.imul, 1) := by decide +kernel
theorem d_Mo_writeWorld_224 : decode prog_9_method_29_code 224 = .ok (.istore_n 3, 1) := by decide +kernel
theorem d_Mo_writeWorld_225 : decode prog_9_method_29_code 225 = .ok (.iload_n 3, 1) := by decide +kernel
theorem d_Mo_writeWorld_226 : decode prog_9_method_29_code 226 = .ok (.sipush 256, 3) := by decide +kernel
theorem d_Mo_writeWorld_229 : decode prog_9_method_29_code 229 = .ok (.iload_n 1, 1) := by decide +kernel
theorem d_Mo_writeWorld_230 : decode prog_9_method_29_code 230 = .ok (.imul, 1) := by decide +kernel
theorem d_Mo_writeWorld_231 : decode prog_9_method_29_code 231 = .ok (.sipush 256, 3) := by decide +kernel
theorem d_Mo_writeWorld_234 : decode prog_9_method_29_code 234 = .ok (.iadd, 1) := by decide +kernel
theorem d_Mo_writeWorld_235 : decode prog_9_method_29_code 235 = .ok (.if_icmp .ge 26, 3) := by decide +kernel
theorem d_Mo_writeWorld_238 : decode prog_9_method_29_code 238 = .ok (.aload_n 0, 1) := by decide +kernel
theorem d_Mo_writeWorld_239 : decode prog_9_method_29_code 239 = .ok (.getfield 41, 3) := by decide +kernel
theorem d_Mo_writeWorld_242 : decode prog_9_method_29_code 242 = .ok (.iload_n 3, 1) := by decide +kernel
theorem d_Mo_writeWorld_243 : decode prog_9_method_29_code 243 = .ok (.baload, 1) := by decide +kernel
theorem d_Mo_writeWorld_244 : decode prog_9_method_29_code 244 = .ok (.ifCond .eq 9, 3) := by decide +kernel
theorem d_Mo_writeWorld_247 : decode prog_9_method_29_code 247 = .ok (.iload_n 2, 1) := by decide +kernel
theorem d_Mo_writeWorld_248 : decode prog_9_method_29_code 248 = .ok (.iconst 1, 1) := by decide +kernel
theorem d_Mo_writeWorld_249 : decode prog_9_method_29_code 249 = .ok (.iadd, 1) := by decide +kernel
theorem d_Mo_writeWorld_250 : decode prog_9_method_29_code 250 = .ok (.goto 4, 3) := by decide +kernel
theorem d_Mo_writeWorld_253 : decode prog_9_method_29_code 253 = .ok (.iload_n 2, 1) := by decide +kernel
theorem d_Mo_writeWorld_254 : decode prog_9_method_29_code 254 = .ok (.istore_n 2, 1) := by decide +kernel
theorem d_Mo_writeWorld_255 : decode prog_9_method_29_code 255 = .ok (.iinc 3 1, 3) := by decide +kernel
theorem d_Mo_writeWorld_258 : decode prog_9_method_29_code 258 = .ok (.goto (-33), 3) := by decide +kernel
theorem d_Mo_writeWorld_261 : decode prog_9_method_29_code 261 = .ok (.aload_n 0, 1) := by decide +kernel
theorem d_Mo_writeWorld_262 : decode prog_9_method_29_code 262 = .ok (.iload_n 2, 1) := by decide +kernel
theorem d_Mo_writeWorld_263 : decode prog_9_method_29_code 263 = .ok (.iconst 1, 1) := by decide +kernel
theorem d_Mo_writeWorld_264 : decode prog_9_method_29_code 264 = .ok (.invokevirtual 129, 3) := by decide +kernel
theorem d_Mo_writeWorld_267 : decode prog_9_method_29_code 267 = .ok (.iconst 0, 1) := by decide +kernel
theorem d_Mo_writeWorld_268 : decode prog_9_method_29_code 268 = .ok (.istore_n 3, 1) := by decide +kernel
theorem d_Mo_writeWorld_269 : decode prog_9_method_29_code 269 = .ok (.iload_n 3, 1) := by decide +kernel
theorem d_Mo_writeWorld_270 : decode prog_9_method_29_code 270 = .ok (.sipush 256, 3) := by decide +kernel
theorem d_Mo_writeWorld_273 : decode prog_9_method_29_code 273 = .ok (.if_icmp .ge 30, 3) := by decide +kernel
theorem d_Mo_writeWorld_276 : decode prog_9_method_29_code 276 = .ok (.aload_n 0, 1) := by decide +kernel
theorem d_Mo_writeWorld_277 : decode prog_9_method_29_code 277 = .ok (.getfield 41, 3) := by decide +kernel
theorem d_Mo_writeWorld_280 : decode prog_9_method_29_code 280 = .ok (.sipush 256, 3) := by decide +kernel
theorem d_Mo_writeWorld_283 : decode prog_9_method_29_code 283 = .ok (.iload_n 1, 1) := by decide +kernel
theorem d_Mo_writeWorld_284 : decode prog_9_method_29_code 284 = .ok (.imul, 1) := by decide +kernel
theorem d_Mo_writeWorld_285 : decode prog_9_method_29_code 285 = .ok (.iload_n 3, 1) := by decide +kernel
theorem d_Mo_writeWorld_286 : decode prog_9_method_29_code 286 = .ok (.iadd, 1) := by decide +kernel
theorem d_Mo_writeWorld_287 : decode prog_9_method_29_code 287 = .ok (.baload, 1) := by decide +kernel
theorem d_Mo_writeWorld_288 : decode prog_9_method_29_code 288 = .ok (.ifCond .eq 9, 3) := by decide +kernel
theorem d_Mo_writeWorld_291 : decode prog_9_method_29_code 291 = .ok (.aload_n 0, 1) := by decide +kernel
theorem d_Mo_writeWorld_292 : decode prog_9_method_29_code 292 = .ok (.iload_n 3, 1) := by decide +kernel
theorem d_Mo_writeWorld_293 : decode prog_9_method_29_code 293 = .ok (.iconst 1, 1) := by decide +kernel
theorem d_Mo_writeWorld_294 : decode prog_9_method_29_code 294 = .ok (.invokevirtual 129, 3) := by decide +kernel
theorem d_Mo_writeWorld_297 : decode prog_9_method_29_code 297 = .ok (.iinc 3 1, 3) := by decide +kernel
theorem d_Mo_writeWorld_300 : decode prog_9_method_29_code 300 = .ok (.goto (-31), 3) := by decide +kernel
theorem d_Mo_writeWorld_303 : decode prog_9_method_29_code 303 = .ok (.iconst 1, 1) := by decide +kernel
theorem d_Mo_writeWorld_304 : decode prog_9_method_29_code 304 = .ok (.istore_n 3, 1) := by decide +kernel
theorem d_Mo_writeWorld_305 : decode prog_9_method_29_code 305 = .ok (.iconst 0, 1) := by decide +kernel
theorem d_Mo_writeWorld_306 : decode prog_9_method_29_code 306 = .ok (.istore 4, 2) := by decide +kernel
theorem d_Mo_writeWorld_308 : decode prog_9_method_29_code 308 = .ok (.iconst 0, 1) := by decide +kernel
theorem d_Mo_writeWorld_309 : decode prog_9_method_29_code 309 = .ok (.istore 5, 2) := by decide +kernel
theorem d_Mo_writeWorld_311 : decode prog_9_method_29_code 311 = .ok (.iload 5, 2) := by decide +kernel
theorem d_Mo_writeWorld_313 : decode prog_9_method_29_code 313 = .ok (.aload_n 0, 1) := by decide +kernel
theorem d_Mo_writeWorld_314 : decode prog_9_method_29_code 314 = .ok (.getfield 126, 3) := by decide +kernel
theorem d_Mo_writeWorld_317 : decode prog_9_method_29_code 317 = .ok (.if_icmp .ge 33, 3) := by decide +kernel
theorem d_Mo_writeWorld_320 : decode prog_9_method_29_code 320 = .ok (.iload_n 3, 1) := by decide +kernel
theorem d_Mo_writeWorld_321 : decode prog_9_method_29_code 321 = .ok (.aload_n 0, 1) := by decide +kernel
theorem d_Mo_writeWorld_322 : decode prog_9_method_29_code 322 = .ok (.getfield 62, 3) := by decide +kernel
theorem d_Mo_writeWorld_325 : decode prog_9_method_29_code 325 = .ok (.iload 5, 2) := by decide +kernel
theorem d_Mo_writeWorld_327 : decode prog_9_method_29_code 327 = .ok (.iaload, 1) := by decide +kernel
theorem d_Mo_writeWorld_328 : decode prog_9_method_29_code 328 = .ok (.iadd, 1) := by decide +kernel
theorem d_Mo_writeWorld_329 : decode prog_9_method_29_code 329 = .ok (.sipush 251, 3) := by decide +kernel
theorem d_Mo_writeWorld_332 : decode prog_9_method_29_code 332 = .ok (.irem, 1) := by decide +kernel
theorem d_Mo_writeWorld_333 : decode prog_9_method_29_code 333 = .ok (.istore_n 3, 1) := by decide +kernel
theorem d_Mo_writeWorld_334 : decode prog_9_method_29_code 334 = .ok (.iload 4, 2) := by decide +kernel
theorem d_Mo_writeWorld_336 : decode prog_9_method_29_code 336 = .ok (.iload_n 3, 1) := by decide +kernel
theorem d_Mo_writeWorld_337 : decode prog_9_method_29_code 337 = .ok (.iadd, 1) := by decide +kernel
theorem d_Mo_writeWorld_338 : decode prog_9_method_29_code 338 = .ok (.sipush 251, 3) := by decide +kernel
theorem d_Mo_writeWorld_341 : decode prog_9_method_29_code 341 = .ok (.irem, 1) := by decide +kernel
theorem d_Mo_writeWorld_342 : decode prog_9_method_29_code 342 = .ok (.istore 4, 2) := by decide +kernel
theorem d_Mo_writeWorld_344 : decode prog_9_method_29_code 344 = .ok (.iinc 5 1, 3) := by decide +kernel
theorem d_Mo_writeWorld_347 : decode prog_9_method_29_code 347 = .ok (.goto (-36), 3) := by decide +kernel
theorem d_Mo_writeWorld_350 : decode prog_9_method_29_code 350 = .ok (.aload_n 0, 1) := by decide +kernel
theorem d_Mo_writeWorld_351 : decode prog_9_method_29_code 351 = .ok (.iload 4, 2) := by decide +kernel
theorem d_Mo_writeWorld_353 : decode prog_9_method_29_code 353 = .ok (.iconst 1, 1) := by decide +kernel
theorem d_Mo_writeWorld_354 : decode prog_9_method_29_code 354 = .ok (.invokevirtual 129, 3) := by decide +kernel
theorem d_Mo_writeWorld_357 : decode prog_9_method_29_code 357 = .ok (.aload_n 0, 1) := by decide +kernel
theorem d_Mo_writeWorld_358 : decode prog_9_method_29_code 358 = .ok (.iload_n 3, 1) := by decide +kernel
theorem d_Mo_writeWorld_359 : decode prog_9_method_29_code 359 = .ok (.iconst 1, 1) := by decide +kernel
theorem d_Mo_writeWorld_360 : decode prog_9_method_29_code 360 = .ok (.invokevirtual 129, 3) := by decide +kernel
theorem d_Mo_writeWorld_363 : decode prog_9_method_29_code 363 = .ok (.return_, 1) := by decide +kernel
theorem d_Mo_save_0 : decode prog_9_method_30_code 0 = .ok (.aload_n 0, 1) := by decide +kernel
theorem d_Mo_save_1 : decode prog_9_method_30_code 1 = .ok (.iconst 0, 1) := by decide +kernel
theorem d_Mo_save_2 : decode prog_9_method_30_code 2 = .ok (.putfield 69, 3) := by decide +kernel
theorem d_Mo_save_5 : decode prog_9_method_30_code 5 = .ok (.aload_n 0, 1) := by decide +kernel
theorem d_Mo_save_6 : decode prog_9_method_30_code 6 = .ok (.iconst 0, 1) := by decide +kernel
theorem d_Mo_save_7 : decode prog_9_method_30_code 7 = .ok (.invokevirtual 133, 3) := by decide +kernel
theorem d_Mo_save_10 : decode prog_9_method_30_code 10 = .ok (.aload_n 0, 1) := by decide +kernel
theorem d_Mo_save_11 : decode prog_9_method_30_code 11 = .ok (.aload_n 0, 1) := by decide +kernel
theorem d_Mo_save_12 : decode prog_9_method_30_code 12 = .ok (.getfield 126, 3) := by decide +kernel
theorem d_Mo_save_15 : decode prog_9_method_30_code 15 = .ok (.putfield 136, 3) := by decide +kernel
theorem d_Mo_save_18 : decode prog_9_method_30_code 18 = .ok (.iconst 0, 1) := by decide +kernel
theorem d_Mo_save_19 : decode prog_9_method_30_code 19 = .ok (.istore_n 1, 1) := by decide +kernel
theorem d_Mo_save_20 : decode prog_9_method_30_code 20 = .ok (.iload_n 1, 1) := by decide +kernel
theorem d_Mo_save_21 : decode prog_9_method_30_code 21 = .ok (.aload_n 0, 1) := by decide +kernel
theorem d_Mo_save_22 : decode prog_9_method_30_code 22 = .ok (.getfield 136, 3) := by decide +kernel
theorem d_Mo_save_25 : decode prog_9_method_30_code 25 = .ok (.if_icmp .ge 21, 3) := by decide +kernel
theorem d_Mo_save_28 : decode prog_9_method_30_code 28 = .ok (.aload_n 0, 1) := by decide +kernel
theorem d_Mo_save_29 : decode prog_9_method_30_code 29 = .ok (.getfield 56, 3) := by decide +kernel
theorem d_Mo_save_32 : decode prog_9_method_30_code 32 = .ok (.iload_n 1, 1) := by decide +kernel
theorem d_Mo_save_33 : decode prog_9_method_30_code 33 = .ok (.aload_n 0, 1) := by decide +kernel
theorem d_Mo_save_34 : decode prog_9_method_30_code 34 = .ok (.getfield 62, 3) := by decide +kernel
theorem d_Mo_save_37 : decode prog_9_method_30_code 37 = .ok (.iload_n 1, 1) := by decide +kernel
theorem d_Mo_save_38 : decode prog_9_method_30_code 38 = .ok (.iaload, 1) := by decide +kernel
theorem d_Mo_save_39 : decode prog_9_method_30_code 39 = .ok (.iastore, 1) := by decide +kernel
theorem d_Mo_save_40 : decode prog_9_method_30_code 40 = .ok (.iinc 1 1, 3) := by decide +kernel
theorem d_Mo_save_43 : decode prog_9_method_30_code 43 = .ok (.goto (-23), 3) := by decide +kernel
theorem d_Mo_save_46 : decode prog_9_method_30_code 46 = .ok (.aload_n 0, 1) := by decide +kernel
theorem d_Mo_save_47 : decode prog_9_method_30_code 47 = .ok (.iconst 0, 1) := by decide +kernel
theorem d_Mo_save_48 : decode prog_9_method_30_code 48 = .ok (.putfield 110, 3) := by decide +kernel
theorem d_Mo_save_51 : decode prog_9_method_30_code 51 = .ok (.aload_n 0, 1) := by decide +kernel
theorem d_Mo_save_52 : decode prog_9_method_30_code 52 = .ok (.getfield 44, 3) := by decide +kernel
theorem d_Mo_save_55 : decode prog_9_method_30_code 55 = .ok (.iconst 0, 1) := by decide +kernel
theorem d_Mo_save_56 : decode prog_9_method_30_code 56 = .ok (.iconst 0, 1) := by decide +kernel
theorem d_Mo_save_57 : decode prog_9_method_30_code 57 = .ok (.iastore, 1) := by decide +kernel
theorem d_Mo_save_58 : decode prog_9_method_30_code 58 = .ok (.aload_n 0, 1) := by decide +kernel
theorem d_Mo_save_59 : decode prog_9_method_30_code 59 = .ok (.getfield 136, 3) := by decide +kernel
theorem d_Mo_save_62 : decode prog_9_method_30_code 62 = .ok (.ireturn, 1) := by decide +kernel
theorem d_Mo_read_0 : decode prog_9_method_31_code 0 = .ok (.iconst 0, 1) := by decide +kernel
theorem d_Mo_read_1 : decode prog_9_method_31_code 1 = .ok (.istore_n 2, 1) := by decide +kernel
theorem d_Mo_read_2 : decode prog_9_method_31_code 2 = .ok (.iconst 0, 1) := by decide +kernel
theorem d_Mo_read_3 : decode prog_9_method_31_code 3 = .ok (.istore_n 3, 1) := by decide +kernel
theorem d_Mo_read_4 : decode prog_9_method_31_code 4 = .ok (.iload_n 3, 1) := by decide +kernel
theorem d_Mo_read_5 : decode prog_9_method_31_code 5 = .ok (.iload_n 1, 1) := by decide +kernel
theorem d_Mo_read_6 : decode prog_9_method_31_code 6 = .ok (.if_icmp .ge 72, 3) := by decide +kernel
theorem d_Mo_read_9 : decode prog_9_method_31_code 9 = .ok (.aload_n 0, 1) := by decide +kernel
theorem d_Mo_read_10 : decode prog_9_method_31_code 10 = .ok (.aload_n 0, 1) := by decide +kernel
theorem d_Mo_read_11 : decode prog_9_method_31_code 11 = .ok (.getfield 139, 3) := by decide +kernel
theorem d_Mo_read_14 : decode prog_9_method_31_code 14 = .ok (.ifCond .eq 18, 3) := by decide +kernel
theorem d_Mo_read_17 : decode prog_9_method_31_code 17 = .ok (.aload_n 0, 1) := by decide +kernel
theorem d_Mo_read_18 : decode prog_9_method_31_code 18 = .ok (.getfield 143, 3) := by decide +kernel
theorem d_Mo_read_21 : decode prog_9_method_31_code 21 = .ok (.aload_n 0, 1) := by decide +kernel
theorem d_Mo_read_22 : decode prog_9_method_31_code 22 = .ok (.getfield 136, 3) := by decide +kernel
theorem d_Mo_read_25 : decode prog_9_method_31_code 25 = .ok (.if_icmp .ge 7, 3) := by decide +kernel
theorem d_Mo_read_28 : decode prog_9_method_31_code 28 = .ok (.iconst 1, 1) := by decide +kernel
theorem d_Mo_read_29 : decode prog_9_method_31_code 29 = .ok (.goto 4, 3) := by decide +kernel
theorem d_Mo_read_32 : decode prog_9_method_31_code 32 = .ok (.iconst 0, 1) := by decide +kernel
theorem d_Mo_read_33 : decode prog_9_method_31_code 33 = .ok (.putfield 139, 3) := by decide +kernel
theorem d_Mo_read_36 : decode prog_9_method_31_code 36 = .ok (.iload_n 2, 1) := by decide +kernel
theorem d_Mo_read_37 : decode prog_9_method_31_code 37 = .ok (.bipush 8, 2) := by decide +kernel
theorem d_Mo_read_39 : decode prog_9_method_31_code 39 = .ok (.ishl, 1) := by decide +kernel
theorem d_Mo_read_40 : decode prog_9_method_31_code 40 = .ok (.aload_n 0, 1) := by decide +kernel
theorem d_Mo_read_41 : decode prog_9_method_31_code 41 = .ok (.getfield 139, 3) := by decide +kernel
theorem d_Mo_read_44 : decode prog_9_method_31_code 44 = .ok (.ifCond .eq 15, 3) := by decide +kernel
theorem d_Mo_read_47 : decode prog_9_method_31_code 47 = .ok (.aload_n 0, 1) := by decide +kernel
theorem d_Mo_read_48 : decode prog_9_method_31_code 48 = .ok (.getfield 56, 3) := by decide +kernel
theorem d_Mo_read_51 : decode prog_9_method_31_code 51 = .ok (.aload_n 0, 1) := by decide +kernel
theorem d_Mo_read_52 : decode prog_9_method_31_code 52 = .ok (.getfield 143, 3) := by decide +kernel
theorem d_Mo_read_55 : decode prog_9_method_31_code 55 = .ok (.iaload, 1) := by decide +kernel
theorem d_Mo_read_56 : decode prog_9_method_31_code 56 = .ok (.goto 4, 3) := by decide +kernel
theorem d_Mo_read_59 : decode prog_9_method_31_code 59 = .ok (.iconst 0, 1) := by decide +kernel
theorem d_Mo_read_60 : decode prog_9_method_31_code 60 = .ok (.ior, 1) := by decide +kernel
theorem d_Mo_read_61 : decode prog_9_method_31_code 61 = .ok (.istore_n 2, 1) := by decide +kernel
theorem d_Mo_read_62 : decode prog_9_method_31_code 62 = .ok (.aload_n 0, 1) := by decide +kernel
theorem d_Mo_read_63 : decode prog_9_method_31_code 63 = .ok (.dup, 1) := by decide +kernel
theorem d_Mo_read_64 : decode prog_9_method_31_code 64 = .ok (.getfield 143, 3) := by decide +kernel
theorem d_Mo_read_67 : decode prog_9_method_31_code 67 = .ok (.iconst 1, 1) := by decide +kernel
theorem d_Mo_read_68 : decode prog_9_method_31_code 68 = .ok (.iadd, 1) := by decide +kernel
theorem d_Mo_read_69 : decode prog_9_method_31_code 69 = .ok (.putfield 143, 3) := by decide +kernel
theorem d_Mo_read_72 : decode prog_9_method_31_code 72 = .ok (.iinc 3 1, 3) := by decide +kernel
theorem d_Mo_read_75 : decode prog_9_method_31_code 75 = .ok (.goto (-71), 3) := by decide +kernel
theorem d_Mo_read_78 : decode prog_9_method_31_code 78 = .ok (.iload_n 2, 1) := by decide +kernel
theorem d_Mo_read_79 : decode prog_9_method_31_code 79 = .ok (.ireturn, 1) := by decide +kernel
theorem d_Mo_readIn_0 : decode prog_9_method_32_code 0 = .ok (.aload_n 0, 1) := by decide +kernel
theorem d_Mo_readIn_1 : decode prog_9_method_32_code 1 = .ok (.iload_n 1, 1) := by decide +kernel
theorem d_Mo_readIn_2 : decode prog_9_method_32_code 2 = .ok (.invokevirtual 146, 3) := by decide +kernel
theorem d_Mo_readIn_5 : decode prog_9_method_32_code 5 = .ok (.istore 4, 2) := by decide +kernel
theorem d_Mo_readIn_7 : decode prog_9_method_32_code 7 = .ok (.aload_n 0, 1) := by decide +kernel
theorem d_Mo_readIn_8 : decode prog_9_method_32_code 8 = .ok (.aload_n 0, 1) := by decide +kernel
theorem d_Mo_readIn_9 : decode prog_9_method_32_code 9 = .ok (.getfield 139, 3) := by decide +kernel
theorem d_Mo_readIn_12 : decode prog_9_method_32_code 12 = .ok (.ifCond .eq 19, 3) := by decide +kernel
theorem d_Mo_readIn_15 : decode prog_9_method_32_code 15 = .ok (.iload 4, 2) := by decide +kernel
theorem d_Mo_readIn_17 : decode prog_9_method_32_code 17 = .ok (.iload_n 2, 1) := by decide +kernel
theorem d_Mo_readIn_18 : decode prog_9_method_32_code 18 = .ok (.if_icmp .lt 13, 3) := by decide +kernel
theorem d_Mo_readIn_21 : decode prog_9_method_32_code 21 = .ok (.iload 4, 2) := by decide +kernel
theorem d_Mo_readIn_23 : decode prog_9_method_32_code 23 = .ok (.iload_n 3, 1) := by decide +kernel
theorem d_Mo_readIn_24 : decode prog_9_method_32_code 24 = .ok (.if_icmp .gt 7, 3) := by decide +kernel
theorem d_Mo_readIn_27 : decode prog_9_method_32_code 27 = .ok (.iconst 1, 1) := by decide +kernel
theorem d_Mo_readIn_28 : decode prog_9_method_32_code 28 = .ok (.goto 4, 3) := by decide +kernel
theorem d_Mo_readIn_31 : decode prog_9_method_32_code 31 = .ok (.iconst 0, 1) := by decide +kernel
theorem d_Mo_readIn_32 : decode prog_9_method_32_code 32 = .ok (.putfield 139, 3) := by decide +kernel
theorem d_Mo_readIn_35 : decode prog_9_method_32_code 35 = .ok (.aload_n 0, 1) := by decide +kernel
theorem d_Mo_readIn_36 : decode prog_9_method_32_code 36 = .ok (.getfield 139, 3) := by decide +kernel
theorem d_Mo_readIn_39 : decode prog_9_method_32_code 39 = .ok (.ifCond .eq 8, 3) := by decide +kernel
theorem d_Mo_readIn_42 : decode prog_9_method_32_code 42 = .ok (.iload 4, 2) := by decide +kernel
theorem d_Mo_readIn_44 : decode prog_9_method_32_code 44 = .ok (.goto 4, 3) := by decide +kernel
theorem d_Mo_readIn_47 : decode prog_9_method_32_code 47 = .ok (.iload_n 2, 1) := by decide +kernel
theorem d_Mo_readIn_48 : decode prog_9_method_32_code 48 = .ok (.ireturn, 1) := by decide +kernel
theorem d_Mo_readThing_0 : decode prog_9_method_33_code 0 = .ok (.aload_n 0, 1) := by decide +kernel
theorem d_Mo_readThing_1 : decode prog_9_method_33_code 1 = .ok (.iconst 1, 1) := by decide +kernel
theorem d_Mo_readThing_2 : decode prog_9_method_33_code 2 = .ok (.iconst 0, 1) := by decide +kernel
theorem d_Mo_readThing_3 : decode prog_9_method_33_code 3 = .ok (.bipush 7, 2) := by decide +kernel
theorem d_Mo_readThing_5 : decode prog_9_method_33_code 5 = .ok (.invokevirtual 149, 3) := by decide +kernel
theorem d_Mo_readThing_8 : decode prog_9_method_33_code 8 = .ok (.istore_n 2, 1) := by decide +kernel
theorem d_Mo_readThing_9 : decode prog_9_method_33_code 9 = .ok (.aload_n 0, 1) := by decide +kernel
theorem d_Mo_readThing_10 : decode prog_9_method_33_code 10 = .ok (.getfield 16, 3) := by decide +kernel
theorem d_Mo_readThing_13 : decode prog_9_method_33_code 13 = .ok (.iload_n 1, 1) := by decide +kernel
theorem d_Mo_readThing_14 : decode prog_9_method_33_code 14 = .ok (.iload_n 2, 1) := by decide +kernel
theorem d_Mo_readThing_15 : decode prog_9_method_33_code 15 = .ok (.ifCond .le 7, 3) := by decide +kernel
theorem d_Mo_readThing_18 : decode prog_9_method_33_code 18 = .ok (.iconst 1, 1) := by decide +kernel
theorem d_Mo_readThing_19 : decode prog_9_method_33_code 19 = .ok (.goto 4, 3) := by decide +kernel
theorem d_Mo_readThing_22 : decode prog_9_method_33_code 22 = .ok (.iconst 0, 1) := by decide +kernel
theorem d_Mo_readThing_23 : decode prog_9_method_33_code 23 = .ok (.bastore, 1) := by decide +kernel
theorem d_Mo_readThing_24 : decode prog_9_method_33_code 24 = .ok (.aload_n 0, 1) := by decide +kernel
theorem d_Mo_readThing_25 : decode prog_9_method_33_code 25 = .ok (.aload_n 0, 1) := by decide +kernel
theorem d_Mo_readThing_26 : decode prog_9_method_33_code 26 = .ok (.getfield 139, 3) := by decide +kernel
theorem d_Mo_readThing_29 : decode prog_9_method_33_code 29 = .ok (.ifCond .eq 18, 3) := by decide +kernel
theorem d_Mo_readThing_32 : decode prog_9_method_33_code 32 = .ok (.iload_n 2, 1) := by decide +kernel
theorem d_Mo_readThing_33 : decode prog_9_method_33_code 33 = .ok (.ifCond .eq 10, 3) := by decide +kernel
theorem d_Mo_readThing_36 : decode prog_9_method_33_code 36 = .ok (.iload_n 2, 1) := by decide +kernel
theorem d_Mo_readThing_37 : decode prog_9_method_33_code 37 = .ok (.iconst 2, 1) := by decide +kernel
theorem d_Mo_readThing_38 : decode prog_9_method_33_code 38 = .ok (.irem, 1) := by decide +kernel
theorem d_Mo_readThing_39 : decode prog_9_method_33_code 39 = .ok (.iconst 1, 1) := by decide +kernel
theorem d_Mo_readThing_40 : decode prog_9_method_33_code 40 = .ok (.if_icmp .ne 7, 3) := by decide +kernel
theorem d_Mo_readThing_43 : decode prog_9_method_33_code 43 = .ok (.iconst 1, 1) := by decide +kernel
theorem d_Mo_readThing_44 : decode prog_9_method_33_code 44 = .ok (.goto 4, 3) := by decide +kernel
theorem d_Mo_readThing_47 : decode prog_9_method_33_code 47 = .ok (.iconst 0, 1) := by decide +kernel
theorem d_Mo_readThing_48 : decode prog_9_method_33_code 48 = .ok (.putfield 139, 3) := by decide +kernel
theorem d_Mo_readThing_51 : decode prog_9_method_33_code 51 = .ok (.iload_n 2, 1) := by decide +kernel
theorem d_Mo_readThing_52 : decode prog_9_method_33_code 52 = .ok (.ifCond .le 133, 3) := by decide +kernel
theorem d_Mo_readThing_55 : decode prog_9_method_33_code 55 = .ok (.aload_n 0, 1) := by decide +kernel
theorem d_Mo_readThing_56 : decode prog_9_method_33_code 56 = .ok (.iload_n 1, 1) := by decide +kernel
theorem d_Mo_readThing_57 : decode prog_9_method_33_code 57 = .ok (.aload_n 0, 1) := by decide +kernel
theorem d_Mo_readThing_58 : decode prog_9_method_33_code 58 = .ok (.iconst 2, 1) := by decide +kernel
theorem d_Mo_readThing_59 : decode prog_9_method_33_code 59 = .ok (.iconst 0, 1) := by decide +kernel
theorem d_Mo_readThing_60 : decode prog_9_method_33_code 60 = .ok (.sipush 4095, 3) := by decide +kernel
theorem d_Mo_readThing_63 : decode prog_9_method_33_code 63 = .ok (.invokevirtual 149, 3) := by decide +kernel
theorem d_Mo_readThing_66 : decode prog_9_method_33_code 66 = .ok (.iconst 0, 1) := by decide +kernel
theorem d_Mo_readThing_67 : decode prog_9_method_33_code 67 = .ok (.invokevirtual 98, 3) := by decide +kernel
theorem d_Mo_readThing_70 : decode prog_9_method_33_code 70 = .ok (.aload_n 0, 1) := by decide +kernel
theorem d_Mo_readThing_71 : decode prog_9_method_33_code 71 = .ok (.getfield 23, 3) := by decide +kernel
theorem d_Mo_readThing_74 : decode prog_9_method_33_code 74 = .ok (.iload_n 1, 1) := by decide +kernel
theorem d_Mo_readThing_75 : decode prog_9_method_33_code 75 = .ok (.aload_n 0, 1) := by decide +kernel
theorem d_Mo_readThing_76 : decode prog_9_method_33_code 76 = .ok (.iconst 2, 1) := by decide +kernel
theorem d_Mo_readThing_77 : decode prog_9_method_33_code 77 = .ok (.iconst 0, 1) := by decide +kernel
theorem d_Mo_readThing_78 : decode prog_9_method_33_code 78 = .ok (.sipush 4095, 3) := by decide +kernel
theorem d_Mo_readThing_81 : decode prog_9_method_33_code 81 = .ok (.invokevirtual 149, 3) := by decide +kernel
theorem d_Mo_readThing_84 : decode prog_9_method_33_code 84 = .ok (.iastore, 1) := by decide +kernel
theorem d_Mo_readThing_85 : decode prog_9_method_33_code 85 = .ok (.aload_n 0, 1) := by decide +kernel
theorem d_Mo_readThing_86 : decode prog_9_method_33_code 86 = .ok (.getfield 26, 3) := by decide +kernel
theorem d_Mo_readThing_89 : decode prog_9_method_33_code 89 = .ok (.iload_n 1, 1) := by decide +kernel
theorem d_Mo_readThing_90 : decode prog_9_method_33_code 90 = .ok (.aload_n 0, 1) := by decide +kernel
theorem d_Mo_readThing_91 : decode prog_9_method_33_code 91 = .ok (.iconst 1, 1) := by decide +kernel
theorem d_Mo_readThing_92 : decode prog_9_method_33_code 92 = .ok (.bipush 28, 2) := by decide +kernel
theorem d_Mo_readThing_94 : decode prog_9_method_33_code 94 = .ok (.sipush 228, 3) := by decide +kernel
theorem d_Mo_readThing_97 : decode prog_9_method_33_code 97 = .ok (.invokevirtual 149, 3) := by decide +kernel
theorem d_Mo_readThing_100 : decode prog_9_method_33_code 100 = .ok (.sipush 128, 3) := by decide +kernel
theorem d_Mo_readThing_103 : decode prog_9_method_33_code 103 = .ok (.isub, 1) := by decide +kernel
theorem d_Mo_readThing_104 : decode prog_9_method_33_code 104 = .ok (.iastore, 1) := by decide +kernel
theorem d_Mo_readThing_105 : decode prog_9_method_33_code 105 = .ok (.aload_n 0, 1) := by decide +kernel
theorem d_Mo_readThing_106 : decode prog_9_method_33_code 106 = .ok (.getfield 29, 3) := by decide +kernel
theorem d_Mo_readThing_109 : decode prog_9_method_33_code 109 = .ok (.iload_n 1, 1) := by decide +kernel
theorem d_Mo_readThing_110 : decode prog_9_method_33_code 110 = .ok (.aload_n 0, 1) := by decide +kernel
theorem d_Mo_readThing_111 : decode prog_9_method_33_code 111 = .ok (.iconst 1, 1) := by decide +kernel
theorem d_Mo_readThing_112 : decode prog_9_method_33_code 112 = .ok (.bipush 28, 2) := by decide +kernel
theorem d_Mo_readThing_114 : decode prog_9_method_33_code 114 = .ok (.sipush 228, 3) := by decide +kernel
theorem d_Mo_readThing_117 : decode prog_9_method_33_code 117 = .ok (.invokevirtual 149, 3) := by decide +kernel
theorem d_Mo_readThing_120 : decode prog_9_method_33_code 120 = .ok (.sipush 128, 3) := by decide +kernel
theorem d_Mo_readThing_123 : decode prog_9_method_33_code 123 = .ok (.isub, 1) := by decide +kernel
theorem d_Mo_readThing_124 : decode prog_9_method_33_code 124 = .ok (.iastore, 1) := by decide +kernel
theorem d_Mo_readThing_125 : decode prog_9_method_33_code 125 = .ok (.iload_n 2, 1) := by decide +kernel
theorem d_Mo_readThing_126 : decode prog_9_method_33_code 126 = .ok (.iconst 2, 1) := by decide +kernel
theorem d_Mo_readThing_127 : decode prog_9_method_33_code 127 = .ok (.idiv, 1) := by decide +kernel
theorem d_Mo_readThing_128 : decode prog_9_method_33_code 128 = .ok (.iconst 2, 1) := by decide +kernel
theorem d_Mo_readThing_129 : decode prog_9_method_33_code 129 = .ok (.irem, 1) := by decide +kernel
theorem d_Mo_readThing_130 : decode prog_9_method_33_code 130 = .ok (.iconst 1, 1) := by decide +kernel
theorem d_Mo_readThing_131 : decode prog_9_method_33_code 131 = .ok (.if_icmp .ne 33, 3) := by decide +kernel
theorem d_Mo_readThing_134 : decode prog_9_method_33_code 134 = .ok (.aload_n 0, 1) := by decide +kernel
theorem d_Mo_readThing_135 : decode prog_9_method_33_code 135 = .ok (.getfield 32, 3) := by decide +kernel
theorem d_Mo_readThing_138 : decode prog_9_method_33_code 138 = .ok (.iload_n 1, 1) := by decide +kernel
theorem d_Mo_readThing_139 : decode prog_9_method_33_code 139 = .ok (.aload_n 0, 1) := by decide +kernel
theorem d_Mo_readThing_140 : decode prog_9_method_33_code 140 = .ok (.iconst 1, 1) := by decide +kernel
theorem d_Mo_readThing_141 : decode prog_9_method_33_code 141 = .ok (.iconst 1, 1) := by decide +kernel
theorem d_Mo_readThing_142 : decode prog_9_method_33_code 142 = .ok (.sipush 200, 3) := by decide +kernel
theorem d_Mo_readThing_145 : decode prog_9_method_33_code 145 = .ok (.invokevirtual 149, 3) := by decide +kernel
theorem d_Mo_readThing_148 : decode prog_9_method_33_code 148 = .ok (.iastore, 1) := by decide +kernel
theorem d_Mo_readThing_149 : decode prog_9_method_33_code 149 = .ok (.aload_n 0, 1) := by decide +kernel
theorem d_Mo_readThing_150 : decode prog_9_method_33_code 150 = .ok (.getfield 35, 3) := by decide +kernel
theorem d_Mo_readThing_153 : decode prog_9_method_33_code 153 = .ok (.iload_n 1, 1) := by decide +kernel
theorem d_Mo_readThing_154 : decode prog_9_method_33_code 154 = .ok (.aload_n 0, 1) := by decide +kernel
theorem d_Mo_readThing_155 : decode prog_9_method_33_code 155 = .ok (.iconst 1, 1) := by decide +kernel
theorem d_Mo_readThing_156 : decode prog_9_method_33_code 156 = .ok (.iconst 1, 1) := by decide +kernel
theorem d_Mo_readThing_157 : decode prog_9_method_33_code 157 = .ok (.sipush 200, 3) := by decide +kernel
theorem d_Mo_readThing_160 : decode prog_9_method_33_code 160 = .ok (.invokevirtual 149, 3) := by decide +kernel
theorem d_Mo_readThing_163 : decode prog_9_method_33_code 163 = .ok (.iastore, 1) := by decide +kernel
theorem d_Mo_readThing_164 : decode prog_9_method_33_code 164 = .ok (.iload_n 2, 1) := by decide +kernel
theorem d_Mo_readThing_165 : decode prog_9_method_33_code 165 = .ok (.iconst 4, 1) := by decide +kernel
theorem d_Mo_readThing_166 : decode prog_9_method_33_code 166 = .ok (.idiv, 1) := by decide +kernel
theorem d_Mo_readThing_167 : decode prog_9_method_33_code 167 = .ok (.iconst 1, 1) := by decide +kernel
theorem d_Mo_readThing_168 : decode prog_9_method_33_code 168 = .ok (.if_icmp .ne 17, 3) := by decide +kernel
theorem d_Mo_readThing_171 : decode prog_9_method_33_code 171 = .ok (.aload_n 0, 1) := by decide +kernel
theorem d_Mo_readThing_172 : decode prog_9_method_33_code 172 = .ok (.getfield 38, 3) := by decide +kernel
theorem d_Mo_readThing_175 : decode prog_9_method_33_code 175 = .ok (.iload_n 1, 1) := by decide +kernel
theorem d_Mo_readThing_176 : decode prog_9_method_33_code 176 = .ok (.aload_n 0, 1) := by decide +kernel
theorem d_Mo_readThing_177 : decode prog_9_method_33_code 177 = .ok (.iconst 2, 1) := by decide +kernel
theorem d_Mo_readThing_178 : decode prog_9_method_33_code 178 = .ok (.iconst 1, 1) := by decide +kernel
theorem d_Mo_readThing_179 : decode prog_9_method_33_code 179 = .ok (.ldc 109, 2) := by decide +kernel
theorem d_Mo_readThing_181 : decode prog_9_method_33_code 181 = .ok (.invokevirtual 149, 3) := by decide +kernel
theorem d_Mo_readThing_184 : decode prog_9_method_33_code 184 = .ok (.iastore, 1) := by decide +kernel
theorem d_Mo_readThing_185 : decode prog_9_method_33_code 185 = .ok (.return_, 1) := by decide +kernel
theorem d_Mo_restore_0 : decode prog_9_method_34_code 0 = .ok (.aload_n 0, 1) := by decide +kernel
theorem d_Mo_restore_1 : decode prog_9_method_34_code 1 = .ok (.iconst 1, 1) := by decide +kernel
theorem d_Mo_restore_2 : decode prog_9_method_34_code 2 = .ok (.putfield 139, 3) := by decide +kernel
theorem d_Mo_restore_5 : decode prog_9_method_34_code 5 = .ok (.aload_n 0, 1) := by decide +kernel
theorem d_Mo_restore_6 : decode prog_9_method_34_code 6 = .ok (.iconst 0, 1) := by decide +kernel
theorem d_Mo_restore_7 : decode prog_9_method_34_code 7 = .ok (.putfield 143, 3) := by decide +kernel
theorem d_Mo_restore_10 : decode prog_9_method_34_code 10 = .ok (.aload_n 0, 1) := by decide +kernel
theorem d_Mo_restore_11 : decode prog_9_method_34_code 11 = .ok (.iconst 1, 1) := by decide +kernel
theorem d_Mo_restore_12 : decode prog_9_method_34_code 12 = .ok (.bipush 84, 2) := by decide +kernel
theorem d_Mo_restore_14 : decode prog_9_method_34_code 14 = .ok (.bipush 84, 2) := by decide +kernel
theorem d_Mo_restore_16 : decode prog_9_method_34_code 16 = .ok (.invokevirtual 149, 3) := by decide +kernel
theorem d_Mo_restore_19 : decode prog_9_method_34_code 19 = .ok (.istore_n 1, 1) := by decide +kernel
theorem d_Mo_restore_20 : decode prog_9_method_34_code 20 = .ok (.aload_n 0, 1) := by decide +kernel
theorem d_Mo_restore_21 : decode prog_9_method_34_code 21 = .ok (.getfield 7, 3) := by decide +kernel
theorem d_Mo_restore_24 : decode prog_9_method_34_code 24 = .ok (.iconst 1, 1) := by decide +kernel
theorem d_Mo_restore_25 : decode prog_9_method_34_code 25 = .ok (.aload_n 0, 1) := by decide +kernel
theorem d_Mo_restore_26 : decode prog_9_method_34_code 26 = .ok (.iconst 4, 1) := by decide +kernel
theorem d_Mo_restore_27 : decode prog_9_method_34_code 27 = .ok (.iconst 0, 1) := by decide +kernel
theorem d_Mo_restore_28 : decode prog_9_method_34_code 28 = .ok (.ldc 78, 2) := by decide +kernel
theorem d_Mo_restore_30 : decode prog_9_method_34_code 30 = .ok (.invokevirtual 149, 3) := by decide +kernel
theorem d_Mo_restore_33 : decode prog_9_method_34_code 33 = .ok (.iastore, 1) := by decide +kernel
theorem d_Mo_restore_34 : decode prog_9_method_34_code 34 = .ok (.bipush 16, 2) := by decide +kernel
theorem d_Mo_restore_36 : decode prog_9_method_34_code 36 = .ok (.istore_n 2, 1) := by decide +kernel
theorem d_Mo_restore_37 : decode prog_9_method_34_code 37 = .ok (.iload_n 2, 1) := by decide +kernel
theorem d_Mo_restore_38 : decode prog_9_method_34_code 38 = .ok (.bipush 32, 2) := by decide +kernel
theorem d_Mo_restore_40 : decode prog_9_method_34_code 40 = .ok (.if_icmp .ge 25, 3) := by decide +kernel
theorem d_Mo_restore_43 : decode prog_9_method_34_code 43 = .ok (.aload_n 0, 1) := by decide +kernel
theorem d_Mo_restore_44 : decode prog_9_method_34_code 44 = .ok (.getfield 13, 3) := by decide +kernel
theorem d_Mo_restore_47 : decode prog_9_method_34_code 47 = .ok (.iload_n 2, 1) := by decide +kernel
theorem d_Mo_restore_48 : decode prog_9_method_34_code 48 = .ok (.aload_n 0, 1) := by decide +kernel
theorem d_Mo_restore_49 : decode prog_9_method_34_code 49 = .ok (.iconst 2, 1) := by decide +kernel
theorem d_Mo_restore_50 : decode prog_9_method_34_code 50 = .ok (.invokevirtual 146, 3) := by decide +kernel
theorem d_Mo_restore_53 : decode prog_9_method_34_code 53 = .ok (.iastore, 1) := by decide +kernel
theorem d_Mo_restore_54 : decode prog_9_method_34_code 54 = .ok (.aload_n 0, 1) := by decide +kernel
theorem d_Mo_restore_55 : decode prog_9_method_34_code 55 = .ok (.iload_n 2, 1) := by decide +kernel
theorem d_Mo_restore_56 : decode prog_9_method_34_code 56 = .ok (.invokevirtual 153, 3) := by decide +kernel
theorem d_Mo_restore_59 : decode prog_9_method_34_code 59 = .ok (.iinc 2 1, 3) := by decide +kernel
theorem d_Mo_restore_62 : decode prog_9_method_34_code 62 = .ok (.goto (-25), 3) := by decide +kernel
theorem d_Mo_restore_65 : decode prog_9_method_34_code 65 = .ok (.sipush 256, 3) := by decide +kernel
theorem d_Mo_restore_68 : decode prog_9_method_34_code 68 = .ok (.istore_n 2, 1) := by decide +kernel
theorem d_Mo_restore_69 : decode prog_9_method_34_code 69 = .ok (.iload_n 2, 1) := by decide +kernel
theorem d_Mo_restore_70 : decode prog_9_method_34_code 70 = .ok (.sipush 512, 3) := by decide +kernel
theorem d_Mo_restore_73 : decode prog_9_method_34_code 73 = .ok (.if_icmp .ge 16, 3) := by decide +kernel
theorem d_Mo_restore_76 : decode prog_9_method_34_code 76 = .ok (.aload_n 0, 1) := by decide +kernel
theorem d_Mo_restore_77 : decode prog_9_method_34_code 77 = .ok (.getfield 41, 3) := by decide +kernel
theorem d_Mo_restore_80 : decode prog_9_method_34_code 80 = .ok (.iload_n 2, 1) := by decide +kernel
theorem d_Mo_restore_81 : decode prog_9_method_34_code 81 = .ok (.iconst 0, 1) := by decide +kernel
theorem d_Mo_restore_82 : decode prog_9_method_34_code 82 = .ok (.bastore, 1) := by decide +kernel
theorem d_Mo_restore_83 : decode prog_9_method_34_code 83 = .ok (.iinc 2 1, 3) := by decide +kernel
theorem d_Mo_restore_86 : decode prog_9_method_34_code 86 = .ok (.goto (-17), 3) := by decide +kernel
theorem d_Mo_restore_89 : decode prog_9_method_34_code 89 = .ok (.aload_n 0, 1) := by decide +kernel
theorem d_Mo_restore_90 : decode prog_9_method_34_code 90 = .ok (.iconst 1, 1) := by decide +kernel
theorem d_Mo_restore_91 : decode prog_9_method_34_code 91 = .ok (.iconst 0, 1) := by decide +kernel
theorem d_Mo_restore_92 : decode prog_9_method_34_code 92 = .ok (.bipush 120, 2) := by decide +kernel
theorem d_Mo_restore_94 : decode prog_9_method_34_code 94 = .ok (.invokevirtual 149, 3) := by decide +kernel
theorem d_Mo_restore_97 : decode prog_9_method_34_code 97 = .ok (.istore_n 2, 1) := by decide +kernel
theorem d_Mo_restore_98 : decode prog_9_method_34_code 98 = .ok (.iconst 0, 1) := by decide +kernel
theorem d_Mo_restore_99 : decode prog_9_method_34_code 99 = .ok (.istore_n 3, 1) := by decide +kernel
theorem d_Mo_restore_100 : decode prog_9_method_34_code 100 = .ok (.iload_n 3, 1) := by decide +kernel
theorem d_Mo_restore_101 : decode prog_9_method_34_code 101 = .ok (.iload_n 2, 1) := by decide +kernel
theorem d_Mo_restore_102 : decode prog_9_method_34_code 102 = .ok (.if_icmp .ge 96, 3) := by decide +kernel
theorem d_Mo_restore_105 : decode prog_9_method_34_code 105 = .ok (.aload_n 0, 1) := by decide +kernel
theorem d_Mo_restore_106 : decode prog_9_method_34_code 106 = .ok (.getfield 139, 3) := by decide +kernel
theorem d_Mo_restore_109 : decode prog_9_method_34_code 109 = .ok (.ifCond .eq 89, 3) := by decide +kernel
theorem d_Mo_restore_112 : decode prog_9_method_34_code 112 = .ok (.aload_n 0, 1) := by decide +kernel
theorem d_Mo_restore_113 : decode prog_9_method_34_code 113 = .ok (.iconst 1, 1) := by decide +kernel
theorem d_Mo_restore_114 : decode prog_9_method_34_code 114 = .ok (.invokevirtual 146, 3) := by decide +kernel
theorem d_Mo_restore_117 : decode prog_9_method_34_code 117 = .ok (.istore 4, 2) := by decide +kernel
theorem d_Mo_restore_119 : decode prog_9_method_34_code 119 = .ok (.aload_n 0, 1) := by decide +kernel
theorem d_Mo_restore_120 : decode prog_9_method_34_code 120 = .ok (.aload_n 0, 1) := by decide +kernel
theorem d_Mo_restore_121 : decode prog_9_method_34_code 121 = .ok (.getfield 139, 3) := by decide +kernel
theorem d_Mo_restore_124 : decode prog_9_method_34_code 124 = .ok (.ifCond .eq 52, 3) := by decide +kernel
theorem d_Mo_restore_127 : decode prog_9_method_34_code 127 = .ok (.iload 4, 2) := by decide +kernel
theorem d_Mo_restore_129 : decode prog_9_method_34_code 129 = .ok (.bipush 16, 2) := by decide +kernel
theorem d_Mo_restore_131 : decode prog_9_method_34_code 131 = .ok (.idiv, 1) := by decide +kernel
theorem d_Mo_restore_132 : decode prog_9_method_34_code 132 = .ok (.iload 4, 2) := by decide +kernel
theorem d_Mo_restore_134 : decode prog_9_method_34_code 134 = .ok (.bipush 16, 2) := by decide +kernel
theorem d_Mo_restore_136 : decode prog_9_method_34_code 136 = .ok (.irem, 1) := by decide +kernel
theorem d_Mo_restore_137 : decode prog_9_method_34_code 137 = .ok (.if_icmp .ge 39, 3) := by decide +kernel
theorem d_Mo_restore_140 : decode prog_9_method_34_code 140 = .ok (.aload_n 0, 1) := by decide +kernel
theorem d_Mo_restore_141 : decode prog_9_method_34_code 141 = .ok (.getfield 16, 3) := by decide +kernel
theorem d_Mo_restore_144 : decode prog_9_method_34_code 144 = .ok (.bipush 16, 2) := by decide +kernel
theorem d_Mo_restore_146 : decode prog_9_method_34_code 146 = .ok (.iload 4, 2) := by decide +kernel
theorem d_Mo_restore_148 : decode prog_9_method_34_code 148 = .ok (.bipush 16, 2) := by decide +kernel
theorem d_Mo_restore_150 : decode prog_9_method_34_code 150 = .ok (.idiv, 1) := by decide +kernel
theorem d_Mo_restore_151 : decode prog_9_method_34_code 151 = .ok (.iadd, 1) := by decide +kernel
theorem d_Mo_restore_152 : decode prog_9_method_34_code 152 = .ok (.baload, 1) := by decide +kernel
theorem d_Mo_restore_153 : decode prog_9_method_34_code 153 = .ok (.ifCond .eq 23, 3) := by decide +kernel
theorem d_Mo_restore_156 : decode prog_9_method_34_code 156 = .ok (.aload_n 0, 1) := by decide +kernel
theorem d_Mo_restore_157 : decode prog_9_method_34_code 157 = .ok (.getfield 16, 3) := by decide +kernel
theorem d_Mo_restore_160 : decode prog_9_method_34_code 160 = .ok (.bipush 16, 2) := by decide +kernel
theorem d_Mo_restore_162 : decode prog_9_method_34_code 162 = .ok (.iload 4, 2) := by decide +kernel
theorem d_Mo_restore_164 : decode prog_9_method_34_code 164 = .ok (.bipush 16, 2) := by decide +kernel
theorem d_Mo_restore_166 : decode prog_9_method_34_code 166 = .ok (.irem, 1) := by decide +kernel
theorem d_Mo_restore_167 : decode prog_9_method_34_code 167 = .ok (.iadd, 1) := by decide +kernel
theorem d_Mo_restore_168 : decode prog_9_method_34_code 168 = .ok (.baload, 1) := by decide +kernel
theorem d_Mo_restore_169 : decode prog_9_method_34_code 169 = .ok (.ifCond .eq 7, 3) := by decide +kernel
theorem d_Mo_restore_172 : decode prog_9_method_34_code 172 = .ok (.iconst 1, 1) := by decide +kernel
theorem d_Mo_restore_173 : decode prog_9_method_34_code 173 = .ok (.goto 4, 3) := by decide +kernel
theorem d_Mo_restore_176 : decode prog_9_method_34_code 176 = .ok (.iconst 0, 1) := by decide +kernel
theorem d_Mo_restore_177 : decode prog_9_method_34_code 177 = .ok (.putfield 139, 3) := by decide +kernel
theorem d_Mo_restore_180 : decode prog_9_method_34_code 180 = .ok (.aload_n 0, 1) := by decide +kernel
theorem d_Mo_restore_181 : decode prog_9_method_34_code 181 = .ok (.getfield 41, 3) := by decide +kernel
theorem d_Mo_restore_184 : decode prog_9_method_34_code 184 = .ok (.sipush 256, 3) := by decide +kernel
theorem d_Mo_restore_187 : decode prog_9_method_34_code 187 = .ok (.iload 4, 2) := by decide +kernel
theorem d_Mo_restore_189 : decode prog_9_method_34_code 189 = .ok (.iadd, 1) := by decide +kernel
theorem d_Mo_restore_190 : decode prog_9_method_34_code 190 = .ok (.iconst 1, 1) := by decide +kernel
theorem d_Mo_restore_191 : decode prog_9_method_34_code 191 = .ok (.bastore, 1) := by decide +kernel
theorem d_Mo_restore_192 : decode prog_9_method_34_code 192 = .ok (.iinc 3 1, 3) := by decide +kernel
theorem d_Mo_restore_195 : decode prog_9_method_34_code 195 = .ok (.goto (-95), 3) := by decide +kernel
theorem d_Mo_restore_198 : decode prog_9_method_34_code 198 = .ok (.aload_n 0, 1) := by decide +kernel
theorem d_Mo_restore_199 : decode prog_9_method_34_code 199 = .ok (.getfield 139, 3) := by decide +kernel
theorem d_Mo_restore_202 : decode prog_9_method_34_code 202 = .ok (.ifCond .ne 5, 3) := by decide +kernel
theorem d_Mo_restore_205 : decode prog_9_method_34_code 205 = .ok (.iconst 0, 1) := by decide +kernel
theorem d_Mo_restore_206 : decode prog_9_method_34_code 206 = .ok (.ireturn, 1) := by decide +kernel
theorem d_Mo_restore_207 : decode prog_9_method_34_code 207 = .ok (.aload_n 0, 1) := by decide +kernel
theorem d_Mo_restore_208 : decode prog_9_method_34_code 208 = .ok (.iconst 1, 1) := by decide +kernel
theorem d_Mo_restore_209 : decode prog_9_method_34_code 209 = .ok (.invokevirtual 133, 3) := by decide +kernel
theorem d_Mo_restore_212 : decode prog_9_method_34_code 212 = .ok (.aload_n 0, 1) := by decide +kernel
theorem d_Mo_restore_213 : decode prog_9_method_34_code 213 = .ok (.getfield 126, 3) := by decide +kernel
theorem d_Mo_restore_216 : decode prog_9_method_34_code 216 = .ok (.aload_n 0, 1) := by decide +kernel
theorem d_Mo_restore_217 : decode prog_9_method_34_code 217 = .ok (.getfield 136, 3) := by decide +kernel
theorem d_Mo_restore_220 : decode prog_9_method_34_code 220 = .ok (.if_icmp .ne 7, 3) := by decide +kernel
theorem d_Mo_restore_223 : decode prog_9_method_34_code 223 = .ok (.iconst 1, 1) := by decide +kernel
theorem d_Mo_restore_224 : decode prog_9_method_34_code 224 = .ok (.goto 4, 3) := by decide +kernel
theorem d_Mo_restore_227 : decode prog_9_method_34_code 227 = .ok (.iconst 0, 1) := by decide +kernel
theorem d_Mo_restore_228 : decode prog_9_method_34_code 228 = .ok (.istore_n 3, 1) := by decide +kernel
theorem d_Mo_restore_229 : decode prog_9_method_34_code 229 = .ok (.iconst 0, 1) := by decide +kernel
theorem d_Mo_restore_230 : decode prog_9_method_34_code 230 = .ok (.istore 4, 2) := by decide +kernel
theorem d_Mo_restore_232 : decode prog_9_method_34_code 232 = .ok (.iload 4, 2) := by decide +kernel
theorem d_Mo_restore_234 : decode prog_9_method_34_code 234 = .ok (.aload_n 0, 1) := by decide +kernel
theorem d_Mo_restore_235 : decode prog_9_method_34_code 235 = .ok (.getfield 126, 3) := by decide +kernel
theorem d_Mo_restore_238 : decode prog_9_method_34_code 238 = .ok (.if_icmp .ge 36, 3) := by decide +kernel
theorem d_Mo_restore_241 : decode prog_9_method_34_code 241 = .ok (.iload_n 3, 1) := by decide +kernel
theorem d_Mo_restore_242 : decode prog_9_method_34_code 242 = .ok (.ifCond .eq 32, 3) := by decide +kernel
theorem d_Mo_restore_245 : decode prog_9_method_34_code 245 = .ok (.aload_n 0, 1) := by decide +kernel
theorem d_Mo_restore_246 : decode prog_9_method_34_code 246 = .ok (.getfield 62, 3) := by decide +kernel
theorem d_Mo_restore_249 : decode prog_9_method_34_code 249 = .ok (.iload 4, 2) := by decide +kernel
theorem d_Mo_restore_251 : decode prog_9_method_34_code 251 = .ok (.iaload, 1) := by decide +kernel
theorem d_Mo_restore_252 : decode prog_9_method_34_code 252 = .ok (.aload_n 0, 1) := by decide +kernel
theorem d_Mo_restore_253 : decode prog_9_method_34_code 253 = .ok (.getfield 56, 3) := by decide +kernel
theorem d_Mo_restore_256 : decode prog_9_method_34_code 256 = .ok (.iload 4, 2) := by decide +kernel
theorem d_Mo_restore_258 : decode prog_9_method_34_code 258 = .ok (.iaload, 1) := by decide +kernel
theorem d_Mo_restore_259 : decode prog_9_method_34_code 259 = .ok (.if_icmp .ne 7, 3) := by decide +kernel
theorem d_Mo_restore_262 : decode prog_9_method_34_code 262 = .ok (.iconst 1, 1) := by decide +kernel
theorem d_Mo_restore_263 : decode prog_9_method_34_code 263 = .ok (.goto 4, 3) := by decide +kernel
theorem d_Mo_restore_266 : decode prog_9_method_34_code 266 = .ok (.iconst 0, 1) := by decide +kernel
theorem d_Mo_restore_267 : decode prog_9_method_34_code 267 = .ok (.istore_n 3, 1) := by decide +kernel
theorem d_Mo_restore_268 : decode prog_9_method_34_code 268 = .ok (.iinc 4 1, 3) := by decide +kernel
theorem d_Mo_restore_271 : decode prog_9_method_34_code 271 = .ok (.goto (-39), 3) := by decide +kernel
theorem d_Mo_restore_274 : decode prog_9_method_34_code 274 = .ok (.iload_n 3, 1) := by decide +kernel
theorem d_Mo_restore_275 : decode prog_9_method_34_code 275 = .ok (.ireturn, 1) := by decide +kernel
