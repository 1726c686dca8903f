theorem f_156_0 : px_at 156 0 = some (.aload_n 0, 1, 0, 0, .null) := rfl
theorem f_156_1 : px_at 156 1 = some (.iconst 0, 1, 0, 0, .null) := rfl
theorem f_156_2 : px_at 156 2 = some (.putfield 290, 3, 12, 44, .null) := rfl
theorem f_156_5 : px_at 156 5 = some (.aload_n 0, 1, 0, 0, .null) := rfl
theorem f_156_6 : px_at 156 6 = some (.iconst 0, 1, 0, 0, .null) := rfl
theorem f_156_7 : px_at 156 7 = some (.putfield 293, 3, 12, 45, .null) := rfl
theorem f_156_10 : px_at 156 10 = some (.iconst 0, 1, 0, 0, .null) := rfl
theorem f_156_11 : px_at 156 11 = some (.istore_n 2, 1, 0, 0, .null) := rfl
theorem f_156_12 : px_at 156 12 = some (.iload_n 2, 1, 0, 0, .null) := rfl
theorem f_156_13 : px_at 156 13 = some (.aload_n 0, 1, 0, 0, .null) := rfl
theorem f_156_14 : px_at 156 14 = some (.getfield 303, 3, 12, 52, .null) := rfl
theorem f_156_17 : px_at 156 17 = some (.if_icmp .ge 82, 3, 99, 0, .null) := rfl
theorem f_156_20 : px_at 156 20 = some (.aload_n 0, 1, 0, 0, .null) := rfl
theorem f_156_21 : px_at 156 21 = some (.getfield 26, 3, 12, 8, .null) := rfl
theorem f_156_24 : px_at 156 24 = some (.bipush 24, 2, 0, 0, .null) := rfl
theorem f_156_26 : px_at 156 26 = some (.iload_n 1, 1, 0, 0, .null) := rfl
theorem f_156_27 : px_at 156 27 = some (.imul, 1, 0, 0, .null) := rfl
theorem f_156_28 : px_at 156 28 = some (.aload_n 0, 1, 0, 0, .null) := rfl
theorem f_156_29 : px_at 156 29 = some (.getfield 91, 3, 12, 51, .null) := rfl
theorem f_156_32 : px_at 156 32 = some (.iload_n 2, 1, 0, 0, .null) := rfl
theorem f_156_33 : px_at 156 33 = some (.iaload, 1, 0, 0, .null) := rfl
theorem f_156_34 : px_at 156 34 = some (.iadd, 1, 0, 0, .null) := rfl
theorem f_156_35 : px_at 156 35 = some (.caload, 1, 0, 0, .null) := rfl
theorem f_156_36 : px_at 156 36 = some (.istore_n 3, 1, 0, 0, .null) := rfl
theorem f_156_37 : px_at 156 37 = some (.aload_n 0, 1, 0, 0, .null) := rfl
theorem f_156_38 : px_at 156 38 = some (.aload_n 0, 1, 0, 0, .null) := rfl
theorem f_156_39 : px_at 156 39 = some (.getfield 290, 3, 12, 44, .null) := rfl
theorem f_156_42 : px_at 156 42 = some (.ifCond .ne 15, 3, 57, 0, .null) := rfl
theorem f_156_45 : px_at 156 45 = some (.iload_n 3, 1, 0, 0, .null) := rfl
theorem f_156_46 : px_at 156 46 = some (.bipush 114, 2, 0, 0, .null) := rfl
theorem f_156_48 : px_at 156 48 = some (.if_icmp .eq 9, 3, 57, 0, .null) := rfl
theorem f_156_51 : px_at 156 51 = some (.iload_n 3, 1, 0, 0, .null) := rfl
theorem f_156_52 : px_at 156 52 = some (.bipush 104, 2, 0, 0, .null) := rfl
theorem f_156_54 : px_at 156 54 = some (.if_icmp .ne 7, 3, 61, 0, .null) := rfl
theorem f_156_57 : px_at 156 57 = some (.iconst 1, 1, 0, 0, .null) := rfl
theorem f_156_58 : px_at 156 58 = some (.goto 4, 3, 62, 0, .null) := rfl
theorem f_156_61 : px_at 156 61 = some (.iconst 0, 1, 0, 0, .null) := rfl
theorem f_156_62 : px_at 156 62 = some (.putfield 290, 3, 12, 44, .null) := rfl
theorem f_156_65 : px_at 156 65 = some (.aload_n 0, 1, 0, 0, .null) := rfl
theorem f_156_66 : px_at 156 66 = some (.aload_n 0, 1, 0, 0, .null) := rfl
theorem f_156_67 : px_at 156 67 = some (.getfield 293, 3, 12, 45, .null) := rfl
theorem f_156_70 : px_at 156 70 = some (.ifCond .ne 15, 3, 85, 0, .null) := rfl
theorem f_156_73 : px_at 156 73 = some (.iload_n 3, 1, 0, 0, .null) := rfl
theorem f_156_74 : px_at 156 74 = some (.bipush 82, 2, 0, 0, .null) := rfl
theorem f_156_76 : px_at 156 76 = some (.if_icmp .eq 9, 3, 85, 0, .null) := rfl
theorem f_156_79 : px_at 156 79 = some (.iload_n 3, 1, 0, 0, .null) := rfl
theorem f_156_80 : px_at 156 80 = some (.bipush 72, 2, 0, 0, .null) := rfl
theorem f_156_82 : px_at 156 82 = some (.if_icmp .ne 7, 3, 89, 0, .null) := rfl
theorem f_156_85 : px_at 156 85 = some (.iconst 1, 1, 0, 0, .null) := rfl
theorem f_156_86 : px_at 156 86 = some (.goto 4, 3, 90, 0, .null) := rfl
theorem f_156_89 : px_at 156 89 = some (.iconst 0, 1, 0, 0, .null) := rfl
theorem f_156_90 : px_at 156 90 = some (.putfield 293, 3, 12, 45, .null) := rfl
theorem f_156_93 : px_at 156 93 = some (.iinc 2 1, 3, 0, 0, .null) := rfl
theorem f_156_96 : px_at 156 96 = some (.goto (-84), 3, 12, 0, .null) := rfl
theorem f_156_99 : px_at 156 99 = some (.aload_n 0, 1, 0, 0, .null) := rfl
theorem f_156_100 : px_at 156 100 = some (.invokevirtual 306, 3, 155, 1, .null) := rfl
theorem f_156_103 : px_at 156 103 = some (.iconst 0, 1, 0, 0, .null) := rfl
theorem f_156_104 : px_at 156 104 = some (.istore_n 2, 1, 0, 0, .null) := rfl
theorem f_156_105 : px_at 156 105 = some (.iconst 0, 1, 0, 0, .null) := rfl
theorem f_156_106 : px_at 156 106 = some (.istore_n 3, 1, 0, 0, .null) := rfl
theorem f_156_107 : px_at 156 107 = some (.iload_n 3, 1, 0, 0, .null) := rfl
theorem f_156_108 : px_at 156 108 = some (.aload_n 0, 1, 0, 0, .null) := rfl
theorem f_156_109 : px_at 156 109 = some (.getfield 303, 3, 12, 52, .null) := rfl
theorem f_156_112 : px_at 156 112 = some (.if_icmp .ge 182, 3, 294, 0, .null) := rfl
theorem f_156_115 : px_at 156 115 = some (.aload_n 0, 1, 0, 0, .null) := rfl
theorem f_156_116 : px_at 156 116 = some (.getfield 232, 3, 12, 41, .null) := rfl
theorem f_156_119 : px_at 156 119 = some (.ifCond .ne 175, 3, 294, 0, .null) := rfl
theorem f_156_122 : px_at 156 122 = some (.bipush 24, 2, 0, 0, .null) := rfl
theorem f_156_124 : px_at 156 124 = some (.iload_n 1, 1, 0, 0, .null) := rfl
theorem f_156_125 : px_at 156 125 = some (.imul, 1, 0, 0, .null) := rfl
theorem f_156_126 : px_at 156 126 = some (.aload_n 0, 1, 0, 0, .null) := rfl
theorem f_156_127 : px_at 156 127 = some (.getfield 91, 3, 12, 51, .null) := rfl
theorem f_156_130 : px_at 156 130 = some (.iload_n 3, 1, 0, 0, .null) := rfl
theorem f_156_131 : px_at 156 131 = some (.iaload, 1, 0, 0, .null) := rfl
theorem f_156_132 : px_at 156 132 = some (.iadd, 1, 0, 0, .null) := rfl
theorem f_156_133 : px_at 156 133 = some (.istore 4, 2, 0, 0, .null) := rfl
theorem f_156_135 : px_at 156 135 = some (.aload_n 0, 1, 0, 0, .null) := rfl
theorem f_156_136 : px_at 156 136 = some (.getfield 26, 3, 12, 8, .null) := rfl
theorem f_156_139 : px_at 156 139 = some (.iload 4, 2, 0, 0, .null) := rfl
theorem f_156_141 : px_at 156 141 = some (.caload, 1, 0, 0, .null) := rfl
theorem f_156_142 : px_at 156 142 = some (.bipush 107, 2, 0, 0, .null) := rfl
theorem f_156_144 : px_at 156 144 = some (.if_icmp .ne 36, 3, 180, 0, .null) := rfl
theorem f_156_147 : px_at 156 147 = some (.aload_n 0, 1, 0, 0, .null) := rfl
theorem f_156_148 : px_at 156 148 = some (.dup, 1, 0, 0, .null) := rfl
theorem f_156_149 : px_at 156 149 = some (.getfield 287, 3, 12, 43, .null) := rfl
theorem f_156_152 : px_at 156 152 = some (.iconst 1, 1, 0, 0, .null) := rfl
theorem f_156_153 : px_at 156 153 = some (.iadd, 1, 0, 0, .null) := rfl
theorem f_156_154 : px_at 156 154 = some (.putfield 287, 3, 12, 43, .null) := rfl
theorem f_156_157 : px_at 156 157 = some (.aload_n 0, 1, 0, 0, .null) := rfl
theorem f_156_158 : px_at 156 158 = some (.invokevirtual 309, 3, 152, 1, .null) := rfl
theorem f_156_161 : px_at 156 161 = some (.aload_n 0, 1, 0, 0, .null) := rfl
theorem f_156_162 : px_at 156 162 = some (.aload_n 0, 1, 0, 0, .null) := rfl
theorem f_156_163 : px_at 156 163 = some (.getfield 64, 3, 12, 31, .null) := rfl
theorem f_156_166 : px_at 156 166 = some (.aload_n 0, 1, 0, 0, .null) := rfl
theorem f_156_167 : px_at 156 167 = some (.getfield 67, 3, 12, 32, .null) := rfl
theorem f_156_170 : px_at 156 170 = some (.invokevirtual 299, 3, 153, 1, .null) := rfl
theorem f_156_173 : px_at 156 173 = some (.iload_n 3, 1, 0, 0, .null) := rfl
theorem f_156_174 : px_at 156 174 = some (.iconst 1, 1, 0, 0, .null) := rfl
theorem f_156_175 : px_at 156 175 = some (.iadd, 1, 0, 0, .null) := rfl
theorem f_156_176 : px_at 156 176 = some (.istore_n 2, 1, 0, 0, .null) := rfl
theorem f_156_177 : px_at 156 177 = some (.goto 111, 3, 288, 0, .null) := rfl
theorem f_156_180 : px_at 156 180 = some (.aload_n 0, 1, 0, 0, .null) := rfl
theorem f_156_181 : px_at 156 181 = some (.getfield 26, 3, 12, 8, .null) := rfl
theorem f_156_184 : px_at 156 184 = some (.iload 4, 2, 0, 0, .null) := rfl
theorem f_156_186 : px_at 156 186 = some (.caload, 1, 0, 0, .null) := rfl
theorem f_156_187 : px_at 156 187 = some (.bipush 120, 2, 0, 0, .null) := rfl
theorem f_156_189 : px_at 156 189 = some (.if_icmp .ne 93, 3, 282, 0, .null) := rfl
theorem f_156_192 : px_at 156 192 = some (.aload_n 0, 1, 0, 0, .null) := rfl
theorem f_156_193 : px_at 156 193 = some (.dup, 1, 0, 0, .null) := rfl
theorem f_156_194 : px_at 156 194 = some (.getfield 287, 3, 12, 43, .null) := rfl
theorem f_156_197 : px_at 156 197 = some (.iconst 1, 1, 0, 0, .null) := rfl
theorem f_156_198 : px_at 156 198 = some (.iadd, 1, 0, 0, .null) := rfl
theorem f_156_199 : px_at 156 199 = some (.putfield 287, 3, 12, 43, .null) := rfl
theorem f_156_202 : px_at 156 202 = some (.aload_n 0, 1, 0, 0, .null) := rfl
theorem f_156_203 : px_at 156 203 = some (.aload_n 0, 1, 0, 0, .null) := rfl
theorem f_156_204 : px_at 156 204 = some (.getfield 67, 3, 12, 32, .null) := rfl
theorem f_156_207 : px_at 156 207 = some (.aload_n 0, 1, 0, 0, .null) := rfl
theorem f_156_208 : px_at 156 208 = some (.getfield 64, 3, 12, 31, .null) := rfl
theorem f_156_211 : px_at 156 211 = some (.invokevirtual 299, 3, 153, 1, .null) := rfl
theorem f_156_214 : px_at 156 214 = some (.aload_n 0, 1, 0, 0, .null) := rfl
theorem f_156_215 : px_at 156 215 = some (.iconst 0, 1, 0, 0, .null) := rfl
theorem f_156_216 : px_at 156 216 = some (.putfield 265, 3, 12, 33, .null) := rfl
theorem f_156_219 : px_at 156 219 = some (.iload_n 2, 1, 0, 0, .null) := rfl
theorem f_156_220 : px_at 156 220 = some (.istore 5, 2, 0, 0, .null) := rfl
theorem f_156_222 : px_at 156 222 = some (.iload 5, 2, 0, 0, .null) := rfl
theorem f_156_224 : px_at 156 224 = some (.iload_n 3, 1, 0, 0, .null) := rfl
theorem f_156_225 : px_at 156 225 = some (.if_icmp .ge 54, 3, 279, 0, .null) := rfl
theorem f_156_228 : px_at 156 228 = some (.aload_n 0, 1, 0, 0, .null) := rfl
theorem f_156_229 : px_at 156 229 = some (.getfield 232, 3, 12, 41, .null) := rfl
theorem f_156_232 : px_at 156 232 = some (.ifCond .ne 47, 3, 279, 0, .null) := rfl
theorem f_156_235 : px_at 156 235 = some (.aload_n 0, 1, 0, 0, .null) := rfl
theorem f_156_236 : px_at 156 236 = some (.getfield 26, 3, 12, 8, .null) := rfl
theorem f_156_239 : px_at 156 239 = some (.bipush 24, 2, 0, 0, .null) := rfl
theorem f_156_241 : px_at 156 241 = some (.iload_n 1, 1, 0, 0, .null) := rfl
theorem f_156_242 : px_at 156 242 = some (.imul, 1, 0, 0, .null) := rfl
theorem f_156_243 : px_at 156 243 = some (.aload_n 0, 1, 0, 0, .null) := rfl
theorem f_156_244 : px_at 156 244 = some (.getfield 91, 3, 12, 51, .null) := rfl
theorem f_156_247 : px_at 156 247 = some (.iload 5, 2, 0, 0, .null) := rfl
theorem f_156_249 : px_at 156 249 = some (.iaload, 1, 0, 0, .null) := rfl
theorem f_156_250 : px_at 156 250 = some (.iadd, 1, 0, 0, .null) := rfl
theorem f_156_251 : px_at 156 251 = some (.caload, 1, 0, 0, .null) := rfl
theorem f_156_252 : px_at 156 252 = some (.bipush 120, 2, 0, 0, .null) := rfl
theorem f_156_254 : px_at 156 254 = some (.if_icmp .eq 19, 3, 273, 0, .null) := rfl
theorem f_156_257 : px_at 156 257 = some (.aload_n 0, 1, 0, 0, .null) := rfl
theorem f_156_258 : px_at 156 258 = some (.bipush 24, 2, 0, 0, .null) := rfl
theorem f_156_260 : px_at 156 260 = some (.iload_n 1, 1, 0, 0, .null) := rfl
theorem f_156_261 : px_at 156 261 = some (.imul, 1, 0, 0, .null) := rfl
theorem f_156_262 : px_at 156 262 = some (.aload_n 0, 1, 0, 0, .null) := rfl
theorem f_156_263 : px_at 156 263 = some (.getfield 91, 3, 12, 51, .null) := rfl
theorem f_156_266 : px_at 156 266 = some (.iload 5, 2, 0, 0, .null) := rfl
theorem f_156_268 : px_at 156 268 = some (.iaload, 1, 0, 0, .null) := rfl
theorem f_156_269 : px_at 156 269 = some (.iadd, 1, 0, 0, .null) := rfl
theorem f_156_270 : px_at 156 270 = some (.invokevirtual 312, 3, 154, 1, .null) := rfl
theorem f_156_273 : px_at 156 273 = some (.iinc 5 1, 3, 0, 0, .null) := rfl
theorem f_156_276 : px_at 156 276 = some (.goto (-54), 3, 222, 0, .null) := rfl
theorem f_156_279 : px_at 156 279 = some (.goto 9, 3, 288, 0, .null) := rfl
theorem f_156_282 : px_at 156 282 = some (.aload_n 0, 1, 0, 0, .null) := rfl
theorem f_156_283 : px_at 156 283 = some (.iload 4, 2, 0, 0, .null) := rfl
theorem f_156_285 : px_at 156 285 = some (.invokevirtual 312, 3, 154, 1, .null) := rfl
theorem f_156_288 : px_at 156 288 = some (.iinc 3 1, 3, 0, 0, .null) := rfl
theorem f_156_291 : px_at 156 291 = some (.goto (-184), 3, 107, 0, .null) := rfl
theorem f_156_294 : px_at 156 294 = some (.aload_n 0, 1, 0, 0, .null) := rfl
theorem f_156_295 : px_at 156 295 = some (.getfield 232, 3, 12, 41, .null) := rfl
theorem f_156_298 : px_at 156 298 = some (.ifCond .ne 10, 3, 308, 0, .null) := rfl
theorem f_156_301 : px_at 156 301 = some (.aload_n 0, 1, 0, 0, .null) := rfl
theorem f_156_302 : px_at 156 302 = some (.sipush 5000, 3, 0, 0, .null) := rfl
theorem f_156_305 : px_at 156 305 = some (.invokevirtual 296, 3, 151, 1, .null) := rfl
theorem f_156_308 : px_at 156 308 = some (.aload_n 0, 1, 0, 0, .null) := rfl
theorem f_156_309 : px_at 156 309 = some (.getfield 232, 3, 12, 41, .null) := rfl
theorem f_156_312 : px_at 156 312 = some (.ifCond .ne 7, 3, 319, 0, .null) := rfl
theorem f_156_315 : px_at 156 315 = some (.aload_n 0, 1, 0, 0, .null) := rfl
theorem f_156_316 : px_at 156 316 = some (.invokevirtual 309, 3, 152, 1, .null) := rfl
theorem f_156_319 : px_at 156 319 = some (.aload_n 0, 1, 0, 0, .null) := rfl
theorem f_156_320 : px_at 156 320 = some (.iconst 0, 1, 0, 0, .null) := rfl
theorem f_156_321 : px_at 156 321 = some (.putfield 265, 3, 12, 33, .null) := rfl
theorem f_156_324 : px_at 156 324 = some (.return_, 1, 0, 0, .null) := rfl

theorem f_157_0 : px_at 157 0 = some (.aload_n 0, 1, 0, 0, .null) := rfl
theorem f_157_1 : px_at 157 1 = some (.aload_n 0, 1, 0, 0, .null) := rfl
theorem f_157_2 : px_at 157 2 = some (.getfield 23, 3, 12, 7, .null) := rfl
theorem f_157_5 : px_at 157 5 = some (.iload_n 1, 1, 0, 0, .null) := rfl
theorem f_157_6 : px_at 157 6 = some (.iaload, 1, 0, 0, .null) := rfl
theorem f_157_7 : px_at 157 7 = some (.putfield 303, 3, 12, 52, .null) := rfl
theorem f_157_10 : px_at 157 10 = some (.iconst 0, 1, 0, 0, .null) := rfl
theorem f_157_11 : px_at 157 11 = some (.istore_n 2, 1, 0, 0, .null) := rfl
theorem f_157_12 : px_at 157 12 = some (.iload_n 2, 1, 0, 0, .null) := rfl
theorem f_157_13 : px_at 157 13 = some (.aload_n 0, 1, 0, 0, .null) := rfl
theorem f_157_14 : px_at 157 14 = some (.getfield 303, 3, 12, 52, .null) := rfl
theorem f_157_17 : px_at 157 17 = some (.if_icmp .ge 16, 3, 33, 0, .null) := rfl
theorem f_157_20 : px_at 157 20 = some (.aload_n 0, 1, 0, 0, .null) := rfl
theorem f_157_21 : px_at 157 21 = some (.getfield 91, 3, 12, 51, .null) := rfl
theorem f_157_24 : px_at 157 24 = some (.iload_n 2, 1, 0, 0, .null) := rfl
theorem f_157_25 : px_at 157 25 = some (.iload_n 2, 1, 0, 0, .null) := rfl
theorem f_157_26 : px_at 157 26 = some (.iastore, 1, 0, 0, .null) := rfl
theorem f_157_27 : px_at 157 27 = some (.iinc 2 1, 3, 0, 0, .null) := rfl
theorem f_157_30 : px_at 157 30 = some (.goto (-18), 3, 12, 0, .null) := rfl
theorem f_157_33 : px_at 157 33 = some (.return_, 1, 0, 0, .null) := rfl

theorem f_158_0 : px_at 158 0 = some (.aload_n 0, 1, 0, 0, .null) := rfl
theorem f_158_1 : px_at 158 1 = some (.invokevirtual 315, 3, 140, 1, .null) := rfl
theorem f_158_4 : px_at 158 4 = some (.aload_n 0, 1, 0, 0, .null) := rfl
theorem f_158_5 : px_at 158 5 = some (.iload_n 1, 1, 0, 0, .null) := rfl
theorem f_158_6 : px_at 158 6 = some (.invokevirtual 318, 3, 157, 1, .null) := rfl
theorem f_158_9 : px_at 158 9 = some (.aload_n 0, 1, 0, 0, .null) := rfl
theorem f_158_10 : px_at 158 10 = some (.iload_n 1, 1, 0, 0, .null) := rfl
theorem f_158_11 : px_at 158 11 = some (.invokevirtual 321, 3, 156, 1, .null) := rfl
theorem f_158_14 : px_at 158 14 = some (.return_, 1, 0, 0, .null) := rfl

theorem f_159_0 : px_at 159 0 = some (.aload_n 0, 1, 0, 0, .null) := rfl
theorem f_159_1 : px_at 159 1 = some (.aload_n 0, 1, 0, 0, .null) := rfl
theorem f_159_2 : px_at 159 2 = some (.getfield 284, 3, 12, 37, .null) := rfl
theorem f_159_5 : px_at 159 5 = some (.putfield 324, 3, 12, 53, .null) := rfl
theorem f_159_8 : px_at 159 8 = some (.iconst 0, 1, 0, 0, .null) := rfl
theorem f_159_9 : px_at 159 9 = some (.istore_n 1, 1, 0, 0, .null) := rfl
theorem f_159_10 : px_at 159 10 = some (.iload_n 1, 1, 0, 0, .null) := rfl
theorem f_159_11 : px_at 159 11 = some (.aload_n 0, 1, 0, 0, .null) := rfl
theorem f_159_12 : px_at 159 12 = some (.getfield 284, 3, 12, 37, .null) := rfl
theorem f_159_15 : px_at 159 15 = some (.if_icmp .ge 45, 3, 60, 0, .null) := rfl
theorem f_159_18 : px_at 159 18 = some (.aload_n 0, 1, 0, 0, .null) := rfl
theorem f_159_19 : px_at 159 19 = some (.getfield 94, 3, 12, 54, .null) := rfl
theorem f_159_22 : px_at 159 22 = some (.iload_n 1, 1, 0, 0, .null) := rfl
theorem f_159_23 : px_at 159 23 = some (.aload_n 0, 1, 0, 0, .null) := rfl
theorem f_159_24 : px_at 159 24 = some (.getfield 79, 3, 12, 38, .null) := rfl
theorem f_159_27 : px_at 159 27 = some (.iload_n 1, 1, 0, 0, .null) := rfl
theorem f_159_28 : px_at 159 28 = some (.baload, 1, 0, 0, .null) := rfl
theorem f_159_29 : px_at 159 29 = some (.bastore, 1, 0, 0, .null) := rfl
theorem f_159_30 : px_at 159 30 = some (.aload_n 0, 1, 0, 0, .null) := rfl
theorem f_159_31 : px_at 159 31 = some (.getfield 97, 3, 12, 55, .null) := rfl
theorem f_159_34 : px_at 159 34 = some (.iload_n 1, 1, 0, 0, .null) := rfl
theorem f_159_35 : px_at 159 35 = some (.aload_n 0, 1, 0, 0, .null) := rfl
theorem f_159_36 : px_at 159 36 = some (.getfield 82, 3, 12, 39, .null) := rfl
theorem f_159_39 : px_at 159 39 = some (.iload_n 1, 1, 0, 0, .null) := rfl
theorem f_159_40 : px_at 159 40 = some (.iaload, 1, 0, 0, .null) := rfl
theorem f_159_41 : px_at 159 41 = some (.iastore, 1, 0, 0, .null) := rfl
theorem f_159_42 : px_at 159 42 = some (.aload_n 0, 1, 0, 0, .null) := rfl
theorem f_159_43 : px_at 159 43 = some (.getfield 100, 3, 12, 56, .null) := rfl
theorem f_159_46 : px_at 159 46 = some (.iload_n 1, 1, 0, 0, .null) := rfl
theorem f_159_47 : px_at 159 47 = some (.aload_n 0, 1, 0, 0, .null) := rfl
theorem f_159_48 : px_at 159 48 = some (.getfield 85, 3, 12, 40, .null) := rfl
theorem f_159_51 : px_at 159 51 = some (.iload_n 1, 1, 0, 0, .null) := rfl
theorem f_159_52 : px_at 159 52 = some (.iaload, 1, 0, 0, .null) := rfl
theorem f_159_53 : px_at 159 53 = some (.iastore, 1, 0, 0, .null) := rfl
theorem f_159_54 : px_at 159 54 = some (.iinc 1 1, 3, 0, 0, .null) := rfl
theorem f_159_57 : px_at 159 57 = some (.goto (-47), 3, 10, 0, .null) := rfl
theorem f_159_60 : px_at 159 60 = some (.return_, 1, 0, 0, .null) := rfl

theorem f_160_0 : px_at 160 0 = some (.aload_n 0, 1, 0, 0, .null) := rfl
theorem f_160_1 : px_at 160 1 = some (.aload_n 0, 1, 0, 0, .null) := rfl
theorem f_160_2 : px_at 160 2 = some (.getfield 40, 3, 12, 12, .null) := rfl
theorem f_160_5 : px_at 160 5 = some (.iload_n 1, 1, 0, 0, .null) := rfl
theorem f_160_6 : px_at 160 6 = some (.iaload, 1, 0, 0, .null) := rfl
theorem f_160_7 : px_at 160 7 = some (.putfield 327, 3, 12, 57, .null) := rfl
theorem f_160_10 : px_at 160 10 = some (.iconst 0, 1, 0, 0, .null) := rfl
theorem f_160_11 : px_at 160 11 = some (.istore_n 2, 1, 0, 0, .null) := rfl
theorem f_160_12 : px_at 160 12 = some (.iload_n 2, 1, 0, 0, .null) := rfl
theorem f_160_13 : px_at 160 13 = some (.aload_n 0, 1, 0, 0, .null) := rfl
theorem f_160_14 : px_at 160 14 = some (.getfield 327, 3, 12, 57, .null) := rfl
theorem f_160_17 : px_at 160 17 = some (.if_icmp .ge 60, 3, 77, 0, .null) := rfl
theorem f_160_20 : px_at 160 20 = some (.aload_n 0, 1, 0, 0, .null) := rfl
theorem f_160_21 : px_at 160 21 = some (.getfield 103, 3, 12, 58, .null) := rfl
theorem f_160_24 : px_at 160 24 = some (.iload_n 2, 1, 0, 0, .null) := rfl
theorem f_160_25 : px_at 160 25 = some (.aload_n 0, 1, 0, 0, .null) := rfl
theorem f_160_26 : px_at 160 26 = some (.getfield 43, 3, 12, 13, .null) := rfl
theorem f_160_29 : px_at 160 29 = some (.bipush 16, 2, 0, 0, .null) := rfl
theorem f_160_31 : px_at 160 31 = some (.iload_n 1, 1, 0, 0, .null) := rfl
theorem f_160_32 : px_at 160 32 = some (.imul, 1, 0, 0, .null) := rfl
theorem f_160_33 : px_at 160 33 = some (.iload_n 2, 1, 0, 0, .null) := rfl
theorem f_160_34 : px_at 160 34 = some (.iadd, 1, 0, 0, .null) := rfl
theorem f_160_35 : px_at 160 35 = some (.baload, 1, 0, 0, .null) := rfl
theorem f_160_36 : px_at 160 36 = some (.bastore, 1, 0, 0, .null) := rfl
theorem f_160_37 : px_at 160 37 = some (.aload_n 0, 1, 0, 0, .null) := rfl
theorem f_160_38 : px_at 160 38 = some (.getfield 106, 3, 12, 59, .null) := rfl
theorem f_160_41 : px_at 160 41 = some (.iload_n 2, 1, 0, 0, .null) := rfl
theorem f_160_42 : px_at 160 42 = some (.aload_n 0, 1, 0, 0, .null) := rfl
theorem f_160_43 : px_at 160 43 = some (.getfield 46, 3, 12, 14, .null) := rfl
theorem f_160_46 : px_at 160 46 = some (.bipush 16, 2, 0, 0, .null) := rfl
theorem f_160_48 : px_at 160 48 = some (.iload_n 1, 1, 0, 0, .null) := rfl
theorem f_160_49 : px_at 160 49 = some (.imul, 1, 0, 0, .null) := rfl
theorem f_160_50 : px_at 160 50 = some (.iload_n 2, 1, 0, 0, .null) := rfl
theorem f_160_51 : px_at 160 51 = some (.iadd, 1, 0, 0, .null) := rfl
theorem f_160_52 : px_at 160 52 = some (.saload, 1, 0, 0, .null) := rfl
theorem f_160_53 : px_at 160 53 = some (.iastore, 1, 0, 0, .null) := rfl
theorem f_160_54 : px_at 160 54 = some (.aload_n 0, 1, 0, 0, .null) := rfl
theorem f_160_55 : px_at 160 55 = some (.getfield 109, 3, 12, 60, .null) := rfl
theorem f_160_58 : px_at 160 58 = some (.iload_n 2, 1, 0, 0, .null) := rfl
theorem f_160_59 : px_at 160 59 = some (.aload_n 0, 1, 0, 0, .null) := rfl
theorem f_160_60 : px_at 160 60 = some (.getfield 49, 3, 12, 15, .null) := rfl
theorem f_160_63 : px_at 160 63 = some (.bipush 16, 2, 0, 0, .null) := rfl
theorem f_160_65 : px_at 160 65 = some (.iload_n 1, 1, 0, 0, .null) := rfl
theorem f_160_66 : px_at 160 66 = some (.imul, 1, 0, 0, .null) := rfl
theorem f_160_67 : px_at 160 67 = some (.iload_n 2, 1, 0, 0, .null) := rfl
theorem f_160_68 : px_at 160 68 = some (.iadd, 1, 0, 0, .null) := rfl
theorem f_160_69 : px_at 160 69 = some (.saload, 1, 0, 0, .null) := rfl
theorem f_160_70 : px_at 160 70 = some (.iastore, 1, 0, 0, .null) := rfl
theorem f_160_71 : px_at 160 71 = some (.iinc 2 1, 3, 0, 0, .null) := rfl
theorem f_160_74 : px_at 160 74 = some (.goto (-62), 3, 12, 0, .null) := rfl
theorem f_160_77 : px_at 160 77 = some (.return_, 1, 0, 0, .null) := rfl

theorem f_161_0 : px_at 161 0 = some (.iload_n 0, 1, 0, 0, .null) := rfl
theorem f_161_1 : px_at 161 1 = some (.iload_n 3, 1, 0, 0, .null) := rfl
theorem f_161_2 : px_at 161 2 = some (.if_icmp .eq 16, 3, 18, 0, .null) := rfl
theorem f_161_5 : px_at 161 5 = some (.iload_n 0, 1, 0, 0, .null) := rfl
theorem f_161_6 : px_at 161 6 = some (.iload_n 3, 1, 0, 0, .null) := rfl
theorem f_161_7 : px_at 161 7 = some (.if_icmp .ge 7, 3, 14, 0, .null) := rfl
theorem f_161_10 : px_at 161 10 = some (.iconst 1, 1, 0, 0, .null) := rfl
theorem f_161_11 : px_at 161 11 = some (.goto 38, 3, 49, 0, .null) := rfl
theorem f_161_14 : px_at 161 14 = some (.iconst 0, 1, 0, 0, .null) := rfl
theorem f_161_15 : px_at 161 15 = some (.goto 34, 3, 49, 0, .null) := rfl
theorem f_161_18 : px_at 161 18 = some (.iload_n 1, 1, 0, 0, .null) := rfl
theorem f_161_19 : px_at 161 19 = some (.iload 4, 2, 0, 0, .null) := rfl
theorem f_161_21 : px_at 161 21 = some (.if_icmp .eq 17, 3, 38, 0, .null) := rfl
theorem f_161_24 : px_at 161 24 = some (.iload_n 1, 1, 0, 0, .null) := rfl
theorem f_161_25 : px_at 161 25 = some (.iload 4, 2, 0, 0, .null) := rfl
theorem f_161_27 : px_at 161 27 = some (.if_icmp .ge 7, 3, 34, 0, .null) := rfl
theorem f_161_30 : px_at 161 30 = some (.iconst 1, 1, 0, 0, .null) := rfl
theorem f_161_31 : px_at 161 31 = some (.goto 18, 3, 49, 0, .null) := rfl
theorem f_161_34 : px_at 161 34 = some (.iconst 0, 1, 0, 0, .null) := rfl
theorem f_161_35 : px_at 161 35 = some (.goto 14, 3, 49, 0, .null) := rfl
theorem f_161_38 : px_at 161 38 = some (.iload_n 2, 1, 0, 0, .null) := rfl
theorem f_161_39 : px_at 161 39 = some (.iload 5, 2, 0, 0, .null) := rfl
theorem f_161_41 : px_at 161 41 = some (.if_icmp .ge 7, 3, 48, 0, .null) := rfl
theorem f_161_44 : px_at 161 44 = some (.iconst 1, 1, 0, 0, .null) := rfl
theorem f_161_45 : px_at 161 45 = some (.goto 4, 3, 49, 0, .null) := rfl
theorem f_161_48 : px_at 161 48 = some (.iconst 0, 1, 0, 0, .null) := rfl
theorem f_161_49 : px_at 161 49 = some (.ireturn, 1, 0, 0, .null) := rfl

theorem f_162_0 : px_at 162 0 = some (.iconst 1, 1, 0, 0, .null) := rfl
theorem f_162_1 : px_at 162 1 = some (.istore 4, 2, 0, 0, .null) := rfl
theorem f_162_3 : px_at 162 3 = some (.iload 4, 2, 0, 0, .null) := rfl
theorem f_162_5 : px_at 162 5 = some (.iload_n 3, 1, 0, 0, .null) := rfl
theorem f_162_6 : px_at 162 6 = some (.if_icmp .ge 120, 3, 126, 0, .null) := rfl
theorem f_162_9 : px_at 162 9 = some (.aload_n 0, 1, 0, 0, .null) := rfl
theorem f_162_10 : px_at 162 10 = some (.iload 4, 2, 0, 0, .null) := rfl
theorem f_162_12 : px_at 162 12 = some (.baload, 1, 0, 0, .null) := rfl
theorem f_162_13 : px_at 162 13 = some (.istore 5, 2, 0, 0, .null) := rfl
theorem f_162_15 : px_at 162 15 = some (.aload_n 1, 1, 0, 0, .null) := rfl
theorem f_162_16 : px_at 162 16 = some (.iload 4, 2, 0, 0, .null) := rfl
theorem f_162_18 : px_at 162 18 = some (.iaload, 1, 0, 0, .null) := rfl
theorem f_162_19 : px_at 162 19 = some (.istore 6, 2, 0, 0, .null) := rfl
theorem f_162_21 : px_at 162 21 = some (.aload_n 2, 1, 0, 0, .null) := rfl
theorem f_162_22 : px_at 162 22 = some (.iload 4, 2, 0, 0, .null) := rfl
theorem f_162_24 : px_at 162 24 = some (.iaload, 1, 0, 0, .null) := rfl
theorem f_162_25 : px_at 162 25 = some (.istore 7, 2, 0, 0, .null) := rfl
theorem f_162_27 : px_at 162 27 = some (.iload 4, 2, 0, 0, .null) := rfl
theorem f_162_29 : px_at 162 29 = some (.istore 8, 2, 0, 0, .null) := rfl
theorem f_162_31 : px_at 162 31 = some (.iload 8, 2, 0, 0, .null) := rfl
theorem f_162_33 : px_at 162 33 = some (.ifCond .le 69, 3, 102, 0, .null) := rfl
theorem f_162_36 : px_at 162 36 = some (.iload 5, 2, 0, 0, .null) := rfl
theorem f_162_38 : px_at 162 38 = some (.iload 6, 2, 0, 0, .null) := rfl
theorem f_162_40 : px_at 162 40 = some (.iload 7, 2, 0, 0, .null) := rfl
theorem f_162_42 : px_at 162 42 = some (.aload_n 0, 1, 0, 0, .null) := rfl
theorem f_162_43 : px_at 162 43 = some (.iload 8, 2, 0, 0, .null) := rfl
theorem f_162_45 : px_at 162 45 = some (.iconst 1, 1, 0, 0, .null) := rfl
theorem f_162_46 : px_at 162 46 = some (.isub, 1, 0, 0, .null) := rfl
theorem f_162_47 : px_at 162 47 = some (.baload, 1, 0, 0, .null) := rfl
theorem f_162_48 : px_at 162 48 = some (.aload_n 1, 1, 0, 0, .null) := rfl
theorem f_162_49 : px_at 162 49 = some (.iload 8, 2, 0, 0, .null) := rfl
theorem f_162_51 : px_at 162 51 = some (.iconst 1, 1, 0, 0, .null) := rfl
theorem f_162_52 : px_at 162 52 = some (.isub, 1, 0, 0, .null) := rfl
theorem f_162_53 : px_at 162 53 = some (.iaload, 1, 0, 0, .null) := rfl
theorem f_162_54 : px_at 162 54 = some (.aload_n 2, 1, 0, 0, .null) := rfl
theorem f_162_55 : px_at 162 55 = some (.iload 8, 2, 0, 0, .null) := rfl
theorem f_162_57 : px_at 162 57 = some (.iconst 1, 1, 0, 0, .null) := rfl
theorem f_162_58 : px_at 162 58 = some (.isub, 1, 0, 0, .null) := rfl
theorem f_162_59 : px_at 162 59 = some (.iaload, 1, 0, 0, .null) := rfl
theorem f_162_60 : px_at 162 60 = some (.invokestatic 330, 3, 161, 2, .null) := rfl
theorem f_162_63 : px_at 162 63 = some (.ifCond .eq 39, 3, 102, 0, .null) := rfl
theorem f_162_66 : px_at 162 66 = some (.aload_n 0, 1, 0, 0, .null) := rfl
theorem f_162_67 : px_at 162 67 = some (.iload 8, 2, 0, 0, .null) := rfl
theorem f_162_69 : px_at 162 69 = some (.aload_n 0, 1, 0, 0, .null) := rfl
theorem f_162_70 : px_at 162 70 = some (.iload 8, 2, 0, 0, .null) := rfl
theorem f_162_72 : px_at 162 72 = some (.iconst 1, 1, 0, 0, .null) := rfl
theorem f_162_73 : px_at 162 73 = some (.isub, 1, 0, 0, .null) := rfl
theorem f_162_74 : px_at 162 74 = some (.baload, 1, 0, 0, .null) := rfl
theorem f_162_75 : px_at 162 75 = some (.bastore, 1, 0, 0, .null) := rfl
theorem f_162_76 : px_at 162 76 = some (.aload_n 1, 1, 0, 0, .null) := rfl
theorem f_162_77 : px_at 162 77 = some (.iload 8, 2, 0, 0, .null) := rfl
theorem f_162_79 : px_at 162 79 = some (.aload_n 1, 1, 0, 0, .null) := rfl
theorem f_162_80 : px_at 162 80 = some (.iload 8, 2, 0, 0, .null) := rfl
theorem f_162_82 : px_at 162 82 = some (.iconst 1, 1, 0, 0, .null) := rfl
theorem f_162_83 : px_at 162 83 = some (.isub, 1, 0, 0, .null) := rfl
theorem f_162_84 : px_at 162 84 = some (.iaload, 1, 0, 0, .null) := rfl
theorem f_162_85 : px_at 162 85 = some (.iastore, 1, 0, 0, .null) := rfl
theorem f_162_86 : px_at 162 86 = some (.aload_n 2, 1, 0, 0, .null) := rfl
theorem f_162_87 : px_at 162 87 = some (.iload 8, 2, 0, 0, .null) := rfl
theorem f_162_89 : px_at 162 89 = some (.aload_n 2, 1, 0, 0, .null) := rfl
theorem f_162_90 : px_at 162 90 = some (.iload 8, 2, 0, 0, .null) := rfl
theorem f_162_92 : px_at 162 92 = some (.iconst 1, 1, 0, 0, .null) := rfl
theorem f_162_93 : px_at 162 93 = some (.isub, 1, 0, 0, .null) := rfl
theorem f_162_94 : px_at 162 94 = some (.iaload, 1, 0, 0, .null) := rfl
theorem f_162_95 : px_at 162 95 = some (.iastore, 1, 0, 0, .null) := rfl
theorem f_162_96 : px_at 162 96 = some (.iinc 8 (-1), 3, 0, 0, .null) := rfl
theorem f_162_99 : px_at 162 99 = some (.goto (-68), 3, 31, 0, .null) := rfl
theorem f_162_102 : px_at 162 102 = some (.aload_n 0, 1, 0, 0, .null) := rfl
theorem f_162_103 : px_at 162 103 = some (.iload 8, 2, 0, 0, .null) := rfl
theorem f_162_105 : px_at 162 105 = some (.iload 5, 2, 0, 0, .null) := rfl
theorem f_162_107 : px_at 162 107 = some (.bastore, 1, 0, 0, .null) := rfl
theorem f_162_108 : px_at 162 108 = some (.aload_n 1, 1, 0, 0, .null) := rfl
theorem f_162_109 : px_at 162 109 = some (.iload 8, 2, 0, 0, .null) := rfl
theorem f_162_111 : px_at 162 111 = some (.iload 6, 2, 0, 0, .null) := rfl
theorem f_162_113 : px_at 162 113 = some (.iastore, 1, 0, 0, .null) := rfl
theorem f_162_114 : px_at 162 114 = some (.aload_n 2, 1, 0, 0, .null) := rfl
theorem f_162_115 : px_at 162 115 = some (.iload 8, 2, 0, 0, .null) := rfl
theorem f_162_117 : px_at 162 117 = some (.iload 7, 2, 0, 0, .null) := rfl
theorem f_162_119 : px_at 162 119 = some (.iastore, 1, 0, 0, .null) := rfl
theorem f_162_120 : px_at 162 120 = some (.iinc 4 1, 3, 0, 0, .null) := rfl
theorem f_162_123 : px_at 162 123 = some (.goto (-120), 3, 3, 0, .null) := rfl
theorem f_162_126 : px_at 162 126 = some (.return_, 1, 0, 0, .null) := rfl

theorem f_163_0 : px_at 163 0 = some (.aload_n 0, 1, 0, 0, .null) := rfl
theorem f_163_1 : px_at 163 1 = some (.getfield 94, 3, 12, 54, .null) := rfl
theorem f_163_4 : px_at 163 4 = some (.aload_n 0, 1, 0, 0, .null) := rfl
theorem f_163_5 : px_at 163 5 = some (.getfield 97, 3, 12, 55, .null) := rfl
theorem f_163_8 : px_at 163 8 = some (.aload_n 0, 1, 0, 0, .null) := rfl
theorem f_163_9 : px_at 163 9 = some (.getfield 100, 3, 12, 56, .null) := rfl
theorem f_163_12 : px_at 163 12 = some (.aload_n 0, 1, 0, 0, .null) := rfl
theorem f_163_13 : px_at 163 13 = some (.getfield 324, 3, 12, 53, .null) := rfl
theorem f_163_16 : px_at 163 16 = some (.invokestatic 334, 3, 162, 2, .null) := rfl
theorem f_163_19 : px_at 163 19 = some (.aload_n 0, 1, 0, 0, .null) := rfl
theorem f_163_20 : px_at 163 20 = some (.getfield 103, 3, 12, 58, .null) := rfl
theorem f_163_23 : px_at 163 23 = some (.aload_n 0, 1, 0, 0, .null) := rfl
theorem f_163_24 : px_at 163 24 = some (.getfield 106, 3, 12, 59, .null) := rfl
theorem f_163_27 : px_at 163 27 = some (.aload_n 0, 1, 0, 0, .null) := rfl
theorem f_163_28 : px_at 163 28 = some (.getfield 109, 3, 12, 60, .null) := rfl
theorem f_163_31 : px_at 163 31 = some (.aload_n 0, 1, 0, 0, .null) := rfl
theorem f_163_32 : px_at 163 32 = some (.getfield 327, 3, 12, 57, .null) := rfl
theorem f_163_35 : px_at 163 35 = some (.invokestatic 334, 3, 162, 2, .null) := rfl
theorem f_163_38 : px_at 163 38 = some (.return_, 1, 0, 0, .null) := rfl

theorem f_164_0 : px_at 164 0 = some (.aload_n 0, 1, 0, 0, .null) := rfl
theorem f_164_1 : px_at 164 1 = some (.getfield 324, 3, 12, 53, .null) := rfl
theorem f_164_4 : px_at 164 4 = some (.aload_n 0, 1, 0, 0, .null) := rfl
theorem f_164_5 : px_at 164 5 = some (.getfield 327, 3, 12, 57, .null) := rfl
theorem f_164_8 : px_at 164 8 = some (.if_icmp .ge 10, 3, 18, 0, .null) := rfl
theorem f_164_11 : px_at 164 11 = some (.aload_n 0, 1, 0, 0, .null) := rfl
theorem f_164_12 : px_at 164 12 = some (.getfield 324, 3, 12, 53, .null) := rfl
theorem f_164_15 : px_at 164 15 = some (.goto 7, 3, 22, 0, .null) := rfl
theorem f_164_18 : px_at 164 18 = some (.aload_n 0, 1, 0, 0, .null) := rfl
theorem f_164_19 : px_at 164 19 = some (.getfield 327, 3, 12, 57, .null) := rfl
theorem f_164_22 : px_at 164 22 = some (.istore_n 1, 1, 0, 0, .null) := rfl
theorem f_164_23 : px_at 164 23 = some (.iconst 0, 1, 0, 0, .null) := rfl
theorem f_164_24 : px_at 164 24 = some (.istore_n 2, 1, 0, 0, .null) := rfl
theorem f_164_25 : px_at 164 25 = some (.iload_n 2, 1, 0, 0, .null) := rfl
theorem f_164_26 : px_at 164 26 = some (.iload_n 1, 1, 0, 0, .null) := rfl
theorem f_164_27 : px_at 164 27 = some (.if_icmp .ge 56, 3, 83, 0, .null) := rfl
theorem f_164_30 : px_at 164 30 = some (.aload_n 0, 1, 0, 0, .null) := rfl
theorem f_164_31 : px_at 164 31 = some (.getfield 94, 3, 12, 54, .null) := rfl
theorem f_164_34 : px_at 164 34 = some (.iload_n 2, 1, 0, 0, .null) := rfl
theorem f_164_35 : px_at 164 35 = some (.baload, 1, 0, 0, .null) := rfl
theorem f_164_36 : px_at 164 36 = some (.aload_n 0, 1, 0, 0, .null) := rfl
theorem f_164_37 : px_at 164 37 = some (.getfield 103, 3, 12, 58, .null) := rfl
theorem f_164_40 : px_at 164 40 = some (.iload_n 2, 1, 0, 0, .null) := rfl
theorem f_164_41 : px_at 164 41 = some (.baload, 1, 0, 0, .null) := rfl
theorem f_164_42 : px_at 164 42 = some (.if_icmp .ne 33, 3, 75, 0, .null) := rfl
theorem f_164_45 : px_at 164 45 = some (.aload_n 0, 1, 0, 0, .null) := rfl
theorem f_164_46 : px_at 164 46 = some (.getfield 97, 3, 12, 55, .null) := rfl
theorem f_164_49 : px_at 164 49 = some (.iload_n 2, 1, 0, 0, .null) := rfl
theorem f_164_50 : px_at 164 50 = some (.iaload, 1, 0, 0, .null) := rfl
theorem f_164_51 : px_at 164 51 = some (.aload_n 0, 1, 0, 0, .null) := rfl
theorem f_164_52 : px_at 164 52 = some (.getfield 106, 3, 12, 59, .null) := rfl
theorem f_164_55 : px_at 164 55 = some (.iload_n 2, 1, 0, 0, .null) := rfl
theorem f_164_56 : px_at 164 56 = some (.iaload, 1, 0, 0, .null) := rfl
theorem f_164_57 : px_at 164 57 = some (.if_icmp .ne 18, 3, 75, 0, .null) := rfl
theorem f_164_60 : px_at 164 60 = some (.aload_n 0, 1, 0, 0, .null) := rfl
theorem f_164_61 : px_at 164 61 = some (.getfield 100, 3, 12, 56, .null) := rfl
theorem f_164_64 : px_at 164 64 = some (.iload_n 2, 1, 0, 0, .null) := rfl
theorem f_164_65 : px_at 164 65 = some (.iaload, 1, 0, 0, .null) := rfl
theorem f_164_66 : px_at 164 66 = some (.aload_n 0, 1, 0, 0, .null) := rfl
theorem f_164_67 : px_at 164 67 = some (.getfield 109, 3, 12, 60, .null) := rfl
theorem f_164_70 : px_at 164 70 = some (.iload_n 2, 1, 0, 0, .null) := rfl
theorem f_164_71 : px_at 164 71 = some (.iaload, 1, 0, 0, .null) := rfl
theorem f_164_72 : px_at 164 72 = some (.if_icmp .eq 5, 3, 77, 0, .null) := rfl
theorem f_164_75 : px_at 164 75 = some (.iload_n 2, 1, 0, 0, .null) := rfl
theorem f_164_76 : px_at 164 76 = some (.ireturn, 1, 0, 0, .null) := rfl
theorem f_164_77 : px_at 164 77 = some (.iinc 2 1, 3, 0, 0, .null) := rfl
theorem f_164_80 : px_at 164 80 = some (.goto (-55), 3, 25, 0, .null) := rfl
theorem f_164_83 : px_at 164 83 = some (.aload_n 0, 1, 0, 0, .null) := rfl
theorem f_164_84 : px_at 164 84 = some (.getfield 324, 3, 12, 53, .null) := rfl
theorem f_164_87 : px_at 164 87 = some (.aload_n 0, 1, 0, 0, .null) := rfl
theorem f_164_88 : px_at 164 88 = some (.getfield 327, 3, 12, 57, .null) := rfl
theorem f_164_91 : px_at 164 91 = some (.if_icmp .ne 8, 3, 99, 0, .null) := rfl
theorem f_164_94 : px_at 164 94 = some (.bipush (-3), 2, 0, 0, .null) := rfl
theorem f_164_96 : px_at 164 96 = some (.goto 4, 3, 100, 0, .null) := rfl
theorem f_164_99 : px_at 164 99 = some (.iload_n 1, 1, 0, 0, .null) := rfl
theorem f_164_100 : px_at 164 100 = some (.ireturn, 1, 0, 0, .null) := rfl

theorem f_165_0 : px_at 165 0 = some (.aload_n 0, 1, 0, 0, .null) := rfl
theorem f_165_1 : px_at 165 1 = some (.invokevirtual 338, 3, 159, 1, .null) := rfl
theorem f_165_4 : px_at 165 4 = some (.aload_n 0, 1, 0, 0, .null) := rfl
theorem f_165_5 : px_at 165 5 = some (.iload_n 1, 1, 0, 0, .null) := rfl
theorem f_165_6 : px_at 165 6 = some (.invokevirtual 341, 3, 160, 1, .null) := rfl
theorem f_165_9 : px_at 165 9 = some (.aload_n 0, 1, 0, 0, .null) := rfl
theorem f_165_10 : px_at 165 10 = some (.getfield 52, 3, 12, 16, .null) := rfl
theorem f_165_13 : px_at 165 13 = some (.iload_n 1, 1, 0, 0, .null) := rfl
theorem f_165_14 : px_at 165 14 = some (.caload, 1, 0, 0, .null) := rfl
theorem f_165_15 : px_at 165 15 = some (.bipush 126, 2, 0, 0, .null) := rfl
theorem f_165_17 : px_at 165 17 = some (.if_icmp .ne 7, 3, 24, 0, .null) := rfl
theorem f_165_20 : px_at 165 20 = some (.aload_n 0, 1, 0, 0, .null) := rfl
theorem f_165_21 : px_at 165 21 = some (.invokevirtual 344, 3, 163, 1, .null) := rfl
theorem f_165_24 : px_at 165 24 = some (.aload_n 0, 1, 0, 0, .null) := rfl
theorem f_165_25 : px_at 165 25 = some (.invokevirtual 347, 3, 164, 1, .null) := rfl
theorem f_165_28 : px_at 165 28 = some (.ireturn, 1, 0, 0, .null) := rfl

theorem f_166_0 : px_at 166 0 = some (.aload_n 0, 1, 0, 0, .null) := rfl
theorem f_166_1 : px_at 166 1 = some (.iload_n 1, 1, 0, 0, .null) := rfl
theorem f_166_2 : px_at 166 2 = some (.invokevirtual 351, 3, 165, 1, .null) := rfl
theorem f_166_5 : px_at 166 5 = some (.bipush (-3), 2, 0, 0, .null) := rfl
theorem f_166_7 : px_at 166 7 = some (.if_icmp .ne 7, 3, 14, 0, .null) := rfl
theorem f_166_10 : px_at 166 10 = some (.iconst 1, 1, 0, 0, .null) := rfl
theorem f_166_11 : px_at 166 11 = some (.goto 4, 3, 15, 0, .null) := rfl
theorem f_166_14 : px_at 166 14 = some (.iconst 0, 1, 0, 0, .null) := rfl
theorem f_166_15 : px_at 166 15 = some (.istore_n 2, 1, 0, 0, .null) := rfl
theorem f_166_16 : px_at 166 16 = some (.aload_n 0, 1, 0, 0, .null) := rfl
theorem f_166_17 : px_at 166 17 = some (.getfield 52, 3, 12, 16, .null) := rfl
theorem f_166_20 : px_at 166 20 = some (.iload_n 1, 1, 0, 0, .null) := rfl
theorem f_166_21 : px_at 166 21 = some (.caload, 1, 0, 0, .null) := rfl
theorem f_166_22 : px_at 166 22 = some (.bipush 33, 2, 0, 0, .null) := rfl
theorem f_166_24 : px_at 166 24 = some (.if_icmp .ne 22, 3, 46, 0, .null) := rfl
theorem f_166_27 : px_at 166 27 = some (.aload_n 0, 1, 0, 0, .null) := rfl
theorem f_166_28 : px_at 166 28 = some (.getfield 232, 3, 12, 41, .null) := rfl
theorem f_166_31 : px_at 166 31 = some (.ifCond .eq 11, 3, 42, 0, .null) := rfl
theorem f_166_34 : px_at 166 34 = some (.iload_n 2, 1, 0, 0, .null) := rfl
theorem f_166_35 : px_at 166 35 = some (.ifCond .eq 7, 3, 42, 0, .null) := rfl
theorem f_166_38 : px_at 166 38 = some (.iconst 1, 1, 0, 0, .null) := rfl
theorem f_166_39 : px_at 166 39 = some (.goto 27, 3, 66, 0, .null) := rfl
theorem f_166_42 : px_at 166 42 = some (.iconst 0, 1, 0, 0, .null) := rfl
theorem f_166_43 : px_at 166 43 = some (.goto 23, 3, 66, 0, .null) := rfl
theorem f_166_46 : px_at 166 46 = some (.aload_n 0, 1, 0, 0, .null) := rfl
theorem f_166_47 : px_at 166 47 = some (.getfield 232, 3, 12, 41, .null) := rfl
theorem f_166_50 : px_at 166 50 = some (.ifCond .eq 7, 3, 57, 0, .null) := rfl
theorem f_166_53 : px_at 166 53 = some (.iconst 2, 1, 0, 0, .null) := rfl
theorem f_166_54 : px_at 166 54 = some (.goto 12, 3, 66, 0, .null) := rfl
theorem f_166_57 : px_at 166 57 = some (.iload_n 2, 1, 0, 0, .null) := rfl
theorem f_166_58 : px_at 166 58 = some (.ifCond .eq 7, 3, 65, 0, .null) := rfl
theorem f_166_61 : px_at 166 61 = some (.iconst 1, 1, 0, 0, .null) := rfl
theorem f_166_62 : px_at 166 62 = some (.goto 4, 3, 66, 0, .null) := rfl
theorem f_166_65 : px_at 166 65 = some (.iconst 0, 1, 0, 0, .null) := rfl
theorem f_166_66 : px_at 166 66 = some (.ireturn, 1, 0, 0, .null) := rfl

theorem f_167_0 : px_at 167 0 = some (.iload_n 1, 1, 0, 0, .null) := rfl
theorem f_167_1 : px_at 167 1 = some (.iconst 0, 1, 0, 0, .null) := rfl
theorem f_167_2 : px_at 167 2 = some (.aload_n 0, 1, 0, 0, .null) := rfl
theorem f_167_3 : px_at 167 3 = some (.getfield 223, 3, 12, 6, .null) := rfl
theorem f_167_6 : px_at 167 6 = some (.iconst 1, 1, 0, 0, .null) := rfl
theorem f_167_7 : px_at 167 7 = some (.isub, 1, 0, 0, .null) := rfl
theorem f_167_8 : px_at 167 8 = some (.invokestatic 115, 3, 118, 2, .null) := rfl
theorem f_167_11 : px_at 167 11 = some (.ireturn, 1, 0, 0, .null) := rfl

theorem f_168_0 : px_at 168 0 = some (.aload_n 0, 1, 0, 0, .null) := rfl
theorem f_168_1 : px_at 168 1 = some (.iload_n 1, 1, 0, 0, .null) := rfl
theorem f_168_2 : px_at 168 2 = some (.invokevirtual 355, 3, 167, 1, .null) := rfl
theorem f_168_5 : px_at 168 5 = some (.ifCond .ne 5, 3, 10, 0, .null) := rfl
theorem f_168_8 : px_at 168 8 = some (.iconst (-1), 1, 0, 0, .null) := rfl
theorem f_168_9 : px_at 168 9 = some (.ireturn, 1, 0, 0, .null) := rfl
theorem f_168_10 : px_at 168 10 = some (.aload_n 0, 1, 0, 0, .null) := rfl
theorem f_168_11 : px_at 168 11 = some (.iload_n 1, 1, 0, 0, .null) := rfl
theorem f_168_12 : px_at 168 12 = some (.invokevirtual 358, 3, 158, 1, .null) := rfl
theorem f_168_15 : px_at 168 15 = some (.aload_n 0, 1, 0, 0, .null) := rfl
theorem f_168_16 : px_at 168 16 = some (.iload_n 1, 1, 0, 0, .null) := rfl
theorem f_168_17 : px_at 168 17 = some (.invokevirtual 361, 3, 166, 1, .null) := rfl
theorem f_168_20 : px_at 168 20 = some (.ireturn, 1, 0, 0, .null) := rfl

theorem f_169_0 : px_at 169 0 = some (.aload_n 0, 1, 0, 0, .null) := rfl
theorem f_169_1 : px_at 169 1 = some (.iload_n 1, 1, 0, 0, .null) := rfl
theorem f_169_2 : px_at 169 2 = some (.invokevirtual 355, 3, 167, 1, .null) := rfl
theorem f_169_5 : px_at 169 5 = some (.ifCond .eq 12, 3, 17, 0, .null) := rfl
theorem f_169_8 : px_at 169 8 = some (.iload_n 2, 1, 0, 0, .null) := rfl
theorem f_169_9 : px_at 169 9 = some (.iconst 0, 1, 0, 0, .null) := rfl
theorem f_169_10 : px_at 169 10 = some (.iconst 4, 1, 0, 0, .null) := rfl
theorem f_169_11 : px_at 169 11 = some (.invokestatic 115, 3, 118, 2, .null) := rfl
theorem f_169_14 : px_at 169 14 = some (.ifCond .ne 5, 3, 19, 0, .null) := rfl
theorem f_169_17 : px_at 169 17 = some (.iconst (-1), 1, 0, 0, .null) := rfl
theorem f_169_18 : px_at 169 18 = some (.ireturn, 1, 0, 0, .null) := rfl
theorem f_169_19 : px_at 169 19 = some (.aload_n 0, 1, 0, 0, .null) := rfl
theorem f_169_20 : px_at 169 20 = some (.iload_n 1, 1, 0, 0, .null) := rfl
theorem f_169_21 : px_at 169 21 = some (.invokevirtual 358, 3, 158, 1, .null) := rfl
theorem f_169_24 : px_at 169 24 = some (.iload_n 2, 1, 0, 0, .null) := rfl
theorem f_169_25 : px_at 169 25 = some (.ifCond .ne 10, 3, 35, 0, .null) := rfl
theorem f_169_28 : px_at 169 28 = some (.aload_n 0, 1, 0, 0, .null) := rfl
theorem f_169_29 : px_at 169 29 = some (.getfield 284, 3, 12, 37, .null) := rfl
theorem f_169_32 : px_at 169 32 = some (.goto 53, 3, 85, 0, .null) := rfl
theorem f_169_35 : px_at 169 35 = some (.iload_n 2, 1, 0, 0, .null) := rfl
theorem f_169_36 : px_at 169 36 = some (.iconst 1, 1, 0, 0, .null) := rfl
theorem f_169_37 : px_at 169 37 = some (.if_icmp .ne 12, 3, 49, 0, .null) := rfl
theorem f_169_40 : px_at 169 40 = some (.aload_n 0, 1, 0, 0, .null) := rfl
theorem f_169_41 : px_at 169 41 = some (.getfield 64, 3, 12, 31, .null) := rfl
theorem f_169_44 : px_at 169 44 = some (.iconst 3, 1, 0, 0, .null) := rfl
theorem f_169_45 : px_at 169 45 = some (.iaload, 1, 0, 0, .null) := rfl
theorem f_169_46 : px_at 169 46 = some (.goto 39, 3, 85, 0, .null) := rfl
theorem f_169_49 : px_at 169 49 = some (.iload_n 2, 1, 0, 0, .null) := rfl
theorem f_169_50 : px_at 169 50 = some (.iconst 2, 1, 0, 0, .null) := rfl
theorem f_169_51 : px_at 169 51 = some (.if_icmp .ne 18, 3, 69, 0, .null) := rfl
theorem f_169_54 : px_at 169 54 = some (.aload_n 0, 1, 0, 0, .null) := rfl
theorem f_169_55 : px_at 169 55 = some (.getfield 232, 3, 12, 41, .null) := rfl
theorem f_169_58 : px_at 169 58 = some (.ifCond .eq 7, 3, 65, 0, .null) := rfl
theorem f_169_61 : px_at 169 61 = some (.iconst 1, 1, 0, 0, .null) := rfl
theorem f_169_62 : px_at 169 62 = some (.goto 23, 3, 85, 0, .null) := rfl
theorem f_169_65 : px_at 169 65 = some (.iconst 0, 1, 0, 0, .null) := rfl
theorem f_169_66 : px_at 169 66 = some (.goto 19, 3, 85, 0, .null) := rfl
theorem f_169_69 : px_at 169 69 = some (.iload_n 2, 1, 0, 0, .null) := rfl
theorem f_169_70 : px_at 169 70 = some (.iconst 3, 1, 0, 0, .null) := rfl
theorem f_169_71 : px_at 169 71 = some (.if_icmp .ne 10, 3, 81, 0, .null) := rfl
theorem f_169_74 : px_at 169 74 = some (.aload_n 0, 1, 0, 0, .null) := rfl
theorem f_169_75 : px_at 169 75 = some (.getfield 235, 3, 12, 42, .null) := rfl
theorem f_169_78 : px_at 169 78 = some (.goto 7, 3, 85, 0, .null) := rfl
theorem f_169_81 : px_at 169 81 = some (.aload_n 0, 1, 0, 0, .null) := rfl
theorem f_169_82 : px_at 169 82 = some (.getfield 287, 3, 12, 43, .null) := rfl
theorem f_169_85 : px_at 169 85 = some (.ireturn, 1, 0, 0, .null) := rfl

theorem f_170_0 : px_at 170 0 = some (.aload_n 0, 1, 0, 0, .null) := rfl
theorem f_170_1 : px_at 170 1 = some (.iload_n 1, 1, 0, 0, .null) := rfl
theorem f_170_2 : px_at 170 2 = some (.invokevirtual 355, 3, 167, 1, .null) := rfl
theorem f_170_5 : px_at 170 5 = some (.ifCond .eq 12, 3, 17, 0, .null) := rfl
theorem f_170_8 : px_at 170 8 = some (.iload_n 3, 1, 0, 0, .null) := rfl
theorem f_170_9 : px_at 170 9 = some (.iconst 0, 1, 0, 0, .null) := rfl
theorem f_170_10 : px_at 170 10 = some (.iconst 2, 1, 0, 0, .null) := rfl
theorem f_170_11 : px_at 170 11 = some (.invokestatic 115, 3, 118, 2, .null) := rfl
theorem f_170_14 : px_at 170 14 = some (.ifCond .ne 5, 3, 19, 0, .null) := rfl
theorem f_170_17 : px_at 170 17 = some (.iconst (-1), 1, 0, 0, .null) := rfl
theorem f_170_18 : px_at 170 18 = some (.ireturn, 1, 0, 0, .null) := rfl
theorem f_170_19 : px_at 170 19 = some (.aload_n 0, 1, 0, 0, .null) := rfl
theorem f_170_20 : px_at 170 20 = some (.iload_n 1, 1, 0, 0, .null) := rfl
theorem f_170_21 : px_at 170 21 = some (.invokevirtual 358, 3, 158, 1, .null) := rfl
theorem f_170_24 : px_at 170 24 = some (.iload_n 2, 1, 0, 0, .null) := rfl
theorem f_170_25 : px_at 170 25 = some (.iconst 0, 1, 0, 0, .null) := rfl
theorem f_170_26 : px_at 170 26 = some (.aload_n 0, 1, 0, 0, .null) := rfl
theorem f_170_27 : px_at 170 27 = some (.getfield 284, 3, 12, 37, .null) := rfl
theorem f_170_30 : px_at 170 30 = some (.iconst 1, 1, 0, 0, .null) := rfl
theorem f_170_31 : px_at 170 31 = some (.isub, 1, 0, 0, .null) := rfl
theorem f_170_32 : px_at 170 32 = some (.invokestatic 115, 3, 118, 2, .null) := rfl
theorem f_170_35 : px_at 170 35 = some (.ifCond .ne 5, 3, 40, 0, .null) := rfl
theorem f_170_38 : px_at 170 38 = some (.iconst 0, 1, 0, 0, .null) := rfl
theorem f_170_39 : px_at 170 39 = some (.ireturn, 1, 0, 0, .null) := rfl
theorem f_170_40 : px_at 170 40 = some (.iload_n 3, 1, 0, 0, .null) := rfl
theorem f_170_41 : px_at 170 41 = some (.ifCond .ne 12, 3, 53, 0, .null) := rfl
theorem f_170_44 : px_at 170 44 = some (.aload_n 0, 1, 0, 0, .null) := rfl
theorem f_170_45 : px_at 170 45 = some (.getfield 79, 3, 12, 38, .null) := rfl
theorem f_170_48 : px_at 170 48 = some (.iload_n 2, 1, 0, 0, .null) := rfl
theorem f_170_49 : px_at 170 49 = some (.baload, 1, 0, 0, .null) := rfl
theorem f_170_50 : px_at 170 50 = some (.goto 23, 3, 73, 0, .null) := rfl
theorem f_170_53 : px_at 170 53 = some (.iload_n 3, 1, 0, 0, .null) := rfl
theorem f_170_54 : px_at 170 54 = some (.iconst 1, 1, 0, 0, .null) := rfl
theorem f_170_55 : px_at 170 55 = some (.if_icmp .ne 12, 3, 67, 0, .null) := rfl
theorem f_170_58 : px_at 170 58 = some (.aload_n 0, 1, 0, 0, .null) := rfl
theorem f_170_59 : px_at 170 59 = some (.getfield 82, 3, 12, 39, .null) := rfl
theorem f_170_62 : px_at 170 62 = some (.iload_n 2, 1, 0, 0, .null) := rfl
theorem f_170_63 : px_at 170 63 = some (.iaload, 1, 0, 0, .null) := rfl
theorem f_170_64 : px_at 170 64 = some (.goto 9, 3, 73, 0, .null) := rfl
theorem f_170_67 : px_at 170 67 = some (.aload_n 0, 1, 0, 0, .null) := rfl
theorem f_170_68 : px_at 170 68 = some (.getfield 85, 3, 12, 40, .null) := rfl
theorem f_170_71 : px_at 170 71 = some (.iload_n 2, 1, 0, 0, .null) := rfl
theorem f_170_72 : px_at 170 72 = some (.iaload, 1, 0, 0, .null) := rfl
theorem f_170_73 : px_at 170 73 = some (.ireturn, 1, 0, 0, .null) := rfl

theorem f_171_0 : px_at 171 0 = some (.aload_n 0, 1, 0, 0, .null) := rfl
theorem f_171_1 : px_at 171 1 = some (.iload_n 1, 1, 0, 0, .null) := rfl
theorem f_171_2 : px_at 171 2 = some (.invokevirtual 355, 3, 167, 1, .null) := rfl
theorem f_171_5 : px_at 171 5 = some (.ifCond .ne 5, 3, 10, 0, .null) := rfl
theorem f_171_8 : px_at 171 8 = some (.iconst (-1), 1, 0, 0, .null) := rfl
theorem f_171_9 : px_at 171 9 = some (.ireturn, 1, 0, 0, .null) := rfl
theorem f_171_10 : px_at 171 10 = some (.aload_n 0, 1, 0, 0, .null) := rfl
theorem f_171_11 : px_at 171 11 = some (.iload_n 1, 1, 0, 0, .null) := rfl
theorem f_171_12 : px_at 171 12 = some (.invokevirtual 358, 3, 158, 1, .null) := rfl
theorem f_171_15 : px_at 171 15 = some (.aload_n 0, 1, 0, 0, .null) := rfl
theorem f_171_16 : px_at 171 16 = some (.iload_n 1, 1, 0, 0, .null) := rfl
theorem f_171_17 : px_at 171 17 = some (.invokevirtual 351, 3, 165, 1, .null) := rfl
theorem f_171_20 : px_at 171 20 = some (.ireturn, 1, 0, 0, .null) := rfl

theorem f_172_0 : px_at 172 0 = some (.iload_n 0, 1, 0, 0, .null) := rfl
theorem f_172_1 : px_at 172 1 = some (.bipush 114, 2, 0, 0, .null) := rfl
theorem f_172_3 : px_at 172 3 = some (.if_icmp .eq 9, 3, 12, 0, .null) := rfl
theorem f_172_6 : px_at 172 6 = some (.iload_n 0, 1, 0, 0, .null) := rfl
theorem f_172_7 : px_at 172 7 = some (.bipush 104, 2, 0, 0, .null) := rfl
theorem f_172_9 : px_at 172 9 = some (.if_icmp .ne 7, 3, 16, 0, .null) := rfl
theorem f_172_12 : px_at 172 12 = some (.iconst 1, 1, 0, 0, .null) := rfl
theorem f_172_13 : px_at 172 13 = some (.goto 4, 3, 17, 0, .null) := rfl
theorem f_172_16 : px_at 172 16 = some (.iconst 0, 1, 0, 0, .null) := rfl
theorem f_172_17 : px_at 172 17 = some (.ireturn, 1, 0, 0, .null) := rfl

theorem f_173_0 : px_at 173 0 = some (.iload_n 0, 1, 0, 0, .null) := rfl
theorem f_173_1 : px_at 173 1 = some (.bipush 82, 2, 0, 0, .null) := rfl
theorem f_173_3 : px_at 173 3 = some (.if_icmp .eq 9, 3, 12, 0, .null) := rfl
theorem f_173_6 : px_at 173 6 = some (.iload_n 0, 1, 0, 0, .null) := rfl
theorem f_173_7 : px_at 173 7 = some (.bipush 72, 2, 0, 0, .null) := rfl
theorem f_173_9 : px_at 173 9 = some (.if_icmp .ne 7, 3, 16, 0, .null) := rfl
theorem f_173_12 : px_at 173 12 = some (.iconst 1, 1, 0, 0, .null) := rfl
theorem f_173_13 : px_at 173 13 = some (.goto 4, 3, 17, 0, .null) := rfl
theorem f_173_16 : px_at 173 16 = some (.iconst 0, 1, 0, 0, .null) := rfl
theorem f_173_17 : px_at 173 17 = some (.ireturn, 1, 0, 0, .null) := rfl

theorem f_174_0 : px_at 174 0 = some (.aload_n 0, 1, 0, 0, .null) := rfl
theorem f_174_1 : px_at 174 1 = some (.iconst 0, 1, 0, 0, .null) := rfl
theorem f_174_2 : px_at 174 2 = some (.putfield 364, 3, 12, 61, .null) := rfl
theorem f_174_5 : px_at 174 5 = some (.aload_n 0, 1, 0, 0, .null) := rfl
theorem f_174_6 : px_at 174 6 = some (.iconst 0, 1, 0, 0, .null) := rfl
theorem f_174_7 : px_at 174 7 = some (.putfield 367, 3, 12, 62, .null) := rfl
theorem f_174_10 : px_at 174 10 = some (.iconst 0, 1, 0, 0, .null) := rfl
theorem f_174_11 : px_at 174 11 = some (.istore_n 2, 1, 0, 0, .null) := rfl
theorem f_174_12 : px_at 174 12 = some (.iload_n 2, 1, 0, 0, .null) := rfl
theorem f_174_13 : px_at 174 13 = some (.aload_n 0, 1, 0, 0, .null) := rfl
theorem f_174_14 : px_at 174 14 = some (.getfield 23, 3, 12, 7, .null) := rfl
theorem f_174_17 : px_at 174 17 = some (.iload_n 1, 1, 0, 0, .null) := rfl
theorem f_174_18 : px_at 174 18 = some (.iaload, 1, 0, 0, .null) := rfl
theorem f_174_19 : px_at 174 19 = some (.if_icmp .ge 77, 3, 96, 0, .null) := rfl
theorem f_174_22 : px_at 174 22 = some (.aload_n 0, 1, 0, 0, .null) := rfl
theorem f_174_23 : px_at 174 23 = some (.aload_n 0, 1, 0, 0, .null) := rfl
theorem f_174_24 : px_at 174 24 = some (.getfield 26, 3, 12, 8, .null) := rfl
theorem f_174_27 : px_at 174 27 = some (.bipush 24, 2, 0, 0, .null) := rfl
theorem f_174_29 : px_at 174 29 = some (.iload_n 1, 1, 0, 0, .null) := rfl
theorem f_174_30 : px_at 174 30 = some (.imul, 1, 0, 0, .null) := rfl
theorem f_174_31 : px_at 174 31 = some (.iload_n 2, 1, 0, 0, .null) := rfl
theorem f_174_32 : px_at 174 32 = some (.iadd, 1, 0, 0, .null) := rfl
theorem f_174_33 : px_at 174 33 = some (.caload, 1, 0, 0, .null) := rfl
theorem f_174_34 : px_at 174 34 = some (.invokestatic 370, 3, 172, 2, .null) := rfl
theorem f_174_37 : px_at 174 37 = some (.ifCond .eq 12, 3, 49, 0, .null) := rfl
theorem f_174_40 : px_at 174 40 = some (.aload_n 0, 1, 0, 0, .null) := rfl
theorem f_174_41 : px_at 174 41 = some (.getfield 364, 3, 12, 61, .null) := rfl
theorem f_174_44 : px_at 174 44 = some (.iconst 1, 1, 0, 0, .null) := rfl
theorem f_174_45 : px_at 174 45 = some (.iadd, 1, 0, 0, .null) := rfl
theorem f_174_46 : px_at 174 46 = some (.goto 7, 3, 53, 0, .null) := rfl
theorem f_174_49 : px_at 174 49 = some (.aload_n 0, 1, 0, 0, .null) := rfl
theorem f_174_50 : px_at 174 50 = some (.getfield 364, 3, 12, 61, .null) := rfl
theorem f_174_53 : px_at 174 53 = some (.putfield 364, 3, 12, 61, .null) := rfl
theorem f_174_56 : px_at 174 56 = some (.aload_n 0, 1, 0, 0, .null) := rfl
theorem f_174_57 : px_at 174 57 = some (.aload_n 0, 1, 0, 0, .null) := rfl
theorem f_174_58 : px_at 174 58 = some (.getfield 26, 3, 12, 8, .null) := rfl
theorem f_174_61 : px_at 174 61 = some (.bipush 24, 2, 0, 0, .null) := rfl
theorem f_174_63 : px_at 174 63 = some (.iload_n 1, 1, 0, 0, .null) := rfl
theorem f_174_64 : px_at 174 64 = some (.imul, 1, 0, 0, .null) := rfl
theorem f_174_65 : px_at 174 65 = some (.iload_n 2, 1, 0, 0, .null) := rfl
theorem f_174_66 : px_at 174 66 = some (.iadd, 1, 0, 0, .null) := rfl
theorem f_174_67 : px_at 174 67 = some (.caload, 1, 0, 0, .null) := rfl
theorem f_174_68 : px_at 174 68 = some (.invokestatic 373, 3, 173, 2, .null) := rfl
theorem f_174_71 : px_at 174 71 = some (.ifCond .eq 12, 3, 83, 0, .null) := rfl
theorem f_174_74 : px_at 174 74 = some (.aload_n 0, 1, 0, 0, .null) := rfl
theorem f_174_75 : px_at 174 75 = some (.getfield 367, 3, 12, 62, .null) := rfl
theorem f_174_78 : px_at 174 78 = some (.iconst 1, 1, 0, 0, .null) := rfl
theorem f_174_79 : px_at 174 79 = some (.iadd, 1, 0, 0, .null) := rfl
theorem f_174_80 : px_at 174 80 = some (.goto 7, 3, 87, 0, .null) := rfl
theorem f_174_83 : px_at 174 83 = some (.aload_n 0, 1, 0, 0, .null) := rfl
theorem f_174_84 : px_at 174 84 = some (.getfield 367, 3, 12, 62, .null) := rfl
theorem f_174_87 : px_at 174 87 = some (.putfield 367, 3, 12, 62, .null) := rfl
theorem f_174_90 : px_at 174 90 = some (.iinc 2 1, 3, 0, 0, .null) := rfl
theorem f_174_93 : px_at 174 93 = some (.goto (-81), 3, 12, 0, .null) := rfl
theorem f_174_96 : px_at 174 96 = some (.return_, 1, 0, 0, .null) := rfl

theorem f_175_0 : px_at 175 0 = some (.iconst 0, 1, 0, 0, .null) := rfl
theorem f_175_1 : px_at 175 1 = some (.istore_n 3, 1, 0, 0, .null) := rfl
theorem f_175_2 : px_at 175 2 = some (.iload_n 3, 1, 0, 0, .null) := rfl
theorem f_175_3 : px_at 175 3 = some (.iload_n 2, 1, 0, 0, .null) := rfl
theorem f_175_4 : px_at 175 4 = some (.if_icmp .ge 45, 3, 49, 0, .null) := rfl
theorem f_175_7 : px_at 175 7 = some (.aload_n 0, 1, 0, 0, .null) := rfl
theorem f_175_8 : px_at 175 8 = some (.iload_n 1, 1, 0, 0, .null) := rfl
theorem f_175_9 : px_at 175 9 = some (.ifCond .eq 17, 3, 26, 0, .null) := rfl
theorem f_175_12 : px_at 175 12 = some (.aload_n 0, 1, 0, 0, .null) := rfl
theorem f_175_13 : px_at 175 13 = some (.getfield 376, 3, 12, 63, .null) := rfl
theorem f_175_16 : px_at 175 16 = some (.iconst 1, 1, 0, 0, .null) := rfl
theorem f_175_17 : px_at 175 17 = some (.aload_n 0, 1, 0, 0, .null) := rfl
theorem f_175_18 : px_at 175 18 = some (.getfield 379, 3, 12, 64, .null) := rfl
theorem f_175_21 : px_at 175 21 = some (.ishl, 1, 0, 0, .null) := rfl
theorem f_175_22 : px_at 175 22 = some (.ior, 1, 0, 0, .null) := rfl
theorem f_175_23 : px_at 175 23 = some (.goto 7, 3, 30, 0, .null) := rfl
theorem f_175_26 : px_at 175 26 = some (.aload_n 0, 1, 0, 0, .null) := rfl
theorem f_175_27 : px_at 175 27 = some (.getfield 376, 3, 12, 63, .null) := rfl
theorem f_175_30 : px_at 175 30 = some (.putfield 376, 3, 12, 63, .null) := rfl
theorem f_175_33 : px_at 175 33 = some (.aload_n 0, 1, 0, 0, .null) := rfl
theorem f_175_34 : px_at 175 34 = some (.dup, 1, 0, 0, .null) := rfl
theorem f_175_35 : px_at 175 35 = some (.getfield 379, 3, 12, 64, .null) := rfl
theorem f_175_38 : px_at 175 38 = some (.iconst 1, 1, 0, 0, .null) := rfl
theorem f_175_39 : px_at 175 39 = some (.iadd, 1, 0, 0, .null) := rfl
theorem f_175_40 : px_at 175 40 = some (.putfield 379, 3, 12, 64, .null) := rfl
theorem f_175_43 : px_at 175 43 = some (.iinc 3 1, 3, 0, 0, .null) := rfl
theorem f_175_46 : px_at 175 46 = some (.goto (-44), 3, 2, 0, .null) := rfl
theorem f_175_49 : px_at 175 49 = some (.return_, 1, 0, 0, .null) := rfl

theorem f_176_0 : px_at 176 0 = some (.iload_n 2, 1, 0, 0, .null) := rfl
theorem f_176_1 : px_at 176 1 = some (.ifCond .eq 10, 3, 11, 0, .null) := rfl
theorem f_176_4 : px_at 176 4 = some (.aload_n 0, 1, 0, 0, .null) := rfl
theorem f_176_5 : px_at 176 5 = some (.getfield 367, 3, 12, 62, .null) := rfl
theorem f_176_8 : px_at 176 8 = some (.goto 7, 3, 15, 0, .null) := rfl
theorem f_176_11 : px_at 176 11 = some (.aload_n 0, 1, 0, 0, .null) := rfl
theorem f_176_12 : px_at 176 12 = some (.getfield 364, 3, 12, 61, .null) := rfl
theorem f_176_15 : px_at 176 15 = some (.istore_n 3, 1, 0, 0, .null) := rfl
theorem f_176_16 : px_at 176 16 = some (.iload_n 2, 1, 0, 0, .null) := rfl
theorem f_176_17 : px_at 176 17 = some (.ifCond .eq 10, 3, 27, 0, .null) := rfl
theorem f_176_20 : px_at 176 20 = some (.aload_n 0, 1, 0, 0, .null) := rfl
theorem f_176_21 : px_at 176 21 = some (.getfield 364, 3, 12, 61, .null) := rfl
theorem f_176_24 : px_at 176 24 = some (.goto 7, 3, 31, 0, .null) := rfl
theorem f_176_27 : px_at 176 27 = some (.aload_n 0, 1, 0, 0, .null) := rfl
theorem f_176_28 : px_at 176 28 = some (.getfield 367, 3, 12, 62, .null) := rfl
theorem f_176_31 : px_at 176 31 = some (.istore 4, 2, 0, 0, .null) := rfl
theorem f_176_33 : px_at 176 33 = some (.aload_n 0, 1, 0, 0, .null) := rfl
theorem f_176_34 : px_at 176 34 = some (.iconst 0, 1, 0, 0, .null) := rfl
theorem f_176_35 : px_at 176 35 = some (.putfield 376, 3, 12, 63, .null) := rfl
theorem f_176_38 : px_at 176 38 = some (.aload_n 0, 1, 0, 0, .null) := rfl
theorem f_176_39 : px_at 176 39 = some (.iconst 0, 1, 0, 0, .null) := rfl
theorem f_176_40 : px_at 176 40 = some (.putfield 379, 3, 12, 64, .null) := rfl
theorem f_176_43 : px_at 176 43 = some (.iload_n 1, 1, 0, 0, .null) := rfl
theorem f_176_44 : px_at 176 44 = some (.ifCond .ne 78, 3, 122, 0, .null) := rfl
theorem f_176_47 : px_at 176 47 = some (.iload 4, 2, 0, 0, .null) := rfl
theorem f_176_49 : px_at 176 49 = some (.ifCond .ne 15, 3, 64, 0, .null) := rfl
theorem f_176_52 : px_at 176 52 = some (.iload_n 3, 1, 0, 0, .null) := rfl
theorem f_176_53 : px_at 176 53 = some (.ifCond .gt 7, 3, 60, 0, .null) := rfl
theorem f_176_56 : px_at 176 56 = some (.iload_n 2, 1, 0, 0, .null) := rfl
theorem f_176_57 : px_at 176 57 = some (.ifCond .ne 7, 3, 64, 0, .null) := rfl
theorem f_176_60 : px_at 176 60 = some (.iconst 1, 1, 0, 0, .null) := rfl
theorem f_176_61 : px_at 176 61 = some (.goto 4, 3, 65, 0, .null) := rfl
theorem f_176_64 : px_at 176 64 = some (.iconst 0, 1, 0, 0, .null) := rfl
theorem f_176_65 : px_at 176 65 = some (.istore 5, 2, 0, 0, .null) := rfl
theorem f_176_67 : px_at 176 67 = some (.aload_n 0, 1, 0, 0, .null) := rfl
theorem f_176_68 : px_at 176 68 = some (.iload_n 2, 1, 0, 0, .null) := rfl
theorem f_176_69 : px_at 176 69 = some (.iload 5, 2, 0, 0, .null) := rfl
theorem f_176_71 : px_at 176 71 = some (.ifCond .eq 7, 3, 78, 0, .null) := rfl
theorem f_176_74 : px_at 176 74 = some (.iload_n 3, 1, 0, 0, .null) := rfl
theorem f_176_75 : px_at 176 75 = some (.goto 4, 3, 79, 0, .null) := rfl
theorem f_176_78 : px_at 176 78 = some (.iconst 0, 1, 0, 0, .null) := rfl
theorem f_176_79 : px_at 176 79 = some (.invokevirtual 382, 3, 175, 1, .null) := rfl
theorem f_176_82 : px_at 176 82 = some (.aload_n 0, 1, 0, 0, .null) := rfl
theorem f_176_83 : px_at 176 83 = some (.iload 5, 2, 0, 0, .null) := rfl
theorem f_176_85 : px_at 176 85 = some (.ifCond .eq 12, 3, 97, 0, .null) := rfl
theorem f_176_88 : px_at 176 88 = some (.aload_n 0, 1, 0, 0, .null) := rfl
theorem f_176_89 : px_at 176 89 = some (.getfield 386, 3, 12, 65, .null) := rfl
theorem f_176_92 : px_at 176 92 = some (.iconst 1, 1, 0, 0, .null) := rfl
theorem f_176_93 : px_at 176 93 = some (.isub, 1, 0, 0, .null) := rfl
theorem f_176_94 : px_at 176 94 = some (.goto 7, 3, 101, 0, .null) := rfl
theorem f_176_97 : px_at 176 97 = some (.aload_n 0, 1, 0, 0, .null) := rfl
theorem f_176_98 : px_at 176 98 = some (.getfield 386, 3, 12, 65, .null) := rfl
theorem f_176_101 : px_at 176 101 = some (.putfield 386, 3, 12, 65, .null) := rfl
theorem f_176_104 : px_at 176 104 = some (.iload 5, 2, 0, 0, .null) := rfl
theorem f_176_106 : px_at 176 106 = some (.ifCond .eq 14, 3, 120, 0, .null) := rfl
theorem f_176_109 : px_at 176 109 = some (.aload_n 0, 1, 0, 0, .null) := rfl
theorem f_176_110 : px_at 176 110 = some (.getfield 386, 3, 12, 65, .null) := rfl
theorem f_176_113 : px_at 176 113 = some (.ifCond .ge 7, 3, 120, 0, .null) := rfl
theorem f_176_116 : px_at 176 116 = some (.iconst 1, 1, 0, 0, .null) := rfl
theorem f_176_117 : px_at 176 117 = some (.goto 4, 3, 121, 0, .null) := rfl
theorem f_176_120 : px_at 176 120 = some (.iconst 0, 1, 0, 0, .null) := rfl
theorem f_176_121 : px_at 176 121 = some (.ireturn, 1, 0, 0, .null) := rfl
theorem f_176_122 : px_at 176 122 = some (.iload_n 1, 1, 0, 0, .null) := rfl
theorem f_176_123 : px_at 176 123 = some (.iconst 1, 1, 0, 0, .null) := rfl
theorem f_176_124 : px_at 176 124 = some (.if_icmp .le 9, 3, 133, 0, .null) := rfl
theorem f_176_127 : px_at 176 127 = some (.iload_n 3, 1, 0, 0, .null) := rfl
theorem f_176_128 : px_at 176 128 = some (.iconst 1, 1, 0, 0, .null) := rfl
theorem f_176_129 : px_at 176 129 = some (.isub, 1, 0, 0, .null) := rfl
theorem f_176_130 : px_at 176 130 = some (.goto 4, 3, 134, 0, .null) := rfl
theorem f_176_133 : px_at 176 133 = some (.iload_n 3, 1, 0, 0, .null) := rfl
theorem f_176_134 : px_at 176 134 = some (.istore 5, 2, 0, 0, .null) := rfl
theorem f_176_136 : px_at 176 136 = some (.iload_n 1, 1, 0, 0, .null) := rfl
theorem f_176_137 : px_at 176 137 = some (.iconst 2, 1, 0, 0, .null) := rfl
theorem f_176_138 : px_at 176 138 = some (.if_icmp .le 10, 3, 148, 0, .null) := rfl
theorem f_176_141 : px_at 176 141 = some (.iload 4, 2, 0, 0, .null) := rfl
theorem f_176_143 : px_at 176 143 = some (.iconst 1, 1, 0, 0, .null) := rfl
theorem f_176_144 : px_at 176 144 = some (.isub, 1, 0, 0, .null) := rfl
theorem f_176_145 : px_at 176 145 = some (.goto 5, 3, 150, 0, .null) := rfl
theorem f_176_148 : px_at 176 148 = some (.iload 4, 2, 0, 0, .null) := rfl
theorem f_176_150 : px_at 176 150 = some (.istore 6, 2, 0, 0, .null) := rfl
theorem f_176_152 : px_at 176 152 = some (.iload_n 1, 1, 0, 0, .null) := rfl
theorem f_176_153 : px_at 176 153 = some (.iconst 1, 1, 0, 0, .null) := rfl
theorem f_176_154 : px_at 176 154 = some (.if_icmp .le 7, 3, 161, 0, .null) := rfl
theorem f_176_157 : px_at 176 157 = some (.iconst 1, 1, 0, 0, .null) := rfl
theorem f_176_158 : px_at 176 158 = some (.goto 4, 3, 162, 0, .null) := rfl
theorem f_176_161 : px_at 176 161 = some (.iload_n 3, 1, 0, 0, .null) := rfl
theorem f_176_162 : px_at 176 162 = some (.istore 7, 2, 0, 0, .null) := rfl
theorem f_176_164 : px_at 176 164 = some (.iload 7, 2, 0, 0, .null) := rfl
theorem f_176_166 : px_at 176 166 = some (.iload 5, 2, 0, 0, .null) := rfl
theorem f_176_168 : px_at 176 168 = some (.if_icmp .gt 112, 3, 280, 0, .null) := rfl
theorem f_176_171 : px_at 176 171 = some (.iload_n 3, 1, 0, 0, .null) := rfl
theorem f_176_172 : px_at 176 172 = some (.ifCond .le 108, 3, 280, 0, .null) := rfl
theorem f_176_175 : px_at 176 175 = some (.iload_n 1, 1, 0, 0, .null) := rfl
theorem f_176_176 : px_at 176 176 = some (.iconst 2, 1, 0, 0, .null) := rfl
theorem f_176_177 : px_at 176 177 = some (.if_icmp .le 7, 3, 184, 0, .null) := rfl
theorem f_176_180 : px_at 176 180 = some (.iconst 1, 1, 0, 0, .null) := rfl
theorem f_176_181 : px_at 176 181 = some (.goto 5, 3, 186, 0, .null) := rfl
theorem f_176_184 : px_at 176 184 = some (.iload 4, 2, 0, 0, .null) := rfl
theorem f_176_186 : px_at 176 186 = some (.istore 8, 2, 0, 0, .null) := rfl
theorem f_176_188 : px_at 176 188 = some (.iload 8, 2, 0, 0, .null) := rfl
theorem f_176_190 : px_at 176 190 = some (.iload 6, 2, 0, 0, .null) := rfl
theorem f_176_192 : px_at 176 192 = some (.if_icmp .gt 82, 3, 274, 0, .null) := rfl
theorem f_176_195 : px_at 176 195 = some (.iload 4, 2, 0, 0, .null) := rfl
theorem f_176_197 : px_at 176 197 = some (.ifCond .le 77, 3, 274, 0, .null) := rfl
theorem f_176_200 : px_at 176 200 = some (.aload_n 0, 1, 0, 0, .null) := rfl
theorem f_176_201 : px_at 176 201 = some (.dup, 1, 0, 0, .null) := rfl
theorem f_176_202 : px_at 176 202 = some (.getfield 386, 3, 12, 65, .null) := rfl
theorem f_176_205 : px_at 176 205 = some (.iconst 1, 1, 0, 0, .null) := rfl
theorem f_176_206 : px_at 176 206 = some (.isub, 1, 0, 0, .null) := rfl
theorem f_176_207 : px_at 176 207 = some (.putfield 386, 3, 12, 65, .null) := rfl
theorem f_176_210 : px_at 176 210 = some (.aload_n 0, 1, 0, 0, .null) := rfl
theorem f_176_211 : px_at 176 211 = some (.getfield 386, 3, 12, 65, .null) := rfl
theorem f_176_214 : px_at 176 214 = some (.ifCond .ge 54, 3, 268, 0, .null) := rfl
theorem f_176_217 : px_at 176 217 = some (.aload_n 0, 1, 0, 0, .null) := rfl
theorem f_176_218 : px_at 176 218 = some (.iload_n 2, 1, 0, 0, .null) := rfl
theorem f_176_219 : px_at 176 219 = some (.iload 7, 2, 0, 0, .null) := rfl
theorem f_176_221 : px_at 176 221 = some (.invokevirtual 382, 3, 175, 1, .null) := rfl
theorem f_176_224 : px_at 176 224 = some (.aload_n 0, 1, 0, 0, .null) := rfl
theorem f_176_225 : px_at 176 225 = some (.iload_n 2, 1, 0, 0, .null) := rfl
theorem f_176_226 : px_at 176 226 = some (.ifCond .ne 7, 3, 233, 0, .null) := rfl
theorem f_176_229 : px_at 176 229 = some (.iconst 1, 1, 0, 0, .null) := rfl
theorem f_176_230 : px_at 176 230 = some (.goto 4, 3, 234, 0, .null) := rfl
theorem f_176_233 : px_at 176 233 = some (.iconst 0, 1, 0, 0, .null) := rfl
theorem f_176_234 : px_at 176 234 = some (.iload 8, 2, 0, 0, .null) := rfl
theorem f_176_236 : px_at 176 236 = some (.invokevirtual 382, 3, 175, 1, .null) := rfl
theorem f_176_239 : px_at 176 239 = some (.aload_n 0, 1, 0, 0, .null) := rfl
theorem f_176_240 : px_at 176 240 = some (.iload_n 2, 1, 0, 0, .null) := rfl
theorem f_176_241 : px_at 176 241 = some (.iload_n 3, 1, 0, 0, .null) := rfl
theorem f_176_242 : px_at 176 242 = some (.iload 7, 2, 0, 0, .null) := rfl
theorem f_176_244 : px_at 176 244 = some (.isub, 1, 0, 0, .null) := rfl
theorem f_176_245 : px_at 176 245 = some (.invokevirtual 382, 3, 175, 1, .null) := rfl
theorem f_176_248 : px_at 176 248 = some (.aload_n 0, 1, 0, 0, .null) := rfl
theorem f_176_249 : px_at 176 249 = some (.iload_n 2, 1, 0, 0, .null) := rfl
theorem f_176_250 : px_at 176 250 = some (.ifCond .ne 7, 3, 257, 0, .null) := rfl
theorem f_176_253 : px_at 176 253 = some (.iconst 1, 1, 0, 0, .null) := rfl
theorem f_176_254 : px_at 176 254 = some (.goto 4, 3, 258, 0, .null) := rfl
theorem f_176_257 : px_at 176 257 = some (.iconst 0, 1, 0, 0, .null) := rfl
theorem f_176_258 : px_at 176 258 = some (.iload 4, 2, 0, 0, .null) := rfl
theorem f_176_260 : px_at 176 260 = some (.iload 8, 2, 0, 0, .null) := rfl
theorem f_176_262 : px_at 176 262 = some (.isub, 1, 0, 0, .null) := rfl
theorem f_176_263 : px_at 176 263 = some (.invokevirtual 382, 3, 175, 1, .null) := rfl
theorem f_176_266 : px_at 176 266 = some (.iconst 1, 1, 0, 0, .null) := rfl
theorem f_176_267 : px_at 176 267 = some (.ireturn, 1, 0, 0, .null) := rfl
theorem f_176_268 : px_at 176 268 = some (.iinc 8 1, 3, 0, 0, .null) := rfl
theorem f_176_271 : px_at 176 271 = some (.goto (-83), 3, 188, 0, .null) := rfl
theorem f_176_274 : px_at 176 274 = some (.iinc 7 1, 3, 0, 0, .null) := rfl
theorem f_176_277 : px_at 176 277 = some (.goto (-113), 3, 164, 0, .null) := rfl
theorem f_176_280 : px_at 176 280 = some (.iconst 0, 1, 0, 0, .null) := rfl
theorem f_176_281 : px_at 176 281 = some (.ireturn, 1, 0, 0, .null) := rfl

theorem f_177_0 : px_at 177 0 = some (.aload_n 0, 1, 0, 0, .null) := rfl
theorem f_177_1 : px_at 177 1 = some (.iload_n 2, 1, 0, 0, .null) := rfl
theorem f_177_2 : px_at 177 2 = some (.putfield 386, 3, 12, 65, .null) := rfl
theorem f_177_5 : px_at 177 5 = some (.iconst 0, 1, 0, 0, .null) := rfl
theorem f_177_6 : px_at 177 6 = some (.istore_n 3, 1, 0, 0, .null) := rfl
theorem f_177_7 : px_at 177 7 = some (.iload_n 3, 1, 0, 0, .null) := rfl
theorem f_177_8 : px_at 177 8 = some (.iload_n 1, 1, 0, 0, .null) := rfl
theorem f_177_9 : px_at 177 9 = some (.if_icmp .gt 29, 3, 38, 0, .null) := rfl
theorem f_177_12 : px_at 177 12 = some (.aload_n 0, 1, 0, 0, .null) := rfl
theorem f_177_13 : px_at 177 13 = some (.iload_n 3, 1, 0, 0, .null) := rfl
theorem f_177_14 : px_at 177 14 = some (.iconst 0, 1, 0, 0, .null) := rfl
theorem f_177_15 : px_at 177 15 = some (.invokevirtual 389, 3, 176, 1, .null) := rfl
theorem f_177_18 : px_at 177 18 = some (.ifCond .ne 12, 3, 30, 0, .null) := rfl
theorem f_177_21 : px_at 177 21 = some (.aload_n 0, 1, 0, 0, .null) := rfl
theorem f_177_22 : px_at 177 22 = some (.iload_n 3, 1, 0, 0, .null) := rfl
theorem f_177_23 : px_at 177 23 = some (.iconst 1, 1, 0, 0, .null) := rfl
theorem f_177_24 : px_at 177 24 = some (.invokevirtual 389, 3, 176, 1, .null) := rfl
theorem f_177_27 : px_at 177 27 = some (.ifCond .eq 5, 3, 32, 0, .null) := rfl
theorem f_177_30 : px_at 177 30 = some (.iconst 1, 1, 0, 0, .null) := rfl
theorem f_177_31 : px_at 177 31 = some (.ireturn, 1, 0, 0, .null) := rfl
theorem f_177_32 : px_at 177 32 = some (.iinc 3 1, 3, 0, 0, .null) := rfl
theorem f_177_35 : px_at 177 35 = some (.goto (-28), 3, 7, 0, .null) := rfl
theorem f_177_38 : px_at 177 38 = some (.iconst 0, 1, 0, 0, .null) := rfl
theorem f_177_39 : px_at 177 39 = some (.ireturn, 1, 0, 0, .null) := rfl

theorem f_178_0 : px_at 178 0 = some (.aload_n 0, 1, 0, 0, .null) := rfl
theorem f_178_1 : px_at 178 1 = some (.iload_n 1, 1, 0, 0, .null) := rfl
theorem f_178_2 : px_at 178 2 = some (.invokevirtual 355, 3, 167, 1, .null) := rfl
theorem f_178_5 : px_at 178 5 = some (.ifCond .eq 16, 3, 21, 0, .null) := rfl
theorem f_178_8 : px_at 178 8 = some (.iload_n 2, 1, 0, 0, .null) := rfl
theorem f_178_9 : px_at 178 9 = some (.iconst 0, 1, 0, 0, .null) := rfl
theorem f_178_10 : px_at 178 10 = some (.iconst 3, 1, 0, 0, .null) := rfl
theorem f_178_11 : px_at 178 11 = some (.invokestatic 115, 3, 118, 2, .null) := rfl
theorem f_178_14 : px_at 178 14 = some (.ifCond .eq 7, 3, 21, 0, .null) := rfl
theorem f_178_17 : px_at 178 17 = some (.iconst 1, 1, 0, 0, .null) := rfl
theorem f_178_18 : px_at 178 18 = some (.goto 4, 3, 22, 0, .null) := rfl
theorem f_178_21 : px_at 178 21 = some (.iconst 0, 1, 0, 0, .null) := rfl
theorem f_178_22 : px_at 178 22 = some (.ireturn, 1, 0, 0, .null) := rfl

theorem f_179_0 : px_at 179 0 = some (.aload_n 0, 1, 0, 0, .null) := rfl
theorem f_179_1 : px_at 179 1 = some (.iload_n 1, 1, 0, 0, .null) := rfl
theorem f_179_2 : px_at 179 2 = some (.iload_n 2, 1, 0, 0, .null) := rfl
theorem f_179_3 : px_at 179 3 = some (.invokevirtual 393, 3, 178, 1, .null) := rfl
theorem f_179_6 : px_at 179 6 = some (.ifCond .ne 5, 3, 11, 0, .null) := rfl
theorem f_179_9 : px_at 179 9 = some (.iconst (-1), 1, 0, 0, .null) := rfl
theorem f_179_10 : px_at 179 10 = some (.ireturn, 1, 0, 0, .null) := rfl
theorem f_179_11 : px_at 179 11 = some (.aload_n 0, 1, 0, 0, .null) := rfl
theorem f_179_12 : px_at 179 12 = some (.iload_n 1, 1, 0, 0, .null) := rfl
theorem f_179_13 : px_at 179 13 = some (.invokevirtual 397, 3, 174, 1, .null) := rfl
theorem f_179_16 : px_at 179 16 = some (.iconst 0, 1, 0, 0, .null) := rfl
theorem f_179_17 : px_at 179 17 = some (.istore_n 3, 1, 0, 0, .null) := rfl
theorem f_179_18 : px_at 179 18 = some (.aload_n 0, 1, 0, 0, .null) := rfl
theorem f_179_19 : px_at 179 19 = some (.iload_n 2, 1, 0, 0, .null) := rfl
theorem f_179_20 : px_at 179 20 = some (.iload_n 3, 1, 0, 0, .null) := rfl
theorem f_179_21 : px_at 179 21 = some (.invokevirtual 400, 3, 177, 1, .null) := rfl
theorem f_179_24 : px_at 179 24 = some (.ifCond .eq 9, 3, 33, 0, .null) := rfl
theorem f_179_27 : px_at 179 27 = some (.iinc 3 1, 3, 0, 0, .null) := rfl
theorem f_179_30 : px_at 179 30 = some (.goto (-12), 3, 18, 0, .null) := rfl
theorem f_179_33 : px_at 179 33 = some (.iload_n 3, 1, 0, 0, .null) := rfl
theorem f_179_34 : px_at 179 34 = some (.ireturn, 1, 0, 0, .null) := rfl

theorem f_180_0 : px_at 180 0 = some (.aload_n 0, 1, 0, 0, .null) := rfl
theorem f_180_1 : px_at 180 1 = some (.iload_n 1, 1, 0, 0, .null) := rfl
theorem f_180_2 : px_at 180 2 = some (.iload_n 2, 1, 0, 0, .null) := rfl
theorem f_180_3 : px_at 180 3 = some (.invokevirtual 393, 3, 178, 1, .null) := rfl
theorem f_180_6 : px_at 180 6 = some (.ifCond .ne 5, 3, 11, 0, .null) := rfl
theorem f_180_9 : px_at 180 9 = some (.iconst (-1), 1, 0, 0, .null) := rfl
theorem f_180_10 : px_at 180 10 = some (.ireturn, 1, 0, 0, .null) := rfl
theorem f_180_11 : px_at 180 11 = some (.aload_n 0, 1, 0, 0, .null) := rfl
theorem f_180_12 : px_at 180 12 = some (.iload_n 1, 1, 0, 0, .null) := rfl
theorem f_180_13 : px_at 180 13 = some (.invokevirtual 397, 3, 174, 1, .null) := rfl
theorem f_180_16 : px_at 180 16 = some (.iload_n 3, 1, 0, 0, .null) := rfl
theorem f_180_17 : px_at 180 17 = some (.ifCond .lt 19, 3, 36, 0, .null) := rfl
theorem f_180_20 : px_at 180 20 = some (.aload_n 0, 1, 0, 0, .null) := rfl
theorem f_180_21 : px_at 180 21 = some (.iload_n 2, 1, 0, 0, .null) := rfl
theorem f_180_22 : px_at 180 22 = some (.iload_n 3, 1, 0, 0, .null) := rfl
theorem f_180_23 : px_at 180 23 = some (.invokevirtual 400, 3, 177, 1, .null) := rfl
theorem f_180_26 : px_at 180 26 = some (.ifCond .eq 10, 3, 36, 0, .null) := rfl
theorem f_180_29 : px_at 180 29 = some (.aload_n 0, 1, 0, 0, .null) := rfl
theorem f_180_30 : px_at 180 30 = some (.getfield 376, 3, 12, 63, .null) := rfl
theorem f_180_33 : px_at 180 33 = some (.goto 5, 3, 38, 0, .null) := rfl
theorem f_180_36 : px_at 180 36 = some (.bipush (-3), 2, 0, 0, .null) := rfl
theorem f_180_38 : px_at 180 38 = some (.ireturn, 1, 0, 0, .null) := rfl

theorem f_181_0 : px_at 181 0 = some (.aload_n 0, 1, 0, 0, .null) := rfl
theorem f_181_1 : px_at 181 1 = some (.iconst 0, 1, 0, 0, .null) := rfl
theorem f_181_2 : px_at 181 2 = some (.putfield 303, 3, 12, 52, .null) := rfl
theorem f_181_5 : px_at 181 5 = some (.iconst 0, 1, 0, 0, .null) := rfl
theorem f_181_6 : px_at 181 6 = some (.istore_n 2, 1, 0, 0, .null) := rfl
theorem f_181_7 : px_at 181 7 = some (.iload_n 2, 1, 0, 0, .null) := rfl
theorem f_181_8 : px_at 181 8 = some (.aload_n 0, 1, 0, 0, .null) := rfl
theorem f_181_9 : px_at 181 9 = some (.getfield 23, 3, 12, 7, .null) := rfl
theorem f_181_12 : px_at 181 12 = some (.iload_n 1, 1, 0, 0, .null) := rfl
theorem f_181_13 : px_at 181 13 = some (.iaload, 1, 0, 0, .null) := rfl
theorem f_181_14 : px_at 181 14 = some (.if_icmp .ge 55, 3, 69, 0, .null) := rfl
theorem f_181_17 : px_at 181 17 = some (.aload_n 0, 1, 0, 0, .null) := rfl
theorem f_181_18 : px_at 181 18 = some (.getfield 26, 3, 12, 8, .null) := rfl
theorem f_181_21 : px_at 181 21 = some (.bipush 24, 2, 0, 0, .null) := rfl
theorem f_181_23 : px_at 181 23 = some (.iload_n 1, 1, 0, 0, .null) := rfl
theorem f_181_24 : px_at 181 24 = some (.imul, 1, 0, 0, .null) := rfl
theorem f_181_25 : px_at 181 25 = some (.iload_n 2, 1, 0, 0, .null) := rfl
theorem f_181_26 : px_at 181 26 = some (.iadd, 1, 0, 0, .null) := rfl
theorem f_181_27 : px_at 181 27 = some (.caload, 1, 0, 0, .null) := rfl
theorem f_181_28 : px_at 181 28 = some (.istore_n 3, 1, 0, 0, .null) := rfl
theorem f_181_29 : px_at 181 29 = some (.iload_n 3, 1, 0, 0, .null) := rfl
theorem f_181_30 : px_at 181 30 = some (.invokestatic 370, 3, 172, 2, .null) := rfl
theorem f_181_33 : px_at 181 33 = some (.ifCond .ne 10, 3, 43, 0, .null) := rfl
theorem f_181_36 : px_at 181 36 = some (.iload_n 3, 1, 0, 0, .null) := rfl
theorem f_181_37 : px_at 181 37 = some (.invokestatic 373, 3, 173, 2, .null) := rfl
theorem f_181_40 : px_at 181 40 = some (.ifCond .eq 23, 3, 63, 0, .null) := rfl
theorem f_181_43 : px_at 181 43 = some (.aload_n 0, 1, 0, 0, .null) := rfl
theorem f_181_44 : px_at 181 44 = some (.getfield 91, 3, 12, 51, .null) := rfl
theorem f_181_47 : px_at 181 47 = some (.aload_n 0, 1, 0, 0, .null) := rfl
theorem f_181_48 : px_at 181 48 = some (.getfield 303, 3, 12, 52, .null) := rfl
theorem f_181_51 : px_at 181 51 = some (.iload_n 2, 1, 0, 0, .null) := rfl
theorem f_181_52 : px_at 181 52 = some (.iastore, 1, 0, 0, .null) := rfl
theorem f_181_53 : px_at 181 53 = some (.aload_n 0, 1, 0, 0, .null) := rfl
theorem f_181_54 : px_at 181 54 = some (.dup, 1, 0, 0, .null) := rfl
theorem f_181_55 : px_at 181 55 = some (.getfield 303, 3, 12, 52, .null) := rfl
theorem f_181_58 : px_at 181 58 = some (.iconst 1, 1, 0, 0, .null) := rfl
theorem f_181_59 : px_at 181 59 = some (.iadd, 1, 0, 0, .null) := rfl
theorem f_181_60 : px_at 181 60 = some (.putfield 303, 3, 12, 52, .null) := rfl
theorem f_181_63 : px_at 181 63 = some (.iinc 2 1, 3, 0, 0, .null) := rfl
theorem f_181_66 : px_at 181 66 = some (.goto (-59), 3, 7, 0, .null) := rfl
theorem f_181_69 : px_at 181 69 = some (.return_, 1, 0, 0, .null) := rfl

theorem f_182_0 : px_at 182 0 = some (.iload_n 2, 1, 0, 0, .null) := rfl
theorem f_182_1 : px_at 182 1 = some (.istore 4, 2, 0, 0, .null) := rfl
theorem f_182_3 : px_at 182 3 = some (.iload_n 3, 1, 0, 0, .null) := rfl
theorem f_182_4 : px_at 182 4 = some (.ifCond .eq 24, 3, 28, 0, .null) := rfl
theorem f_182_7 : px_at 182 7 = some (.aload_n 0, 1, 0, 0, .null) := rfl
theorem f_182_8 : px_at 182 8 = some (.getfield 26, 3, 12, 8, .null) := rfl
theorem f_182_11 : px_at 182 11 = some (.bipush 24, 2, 0, 0, .null) := rfl
theorem f_182_13 : px_at 182 13 = some (.iload_n 1, 1, 0, 0, .null) := rfl
theorem f_182_14 : px_at 182 14 = some (.imul, 1, 0, 0, .null) := rfl
theorem f_182_15 : px_at 182 15 = some (.iload 4, 2, 0, 0, .null) := rfl
theorem f_182_17 : px_at 182 17 = some (.iadd, 1, 0, 0, .null) := rfl
theorem f_182_18 : px_at 182 18 = some (.caload, 1, 0, 0, .null) := rfl
theorem f_182_19 : px_at 182 19 = some (.invokestatic 373, 3, 173, 2, .null) := rfl
theorem f_182_22 : px_at 182 22 = some (.ifCond .ne 30, 3, 52, 0, .null) := rfl
theorem f_182_25 : px_at 182 25 = some (.goto 21, 3, 46, 0, .null) := rfl
theorem f_182_28 : px_at 182 28 = some (.aload_n 0, 1, 0, 0, .null) := rfl
theorem f_182_29 : px_at 182 29 = some (.getfield 26, 3, 12, 8, .null) := rfl
theorem f_182_32 : px_at 182 32 = some (.bipush 24, 2, 0, 0, .null) := rfl
theorem f_182_34 : px_at 182 34 = some (.iload_n 1, 1, 0, 0, .null) := rfl
theorem f_182_35 : px_at 182 35 = some (.imul, 1, 0, 0, .null) := rfl
theorem f_182_36 : px_at 182 36 = some (.iload 4, 2, 0, 0, .null) := rfl
theorem f_182_38 : px_at 182 38 = some (.iadd, 1, 0, 0, .null) := rfl
theorem f_182_39 : px_at 182 39 = some (.caload, 1, 0, 0, .null) := rfl
theorem f_182_40 : px_at 182 40 = some (.invokestatic 370, 3, 172, 2, .null) := rfl
theorem f_182_43 : px_at 182 43 = some (.ifCond .ne 9, 3, 52, 0, .null) := rfl
theorem f_182_46 : px_at 182 46 = some (.iinc 4 1, 3, 0, 0, .null) := rfl
theorem f_182_49 : px_at 182 49 = some (.goto (-46), 3, 3, 0, .null) := rfl
theorem f_182_52 : px_at 182 52 = some (.iload 4, 2, 0, 0, .null) := rfl
theorem f_182_54 : px_at 182 54 = some (.ireturn, 1, 0, 0, .null) := rfl

theorem f_183_0 : px_at 183 0 = some (.iconst 0, 1, 0, 0, .null) := rfl
theorem f_183_1 : px_at 183 1 = some (.istore_n 3, 1, 0, 0, .null) := rfl
theorem f_183_2 : px_at 183 2 = some (.iconst 0, 1, 0, 0, .null) := rfl
theorem f_183_3 : px_at 183 3 = some (.istore 4, 2, 0, 0, .null) := rfl
theorem f_183_5 : px_at 183 5 = some (.aload_n 0, 1, 0, 0, .null) := rfl
theorem f_183_6 : px_at 183 6 = some (.aload_n 0, 1, 0, 0, .null) := rfl
theorem f_183_7 : px_at 183 7 = some (.getfield 364, 3, 12, 61, .null) := rfl
theorem f_183_10 : px_at 183 10 = some (.aload_n 0, 1, 0, 0, .null) := rfl
theorem f_183_11 : px_at 183 11 = some (.getfield 367, 3, 12, 62, .null) := rfl
theorem f_183_14 : px_at 183 14 = some (.iadd, 1, 0, 0, .null) := rfl
theorem f_183_15 : px_at 183 15 = some (.putfield 303, 3, 12, 52, .null) := rfl
theorem f_183_18 : px_at 183 18 = some (.iconst 0, 1, 0, 0, .null) := rfl
theorem f_183_19 : px_at 183 19 = some (.istore 5, 2, 0, 0, .null) := rfl
theorem f_183_21 : px_at 183 21 = some (.iload 5, 2, 0, 0, .null) := rfl
theorem f_183_23 : px_at 183 23 = some (.aload_n 0, 1, 0, 0, .null) := rfl
theorem f_183_24 : px_at 183 24 = some (.getfield 303, 3, 12, 52, .null) := rfl
theorem f_183_27 : px_at 183 27 = some (.if_icmp .ge 85, 3, 112, 0, .null) := rfl
theorem f_183_30 : px_at 183 30 = some (.iload_n 2, 1, 0, 0, .null) := rfl
theorem f_183_31 : px_at 183 31 = some (.iload 5, 2, 0, 0, .null) := rfl
theorem f_183_33 : px_at 183 33 = some (.ishr, 1, 0, 0, .null) := rfl
theorem f_183_34 : px_at 183 34 = some (.iconst 1, 1, 0, 0, .null) := rfl
theorem f_183_35 : px_at 183 35 = some (.iand, 1, 0, 0, .null) := rfl
theorem f_183_36 : px_at 183 36 = some (.iconst 1, 1, 0, 0, .null) := rfl
theorem f_183_37 : px_at 183 37 = some (.if_icmp .ne 7, 3, 44, 0, .null) := rfl
theorem f_183_40 : px_at 183 40 = some (.iconst 1, 1, 0, 0, .null) := rfl
theorem f_183_41 : px_at 183 41 = some (.goto 4, 3, 45, 0, .null) := rfl
theorem f_183_44 : px_at 183 44 = some (.iconst 0, 1, 0, 0, .null) := rfl
theorem f_183_45 : px_at 183 45 = some (.istore 6, 2, 0, 0, .null) := rfl
theorem f_183_47 : px_at 183 47 = some (.aload_n 0, 1, 0, 0, .null) := rfl
theorem f_183_48 : px_at 183 48 = some (.iload_n 1, 1, 0, 0, .null) := rfl
theorem f_183_49 : px_at 183 49 = some (.iload 6, 2, 0, 0, .null) := rfl
theorem f_183_51 : px_at 183 51 = some (.ifCond .eq 8, 3, 59, 0, .null) := rfl
theorem f_183_54 : px_at 183 54 = some (.iload 4, 2, 0, 0, .null) := rfl
theorem f_183_56 : px_at 183 56 = some (.goto 4, 3, 60, 0, .null) := rfl
theorem f_183_59 : px_at 183 59 = some (.iload_n 3, 1, 0, 0, .null) := rfl
theorem f_183_60 : px_at 183 60 = some (.iload 6, 2, 0, 0, .null) := rfl
theorem f_183_62 : px_at 183 62 = some (.invokevirtual 402, 3, 182, 1, .null) := rfl
theorem f_183_65 : px_at 183 65 = some (.istore 7, 2, 0, 0, .null) := rfl
theorem f_183_67 : px_at 183 67 = some (.aload_n 0, 1, 0, 0, .null) := rfl
theorem f_183_68 : px_at 183 68 = some (.getfield 91, 3, 12, 51, .null) := rfl
theorem f_183_71 : px_at 183 71 = some (.iload 5, 2, 0, 0, .null) := rfl
theorem f_183_73 : px_at 183 73 = some (.iload 7, 2, 0, 0, .null) := rfl
theorem f_183_75 : px_at 183 75 = some (.iastore, 1, 0, 0, .null) := rfl
theorem f_183_76 : px_at 183 76 = some (.iload 6, 2, 0, 0, .null) := rfl
theorem f_183_78 : px_at 183 78 = some (.ifCond .eq 7, 3, 85, 0, .null) := rfl
theorem f_183_81 : px_at 183 81 = some (.iload_n 3, 1, 0, 0, .null) := rfl
theorem f_183_82 : px_at 183 82 = some (.goto 7, 3, 89, 0, .null) := rfl
theorem f_183_85 : px_at 183 85 = some (.iload 7, 2, 0, 0, .null) := rfl
theorem f_183_87 : px_at 183 87 = some (.iconst 1, 1, 0, 0, .null) := rfl
theorem f_183_88 : px_at 183 88 = some (.iadd, 1, 0, 0, .null) := rfl
theorem f_183_89 : px_at 183 89 = some (.istore_n 3, 1, 0, 0, .null) := rfl
theorem f_183_90 : px_at 183 90 = some (.iload 6, 2, 0, 0, .null) := rfl
theorem f_183_92 : px_at 183 92 = some (.ifCond .eq 10, 3, 102, 0, .null) := rfl
theorem f_183_95 : px_at 183 95 = some (.iload 7, 2, 0, 0, .null) := rfl
theorem f_183_97 : px_at 183 97 = some (.iconst 1, 1, 0, 0, .null) := rfl
theorem f_183_98 : px_at 183 98 = some (.iadd, 1, 0, 0, .null) := rfl
theorem f_183_99 : px_at 183 99 = some (.goto 5, 3, 104, 0, .null) := rfl
theorem f_183_102 : px_at 183 102 = some (.iload 4, 2, 0, 0, .null) := rfl
theorem f_183_104 : px_at 183 104 = some (.istore 4, 2, 0, 0, .null) := rfl
theorem f_183_106 : px_at 183 106 = some (.iinc 5 1, 3, 0, 0, .null) := rfl
theorem f_183_109 : px_at 183 109 = some (.goto (-88), 3, 21, 0, .null) := rfl
theorem f_183_112 : px_at 183 112 = some (.return_, 1, 0, 0, .null) := rfl
