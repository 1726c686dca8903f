theorem f_217_0 : px_at 217 0 = some (.iload_n 1, 1, 0, 0, .null) := rfl
theorem f_217_1 : px_at 217 1 = some (.invokestatic 88, 3, 216, 2, .null) := rfl
theorem f_217_4 : px_at 217 4 = some (.ifCond .ne 5, 3, 9, 0, .null) := rfl
theorem f_217_7 : px_at 217 7 = some (.iconst (-1), 1, 0, 0, .null) := rfl
theorem f_217_8 : px_at 217 8 = some (.ireturn, 1, 0, 0, .null) := rfl
theorem f_217_9 : px_at 217 9 = some (.iload_n 2, 1, 0, 0, .null) := rfl
theorem f_217_10 : px_at 217 10 = some (.iconst 0, 1, 0, 0, .null) := rfl
theorem f_217_11 : px_at 217 11 = some (.invokestatic 92, 3, 0, 11, .null) := rfl
theorem f_217_14 : px_at 217 14 = some (.istore_n 2, 1, 0, 0, .null) := rfl
theorem f_217_15 : px_at 217 15 = some (.iload_n 3, 1, 0, 0, .null) := rfl
theorem f_217_16 : px_at 217 16 = some (.aload_n 0, 1, 0, 0, .null) := rfl
theorem f_217_17 : px_at 217 17 = some (.arraylength, 1, 0, 0, .null) := rfl
theorem f_217_18 : px_at 217 18 = some (.invokestatic 38, 3, 0, 12, .null) := rfl
theorem f_217_21 : px_at 217 21 = some (.istore_n 3, 1, 0, 0, .null) := rfl
theorem f_217_22 : px_at 217 22 = some (.iload_n 2, 1, 0, 0, .null) := rfl
theorem f_217_23 : px_at 217 23 = some (.iload_n 3, 1, 0, 0, .null) := rfl
theorem f_217_24 : px_at 217 24 = some (.if_icmp .lt 5, 3, 29, 0, .null) := rfl
theorem f_217_27 : px_at 217 27 = some (.iconst (-1), 1, 0, 0, .null) := rfl
theorem f_217_28 : px_at 217 28 = some (.ireturn, 1, 0, 0, .null) := rfl
theorem f_217_29 : px_at 217 29 = some (.aload_n 0, 1, 0, 0, .null) := rfl
theorem f_217_30 : px_at 217 30 = some (.iload_n 1, 1, 0, 0, .null) := rfl
theorem f_217_31 : px_at 217 31 = some (.iload_n 2, 1, 0, 0, .null) := rfl
theorem f_217_32 : px_at 217 32 = some (.iload_n 3, 1, 0, 0, .null) := rfl
theorem f_217_33 : px_at 217 33 = some (.invokestatic 95, 3, 218, 2, .null) := rfl
theorem f_217_36 : px_at 217 36 = some (.ireturn, 1, 0, 0, .null) := rfl

theorem f_218_0 : px_at 218 0 = some (.iload_n 1, 1, 0, 0, .null) := rfl
theorem f_218_1 : px_at 218 1 = some (.i2b, 1, 0, 0, .null) := rfl
theorem f_218_2 : px_at 218 2 = some (.istore 4, 2, 0, 0, .null) := rfl
theorem f_218_4 : px_at 218 4 = some (.iload_n 2, 1, 0, 0, .null) := rfl
theorem f_218_5 : px_at 218 5 = some (.istore 5, 2, 0, 0, .null) := rfl
theorem f_218_7 : px_at 218 7 = some (.iload 5, 2, 0, 0, .null) := rfl
theorem f_218_9 : px_at 218 9 = some (.iload_n 3, 1, 0, 0, .null) := rfl
theorem f_218_10 : px_at 218 10 = some (.if_icmp .ge 21, 3, 31, 0, .null) := rfl
theorem f_218_13 : px_at 218 13 = some (.aload_n 0, 1, 0, 0, .null) := rfl
theorem f_218_14 : px_at 218 14 = some (.iload 5, 2, 0, 0, .null) := rfl
theorem f_218_16 : px_at 218 16 = some (.baload, 1, 0, 0, .null) := rfl
theorem f_218_17 : px_at 218 17 = some (.iload 4, 2, 0, 0, .null) := rfl
theorem f_218_19 : px_at 218 19 = some (.if_icmp .ne 6, 3, 25, 0, .null) := rfl
theorem f_218_22 : px_at 218 22 = some (.iload 5, 2, 0, 0, .null) := rfl
theorem f_218_24 : px_at 218 24 = some (.ireturn, 1, 0, 0, .null) := rfl
theorem f_218_25 : px_at 218 25 = some (.iinc 5 1, 3, 0, 0, .null) := rfl
theorem f_218_28 : px_at 218 28 = some (.goto (-21), 3, 7, 0, .null) := rfl
theorem f_218_31 : px_at 218 31 = some (.iconst (-1), 1, 0, 0, .null) := rfl
theorem f_218_32 : px_at 218 32 = some (.ireturn, 1, 0, 0, .null) := rfl

theorem f_219_0 : px_at 219 0 = some (.iload_n 0, 1, 0, 0, .null) := rfl
theorem f_219_1 : px_at 219 1 = some (.ifCond .lt 8, 3, 9, 0, .null) := rfl
theorem f_219_4 : px_at 219 4 = some (.iload_n 0, 1, 0, 0, .null) := rfl
theorem f_219_5 : px_at 219 5 = some (.iload_n 1, 1, 0, 0, .null) := rfl
theorem f_219_6 : px_at 219 6 = some (.if_icmp .lt 10, 3, 16, 0, .null) := rfl
theorem f_219_9 : px_at 219 9 = some (.aload_n 2, 1, 0, 0, .null) := rfl
theorem f_219_10 : px_at 219 10 = some (.iload_n 0, 1, 0, 0, .null) := rfl
theorem f_219_11 : px_at 219 11 = some (.iload_n 1, 1, 0, 0, .null) := rfl
theorem f_219_12 : px_at 219 12 = some (.invokestatic 95, 3, 0, 20, .null) := rfl
theorem f_219_15 : px_at 219 15 = some (.athrow, 1, 0, 0, .null) := rfl
theorem f_219_16 : px_at 219 16 = some (.iload_n 0, 1, 0, 0, .null) := rfl
theorem f_219_17 : px_at 219 17 = some (.ireturn, 1, 0, 0, .null) := rfl

set_option maxRecDepth 20000 in
theorem f_220_0 : px_at 220 0 = some (.new 7, 3, 11, 0, .null) := rfl
set_option maxRecDepth 20000 in
theorem f_220_3 : px_at 220 3 = some (.dup, 1, 0, 0, .null) := rfl
set_option maxRecDepth 20000 in
theorem f_220_4 : px_at 220 4 = some (.invokespecial 9, 3, 89, 3, .null) := rfl
set_option maxRecDepth 20000 in
theorem f_220_7 : px_at 220 7 = some (.astore_n 1, 1, 0, 0, .null) := rfl
set_option maxRecDepth 20000 in
theorem f_220_8 : px_at 220 8 = some (.new 10, 3, 12, 0, .null) := rfl
set_option maxRecDepth 20000 in
theorem f_220_11 : px_at 220 11 = some (.dup, 1, 0, 0, .null) := rfl
set_option maxRecDepth 20000 in
theorem f_220_12 : px_at 220 12 = some (.invokespecial 12, 3, 117, 3, .null) := rfl
set_option maxRecDepth 20000 in
theorem f_220_15 : px_at 220 15 = some (.astore_n 2, 1, 0, 0, .null) := rfl
set_option maxRecDepth 20000 in
theorem f_220_16 : px_at 220 16 = some (.iconst 0, 1, 0, 0, .null) := rfl
set_option maxRecDepth 20000 in
theorem f_220_17 : px_at 220 17 = some (.istore_n 3, 1, 0, 0, .null) := rfl
set_option maxRecDepth 20000 in
theorem f_220_18 : px_at 220 18 = some (.iload_n 3, 1, 0, 0, .null) := rfl
set_option maxRecDepth 20000 in
theorem f_220_19 : px_at 220 19 = some (.aload_n 0, 1, 0, 0, .null) := rfl
set_option maxRecDepth 20000 in
theorem f_220_20 : px_at 220 20 = some (.arraylength, 1, 0, 0, .null) := rfl
set_option maxRecDepth 20000 in
theorem f_220_21 : px_at 220 21 = some (.iconst 4, 1, 0, 0, .null) := rfl
set_option maxRecDepth 20000 in
theorem f_220_22 : px_at 220 22 = some (.isub, 1, 0, 0, .null) := rfl
set_option maxRecDepth 20000 in
theorem f_220_23 : px_at 220 23 = some (.if_icmp .gt 734, 3, 757, 0, .null) := rfl
set_option maxRecDepth 20000 in
theorem f_220_26 : px_at 220 26 = some (.aload_n 0, 1, 0, 0, .null) := rfl
set_option maxRecDepth 20000 in
theorem f_220_27 : px_at 220 27 = some (.iload_n 3, 1, 0, 0, .null) := rfl
set_option maxRecDepth 20000 in
theorem f_220_28 : px_at 220 28 = some (.iaload, 1, 0, 0, .null) := rfl
set_option maxRecDepth 20000 in
theorem f_220_29 : px_at 220 29 = some (.bipush 31, 2, 0, 0, .null) := rfl
set_option maxRecDepth 20000 in
theorem f_220_31 : px_at 220 31 = some (.iand, 1, 0, 0, .null) := rfl
set_option maxRecDepth 20000 in
theorem f_220_32 : px_at 220 32 = some (.tableswitch 719 0 18 #[92, 155, 168, 191, 214, 247, 290, 313, 346, 389, 422, 465, 498, 521, 554, 587, 620, 643, 686], 92, 0, 0, .null) := rfl
set_option maxRecDepth 20000 in
theorem f_220_124 : px_at 220 124 = some (.aload_n 1, 1, 0, 0, .null) := rfl
set_option maxRecDepth 20000 in
theorem f_220_125 : px_at 220 125 = some (.aload_n 0, 1, 0, 0, .null) := rfl
set_option maxRecDepth 20000 in
theorem f_220_126 : px_at 220 126 = some (.iload_n 3, 1, 0, 0, .null) := rfl
set_option maxRecDepth 20000 in
theorem f_220_127 : px_at 220 127 = some (.iconst 1, 1, 0, 0, .null) := rfl
set_option maxRecDepth 20000 in
theorem f_220_128 : px_at 220 128 = some (.iadd, 1, 0, 0, .null) := rfl
set_option maxRecDepth 20000 in
theorem f_220_129 : px_at 220 129 = some (.iaload, 1, 0, 0, .null) := rfl
set_option maxRecDepth 20000 in
theorem f_220_130 : px_at 220 130 = some (.i2l, 1, 0, 0, .null) := rfl
set_option maxRecDepth 20000 in
theorem f_220_131 : px_at 220 131 = some (.bipush 32, 2, 0, 0, .null) := rfl
set_option maxRecDepth 20000 in
theorem f_220_133 : px_at 220 133 = some (.lshl, 1, 0, 0, .null) := rfl
set_option maxRecDepth 20000 in
theorem f_220_134 : px_at 220 134 = some (.aload_n 0, 1, 0, 0, .null) := rfl
set_option maxRecDepth 20000 in
theorem f_220_135 : px_at 220 135 = some (.iload_n 3, 1, 0, 0, .null) := rfl
set_option maxRecDepth 20000 in
theorem f_220_136 : px_at 220 136 = some (.iconst 2, 1, 0, 0, .null) := rfl
set_option maxRecDepth 20000 in
theorem f_220_137 : px_at 220 137 = some (.iadd, 1, 0, 0, .null) := rfl
set_option maxRecDepth 20000 in
theorem f_220_138 : px_at 220 138 = some (.iaload, 1, 0, 0, .null) := rfl
set_option maxRecDepth 20000 in
theorem f_220_139 : px_at 220 139 = some (.i2l, 1, 0, 0, .null) := rfl
set_option maxRecDepth 20000 in
theorem f_220_140 : px_at 220 140 = some (.ldc2_w 13, 3, 0, 0, .long (4294967295)) := rfl
set_option maxRecDepth 20000 in
theorem f_220_143 : px_at 220 143 = some (.land, 1, 0, 0, .null) := rfl
set_option maxRecDepth 20000 in
theorem f_220_144 : px_at 220 144 = some (.lor, 1, 0, 0, .null) := rfl
set_option maxRecDepth 20000 in
theorem f_220_145 : px_at 220 145 = some (.aload_n 0, 1, 0, 0, .null) := rfl
set_option maxRecDepth 20000 in
theorem f_220_146 : px_at 220 146 = some (.iload_n 3, 1, 0, 0, .null) := rfl
set_option maxRecDepth 20000 in
theorem f_220_147 : px_at 220 147 = some (.iconst 3, 1, 0, 0, .null) := rfl
set_option maxRecDepth 20000 in
theorem f_220_148 : px_at 220 148 = some (.iadd, 1, 0, 0, .null) := rfl
set_option maxRecDepth 20000 in
theorem f_220_149 : px_at 220 149 = some (.iaload, 1, 0, 0, .null) := rfl
set_option maxRecDepth 20000 in
theorem f_220_150 : px_at 220 150 = some (.invokevirtual 15, 3, 90, 1, .null) := rfl
set_option maxRecDepth 20000 in
theorem f_220_153 : px_at 220 153 = some (.aload_n 2, 1, 0, 0, .null) := rfl
set_option maxRecDepth 20000 in
theorem f_220_154 : px_at 220 154 = some (.aload_n 0, 1, 0, 0, .null) := rfl
set_option maxRecDepth 20000 in
theorem f_220_155 : px_at 220 155 = some (.iload_n 3, 1, 0, 0, .null) := rfl
set_option maxRecDepth 20000 in
theorem f_220_156 : px_at 220 156 = some (.iconst 1, 1, 0, 0, .null) := rfl
set_option maxRecDepth 20000 in
theorem f_220_157 : px_at 220 157 = some (.iadd, 1, 0, 0, .null) := rfl
set_option maxRecDepth 20000 in
theorem f_220_158 : px_at 220 158 = some (.iaload, 1, 0, 0, .null) := rfl
set_option maxRecDepth 20000 in
theorem f_220_159 : px_at 220 159 = some (.i2l, 1, 0, 0, .null) := rfl
set_option maxRecDepth 20000 in
theorem f_220_160 : px_at 220 160 = some (.bipush 32, 2, 0, 0, .null) := rfl
set_option maxRecDepth 20000 in
theorem f_220_162 : px_at 220 162 = some (.lshl, 1, 0, 0, .null) := rfl
set_option maxRecDepth 20000 in
theorem f_220_163 : px_at 220 163 = some (.aload_n 0, 1, 0, 0, .null) := rfl
set_option maxRecDepth 20000 in
theorem f_220_164 : px_at 220 164 = some (.iload_n 3, 1, 0, 0, .null) := rfl
set_option maxRecDepth 20000 in
theorem f_220_165 : px_at 220 165 = some (.iconst 2, 1, 0, 0, .null) := rfl
set_option maxRecDepth 20000 in
theorem f_220_166 : px_at 220 166 = some (.iadd, 1, 0, 0, .null) := rfl
set_option maxRecDepth 20000 in
theorem f_220_167 : px_at 220 167 = some (.iaload, 1, 0, 0, .null) := rfl
set_option maxRecDepth 20000 in
theorem f_220_168 : px_at 220 168 = some (.i2l, 1, 0, 0, .null) := rfl
set_option maxRecDepth 20000 in
theorem f_220_169 : px_at 220 169 = some (.ldc2_w 13, 3, 0, 0, .long (4294967295)) := rfl
set_option maxRecDepth 20000 in
theorem f_220_172 : px_at 220 172 = some (.land, 1, 0, 0, .null) := rfl
set_option maxRecDepth 20000 in
theorem f_220_173 : px_at 220 173 = some (.lor, 1, 0, 0, .null) := rfl
set_option maxRecDepth 20000 in
theorem f_220_174 : px_at 220 174 = some (.aload_n 0, 1, 0, 0, .null) := rfl
set_option maxRecDepth 20000 in
theorem f_220_175 : px_at 220 175 = some (.iload_n 3, 1, 0, 0, .null) := rfl
set_option maxRecDepth 20000 in
theorem f_220_176 : px_at 220 176 = some (.iconst 3, 1, 0, 0, .null) := rfl
set_option maxRecDepth 20000 in
theorem f_220_177 : px_at 220 177 = some (.iadd, 1, 0, 0, .null) := rfl
set_option maxRecDepth 20000 in
theorem f_220_178 : px_at 220 178 = some (.iaload, 1, 0, 0, .null) := rfl
set_option maxRecDepth 20000 in
theorem f_220_179 : px_at 220 179 = some (.invokevirtual 19, 3, 119, 1, .null) := rfl
set_option maxRecDepth 20000 in
theorem f_220_182 : px_at 220 182 = some (.if_icmp .eq 569, 3, 751, 0, .null) := rfl
set_option maxRecDepth 20000 in
theorem f_220_185 : px_at 220 185 = some (.iconst 0, 1, 0, 0, .null) := rfl
set_option maxRecDepth 20000 in
theorem f_220_186 : px_at 220 186 = some (.ireturn, 1, 0, 0, .null) := rfl
set_option maxRecDepth 20000 in
theorem f_220_187 : px_at 220 187 = some (.aload_n 1, 1, 0, 0, .null) := rfl
set_option maxRecDepth 20000 in
theorem f_220_188 : px_at 220 188 = some (.invokevirtual 20, 3, 91, 1, .null) := rfl
set_option maxRecDepth 20000 in
theorem f_220_191 : px_at 220 191 = some (.aload_n 2, 1, 0, 0, .null) := rfl
set_option maxRecDepth 20000 in
theorem f_220_192 : px_at 220 192 = some (.invokevirtual 24, 3, 139, 1, .null) := rfl
set_option maxRecDepth 20000 in
theorem f_220_195 : px_at 220 195 = some (.if_icmp .eq 556, 3, 751, 0, .null) := rfl
set_option maxRecDepth 20000 in
theorem f_220_198 : px_at 220 198 = some (.iconst 0, 1, 0, 0, .null) := rfl
set_option maxRecDepth 20000 in
theorem f_220_199 : px_at 220 199 = some (.ireturn, 1, 0, 0, .null) := rfl
set_option maxRecDepth 20000 in
theorem f_220_200 : px_at 220 200 = some (.aload_n 1, 1, 0, 0, .null) := rfl
set_option maxRecDepth 20000 in
theorem f_220_201 : px_at 220 201 = some (.aload_n 0, 1, 0, 0, .null) := rfl
set_option maxRecDepth 20000 in
theorem f_220_202 : px_at 220 202 = some (.iload_n 3, 1, 0, 0, .null) := rfl
set_option maxRecDepth 20000 in
theorem f_220_203 : px_at 220 203 = some (.iconst 1, 1, 0, 0, .null) := rfl
set_option maxRecDepth 20000 in
theorem f_220_204 : px_at 220 204 = some (.iadd, 1, 0, 0, .null) := rfl
set_option maxRecDepth 20000 in
theorem f_220_205 : px_at 220 205 = some (.iaload, 1, 0, 0, .null) := rfl
set_option maxRecDepth 20000 in
theorem f_220_206 : px_at 220 206 = some (.invokevirtual 25, 3, 92, 1, .null) := rfl
set_option maxRecDepth 20000 in
theorem f_220_209 : px_at 220 209 = some (.aload_n 2, 1, 0, 0, .null) := rfl
set_option maxRecDepth 20000 in
theorem f_220_210 : px_at 220 210 = some (.aload_n 0, 1, 0, 0, .null) := rfl
set_option maxRecDepth 20000 in
theorem f_220_211 : px_at 220 211 = some (.iload_n 3, 1, 0, 0, .null) := rfl
set_option maxRecDepth 20000 in
theorem f_220_212 : px_at 220 212 = some (.iconst 1, 1, 0, 0, .null) := rfl
set_option maxRecDepth 20000 in
theorem f_220_213 : px_at 220 213 = some (.iadd, 1, 0, 0, .null) := rfl
set_option maxRecDepth 20000 in
theorem f_220_214 : px_at 220 214 = some (.iaload, 1, 0, 0, .null) := rfl
set_option maxRecDepth 20000 in
theorem f_220_215 : px_at 220 215 = some (.invokevirtual 29, 3, 203, 1, .null) := rfl
set_option maxRecDepth 20000 in
theorem f_220_218 : px_at 220 218 = some (.if_icmp .eq 533, 3, 751, 0, .null) := rfl
set_option maxRecDepth 20000 in
theorem f_220_221 : px_at 220 221 = some (.iconst 0, 1, 0, 0, .null) := rfl
set_option maxRecDepth 20000 in
theorem f_220_222 : px_at 220 222 = some (.ireturn, 1, 0, 0, .null) := rfl
set_option maxRecDepth 20000 in
theorem f_220_223 : px_at 220 223 = some (.aload_n 1, 1, 0, 0, .null) := rfl
set_option maxRecDepth 20000 in
theorem f_220_224 : px_at 220 224 = some (.aload_n 0, 1, 0, 0, .null) := rfl
set_option maxRecDepth 20000 in
theorem f_220_225 : px_at 220 225 = some (.iload_n 3, 1, 0, 0, .null) := rfl
set_option maxRecDepth 20000 in
theorem f_220_226 : px_at 220 226 = some (.iconst 1, 1, 0, 0, .null) := rfl
set_option maxRecDepth 20000 in
theorem f_220_227 : px_at 220 227 = some (.iadd, 1, 0, 0, .null) := rfl
set_option maxRecDepth 20000 in
theorem f_220_228 : px_at 220 228 = some (.iaload, 1, 0, 0, .null) := rfl
set_option maxRecDepth 20000 in
theorem f_220_229 : px_at 220 229 = some (.invokevirtual 30, 3, 93, 1, .null) := rfl
set_option maxRecDepth 20000 in
theorem f_220_232 : px_at 220 232 = some (.aload_n 2, 1, 0, 0, .null) := rfl
set_option maxRecDepth 20000 in
theorem f_220_233 : px_at 220 233 = some (.aload_n 0, 1, 0, 0, .null) := rfl
set_option maxRecDepth 20000 in
theorem f_220_234 : px_at 220 234 = some (.iload_n 3, 1, 0, 0, .null) := rfl
set_option maxRecDepth 20000 in
theorem f_220_235 : px_at 220 235 = some (.iconst 1, 1, 0, 0, .null) := rfl
set_option maxRecDepth 20000 in
theorem f_220_236 : px_at 220 236 = some (.iadd, 1, 0, 0, .null) := rfl
set_option maxRecDepth 20000 in
theorem f_220_237 : px_at 220 237 = some (.iaload, 1, 0, 0, .null) := rfl
set_option maxRecDepth 20000 in
theorem f_220_238 : px_at 220 238 = some (.invokevirtual 33, 3, 168, 1, .null) := rfl
set_option maxRecDepth 20000 in
theorem f_220_241 : px_at 220 241 = some (.if_icmp .eq 510, 3, 751, 0, .null) := rfl
set_option maxRecDepth 20000 in
theorem f_220_244 : px_at 220 244 = some (.iconst 0, 1, 0, 0, .null) := rfl
set_option maxRecDepth 20000 in
theorem f_220_245 : px_at 220 245 = some (.ireturn, 1, 0, 0, .null) := rfl
set_option maxRecDepth 20000 in
theorem f_220_246 : px_at 220 246 = some (.aload_n 1, 1, 0, 0, .null) := rfl
set_option maxRecDepth 20000 in
theorem f_220_247 : px_at 220 247 = some (.aload_n 0, 1, 0, 0, .null) := rfl
set_option maxRecDepth 20000 in
theorem f_220_248 : px_at 220 248 = some (.iload_n 3, 1, 0, 0, .null) := rfl
set_option maxRecDepth 20000 in
theorem f_220_249 : px_at 220 249 = some (.iconst 1, 1, 0, 0, .null) := rfl
set_option maxRecDepth 20000 in
theorem f_220_250 : px_at 220 250 = some (.iadd, 1, 0, 0, .null) := rfl
set_option maxRecDepth 20000 in
theorem f_220_251 : px_at 220 251 = some (.iaload, 1, 0, 0, .null) := rfl
set_option maxRecDepth 20000 in
theorem f_220_252 : px_at 220 252 = some (.aload_n 0, 1, 0, 0, .null) := rfl
set_option maxRecDepth 20000 in
theorem f_220_253 : px_at 220 253 = some (.iload_n 3, 1, 0, 0, .null) := rfl
set_option maxRecDepth 20000 in
theorem f_220_254 : px_at 220 254 = some (.iconst 2, 1, 0, 0, .null) := rfl
set_option maxRecDepth 20000 in
theorem f_220_255 : px_at 220 255 = some (.iadd, 1, 0, 0, .null) := rfl
set_option maxRecDepth 20000 in
theorem f_220_256 : px_at 220 256 = some (.iaload, 1, 0, 0, .null) := rfl
set_option maxRecDepth 20000 in
theorem f_220_257 : px_at 220 257 = some (.invokevirtual 34, 3, 94, 1, .null) := rfl
set_option maxRecDepth 20000 in
theorem f_220_260 : px_at 220 260 = some (.aload_n 2, 1, 0, 0, .null) := rfl
set_option maxRecDepth 20000 in
theorem f_220_261 : px_at 220 261 = some (.aload_n 0, 1, 0, 0, .null) := rfl
set_option maxRecDepth 20000 in
theorem f_220_262 : px_at 220 262 = some (.iload_n 3, 1, 0, 0, .null) := rfl
set_option maxRecDepth 20000 in
theorem f_220_263 : px_at 220 263 = some (.iconst 1, 1, 0, 0, .null) := rfl
set_option maxRecDepth 20000 in
theorem f_220_264 : px_at 220 264 = some (.iadd, 1, 0, 0, .null) := rfl
set_option maxRecDepth 20000 in
theorem f_220_265 : px_at 220 265 = some (.iaload, 1, 0, 0, .null) := rfl
set_option maxRecDepth 20000 in
theorem f_220_266 : px_at 220 266 = some (.aload_n 0, 1, 0, 0, .null) := rfl
set_option maxRecDepth 20000 in
theorem f_220_267 : px_at 220 267 = some (.iload_n 3, 1, 0, 0, .null) := rfl
set_option maxRecDepth 20000 in
theorem f_220_268 : px_at 220 268 = some (.iconst 2, 1, 0, 0, .null) := rfl
set_option maxRecDepth 20000 in
theorem f_220_269 : px_at 220 269 = some (.iadd, 1, 0, 0, .null) := rfl
set_option maxRecDepth 20000 in
theorem f_220_270 : px_at 220 270 = some (.iaload, 1, 0, 0, .null) := rfl
set_option maxRecDepth 20000 in
theorem f_220_271 : px_at 220 271 = some (.invokevirtual 38, 3, 169, 1, .null) := rfl
set_option maxRecDepth 20000 in
theorem f_220_274 : px_at 220 274 = some (.if_icmp .eq 477, 3, 751, 0, .null) := rfl
set_option maxRecDepth 20000 in
theorem f_220_277 : px_at 220 277 = some (.iconst 0, 1, 0, 0, .null) := rfl
set_option maxRecDepth 20000 in
theorem f_220_278 : px_at 220 278 = some (.ireturn, 1, 0, 0, .null) := rfl
set_option maxRecDepth 20000 in
theorem f_220_279 : px_at 220 279 = some (.aload_n 1, 1, 0, 0, .null) := rfl
set_option maxRecDepth 20000 in
theorem f_220_280 : px_at 220 280 = some (.aload_n 0, 1, 0, 0, .null) := rfl
set_option maxRecDepth 20000 in
theorem f_220_281 : px_at 220 281 = some (.iload_n 3, 1, 0, 0, .null) := rfl
set_option maxRecDepth 20000 in
theorem f_220_282 : px_at 220 282 = some (.iconst 1, 1, 0, 0, .null) := rfl
set_option maxRecDepth 20000 in
theorem f_220_283 : px_at 220 283 = some (.iadd, 1, 0, 0, .null) := rfl
set_option maxRecDepth 20000 in
theorem f_220_284 : px_at 220 284 = some (.iaload, 1, 0, 0, .null) := rfl
set_option maxRecDepth 20000 in
theorem f_220_285 : px_at 220 285 = some (.aload_n 0, 1, 0, 0, .null) := rfl
set_option maxRecDepth 20000 in
theorem f_220_286 : px_at 220 286 = some (.iload_n 3, 1, 0, 0, .null) := rfl
set_option maxRecDepth 20000 in
theorem f_220_287 : px_at 220 287 = some (.iconst 2, 1, 0, 0, .null) := rfl
set_option maxRecDepth 20000 in
theorem f_220_288 : px_at 220 288 = some (.iadd, 1, 0, 0, .null) := rfl
set_option maxRecDepth 20000 in
theorem f_220_289 : px_at 220 289 = some (.iaload, 1, 0, 0, .null) := rfl
set_option maxRecDepth 20000 in
theorem f_220_290 : px_at 220 290 = some (.aload_n 0, 1, 0, 0, .null) := rfl
set_option maxRecDepth 20000 in
theorem f_220_291 : px_at 220 291 = some (.iload_n 3, 1, 0, 0, .null) := rfl
set_option maxRecDepth 20000 in
theorem f_220_292 : px_at 220 292 = some (.iconst 3, 1, 0, 0, .null) := rfl
set_option maxRecDepth 20000 in
theorem f_220_293 : px_at 220 293 = some (.iadd, 1, 0, 0, .null) := rfl
set_option maxRecDepth 20000 in
theorem f_220_294 : px_at 220 294 = some (.iaload, 1, 0, 0, .null) := rfl
set_option maxRecDepth 20000 in
theorem f_220_295 : px_at 220 295 = some (.invokevirtual 39, 3, 95, 1, .null) := rfl
set_option maxRecDepth 20000 in
theorem f_220_298 : px_at 220 298 = some (.aload_n 2, 1, 0, 0, .null) := rfl
set_option maxRecDepth 20000 in
theorem f_220_299 : px_at 220 299 = some (.aload_n 0, 1, 0, 0, .null) := rfl
set_option maxRecDepth 20000 in
theorem f_220_300 : px_at 220 300 = some (.iload_n 3, 1, 0, 0, .null) := rfl
set_option maxRecDepth 20000 in
theorem f_220_301 : px_at 220 301 = some (.iconst 1, 1, 0, 0, .null) := rfl
set_option maxRecDepth 20000 in
theorem f_220_302 : px_at 220 302 = some (.iadd, 1, 0, 0, .null) := rfl
set_option maxRecDepth 20000 in
theorem f_220_303 : px_at 220 303 = some (.iaload, 1, 0, 0, .null) := rfl
set_option maxRecDepth 20000 in
theorem f_220_304 : px_at 220 304 = some (.aload_n 0, 1, 0, 0, .null) := rfl
set_option maxRecDepth 20000 in
theorem f_220_305 : px_at 220 305 = some (.iload_n 3, 1, 0, 0, .null) := rfl
set_option maxRecDepth 20000 in
theorem f_220_306 : px_at 220 306 = some (.iconst 2, 1, 0, 0, .null) := rfl
set_option maxRecDepth 20000 in
theorem f_220_307 : px_at 220 307 = some (.iadd, 1, 0, 0, .null) := rfl
set_option maxRecDepth 20000 in
theorem f_220_308 : px_at 220 308 = some (.iaload, 1, 0, 0, .null) := rfl
set_option maxRecDepth 20000 in
theorem f_220_309 : px_at 220 309 = some (.aload_n 0, 1, 0, 0, .null) := rfl
set_option maxRecDepth 20000 in
theorem f_220_310 : px_at 220 310 = some (.iload_n 3, 1, 0, 0, .null) := rfl
set_option maxRecDepth 20000 in
theorem f_220_311 : px_at 220 311 = some (.iconst 3, 1, 0, 0, .null) := rfl
set_option maxRecDepth 20000 in
theorem f_220_312 : px_at 220 312 = some (.iadd, 1, 0, 0, .null) := rfl
set_option maxRecDepth 20000 in
theorem f_220_313 : px_at 220 313 = some (.iaload, 1, 0, 0, .null) := rfl
set_option maxRecDepth 20000 in
theorem f_220_314 : px_at 220 314 = some (.invokevirtual 43, 3, 170, 1, .null) := rfl
set_option maxRecDepth 20000 in
theorem f_220_317 : px_at 220 317 = some (.if_icmp .eq 434, 3, 751, 0, .null) := rfl
set_option maxRecDepth 20000 in
theorem f_220_320 : px_at 220 320 = some (.iconst 0, 1, 0, 0, .null) := rfl
set_option maxRecDepth 20000 in
theorem f_220_321 : px_at 220 321 = some (.ireturn, 1, 0, 0, .null) := rfl
set_option maxRecDepth 20000 in
theorem f_220_322 : px_at 220 322 = some (.aload_n 1, 1, 0, 0, .null) := rfl
set_option maxRecDepth 20000 in
theorem f_220_323 : px_at 220 323 = some (.aload_n 0, 1, 0, 0, .null) := rfl
set_option maxRecDepth 20000 in
theorem f_220_324 : px_at 220 324 = some (.iload_n 3, 1, 0, 0, .null) := rfl
set_option maxRecDepth 20000 in
theorem f_220_325 : px_at 220 325 = some (.iconst 1, 1, 0, 0, .null) := rfl
set_option maxRecDepth 20000 in
theorem f_220_326 : px_at 220 326 = some (.iadd, 1, 0, 0, .null) := rfl
set_option maxRecDepth 20000 in
theorem f_220_327 : px_at 220 327 = some (.iaload, 1, 0, 0, .null) := rfl
set_option maxRecDepth 20000 in
theorem f_220_328 : px_at 220 328 = some (.invokevirtual 44, 3, 96, 1, .null) := rfl
set_option maxRecDepth 20000 in
theorem f_220_331 : px_at 220 331 = some (.aload_n 2, 1, 0, 0, .null) := rfl
set_option maxRecDepth 20000 in
theorem f_220_332 : px_at 220 332 = some (.aload_n 0, 1, 0, 0, .null) := rfl
set_option maxRecDepth 20000 in
theorem f_220_333 : px_at 220 333 = some (.iload_n 3, 1, 0, 0, .null) := rfl
set_option maxRecDepth 20000 in
theorem f_220_334 : px_at 220 334 = some (.iconst 1, 1, 0, 0, .null) := rfl
set_option maxRecDepth 20000 in
theorem f_220_335 : px_at 220 335 = some (.iadd, 1, 0, 0, .null) := rfl
set_option maxRecDepth 20000 in
theorem f_220_336 : px_at 220 336 = some (.iaload, 1, 0, 0, .null) := rfl
set_option maxRecDepth 20000 in
theorem f_220_337 : px_at 220 337 = some (.invokevirtual 47, 3, 171, 1, .null) := rfl
set_option maxRecDepth 20000 in
theorem f_220_340 : px_at 220 340 = some (.if_icmp .eq 411, 3, 751, 0, .null) := rfl
set_option maxRecDepth 20000 in
theorem f_220_343 : px_at 220 343 = some (.iconst 0, 1, 0, 0, .null) := rfl
set_option maxRecDepth 20000 in
theorem f_220_344 : px_at 220 344 = some (.ireturn, 1, 0, 0, .null) := rfl
set_option maxRecDepth 20000 in
theorem f_220_345 : px_at 220 345 = some (.aload_n 1, 1, 0, 0, .null) := rfl
set_option maxRecDepth 20000 in
theorem f_220_346 : px_at 220 346 = some (.aload_n 0, 1, 0, 0, .null) := rfl
set_option maxRecDepth 20000 in
theorem f_220_347 : px_at 220 347 = some (.iload_n 3, 1, 0, 0, .null) := rfl
set_option maxRecDepth 20000 in
theorem f_220_348 : px_at 220 348 = some (.iconst 1, 1, 0, 0, .null) := rfl
set_option maxRecDepth 20000 in
theorem f_220_349 : px_at 220 349 = some (.iadd, 1, 0, 0, .null) := rfl
set_option maxRecDepth 20000 in
theorem f_220_350 : px_at 220 350 = some (.iaload, 1, 0, 0, .null) := rfl
set_option maxRecDepth 20000 in
theorem f_220_351 : px_at 220 351 = some (.aload_n 0, 1, 0, 0, .null) := rfl
set_option maxRecDepth 20000 in
theorem f_220_352 : px_at 220 352 = some (.iload_n 3, 1, 0, 0, .null) := rfl
set_option maxRecDepth 20000 in
theorem f_220_353 : px_at 220 353 = some (.iconst 2, 1, 0, 0, .null) := rfl
set_option maxRecDepth 20000 in
theorem f_220_354 : px_at 220 354 = some (.iadd, 1, 0, 0, .null) := rfl
set_option maxRecDepth 20000 in
theorem f_220_355 : px_at 220 355 = some (.iaload, 1, 0, 0, .null) := rfl
set_option maxRecDepth 20000 in
theorem f_220_356 : px_at 220 356 = some (.invokevirtual 48, 3, 97, 1, .null) := rfl
set_option maxRecDepth 20000 in
theorem f_220_359 : px_at 220 359 = some (.aload_n 2, 1, 0, 0, .null) := rfl
set_option maxRecDepth 20000 in
theorem f_220_360 : px_at 220 360 = some (.aload_n 0, 1, 0, 0, .null) := rfl
set_option maxRecDepth 20000 in
theorem f_220_361 : px_at 220 361 = some (.iload_n 3, 1, 0, 0, .null) := rfl
set_option maxRecDepth 20000 in
theorem f_220_362 : px_at 220 362 = some (.iconst 1, 1, 0, 0, .null) := rfl
set_option maxRecDepth 20000 in
theorem f_220_363 : px_at 220 363 = some (.iadd, 1, 0, 0, .null) := rfl
set_option maxRecDepth 20000 in
theorem f_220_364 : px_at 220 364 = some (.iaload, 1, 0, 0, .null) := rfl
set_option maxRecDepth 20000 in
theorem f_220_365 : px_at 220 365 = some (.aload_n 0, 1, 0, 0, .null) := rfl
set_option maxRecDepth 20000 in
theorem f_220_366 : px_at 220 366 = some (.iload_n 3, 1, 0, 0, .null) := rfl
set_option maxRecDepth 20000 in
theorem f_220_367 : px_at 220 367 = some (.iconst 2, 1, 0, 0, .null) := rfl
set_option maxRecDepth 20000 in
theorem f_220_368 : px_at 220 368 = some (.iadd, 1, 0, 0, .null) := rfl
set_option maxRecDepth 20000 in
theorem f_220_369 : px_at 220 369 = some (.iaload, 1, 0, 0, .null) := rfl
set_option maxRecDepth 20000 in
theorem f_220_370 : px_at 220 370 = some (.invokevirtual 51, 3, 179, 1, .null) := rfl
set_option maxRecDepth 20000 in
theorem f_220_373 : px_at 220 373 = some (.if_icmp .eq 378, 3, 751, 0, .null) := rfl
set_option maxRecDepth 20000 in
theorem f_220_376 : px_at 220 376 = some (.iconst 0, 1, 0, 0, .null) := rfl
set_option maxRecDepth 20000 in
theorem f_220_377 : px_at 220 377 = some (.ireturn, 1, 0, 0, .null) := rfl
set_option maxRecDepth 20000 in
theorem f_220_378 : px_at 220 378 = some (.aload_n 1, 1, 0, 0, .null) := rfl
set_option maxRecDepth 20000 in
theorem f_220_379 : px_at 220 379 = some (.aload_n 0, 1, 0, 0, .null) := rfl
set_option maxRecDepth 20000 in
theorem f_220_380 : px_at 220 380 = some (.iload_n 3, 1, 0, 0, .null) := rfl
set_option maxRecDepth 20000 in
theorem f_220_381 : px_at 220 381 = some (.iconst 1, 1, 0, 0, .null) := rfl
set_option maxRecDepth 20000 in
theorem f_220_382 : px_at 220 382 = some (.iadd, 1, 0, 0, .null) := rfl
set_option maxRecDepth 20000 in
theorem f_220_383 : px_at 220 383 = some (.iaload, 1, 0, 0, .null) := rfl
set_option maxRecDepth 20000 in
theorem f_220_384 : px_at 220 384 = some (.aload_n 0, 1, 0, 0, .null) := rfl
set_option maxRecDepth 20000 in
theorem f_220_385 : px_at 220 385 = some (.iload_n 3, 1, 0, 0, .null) := rfl
set_option maxRecDepth 20000 in
theorem f_220_386 : px_at 220 386 = some (.iconst 2, 1, 0, 0, .null) := rfl
set_option maxRecDepth 20000 in
theorem f_220_387 : px_at 220 387 = some (.iadd, 1, 0, 0, .null) := rfl
set_option maxRecDepth 20000 in
theorem f_220_388 : px_at 220 388 = some (.iaload, 1, 0, 0, .null) := rfl
set_option maxRecDepth 20000 in
theorem f_220_389 : px_at 220 389 = some (.aload_n 0, 1, 0, 0, .null) := rfl
set_option maxRecDepth 20000 in
theorem f_220_390 : px_at 220 390 = some (.iload_n 3, 1, 0, 0, .null) := rfl
set_option maxRecDepth 20000 in
theorem f_220_391 : px_at 220 391 = some (.iconst 3, 1, 0, 0, .null) := rfl
set_option maxRecDepth 20000 in
theorem f_220_392 : px_at 220 392 = some (.iadd, 1, 0, 0, .null) := rfl
set_option maxRecDepth 20000 in
theorem f_220_393 : px_at 220 393 = some (.iaload, 1, 0, 0, .null) := rfl
set_option maxRecDepth 20000 in
theorem f_220_394 : px_at 220 394 = some (.invokevirtual 52, 3, 98, 1, .null) := rfl
set_option maxRecDepth 20000 in
theorem f_220_397 : px_at 220 397 = some (.aload_n 2, 1, 0, 0, .null) := rfl
set_option maxRecDepth 20000 in
theorem f_220_398 : px_at 220 398 = some (.aload_n 0, 1, 0, 0, .null) := rfl
set_option maxRecDepth 20000 in
theorem f_220_399 : px_at 220 399 = some (.iload_n 3, 1, 0, 0, .null) := rfl
set_option maxRecDepth 20000 in
theorem f_220_400 : px_at 220 400 = some (.iconst 1, 1, 0, 0, .null) := rfl
set_option maxRecDepth 20000 in
theorem f_220_401 : px_at 220 401 = some (.iadd, 1, 0, 0, .null) := rfl
set_option maxRecDepth 20000 in
theorem f_220_402 : px_at 220 402 = some (.iaload, 1, 0, 0, .null) := rfl
set_option maxRecDepth 20000 in
theorem f_220_403 : px_at 220 403 = some (.aload_n 0, 1, 0, 0, .null) := rfl
set_option maxRecDepth 20000 in
theorem f_220_404 : px_at 220 404 = some (.iload_n 3, 1, 0, 0, .null) := rfl
set_option maxRecDepth 20000 in
theorem f_220_405 : px_at 220 405 = some (.iconst 2, 1, 0, 0, .null) := rfl
set_option maxRecDepth 20000 in
theorem f_220_406 : px_at 220 406 = some (.iadd, 1, 0, 0, .null) := rfl
set_option maxRecDepth 20000 in
theorem f_220_407 : px_at 220 407 = some (.iaload, 1, 0, 0, .null) := rfl
set_option maxRecDepth 20000 in
theorem f_220_408 : px_at 220 408 = some (.aload_n 0, 1, 0, 0, .null) := rfl
set_option maxRecDepth 20000 in
theorem f_220_409 : px_at 220 409 = some (.iload_n 3, 1, 0, 0, .null) := rfl
set_option maxRecDepth 20000 in
theorem f_220_410 : px_at 220 410 = some (.iconst 3, 1, 0, 0, .null) := rfl
set_option maxRecDepth 20000 in
theorem f_220_411 : px_at 220 411 = some (.iadd, 1, 0, 0, .null) := rfl
set_option maxRecDepth 20000 in
theorem f_220_412 : px_at 220 412 = some (.iaload, 1, 0, 0, .null) := rfl
set_option maxRecDepth 20000 in
theorem f_220_413 : px_at 220 413 = some (.invokevirtual 55, 3, 180, 1, .null) := rfl
set_option maxRecDepth 20000 in
theorem f_220_416 : px_at 220 416 = some (.if_icmp .eq 335, 3, 751, 0, .null) := rfl
set_option maxRecDepth 20000 in
theorem f_220_419 : px_at 220 419 = some (.iconst 0, 1, 0, 0, .null) := rfl
set_option maxRecDepth 20000 in
theorem f_220_420 : px_at 220 420 = some (.ireturn, 1, 0, 0, .null) := rfl
set_option maxRecDepth 20000 in
theorem f_220_421 : px_at 220 421 = some (.aload_n 1, 1, 0, 0, .null) := rfl
set_option maxRecDepth 20000 in
theorem f_220_422 : px_at 220 422 = some (.aload_n 0, 1, 0, 0, .null) := rfl
set_option maxRecDepth 20000 in
theorem f_220_423 : px_at 220 423 = some (.iload_n 3, 1, 0, 0, .null) := rfl
set_option maxRecDepth 20000 in
theorem f_220_424 : px_at 220 424 = some (.iconst 1, 1, 0, 0, .null) := rfl
set_option maxRecDepth 20000 in
theorem f_220_425 : px_at 220 425 = some (.iadd, 1, 0, 0, .null) := rfl
set_option maxRecDepth 20000 in
theorem f_220_426 : px_at 220 426 = some (.iaload, 1, 0, 0, .null) := rfl
set_option maxRecDepth 20000 in
theorem f_220_427 : px_at 220 427 = some (.aload_n 0, 1, 0, 0, .null) := rfl
set_option maxRecDepth 20000 in
theorem f_220_428 : px_at 220 428 = some (.iload_n 3, 1, 0, 0, .null) := rfl
set_option maxRecDepth 20000 in
theorem f_220_429 : px_at 220 429 = some (.iconst 2, 1, 0, 0, .null) := rfl
set_option maxRecDepth 20000 in
theorem f_220_430 : px_at 220 430 = some (.iadd, 1, 0, 0, .null) := rfl
set_option maxRecDepth 20000 in
theorem f_220_431 : px_at 220 431 = some (.iaload, 1, 0, 0, .null) := rfl
set_option maxRecDepth 20000 in
theorem f_220_432 : px_at 220 432 = some (.invokevirtual 56, 3, 99, 1, .null) := rfl
set_option maxRecDepth 20000 in
theorem f_220_435 : px_at 220 435 = some (.aload_n 2, 1, 0, 0, .null) := rfl
set_option maxRecDepth 20000 in
theorem f_220_436 : px_at 220 436 = some (.aload_n 0, 1, 0, 0, .null) := rfl
set_option maxRecDepth 20000 in
theorem f_220_437 : px_at 220 437 = some (.iload_n 3, 1, 0, 0, .null) := rfl
set_option maxRecDepth 20000 in
theorem f_220_438 : px_at 220 438 = some (.iconst 1, 1, 0, 0, .null) := rfl
set_option maxRecDepth 20000 in
theorem f_220_439 : px_at 220 439 = some (.iadd, 1, 0, 0, .null) := rfl
set_option maxRecDepth 20000 in
theorem f_220_440 : px_at 220 440 = some (.iaload, 1, 0, 0, .null) := rfl
set_option maxRecDepth 20000 in
theorem f_220_441 : px_at 220 441 = some (.aload_n 0, 1, 0, 0, .null) := rfl
set_option maxRecDepth 20000 in
theorem f_220_442 : px_at 220 442 = some (.iload_n 3, 1, 0, 0, .null) := rfl
set_option maxRecDepth 20000 in
theorem f_220_443 : px_at 220 443 = some (.iconst 2, 1, 0, 0, .null) := rfl
set_option maxRecDepth 20000 in
theorem f_220_444 : px_at 220 444 = some (.iadd, 1, 0, 0, .null) := rfl
set_option maxRecDepth 20000 in
theorem f_220_445 : px_at 220 445 = some (.iaload, 1, 0, 0, .null) := rfl
set_option maxRecDepth 20000 in
theorem f_220_446 : px_at 220 446 = some (.invokevirtual 59, 3, 186, 1, .null) := rfl
set_option maxRecDepth 20000 in
theorem f_220_449 : px_at 220 449 = some (.if_icmp .eq 302, 3, 751, 0, .null) := rfl
set_option maxRecDepth 20000 in
theorem f_220_452 : px_at 220 452 = some (.iconst 0, 1, 0, 0, .null) := rfl
set_option maxRecDepth 20000 in
theorem f_220_453 : px_at 220 453 = some (.ireturn, 1, 0, 0, .null) := rfl
set_option maxRecDepth 20000 in
theorem f_220_454 : px_at 220 454 = some (.aload_n 1, 1, 0, 0, .null) := rfl
set_option maxRecDepth 20000 in
theorem f_220_455 : px_at 220 455 = some (.aload_n 0, 1, 0, 0, .null) := rfl
set_option maxRecDepth 20000 in
theorem f_220_456 : px_at 220 456 = some (.iload_n 3, 1, 0, 0, .null) := rfl
set_option maxRecDepth 20000 in
theorem f_220_457 : px_at 220 457 = some (.iconst 1, 1, 0, 0, .null) := rfl
set_option maxRecDepth 20000 in
theorem f_220_458 : px_at 220 458 = some (.iadd, 1, 0, 0, .null) := rfl
set_option maxRecDepth 20000 in
theorem f_220_459 : px_at 220 459 = some (.iaload, 1, 0, 0, .null) := rfl
set_option maxRecDepth 20000 in
theorem f_220_460 : px_at 220 460 = some (.aload_n 0, 1, 0, 0, .null) := rfl
set_option maxRecDepth 20000 in
theorem f_220_461 : px_at 220 461 = some (.iload_n 3, 1, 0, 0, .null) := rfl
set_option maxRecDepth 20000 in
theorem f_220_462 : px_at 220 462 = some (.iconst 2, 1, 0, 0, .null) := rfl
set_option maxRecDepth 20000 in
theorem f_220_463 : px_at 220 463 = some (.iadd, 1, 0, 0, .null) := rfl
set_option maxRecDepth 20000 in
theorem f_220_464 : px_at 220 464 = some (.iaload, 1, 0, 0, .null) := rfl
set_option maxRecDepth 20000 in
theorem f_220_465 : px_at 220 465 = some (.aload_n 0, 1, 0, 0, .null) := rfl
set_option maxRecDepth 20000 in
theorem f_220_466 : px_at 220 466 = some (.iload_n 3, 1, 0, 0, .null) := rfl
set_option maxRecDepth 20000 in
theorem f_220_467 : px_at 220 467 = some (.iconst 3, 1, 0, 0, .null) := rfl
set_option maxRecDepth 20000 in
theorem f_220_468 : px_at 220 468 = some (.iadd, 1, 0, 0, .null) := rfl
set_option maxRecDepth 20000 in
theorem f_220_469 : px_at 220 469 = some (.iaload, 1, 0, 0, .null) := rfl
set_option maxRecDepth 20000 in
theorem f_220_470 : px_at 220 470 = some (.invokevirtual 60, 3, 100, 1, .null) := rfl
set_option maxRecDepth 20000 in
theorem f_220_473 : px_at 220 473 = some (.aload_n 2, 1, 0, 0, .null) := rfl
set_option maxRecDepth 20000 in
theorem f_220_474 : px_at 220 474 = some (.aload_n 0, 1, 0, 0, .null) := rfl
set_option maxRecDepth 20000 in
theorem f_220_475 : px_at 220 475 = some (.iload_n 3, 1, 0, 0, .null) := rfl
set_option maxRecDepth 20000 in
theorem f_220_476 : px_at 220 476 = some (.iconst 1, 1, 0, 0, .null) := rfl
set_option maxRecDepth 20000 in
theorem f_220_477 : px_at 220 477 = some (.iadd, 1, 0, 0, .null) := rfl
set_option maxRecDepth 20000 in
theorem f_220_478 : px_at 220 478 = some (.iaload, 1, 0, 0, .null) := rfl
set_option maxRecDepth 20000 in
theorem f_220_479 : px_at 220 479 = some (.aload_n 0, 1, 0, 0, .null) := rfl
set_option maxRecDepth 20000 in
theorem f_220_480 : px_at 220 480 = some (.iload_n 3, 1, 0, 0, .null) := rfl
set_option maxRecDepth 20000 in
theorem f_220_481 : px_at 220 481 = some (.iconst 2, 1, 0, 0, .null) := rfl
set_option maxRecDepth 20000 in
theorem f_220_482 : px_at 220 482 = some (.iadd, 1, 0, 0, .null) := rfl
set_option maxRecDepth 20000 in
theorem f_220_483 : px_at 220 483 = some (.iaload, 1, 0, 0, .null) := rfl
set_option maxRecDepth 20000 in
theorem f_220_484 : px_at 220 484 = some (.aload_n 0, 1, 0, 0, .null) := rfl
set_option maxRecDepth 20000 in
theorem f_220_485 : px_at 220 485 = some (.iload_n 3, 1, 0, 0, .null) := rfl
set_option maxRecDepth 20000 in
theorem f_220_486 : px_at 220 486 = some (.iconst 3, 1, 0, 0, .null) := rfl
set_option maxRecDepth 20000 in
theorem f_220_487 : px_at 220 487 = some (.iadd, 1, 0, 0, .null) := rfl
set_option maxRecDepth 20000 in
theorem f_220_488 : px_at 220 488 = some (.iaload, 1, 0, 0, .null) := rfl
set_option maxRecDepth 20000 in
theorem f_220_489 : px_at 220 489 = some (.invokevirtual 63, 3, 187, 1, .null) := rfl
set_option maxRecDepth 20000 in
theorem f_220_492 : px_at 220 492 = some (.if_icmp .eq 259, 3, 751, 0, .null) := rfl
set_option maxRecDepth 20000 in
theorem f_220_495 : px_at 220 495 = some (.iconst 0, 1, 0, 0, .null) := rfl
set_option maxRecDepth 20000 in
theorem f_220_496 : px_at 220 496 = some (.ireturn, 1, 0, 0, .null) := rfl
set_option maxRecDepth 20000 in
theorem f_220_497 : px_at 220 497 = some (.aload_n 1, 1, 0, 0, .null) := rfl
set_option maxRecDepth 20000 in
theorem f_220_498 : px_at 220 498 = some (.aload_n 0, 1, 0, 0, .null) := rfl
set_option maxRecDepth 20000 in
theorem f_220_499 : px_at 220 499 = some (.iload_n 3, 1, 0, 0, .null) := rfl
set_option maxRecDepth 20000 in
theorem f_220_500 : px_at 220 500 = some (.iconst 1, 1, 0, 0, .null) := rfl
set_option maxRecDepth 20000 in
theorem f_220_501 : px_at 220 501 = some (.iadd, 1, 0, 0, .null) := rfl
set_option maxRecDepth 20000 in
theorem f_220_502 : px_at 220 502 = some (.iaload, 1, 0, 0, .null) := rfl
set_option maxRecDepth 20000 in
theorem f_220_503 : px_at 220 503 = some (.aload_n 0, 1, 0, 0, .null) := rfl
set_option maxRecDepth 20000 in
theorem f_220_504 : px_at 220 504 = some (.iload_n 3, 1, 0, 0, .null) := rfl
set_option maxRecDepth 20000 in
theorem f_220_505 : px_at 220 505 = some (.iconst 2, 1, 0, 0, .null) := rfl
set_option maxRecDepth 20000 in
theorem f_220_506 : px_at 220 506 = some (.iadd, 1, 0, 0, .null) := rfl
set_option maxRecDepth 20000 in
theorem f_220_507 : px_at 220 507 = some (.iaload, 1, 0, 0, .null) := rfl
set_option maxRecDepth 20000 in
theorem f_220_508 : px_at 220 508 = some (.invokevirtual 64, 3, 101, 1, .null) := rfl
set_option maxRecDepth 20000 in
theorem f_220_511 : px_at 220 511 = some (.aload_n 2, 1, 0, 0, .null) := rfl
set_option maxRecDepth 20000 in
theorem f_220_512 : px_at 220 512 = some (.aload_n 0, 1, 0, 0, .null) := rfl
set_option maxRecDepth 20000 in
theorem f_220_513 : px_at 220 513 = some (.iload_n 3, 1, 0, 0, .null) := rfl
set_option maxRecDepth 20000 in
theorem f_220_514 : px_at 220 514 = some (.iconst 1, 1, 0, 0, .null) := rfl
set_option maxRecDepth 20000 in
theorem f_220_515 : px_at 220 515 = some (.iadd, 1, 0, 0, .null) := rfl
set_option maxRecDepth 20000 in
theorem f_220_516 : px_at 220 516 = some (.iaload, 1, 0, 0, .null) := rfl
set_option maxRecDepth 20000 in
theorem f_220_517 : px_at 220 517 = some (.aload_n 0, 1, 0, 0, .null) := rfl
set_option maxRecDepth 20000 in
theorem f_220_518 : px_at 220 518 = some (.iload_n 3, 1, 0, 0, .null) := rfl
set_option maxRecDepth 20000 in
theorem f_220_519 : px_at 220 519 = some (.iconst 2, 1, 0, 0, .null) := rfl
set_option maxRecDepth 20000 in
theorem f_220_520 : px_at 220 520 = some (.iadd, 1, 0, 0, .null) := rfl
set_option maxRecDepth 20000 in
theorem f_220_521 : px_at 220 521 = some (.iaload, 1, 0, 0, .null) := rfl
set_option maxRecDepth 20000 in
theorem f_220_522 : px_at 220 522 = some (.invokevirtual 67, 3, 188, 1, .null) := rfl
set_option maxRecDepth 20000 in
theorem f_220_525 : px_at 220 525 = some (.if_icmp .eq 226, 3, 751, 0, .null) := rfl
set_option maxRecDepth 20000 in
theorem f_220_528 : px_at 220 528 = some (.iconst 0, 1, 0, 0, .null) := rfl
set_option maxRecDepth 20000 in
theorem f_220_529 : px_at 220 529 = some (.ireturn, 1, 0, 0, .null) := rfl
set_option maxRecDepth 20000 in
theorem f_220_530 : px_at 220 530 = some (.aload_n 1, 1, 0, 0, .null) := rfl
set_option maxRecDepth 20000 in
theorem f_220_531 : px_at 220 531 = some (.aload_n 0, 1, 0, 0, .null) := rfl
set_option maxRecDepth 20000 in
theorem f_220_532 : px_at 220 532 = some (.iload_n 3, 1, 0, 0, .null) := rfl
set_option maxRecDepth 20000 in
theorem f_220_533 : px_at 220 533 = some (.iconst 1, 1, 0, 0, .null) := rfl
set_option maxRecDepth 20000 in
theorem f_220_534 : px_at 220 534 = some (.iadd, 1, 0, 0, .null) := rfl
set_option maxRecDepth 20000 in
theorem f_220_535 : px_at 220 535 = some (.iaload, 1, 0, 0, .null) := rfl
set_option maxRecDepth 20000 in
theorem f_220_536 : px_at 220 536 = some (.invokevirtual 68, 3, 102, 1, .null) := rfl
set_option maxRecDepth 20000 in
theorem f_220_539 : px_at 220 539 = some (.aload_n 2, 1, 0, 0, .null) := rfl
set_option maxRecDepth 20000 in
theorem f_220_540 : px_at 220 540 = some (.aload_n 0, 1, 0, 0, .null) := rfl
set_option maxRecDepth 20000 in
theorem f_220_541 : px_at 220 541 = some (.iload_n 3, 1, 0, 0, .null) := rfl
set_option maxRecDepth 20000 in
theorem f_220_542 : px_at 220 542 = some (.iconst 1, 1, 0, 0, .null) := rfl
set_option maxRecDepth 20000 in
theorem f_220_543 : px_at 220 543 = some (.iadd, 1, 0, 0, .null) := rfl
set_option maxRecDepth 20000 in
theorem f_220_544 : px_at 220 544 = some (.iaload, 1, 0, 0, .null) := rfl
set_option maxRecDepth 20000 in
theorem f_220_545 : px_at 220 545 = some (.invokevirtual 71, 3, 191, 1, .null) := rfl
set_option maxRecDepth 20000 in
theorem f_220_548 : px_at 220 548 = some (.if_icmp .eq 203, 3, 751, 0, .null) := rfl
set_option maxRecDepth 20000 in
theorem f_220_551 : px_at 220 551 = some (.iconst 0, 1, 0, 0, .null) := rfl
set_option maxRecDepth 20000 in
theorem f_220_552 : px_at 220 552 = some (.ireturn, 1, 0, 0, .null) := rfl
set_option maxRecDepth 20000 in
theorem f_220_553 : px_at 220 553 = some (.aload_n 1, 1, 0, 0, .null) := rfl
set_option maxRecDepth 20000 in
theorem f_220_554 : px_at 220 554 = some (.aload_n 0, 1, 0, 0, .null) := rfl
set_option maxRecDepth 20000 in
theorem f_220_555 : px_at 220 555 = some (.iload_n 3, 1, 0, 0, .null) := rfl
set_option maxRecDepth 20000 in
theorem f_220_556 : px_at 220 556 = some (.iconst 1, 1, 0, 0, .null) := rfl
set_option maxRecDepth 20000 in
theorem f_220_557 : px_at 220 557 = some (.iadd, 1, 0, 0, .null) := rfl
set_option maxRecDepth 20000 in
theorem f_220_558 : px_at 220 558 = some (.iaload, 1, 0, 0, .null) := rfl
set_option maxRecDepth 20000 in
theorem f_220_559 : px_at 220 559 = some (.aload_n 0, 1, 0, 0, .null) := rfl
set_option maxRecDepth 20000 in
theorem f_220_560 : px_at 220 560 = some (.iload_n 3, 1, 0, 0, .null) := rfl
set_option maxRecDepth 20000 in
theorem f_220_561 : px_at 220 561 = some (.iconst 2, 1, 0, 0, .null) := rfl
set_option maxRecDepth 20000 in
theorem f_220_562 : px_at 220 562 = some (.iadd, 1, 0, 0, .null) := rfl
set_option maxRecDepth 20000 in
theorem f_220_563 : px_at 220 563 = some (.iaload, 1, 0, 0, .null) := rfl
set_option maxRecDepth 20000 in
theorem f_220_564 : px_at 220 564 = some (.invokevirtual 72, 3, 103, 1, .null) := rfl
set_option maxRecDepth 20000 in
theorem f_220_567 : px_at 220 567 = some (.aload_n 2, 1, 0, 0, .null) := rfl
set_option maxRecDepth 20000 in
theorem f_220_568 : px_at 220 568 = some (.aload_n 0, 1, 0, 0, .null) := rfl
set_option maxRecDepth 20000 in
theorem f_220_569 : px_at 220 569 = some (.iload_n 3, 1, 0, 0, .null) := rfl
set_option maxRecDepth 20000 in
theorem f_220_570 : px_at 220 570 = some (.iconst 1, 1, 0, 0, .null) := rfl
set_option maxRecDepth 20000 in
theorem f_220_571 : px_at 220 571 = some (.iadd, 1, 0, 0, .null) := rfl
set_option maxRecDepth 20000 in
theorem f_220_572 : px_at 220 572 = some (.iaload, 1, 0, 0, .null) := rfl
set_option maxRecDepth 20000 in
theorem f_220_573 : px_at 220 573 = some (.aload_n 0, 1, 0, 0, .null) := rfl
set_option maxRecDepth 20000 in
theorem f_220_574 : px_at 220 574 = some (.iload_n 3, 1, 0, 0, .null) := rfl
set_option maxRecDepth 20000 in
theorem f_220_575 : px_at 220 575 = some (.iconst 2, 1, 0, 0, .null) := rfl
set_option maxRecDepth 20000 in
theorem f_220_576 : px_at 220 576 = some (.iadd, 1, 0, 0, .null) := rfl
set_option maxRecDepth 20000 in
theorem f_220_577 : px_at 220 577 = some (.iaload, 1, 0, 0, .null) := rfl
set_option maxRecDepth 20000 in
theorem f_220_578 : px_at 220 578 = some (.invokevirtual 75, 3, 192, 1, .null) := rfl
set_option maxRecDepth 20000 in
theorem f_220_581 : px_at 220 581 = some (.if_icmp .eq 170, 3, 751, 0, .null) := rfl
set_option maxRecDepth 20000 in
theorem f_220_584 : px_at 220 584 = some (.iconst 0, 1, 0, 0, .null) := rfl
set_option maxRecDepth 20000 in
theorem f_220_585 : px_at 220 585 = some (.ireturn, 1, 0, 0, .null) := rfl
set_option maxRecDepth 20000 in
theorem f_220_586 : px_at 220 586 = some (.aload_n 1, 1, 0, 0, .null) := rfl
set_option maxRecDepth 20000 in
theorem f_220_587 : px_at 220 587 = some (.aload_n 0, 1, 0, 0, .null) := rfl
set_option maxRecDepth 20000 in
theorem f_220_588 : px_at 220 588 = some (.iload_n 3, 1, 0, 0, .null) := rfl
set_option maxRecDepth 20000 in
theorem f_220_589 : px_at 220 589 = some (.iconst 1, 1, 0, 0, .null) := rfl
set_option maxRecDepth 20000 in
theorem f_220_590 : px_at 220 590 = some (.iadd, 1, 0, 0, .null) := rfl
set_option maxRecDepth 20000 in
theorem f_220_591 : px_at 220 591 = some (.iaload, 1, 0, 0, .null) := rfl
set_option maxRecDepth 20000 in
theorem f_220_592 : px_at 220 592 = some (.aload_n 0, 1, 0, 0, .null) := rfl
set_option maxRecDepth 20000 in
theorem f_220_593 : px_at 220 593 = some (.iload_n 3, 1, 0, 0, .null) := rfl
set_option maxRecDepth 20000 in
theorem f_220_594 : px_at 220 594 = some (.iconst 2, 1, 0, 0, .null) := rfl
set_option maxRecDepth 20000 in
theorem f_220_595 : px_at 220 595 = some (.iadd, 1, 0, 0, .null) := rfl
set_option maxRecDepth 20000 in
theorem f_220_596 : px_at 220 596 = some (.iaload, 1, 0, 0, .null) := rfl
set_option maxRecDepth 20000 in
theorem f_220_597 : px_at 220 597 = some (.invokevirtual 76, 3, 104, 1, .null) := rfl
set_option maxRecDepth 20000 in
theorem f_220_600 : px_at 220 600 = some (.aload_n 2, 1, 0, 0, .null) := rfl
set_option maxRecDepth 20000 in
theorem f_220_601 : px_at 220 601 = some (.aload_n 0, 1, 0, 0, .null) := rfl
set_option maxRecDepth 20000 in
theorem f_220_602 : px_at 220 602 = some (.iload_n 3, 1, 0, 0, .null) := rfl
set_option maxRecDepth 20000 in
theorem f_220_603 : px_at 220 603 = some (.iconst 1, 1, 0, 0, .null) := rfl
set_option maxRecDepth 20000 in
theorem f_220_604 : px_at 220 604 = some (.iadd, 1, 0, 0, .null) := rfl
set_option maxRecDepth 20000 in
theorem f_220_605 : px_at 220 605 = some (.iaload, 1, 0, 0, .null) := rfl
set_option maxRecDepth 20000 in
theorem f_220_606 : px_at 220 606 = some (.aload_n 0, 1, 0, 0, .null) := rfl
set_option maxRecDepth 20000 in
theorem f_220_607 : px_at 220 607 = some (.iload_n 3, 1, 0, 0, .null) := rfl
set_option maxRecDepth 20000 in
theorem f_220_608 : px_at 220 608 = some (.iconst 2, 1, 0, 0, .null) := rfl
set_option maxRecDepth 20000 in
theorem f_220_609 : px_at 220 609 = some (.iadd, 1, 0, 0, .null) := rfl
set_option maxRecDepth 20000 in
theorem f_220_610 : px_at 220 610 = some (.iaload, 1, 0, 0, .null) := rfl
set_option maxRecDepth 20000 in
theorem f_220_611 : px_at 220 611 = some (.invokevirtual 79, 3, 193, 1, .null) := rfl
set_option maxRecDepth 20000 in
theorem f_220_614 : px_at 220 614 = some (.if_icmp .eq 137, 3, 751, 0, .null) := rfl
set_option maxRecDepth 20000 in
theorem f_220_617 : px_at 220 617 = some (.iconst 0, 1, 0, 0, .null) := rfl
set_option maxRecDepth 20000 in
theorem f_220_618 : px_at 220 618 = some (.ireturn, 1, 0, 0, .null) := rfl
set_option maxRecDepth 20000 in
theorem f_220_619 : px_at 220 619 = some (.aload_n 1, 1, 0, 0, .null) := rfl
set_option maxRecDepth 20000 in
theorem f_220_620 : px_at 220 620 = some (.aload_n 0, 1, 0, 0, .null) := rfl
set_option maxRecDepth 20000 in
theorem f_220_621 : px_at 220 621 = some (.iload_n 3, 1, 0, 0, .null) := rfl
set_option maxRecDepth 20000 in
theorem f_220_622 : px_at 220 622 = some (.iconst 1, 1, 0, 0, .null) := rfl
set_option maxRecDepth 20000 in
theorem f_220_623 : px_at 220 623 = some (.iadd, 1, 0, 0, .null) := rfl
set_option maxRecDepth 20000 in
theorem f_220_624 : px_at 220 624 = some (.iaload, 1, 0, 0, .null) := rfl
set_option maxRecDepth 20000 in
theorem f_220_625 : px_at 220 625 = some (.aload_n 0, 1, 0, 0, .null) := rfl
set_option maxRecDepth 20000 in
theorem f_220_626 : px_at 220 626 = some (.iload_n 3, 1, 0, 0, .null) := rfl
set_option maxRecDepth 20000 in
theorem f_220_627 : px_at 220 627 = some (.iconst 2, 1, 0, 0, .null) := rfl
set_option maxRecDepth 20000 in
theorem f_220_628 : px_at 220 628 = some (.iadd, 1, 0, 0, .null) := rfl
set_option maxRecDepth 20000 in
theorem f_220_629 : px_at 220 629 = some (.iaload, 1, 0, 0, .null) := rfl
set_option maxRecDepth 20000 in
theorem f_220_630 : px_at 220 630 = some (.invokevirtual 80, 3, 105, 1, .null) := rfl
set_option maxRecDepth 20000 in
theorem f_220_633 : px_at 220 633 = some (.aload_n 2, 1, 0, 0, .null) := rfl
set_option maxRecDepth 20000 in
theorem f_220_634 : px_at 220 634 = some (.aload_n 0, 1, 0, 0, .null) := rfl
set_option maxRecDepth 20000 in
theorem f_220_635 : px_at 220 635 = some (.iload_n 3, 1, 0, 0, .null) := rfl
set_option maxRecDepth 20000 in
theorem f_220_636 : px_at 220 636 = some (.iconst 1, 1, 0, 0, .null) := rfl
set_option maxRecDepth 20000 in
theorem f_220_637 : px_at 220 637 = some (.iadd, 1, 0, 0, .null) := rfl
set_option maxRecDepth 20000 in
theorem f_220_638 : px_at 220 638 = some (.iaload, 1, 0, 0, .null) := rfl
set_option maxRecDepth 20000 in
theorem f_220_639 : px_at 220 639 = some (.aload_n 0, 1, 0, 0, .null) := rfl
set_option maxRecDepth 20000 in
theorem f_220_640 : px_at 220 640 = some (.iload_n 3, 1, 0, 0, .null) := rfl
set_option maxRecDepth 20000 in
theorem f_220_641 : px_at 220 641 = some (.iconst 2, 1, 0, 0, .null) := rfl
set_option maxRecDepth 20000 in
theorem f_220_642 : px_at 220 642 = some (.iadd, 1, 0, 0, .null) := rfl
set_option maxRecDepth 20000 in
theorem f_220_643 : px_at 220 643 = some (.iaload, 1, 0, 0, .null) := rfl
set_option maxRecDepth 20000 in
theorem f_220_644 : px_at 220 644 = some (.invokevirtual 83, 3, 201, 1, .null) := rfl
set_option maxRecDepth 20000 in
theorem f_220_647 : px_at 220 647 = some (.if_icmp .eq 104, 3, 751, 0, .null) := rfl
set_option maxRecDepth 20000 in
theorem f_220_650 : px_at 220 650 = some (.iconst 0, 1, 0, 0, .null) := rfl
set_option maxRecDepth 20000 in
theorem f_220_651 : px_at 220 651 = some (.ireturn, 1, 0, 0, .null) := rfl
set_option maxRecDepth 20000 in
theorem f_220_652 : px_at 220 652 = some (.aload_n 1, 1, 0, 0, .null) := rfl
set_option maxRecDepth 20000 in
theorem f_220_653 : px_at 220 653 = some (.aload_n 0, 1, 0, 0, .null) := rfl
set_option maxRecDepth 20000 in
theorem f_220_654 : px_at 220 654 = some (.iload_n 3, 1, 0, 0, .null) := rfl
set_option maxRecDepth 20000 in
theorem f_220_655 : px_at 220 655 = some (.iconst 1, 1, 0, 0, .null) := rfl
set_option maxRecDepth 20000 in
theorem f_220_656 : px_at 220 656 = some (.iadd, 1, 0, 0, .null) := rfl
set_option maxRecDepth 20000 in
theorem f_220_657 : px_at 220 657 = some (.iaload, 1, 0, 0, .null) := rfl
set_option maxRecDepth 20000 in
theorem f_220_658 : px_at 220 658 = some (.invokevirtual 84, 3, 106, 1, .null) := rfl
set_option maxRecDepth 20000 in
theorem f_220_661 : px_at 220 661 = some (.aload_n 2, 1, 0, 0, .null) := rfl
set_option maxRecDepth 20000 in
theorem f_220_662 : px_at 220 662 = some (.aload_n 0, 1, 0, 0, .null) := rfl
set_option maxRecDepth 20000 in
theorem f_220_663 : px_at 220 663 = some (.iload_n 3, 1, 0, 0, .null) := rfl
set_option maxRecDepth 20000 in
theorem f_220_664 : px_at 220 664 = some (.iconst 1, 1, 0, 0, .null) := rfl
set_option maxRecDepth 20000 in
theorem f_220_665 : px_at 220 665 = some (.iadd, 1, 0, 0, .null) := rfl
set_option maxRecDepth 20000 in
theorem f_220_666 : px_at 220 666 = some (.iaload, 1, 0, 0, .null) := rfl
set_option maxRecDepth 20000 in
theorem f_220_667 : px_at 220 667 = some (.invokevirtual 87, 3, 202, 1, .null) := rfl
set_option maxRecDepth 20000 in
theorem f_220_670 : px_at 220 670 = some (.if_icmp .eq 81, 3, 751, 0, .null) := rfl
set_option maxRecDepth 20000 in
theorem f_220_673 : px_at 220 673 = some (.iconst 0, 1, 0, 0, .null) := rfl
set_option maxRecDepth 20000 in
theorem f_220_674 : px_at 220 674 = some (.ireturn, 1, 0, 0, .null) := rfl
set_option maxRecDepth 20000 in
theorem f_220_675 : px_at 220 675 = some (.aload_n 1, 1, 0, 0, .null) := rfl
set_option maxRecDepth 20000 in
theorem f_220_676 : px_at 220 676 = some (.aload_n 0, 1, 0, 0, .null) := rfl
set_option maxRecDepth 20000 in
theorem f_220_677 : px_at 220 677 = some (.iload_n 3, 1, 0, 0, .null) := rfl
set_option maxRecDepth 20000 in
theorem f_220_678 : px_at 220 678 = some (.iconst 1, 1, 0, 0, .null) := rfl
set_option maxRecDepth 20000 in
theorem f_220_679 : px_at 220 679 = some (.iadd, 1, 0, 0, .null) := rfl
set_option maxRecDepth 20000 in
theorem f_220_680 : px_at 220 680 = some (.iaload, 1, 0, 0, .null) := rfl
set_option maxRecDepth 20000 in
theorem f_220_681 : px_at 220 681 = some (.aload_n 0, 1, 0, 0, .null) := rfl
set_option maxRecDepth 20000 in
theorem f_220_682 : px_at 220 682 = some (.iload_n 3, 1, 0, 0, .null) := rfl
set_option maxRecDepth 20000 in
theorem f_220_683 : px_at 220 683 = some (.iconst 2, 1, 0, 0, .null) := rfl
set_option maxRecDepth 20000 in
theorem f_220_684 : px_at 220 684 = some (.iadd, 1, 0, 0, .null) := rfl
set_option maxRecDepth 20000 in
theorem f_220_685 : px_at 220 685 = some (.iaload, 1, 0, 0, .null) := rfl
set_option maxRecDepth 20000 in
theorem f_220_686 : px_at 220 686 = some (.aload_n 0, 1, 0, 0, .null) := rfl
set_option maxRecDepth 20000 in
theorem f_220_687 : px_at 220 687 = some (.iload_n 3, 1, 0, 0, .null) := rfl
set_option maxRecDepth 20000 in
theorem f_220_688 : px_at 220 688 = some (.iconst 3, 1, 0, 0, .null) := rfl
set_option maxRecDepth 20000 in
theorem f_220_689 : px_at 220 689 = some (.iadd, 1, 0, 0, .null) := rfl
set_option maxRecDepth 20000 in
theorem f_220_690 : px_at 220 690 = some (.iaload, 1, 0, 0, .null) := rfl
set_option maxRecDepth 20000 in
theorem f_220_691 : px_at 220 691 = some (.invokevirtual 88, 3, 107, 1, .null) := rfl
set_option maxRecDepth 20000 in
theorem f_220_694 : px_at 220 694 = some (.aload_n 2, 1, 0, 0, .null) := rfl
set_option maxRecDepth 20000 in
theorem f_220_695 : px_at 220 695 = some (.aload_n 0, 1, 0, 0, .null) := rfl
set_option maxRecDepth 20000 in
theorem f_220_696 : px_at 220 696 = some (.iload_n 3, 1, 0, 0, .null) := rfl
set_option maxRecDepth 20000 in
theorem f_220_697 : px_at 220 697 = some (.iconst 1, 1, 0, 0, .null) := rfl
set_option maxRecDepth 20000 in
theorem f_220_698 : px_at 220 698 = some (.iadd, 1, 0, 0, .null) := rfl
set_option maxRecDepth 20000 in
theorem f_220_699 : px_at 220 699 = some (.iaload, 1, 0, 0, .null) := rfl
set_option maxRecDepth 20000 in
theorem f_220_700 : px_at 220 700 = some (.aload_n 0, 1, 0, 0, .null) := rfl
set_option maxRecDepth 20000 in
theorem f_220_701 : px_at 220 701 = some (.iload_n 3, 1, 0, 0, .null) := rfl
set_option maxRecDepth 20000 in
theorem f_220_702 : px_at 220 702 = some (.iconst 2, 1, 0, 0, .null) := rfl
set_option maxRecDepth 20000 in
theorem f_220_703 : px_at 220 703 = some (.iadd, 1, 0, 0, .null) := rfl
set_option maxRecDepth 20000 in
theorem f_220_704 : px_at 220 704 = some (.iaload, 1, 0, 0, .null) := rfl
set_option maxRecDepth 20000 in
theorem f_220_705 : px_at 220 705 = some (.aload_n 0, 1, 0, 0, .null) := rfl
set_option maxRecDepth 20000 in
theorem f_220_706 : px_at 220 706 = some (.iload_n 3, 1, 0, 0, .null) := rfl
set_option maxRecDepth 20000 in
theorem f_220_707 : px_at 220 707 = some (.iconst 3, 1, 0, 0, .null) := rfl
set_option maxRecDepth 20000 in
theorem f_220_708 : px_at 220 708 = some (.iadd, 1, 0, 0, .null) := rfl
set_option maxRecDepth 20000 in
theorem f_220_709 : px_at 220 709 = some (.iaload, 1, 0, 0, .null) := rfl
set_option maxRecDepth 20000 in
theorem f_220_710 : px_at 220 710 = some (.invokevirtual 91, 3, 204, 1, .null) := rfl
set_option maxRecDepth 20000 in
theorem f_220_713 : px_at 220 713 = some (.if_icmp .eq 38, 3, 751, 0, .null) := rfl
set_option maxRecDepth 20000 in
theorem f_220_716 : px_at 220 716 = some (.iconst 0, 1, 0, 0, .null) := rfl
set_option maxRecDepth 20000 in
theorem f_220_717 : px_at 220 717 = some (.ireturn, 1, 0, 0, .null) := rfl
set_option maxRecDepth 20000 in
theorem f_220_718 : px_at 220 718 = some (.aload_n 1, 1, 0, 0, .null) := rfl
set_option maxRecDepth 20000 in
theorem f_220_719 : px_at 220 719 = some (.aload_n 0, 1, 0, 0, .null) := rfl
set_option maxRecDepth 20000 in
theorem f_220_720 : px_at 220 720 = some (.iload_n 3, 1, 0, 0, .null) := rfl
set_option maxRecDepth 20000 in
theorem f_220_721 : px_at 220 721 = some (.iconst 1, 1, 0, 0, .null) := rfl
set_option maxRecDepth 20000 in
theorem f_220_722 : px_at 220 722 = some (.iadd, 1, 0, 0, .null) := rfl
set_option maxRecDepth 20000 in
theorem f_220_723 : px_at 220 723 = some (.iaload, 1, 0, 0, .null) := rfl
set_option maxRecDepth 20000 in
theorem f_220_724 : px_at 220 724 = some (.aload_n 0, 1, 0, 0, .null) := rfl
set_option maxRecDepth 20000 in
theorem f_220_725 : px_at 220 725 = some (.iload_n 3, 1, 0, 0, .null) := rfl
set_option maxRecDepth 20000 in
theorem f_220_726 : px_at 220 726 = some (.iconst 2, 1, 0, 0, .null) := rfl
set_option maxRecDepth 20000 in
theorem f_220_727 : px_at 220 727 = some (.iadd, 1, 0, 0, .null) := rfl
set_option maxRecDepth 20000 in
theorem f_220_728 : px_at 220 728 = some (.iaload, 1, 0, 0, .null) := rfl
set_option maxRecDepth 20000 in
theorem f_220_729 : px_at 220 729 = some (.invokevirtual 92, 3, 108, 1, .null) := rfl
set_option maxRecDepth 20000 in
theorem f_220_732 : px_at 220 732 = some (.aload_n 2, 1, 0, 0, .null) := rfl
set_option maxRecDepth 20000 in
theorem f_220_733 : px_at 220 733 = some (.aload_n 0, 1, 0, 0, .null) := rfl
set_option maxRecDepth 20000 in
theorem f_220_734 : px_at 220 734 = some (.iload_n 3, 1, 0, 0, .null) := rfl
set_option maxRecDepth 20000 in
theorem f_220_735 : px_at 220 735 = some (.iconst 1, 1, 0, 0, .null) := rfl
set_option maxRecDepth 20000 in
theorem f_220_736 : px_at 220 736 = some (.iadd, 1, 0, 0, .null) := rfl
set_option maxRecDepth 20000 in
theorem f_220_737 : px_at 220 737 = some (.iaload, 1, 0, 0, .null) := rfl
set_option maxRecDepth 20000 in
theorem f_220_738 : px_at 220 738 = some (.aload_n 0, 1, 0, 0, .null) := rfl
set_option maxRecDepth 20000 in
theorem f_220_739 : px_at 220 739 = some (.iload_n 3, 1, 0, 0, .null) := rfl
set_option maxRecDepth 20000 in
theorem f_220_740 : px_at 220 740 = some (.iconst 2, 1, 0, 0, .null) := rfl
set_option maxRecDepth 20000 in
theorem f_220_741 : px_at 220 741 = some (.iadd, 1, 0, 0, .null) := rfl
set_option maxRecDepth 20000 in
theorem f_220_742 : px_at 220 742 = some (.iaload, 1, 0, 0, .null) := rfl
set_option maxRecDepth 20000 in
theorem f_220_743 : px_at 220 743 = some (.invokevirtual 95, 3, 205, 1, .null) := rfl
set_option maxRecDepth 20000 in
theorem f_220_746 : px_at 220 746 = some (.if_icmp .eq 5, 3, 751, 0, .null) := rfl
set_option maxRecDepth 20000 in
theorem f_220_749 : px_at 220 749 = some (.iconst 0, 1, 0, 0, .null) := rfl
set_option maxRecDepth 20000 in
theorem f_220_750 : px_at 220 750 = some (.ireturn, 1, 0, 0, .null) := rfl
set_option maxRecDepth 20000 in
theorem f_220_751 : px_at 220 751 = some (.iinc 3 4, 3, 0, 0, .null) := rfl
set_option maxRecDepth 20000 in
theorem f_220_754 : px_at 220 754 = some (.goto (-736), 3, 18, 0, .null) := rfl
set_option maxRecDepth 20000 in
theorem f_220_757 : px_at 220 757 = some (.iconst 1, 1, 0, 0, .null) := rfl
set_option maxRecDepth 20000 in
theorem f_220_758 : px_at 220 758 = some (.ireturn, 1, 0, 0, .null) := rfl
