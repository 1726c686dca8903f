theorem okn_0 : (List.range' 0 12).all px_okn = true := by decide +kernel
theorem okn_12 : (List.range' 12 12).all px_okn = true := by decide +kernel
theorem okn_24 : (List.range' 24 12).all px_okn = true := by decide +kernel
theorem okn_36 : (List.range' 36 12).all px_okn = true := by decide +kernel
theorem okn_48 : (List.range' 48 12).all px_okn = true := by decide +kernel
theorem okn_60 : (List.range' 60 12).all px_okn = true := by decide +kernel
theorem okn_72 : (List.range' 72 12).all px_okn = true := by decide +kernel
theorem okn_84 : (List.range' 84 12).all px_okn = true := by decide +kernel
theorem okn_96 : (List.range' 96 12).all px_okn = true := by decide +kernel
theorem okn_108 : (List.range' 108 12).all px_okn = true := by decide +kernel
theorem okn_120 : (List.range' 120 12).all px_okn = true := by decide +kernel
theorem okn_132 : (List.range' 132 12).all px_okn = true := by decide +kernel
theorem okn_144 : (List.range' 144 12).all px_okn = true := by decide +kernel
theorem okn_156 : (List.range' 156 12).all px_okn = true := by decide +kernel
theorem okn_168 : (List.range' 168 12).all px_okn = true := by decide +kernel
theorem okn_180 : (List.range' 180 12).all px_okn = true := by decide +kernel
theorem okn_192 : (List.range' 192 12).all px_okn = true := by decide +kernel
theorem okn_204 : (List.range' 204 12).all px_okn = true := by decide +kernel
theorem okn_216 : (List.range' 216 4).all px_okn = true := by decide +kernel
theorem px_okn_ok (m : Nat) (h : m < 220) : px_okn m = true := by
  by_cases h0 : m < 12
  · exact List.all_eq_true.mp okn_0 m (List.mem_range'_1.mpr ⟨by omega, by omega⟩)
  by_cases h12 : m < 24
  · exact List.all_eq_true.mp okn_12 m (List.mem_range'_1.mpr ⟨by omega, by omega⟩)
  by_cases h24 : m < 36
  · exact List.all_eq_true.mp okn_24 m (List.mem_range'_1.mpr ⟨by omega, by omega⟩)
  by_cases h36 : m < 48
  · exact List.all_eq_true.mp okn_36 m (List.mem_range'_1.mpr ⟨by omega, by omega⟩)
  by_cases h48 : m < 60
  · exact List.all_eq_true.mp okn_48 m (List.mem_range'_1.mpr ⟨by omega, by omega⟩)
  by_cases h60 : m < 72
  · exact List.all_eq_true.mp okn_60 m (List.mem_range'_1.mpr ⟨by omega, by omega⟩)
  by_cases h72 : m < 84
  · exact List.all_eq_true.mp okn_72 m (List.mem_range'_1.mpr ⟨by omega, by omega⟩)
  by_cases h84 : m < 96
  · exact List.all_eq_true.mp okn_84 m (List.mem_range'_1.mpr ⟨by omega, by omega⟩)
  by_cases h96 : m < 108
  · exact List.all_eq_true.mp okn_96 m (List.mem_range'_1.mpr ⟨by omega, by omega⟩)
  by_cases h108 : m < 120
  · exact List.all_eq_true.mp okn_108 m (List.mem_range'_1.mpr ⟨by omega, by omega⟩)
  by_cases h120 : m < 132
  · exact List.all_eq_true.mp okn_120 m (List.mem_range'_1.mpr ⟨by omega, by omega⟩)
  by_cases h132 : m < 144
  · exact List.all_eq_true.mp okn_132 m (List.mem_range'_1.mpr ⟨by omega, by omega⟩)
  by_cases h144 : m < 156
  · exact List.all_eq_true.mp okn_144 m (List.mem_range'_1.mpr ⟨by omega, by omega⟩)
  by_cases h156 : m < 168
  · exact List.all_eq_true.mp okn_156 m (List.mem_range'_1.mpr ⟨by omega, by omega⟩)
  by_cases h168 : m < 180
  · exact List.all_eq_true.mp okn_168 m (List.mem_range'_1.mpr ⟨by omega, by omega⟩)
  by_cases h180 : m < 192
  · exact List.all_eq_true.mp okn_180 m (List.mem_range'_1.mpr ⟨by omega, by omega⟩)
  by_cases h192 : m < 204
  · exact List.all_eq_true.mp okn_192 m (List.mem_range'_1.mpr ⟨by omega, by omega⟩)
  by_cases h204 : m < 216
  · exact List.all_eq_true.mp okn_204 m (List.mem_range'_1.mpr ⟨by omega, by omega⟩)
  exact List.all_eq_true.mp okn_216 m (List.mem_range'_1.mpr ⟨by omega, by omega⟩)
theorem px_cw_0 (m : Nat) (h1 : 0 ≤ m) (h2 : m < 12) : px_cwP m := by
  rcases (show m = 0 ∨ m = 1 ∨ m = 2 ∨ m = 3 ∨ m = 4 ∨ m = 5 ∨ m = 6 ∨ m = 7 ∨ m = 8 ∨ m = 9 ∨ m = 10 ∨ m = 11 by omega) with rfl | rfl | rfl | rfl | rfl | rfl | rfl | rfl | rfl | rfl | rfl | rfl
  · exact cw_0
  · exact cw_1
  · exact cw_2
  · exact cw_3
  · exact cw_4
  · exact cw_5
  · exact cw_6
  · exact cw_7
  · exact cw_8
  · exact cw_9
  · exact cw_10
  · exact cw_11
theorem px_cw_12 (m : Nat) (h1 : 12 ≤ m) (h2 : m < 24) : px_cwP m := by
  rcases (show m = 12 ∨ m = 13 ∨ m = 14 ∨ m = 15 ∨ m = 16 ∨ m = 17 ∨ m = 18 ∨ m = 19 ∨ m = 20 ∨ m = 21 ∨ m = 22 ∨ m = 23 by omega) with rfl | rfl | rfl | rfl | rfl | rfl | rfl | rfl | rfl | rfl | rfl | rfl
  · exact cw_12
  · exact cw_13
  · exact cw_14
  · exact cw_15
  · exact cw_16
  · exact cw_17
  · exact cw_18
  · exact cw_19
  · exact cw_20
  · exact cw_21
  · exact cw_22
  · exact cw_23
theorem px_cw_24 (m : Nat) (h1 : 24 ≤ m) (h2 : m < 36) : px_cwP m := by
  rcases (show m = 24 ∨ m = 25 ∨ m = 26 ∨ m = 27 ∨ m = 28 ∨ m = 29 ∨ m = 30 ∨ m = 31 ∨ m = 32 ∨ m = 33 ∨ m = 34 ∨ m = 35 by omega) with rfl | rfl | rfl | rfl | rfl | rfl | rfl | rfl | rfl | rfl | rfl | rfl
  · exact cw_24
  · exact cw_25
  · exact cw_26
  · exact cw_27
  · exact cw_28
  · exact cw_29
  · exact cw_30
  · exact cw_31
  · exact cw_32
  · exact cw_33
  · exact cw_34
  · exact cw_35
theorem px_cw_36 (m : Nat) (h1 : 36 ≤ m) (h2 : m < 48) : px_cwP m := by
  rcases (show m = 36 ∨ m = 37 ∨ m = 38 ∨ m = 39 ∨ m = 40 ∨ m = 41 ∨ m = 42 ∨ m = 43 ∨ m = 44 ∨ m = 45 ∨ m = 46 ∨ m = 47 by omega) with rfl | rfl | rfl | rfl | rfl | rfl | rfl | rfl | rfl | rfl | rfl | rfl
  · exact cw_36
  · exact cw_37
  · exact cw_38
  · exact cw_39
  · exact cw_40
  · exact cw_41
  · exact cw_42
  · exact cw_43
  · exact cw_44
  · exact cw_45
  · exact cw_46
  · exact cw_47
theorem px_cw_48 (m : Nat) (h1 : 48 ≤ m) (h2 : m < 60) : px_cwP m := by
  rcases (show m = 48 ∨ m = 49 ∨ m = 50 ∨ m = 51 ∨ m = 52 ∨ m = 53 ∨ m = 54 ∨ m = 55 ∨ m = 56 ∨ m = 57 ∨ m = 58 ∨ m = 59 by omega) with rfl | rfl | rfl | rfl | rfl | rfl | rfl | rfl | rfl | rfl | rfl | rfl
  · exact cw_48
  · exact cw_49
  · exact cw_50
  · exact cw_51
  · exact cw_52
  · exact cw_53
  · exact cw_54
  · exact cw_55
  · exact cw_56
  · exact cw_57
  · exact cw_58
  · exact cw_59
theorem px_cw_60 (m : Nat) (h1 : 60 ≤ m) (h2 : m < 72) : px_cwP m := by
  rcases (show m = 60 ∨ m = 61 ∨ m = 62 ∨ m = 63 ∨ m = 64 ∨ m = 65 ∨ m = 66 ∨ m = 67 ∨ m = 68 ∨ m = 69 ∨ m = 70 ∨ m = 71 by omega) with rfl | rfl | rfl | rfl | rfl | rfl | rfl | rfl | rfl | rfl | rfl | rfl
  · exact cw_60
  · exact cw_61
  · exact cw_62
  · exact cw_63
  · exact cw_64
  · exact cw_65
  · exact cw_66
  · exact cw_67
  · exact cw_68
  · exact cw_69
  · exact cw_70
  · exact cw_71
theorem px_cw_72 (m : Nat) (h1 : 72 ≤ m) (h2 : m < 84) : px_cwP m := by
  rcases (show m = 72 ∨ m = 73 ∨ m = 74 ∨ m = 75 ∨ m = 76 ∨ m = 77 ∨ m = 78 ∨ m = 79 ∨ m = 80 ∨ m = 81 ∨ m = 82 ∨ m = 83 by omega) with rfl | rfl | rfl | rfl | rfl | rfl | rfl | rfl | rfl | rfl | rfl | rfl
  · exact cw_72
  · exact cw_73
  · exact cw_74
  · exact cw_75
  · exact cw_76
  · exact cw_77
  · exact cw_78
  · exact cw_79
  · exact cw_80
  · exact cw_81
  · exact cw_82
  · exact cw_83
theorem px_cw_84 (m : Nat) (h1 : 84 ≤ m) (h2 : m < 96) : px_cwP m := by
  rcases (show m = 84 ∨ m = 85 ∨ m = 86 ∨ m = 87 ∨ m = 88 ∨ m = 89 ∨ m = 90 ∨ m = 91 ∨ m = 92 ∨ m = 93 ∨ m = 94 ∨ m = 95 by omega) with rfl | rfl | rfl | rfl | rfl | rfl | rfl | rfl | rfl | rfl | rfl | rfl
  · exact cw_84
  · exact cw_85
  · exact cw_86
  · exact cw_87
  · exact cw_88
  · exact cw_89
  · exact cw_90
  · exact cw_91
  · exact cw_92
  · exact cw_93
  · exact cw_94
  · exact cw_95
theorem px_cw_96 (m : Nat) (h1 : 96 ≤ m) (h2 : m < 108) : px_cwP m := by
  rcases (show m = 96 ∨ m = 97 ∨ m = 98 ∨ m = 99 ∨ m = 100 ∨ m = 101 ∨ m = 102 ∨ m = 103 ∨ m = 104 ∨ m = 105 ∨ m = 106 ∨ m = 107 by omega) with rfl | rfl | rfl | rfl | rfl | rfl | rfl | rfl | rfl | rfl | rfl | rfl
  · exact cw_96
  · exact cw_97
  · exact cw_98
  · exact cw_99
  · exact cw_100
  · exact cw_101
  · exact cw_102
  · exact cw_103
  · exact cw_104
  · exact cw_105
  · exact cw_106
  · exact cw_107
theorem px_cw_108 (m : Nat) (h1 : 108 ≤ m) (h2 : m < 120) : px_cwP m := by
  rcases (show m = 108 ∨ m = 109 ∨ m = 110 ∨ m = 111 ∨ m = 112 ∨ m = 113 ∨ m = 114 ∨ m = 115 ∨ m = 116 ∨ m = 117 ∨ m = 118 ∨ m = 119 by omega) with rfl | rfl | rfl | rfl | rfl | rfl | rfl | rfl | rfl | rfl | rfl | rfl
  · exact cw_108
  · exact cw_109
  · exact cw_110
  · exact cw_111
  · exact cw_112
  · exact cw_113
  · exact cw_114
  · exact cw_115
  · exact cw_116
  · exact cw_117
  · exact cw_118
  · exact cw_119
theorem px_cw_120 (m : Nat) (h1 : 120 ≤ m) (h2 : m < 132) : px_cwP m := by
  rcases (show m = 120 ∨ m = 121 ∨ m = 122 ∨ m = 123 ∨ m = 124 ∨ m = 125 ∨ m = 126 ∨ m = 127 ∨ m = 128 ∨ m = 129 ∨ m = 130 ∨ m = 131 by omega) with rfl | rfl | rfl | rfl | rfl | rfl | rfl | rfl | rfl | rfl | rfl | rfl
  · exact cw_120
  · exact cw_121
  · exact cw_122
  · exact cw_123
  · exact cw_124
  · exact cw_125
  · exact cw_126
  · exact cw_127
  · exact cw_128
  · exact cw_129
  · exact cw_130
  · exact cw_131
theorem px_cw_132 (m : Nat) (h1 : 132 ≤ m) (h2 : m < 144) : px_cwP m := by
  rcases (show m = 132 ∨ m = 133 ∨ m = 134 ∨ m = 135 ∨ m = 136 ∨ m = 137 ∨ m = 138 ∨ m = 139 ∨ m = 140 ∨ m = 141 ∨ m = 142 ∨ m = 143 by omega) with rfl | rfl | rfl | rfl | rfl | rfl | rfl | rfl | rfl | rfl | rfl | rfl
  · exact cw_132
  · exact cw_133
  · exact cw_134
  · exact cw_135
  · exact cw_136
  · exact cw_137
  · exact cw_138
  · exact cw_139
  · exact cw_140
  · exact cw_141
  · exact cw_142
  · exact cw_143
theorem px_cw_144 (m : Nat) (h1 : 144 ≤ m) (h2 : m < 156) : px_cwP m := by
  rcases (show m = 144 ∨ m = 145 ∨ m = 146 ∨ m = 147 ∨ m = 148 ∨ m = 149 ∨ m = 150 ∨ m = 151 ∨ m = 152 ∨ m = 153 ∨ m = 154 ∨ m = 155 by omega) with rfl | rfl | rfl | rfl | rfl | rfl | rfl | rfl | rfl | rfl | rfl | rfl
  · exact cw_144
  · exact cw_145
  · exact cw_146
  · exact cw_147
  · exact cw_148
  · exact cw_149
  · exact cw_150
  · exact cw_151
  · exact cw_152
  · exact cw_153
  · exact cw_154
  · exact cw_155
theorem px_cw_156 (m : Nat) (h1 : 156 ≤ m) (h2 : m < 168) : px_cwP m := by
  rcases (show m = 156 ∨ m = 157 ∨ m = 158 ∨ m = 159 ∨ m = 160 ∨ m = 161 ∨ m = 162 ∨ m = 163 ∨ m = 164 ∨ m = 165 ∨ m = 166 ∨ m = 167 by omega) with rfl | rfl | rfl | rfl | rfl | rfl | rfl | rfl | rfl | rfl | rfl | rfl
  · exact cw_156
  · exact cw_157
  · exact cw_158
  · exact cw_159
  · exact cw_160
  · exact cw_161
  · exact cw_162
  · exact cw_163
  · exact cw_164
  · exact cw_165
  · exact cw_166
  · exact cw_167
theorem px_cw_168 (m : Nat) (h1 : 168 ≤ m) (h2 : m < 180) : px_cwP m := by
  rcases (show m = 168 ∨ m = 169 ∨ m = 170 ∨ m = 171 ∨ m = 172 ∨ m = 173 ∨ m = 174 ∨ m = 175 ∨ m = 176 ∨ m = 177 ∨ m = 178 ∨ m = 179 by omega) with rfl | rfl | rfl | rfl | rfl | rfl | rfl | rfl | rfl | rfl | rfl | rfl
  · exact cw_168
  · exact cw_169
  · exact cw_170
  · exact cw_171
  · exact cw_172
  · exact cw_173
  · exact cw_174
  · exact cw_175
  · exact cw_176
  · exact cw_177
  · exact cw_178
  · exact cw_179
theorem px_cw_180 (m : Nat) (h1 : 180 ≤ m) (h2 : m < 192) : px_cwP m := by
  rcases (show m = 180 ∨ m = 181 ∨ m = 182 ∨ m = 183 ∨ m = 184 ∨ m = 185 ∨ m = 186 ∨ m = 187 ∨ m = 188 ∨ m = 189 ∨ m = 190 ∨ m = 191 by omega) with rfl | rfl | rfl | rfl | rfl | rfl | rfl | rfl | rfl | rfl | rfl | rfl
  · exact cw_180
  · exact cw_181
  · exact cw_182
  · exact cw_183
  · exact cw_184
  · exact cw_185
  · exact cw_186
  · exact cw_187
  · exact cw_188
  · exact cw_189
  · exact cw_190
  · exact cw_191
theorem px_cw_192 (m : Nat) (h1 : 192 ≤ m) (h2 : m < 204) : px_cwP m := by
  rcases (show m = 192 ∨ m = 193 ∨ m = 194 ∨ m = 195 ∨ m = 196 ∨ m = 197 ∨ m = 198 ∨ m = 199 ∨ m = 200 ∨ m = 201 ∨ m = 202 ∨ m = 203 by omega) with rfl | rfl | rfl | rfl | rfl | rfl | rfl | rfl | rfl | rfl | rfl | rfl
  · exact cw_192
  · exact cw_193
  · exact cw_194
  · exact cw_195
  · exact cw_196
  · exact cw_197
  · exact cw_198
  · exact cw_199
  · exact cw_200
  · exact cw_201
  · exact cw_202
  · exact cw_203
theorem px_cw_204 (m : Nat) (h1 : 204 ≤ m) (h2 : m < 216) : px_cwP m := by
  rcases (show m = 204 ∨ m = 205 ∨ m = 206 ∨ m = 207 ∨ m = 208 ∨ m = 209 ∨ m = 210 ∨ m = 211 ∨ m = 212 ∨ m = 213 ∨ m = 214 ∨ m = 215 by omega) with rfl | rfl | rfl | rfl | rfl | rfl | rfl | rfl | rfl | rfl | rfl | rfl
  · exact cw_204
  · exact cw_205
  · exact cw_206
  · exact cw_207
  · exact cw_208
  · exact cw_209
  · exact cw_210
  · exact cw_211
  · exact cw_212
  · exact cw_213
  · exact cw_214
  · exact cw_215
theorem px_cw_216 (m : Nat) (h1 : 216 ≤ m) (h2 : m < 220) : px_cwP m := by
  rcases (show m = 216 ∨ m = 217 ∨ m = 218 ∨ m = 219 by omega) with rfl | rfl | rfl | rfl
  · exact cw_216
  · exact cw_217
  · exact cw_218
  · exact cw_219
theorem px_cw (m : Nat) (h : m < 220) : px_cwP m := by
  by_cases h0 : m < 12
  · exact px_cw_0 m (by omega) (by omega)
  by_cases h12 : m < 24
  · exact px_cw_12 m (by omega) (by omega)
  by_cases h24 : m < 36
  · exact px_cw_24 m (by omega) (by omega)
  by_cases h36 : m < 48
  · exact px_cw_36 m (by omega) (by omega)
  by_cases h48 : m < 60
  · exact px_cw_48 m (by omega) (by omega)
  by_cases h60 : m < 72
  · exact px_cw_60 m (by omega) (by omega)
  by_cases h72 : m < 84
  · exact px_cw_72 m (by omega) (by omega)
  by_cases h84 : m < 96
  · exact px_cw_84 m (by omega) (by omega)
  by_cases h96 : m < 108
  · exact px_cw_96 m (by omega) (by omega)
  by_cases h108 : m < 120
  · exact px_cw_108 m (by omega) (by omega)
  by_cases h120 : m < 132
  · exact px_cw_120 m (by omega) (by omega)
  by_cases h132 : m < 144
  · exact px_cw_132 m (by omega) (by omega)
  by_cases h144 : m < 156
  · exact px_cw_144 m (by omega) (by omega)
  by_cases h156 : m < 168
  · exact px_cw_156 m (by omega) (by omega)
  by_cases h168 : m < 180
  · exact px_cw_168 m (by omega) (by omega)
  by_cases h180 : m < 192
  · exact px_cw_180 m (by omega) (by omega)
  by_cases h192 : m < 204
  · exact px_cw_192 m (by omega) (by omega)
  by_cases h204 : m < 216
  · exact px_cw_204 m (by omega) (by omega)
  exact px_cw_216 m (by omega) (by omega)
