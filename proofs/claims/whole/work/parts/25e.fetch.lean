theorem f_142_0 : px_at 142 0 = some (.aload_n 0, 1, 0, 0, .null) := rfl
theorem f_142_1 : px_at 142 1 = some (.iconst 1, 1, 0, 0, .null) := rfl
theorem f_142_2 : px_at 142 2 = some (.putfield 232, 3, 12, 41, .null) := rfl
theorem f_142_5 : px_at 142 5 = some (.aload_n 0, 1, 0, 0, .null) := rfl
theorem f_142_6 : px_at 142 6 = some (.iload_n 1, 1, 0, 0, .null) := rfl
theorem f_142_7 : px_at 142 7 = some (.putfield 235, 3, 12, 42, .null) := rfl
theorem f_142_10 : px_at 142 10 = some (.aload_n 0, 1, 0, 0, .null) := rfl
theorem f_142_11 : px_at 142 11 = some (.iload_n 1, 1, 0, 0, .null) := rfl
theorem f_142_12 : px_at 142 12 = some (.iconst 4, 1, 0, 0, .null) := rfl
theorem f_142_13 : px_at 142 13 = some (.invokevirtual 238, 3, 141, 1, .null) := rfl
theorem f_142_16 : px_at 142 16 = some (.return_, 1, 0, 0, .null) := rfl

theorem f_143_0 : px_at 143 0 = some (.iconst 4, 1, 0, 0, .null) := rfl
theorem f_143_1 : px_at 143 1 = some (.sipush 511, 3, 0, 0, .null) := rfl
theorem f_143_4 : px_at 143 4 = some (.iload_n 1, 1, 0, 0, .null) := rfl
theorem f_143_5 : px_at 143 5 = some (.imul, 1, 0, 0, .null) := rfl
theorem f_143_6 : px_at 143 6 = some (.iadd, 1, 0, 0, .null) := rfl
theorem f_143_7 : px_at 143 7 = some (.iconst 0, 1, 0, 0, .null) := rfl
theorem f_143_8 : px_at 143 8 = some (.iadd, 1, 0, 0, .null) := rfl
theorem f_143_9 : px_at 143 9 = some (.istore_n 2, 1, 0, 0, .null) := rfl
theorem f_143_10 : px_at 143 10 = some (.aload_n 0, 1, 0, 0, .null) := rfl
theorem f_143_11 : px_at 143 11 = some (.getfield 64, 3, 12, 31, .null) := rfl
theorem f_143_14 : px_at 143 14 = some (.iload_n 2, 1, 0, 0, .null) := rfl
theorem f_143_15 : px_at 143 15 = some (.iaload, 1, 0, 0, .null) := rfl
theorem f_143_16 : px_at 143 16 = some (.istore_n 3, 1, 0, 0, .null) := rfl
theorem f_143_17 : px_at 143 17 = some (.iconst 0, 1, 0, 0, .null) := rfl
theorem f_143_18 : px_at 143 18 = some (.istore 4, 2, 0, 0, .null) := rfl
theorem f_143_20 : px_at 143 20 = some (.iload 4, 2, 0, 0, .null) := rfl
theorem f_143_22 : px_at 143 22 = some (.iload_n 3, 1, 0, 0, .null) := rfl
theorem f_143_23 : px_at 143 23 = some (.if_icmp .ge 51, 3, 74, 0, .null) := rfl
theorem f_143_26 : px_at 143 26 = some (.aload_n 0, 1, 0, 0, .null) := rfl
theorem f_143_27 : px_at 143 27 = some (.getfield 64, 3, 12, 31, .null) := rfl
theorem f_143_30 : px_at 143 30 = some (.iload_n 2, 1, 0, 0, .null) := rfl
theorem f_143_31 : px_at 143 31 = some (.iconst 1, 1, 0, 0, .null) := rfl
theorem f_143_32 : px_at 143 32 = some (.iadd, 1, 0, 0, .null) := rfl
theorem f_143_33 : px_at 143 33 = some (.iconst 2, 1, 0, 0, .null) := rfl
theorem f_143_34 : px_at 143 34 = some (.iload 4, 2, 0, 0, .null) := rfl
theorem f_143_36 : px_at 143 36 = some (.imul, 1, 0, 0, .null) := rfl
theorem f_143_37 : px_at 143 37 = some (.iadd, 1, 0, 0, .null) := rfl
theorem f_143_38 : px_at 143 38 = some (.iaload, 1, 0, 0, .null) := rfl
theorem f_143_39 : px_at 143 39 = some (.aload_n 0, 1, 0, 0, .null) := rfl
theorem f_143_40 : px_at 143 40 = some (.getfield 242, 3, 12, 48, .null) := rfl
theorem f_143_43 : px_at 143 43 = some (.if_icmp .ne 25, 3, 68, 0, .null) := rfl
theorem f_143_46 : px_at 143 46 = some (.aload_n 0, 1, 0, 0, .null) := rfl
theorem f_143_47 : px_at 143 47 = some (.getfield 64, 3, 12, 31, .null) := rfl
theorem f_143_50 : px_at 143 50 = some (.iload_n 2, 1, 0, 0, .null) := rfl
theorem f_143_51 : px_at 143 51 = some (.iconst 2, 1, 0, 0, .null) := rfl
theorem f_143_52 : px_at 143 52 = some (.iadd, 1, 0, 0, .null) := rfl
theorem f_143_53 : px_at 143 53 = some (.iconst 2, 1, 0, 0, .null) := rfl
theorem f_143_54 : px_at 143 54 = some (.iload 4, 2, 0, 0, .null) := rfl
theorem f_143_56 : px_at 143 56 = some (.imul, 1, 0, 0, .null) := rfl
theorem f_143_57 : px_at 143 57 = some (.iadd, 1, 0, 0, .null) := rfl
theorem f_143_58 : px_at 143 58 = some (.iaload, 1, 0, 0, .null) := rfl
theorem f_143_59 : px_at 143 59 = some (.aload_n 0, 1, 0, 0, .null) := rfl
theorem f_143_60 : px_at 143 60 = some (.getfield 245, 3, 12, 49, .null) := rfl
theorem f_143_63 : px_at 143 63 = some (.if_icmp .ne 5, 3, 68, 0, .null) := rfl
theorem f_143_66 : px_at 143 66 = some (.iconst 0, 1, 0, 0, .null) := rfl
theorem f_143_67 : px_at 143 67 = some (.ireturn, 1, 0, 0, .null) := rfl
theorem f_143_68 : px_at 143 68 = some (.iinc 4 1, 3, 0, 0, .null) := rfl
theorem f_143_71 : px_at 143 71 = some (.goto (-51), 3, 20, 0, .null) := rfl
theorem f_143_74 : px_at 143 74 = some (.aload_n 0, 1, 0, 0, .null) := rfl
theorem f_143_75 : px_at 143 75 = some (.getfield 64, 3, 12, 31, .null) := rfl
theorem f_143_78 : px_at 143 78 = some (.iload_n 2, 1, 0, 0, .null) := rfl
theorem f_143_79 : px_at 143 79 = some (.iconst 1, 1, 0, 0, .null) := rfl
theorem f_143_80 : px_at 143 80 = some (.iadd, 1, 0, 0, .null) := rfl
theorem f_143_81 : px_at 143 81 = some (.iconst 2, 1, 0, 0, .null) := rfl
theorem f_143_82 : px_at 143 82 = some (.iload_n 3, 1, 0, 0, .null) := rfl
theorem f_143_83 : px_at 143 83 = some (.imul, 1, 0, 0, .null) := rfl
theorem f_143_84 : px_at 143 84 = some (.iadd, 1, 0, 0, .null) := rfl
theorem f_143_85 : px_at 143 85 = some (.aload_n 0, 1, 0, 0, .null) := rfl
theorem f_143_86 : px_at 143 86 = some (.getfield 242, 3, 12, 48, .null) := rfl
theorem f_143_89 : px_at 143 89 = some (.iastore, 1, 0, 0, .null) := rfl
theorem f_143_90 : px_at 143 90 = some (.aload_n 0, 1, 0, 0, .null) := rfl
theorem f_143_91 : px_at 143 91 = some (.getfield 64, 3, 12, 31, .null) := rfl
theorem f_143_94 : px_at 143 94 = some (.iload_n 2, 1, 0, 0, .null) := rfl
theorem f_143_95 : px_at 143 95 = some (.iconst 2, 1, 0, 0, .null) := rfl
theorem f_143_96 : px_at 143 96 = some (.iadd, 1, 0, 0, .null) := rfl
theorem f_143_97 : px_at 143 97 = some (.iconst 2, 1, 0, 0, .null) := rfl
theorem f_143_98 : px_at 143 98 = some (.iload_n 3, 1, 0, 0, .null) := rfl
theorem f_143_99 : px_at 143 99 = some (.imul, 1, 0, 0, .null) := rfl
theorem f_143_100 : px_at 143 100 = some (.iadd, 1, 0, 0, .null) := rfl
theorem f_143_101 : px_at 143 101 = some (.aload_n 0, 1, 0, 0, .null) := rfl
theorem f_143_102 : px_at 143 102 = some (.getfield 245, 3, 12, 49, .null) := rfl
theorem f_143_105 : px_at 143 105 = some (.iastore, 1, 0, 0, .null) := rfl
theorem f_143_106 : px_at 143 106 = some (.aload_n 0, 1, 0, 0, .null) := rfl
theorem f_143_107 : px_at 143 107 = some (.getfield 64, 3, 12, 31, .null) := rfl
theorem f_143_110 : px_at 143 110 = some (.iload_n 2, 1, 0, 0, .null) := rfl
theorem f_143_111 : px_at 143 111 = some (.dup2, 1, 0, 0, .null) := rfl
theorem f_143_112 : px_at 143 112 = some (.iaload, 1, 0, 0, .null) := rfl
theorem f_143_113 : px_at 143 113 = some (.iconst 1, 1, 0, 0, .null) := rfl
theorem f_143_114 : px_at 143 114 = some (.iadd, 1, 0, 0, .null) := rfl
theorem f_143_115 : px_at 143 115 = some (.iastore, 1, 0, 0, .null) := rfl
theorem f_143_116 : px_at 143 116 = some (.iconst 1, 1, 0, 0, .null) := rfl
theorem f_143_117 : px_at 143 117 = some (.ireturn, 1, 0, 0, .null) := rfl

theorem f_144_0 : px_at 144 0 = some (.aload_n 0, 1, 0, 0, .null) := rfl
theorem f_144_1 : px_at 144 1 = some (.getfield 61, 3, 12, 30, .null) := rfl
theorem f_144_4 : px_at 144 4 = some (.iload_n 1, 1, 0, 0, .null) := rfl
theorem f_144_5 : px_at 144 5 = some (.iaload, 1, 0, 0, .null) := rfl
theorem f_144_6 : px_at 144 6 = some (.istore_n 2, 1, 0, 0, .null) := rfl
theorem f_144_7 : px_at 144 7 = some (.aload_n 0, 1, 0, 0, .null) := rfl
theorem f_144_8 : px_at 144 8 = some (.getfield 248, 3, 12, 50, .null) := rfl
theorem f_144_11 : px_at 144 11 = some (.iload_n 2, 1, 0, 0, .null) := rfl
theorem f_144_12 : px_at 144 12 = some (.idiv, 1, 0, 0, .null) := rfl
theorem f_144_13 : px_at 144 13 = some (.iconst 1, 1, 0, 0, .null) := rfl
theorem f_144_14 : px_at 144 14 = some (.iadd, 1, 0, 0, .null) := rfl
theorem f_144_15 : px_at 144 15 = some (.iload_n 2, 1, 0, 0, .null) := rfl
theorem f_144_16 : px_at 144 16 = some (.imul, 1, 0, 0, .null) := rfl
theorem f_144_17 : px_at 144 17 = some (.istore_n 3, 1, 0, 0, .null) := rfl
theorem f_144_18 : px_at 144 18 = some (.iconst 4, 1, 0, 0, .null) := rfl
theorem f_144_19 : px_at 144 19 = some (.sipush 511, 3, 0, 0, .null) := rfl
theorem f_144_22 : px_at 144 22 = some (.iload_n 1, 1, 0, 0, .null) := rfl
theorem f_144_23 : px_at 144 23 = some (.imul, 1, 0, 0, .null) := rfl
theorem f_144_24 : px_at 144 24 = some (.iadd, 1, 0, 0, .null) := rfl
theorem f_144_25 : px_at 144 25 = some (.istore 4, 2, 0, 0, .null) := rfl
theorem f_144_27 : px_at 144 27 = some (.iload_n 3, 1, 0, 0, .null) := rfl
theorem f_144_28 : px_at 144 28 = some (.aload_n 0, 1, 0, 0, .null) := rfl
theorem f_144_29 : px_at 144 29 = some (.getfield 64, 3, 12, 31, .null) := rfl
theorem f_144_32 : px_at 144 32 = some (.iload 4, 2, 0, 0, .null) := rfl
theorem f_144_34 : px_at 144 34 = some (.sipush 205, 3, 0, 0, .null) := rfl
theorem f_144_37 : px_at 144 37 = some (.iadd, 1, 0, 0, .null) := rfl
theorem f_144_38 : px_at 144 38 = some (.iaload, 1, 0, 0, .null) := rfl
theorem f_144_39 : px_at 144 39 = some (.if_icmp .gt 20, 3, 59, 0, .null) := rfl
theorem f_144_42 : px_at 144 42 = some (.aload_n 0, 1, 0, 0, .null) := rfl
theorem f_144_43 : px_at 144 43 = some (.getfield 64, 3, 12, 31, .null) := rfl
theorem f_144_46 : px_at 144 46 = some (.iconst 3, 1, 0, 0, .null) := rfl
theorem f_144_47 : px_at 144 47 = some (.dup2, 1, 0, 0, .null) := rfl
theorem f_144_48 : px_at 144 48 = some (.iaload, 1, 0, 0, .null) := rfl
theorem f_144_49 : px_at 144 49 = some (.iconst 1, 1, 0, 0, .null) := rfl
theorem f_144_50 : px_at 144 50 = some (.iadd, 1, 0, 0, .null) := rfl
theorem f_144_51 : px_at 144 51 = some (.iastore, 1, 0, 0, .null) := rfl
theorem f_144_52 : px_at 144 52 = some (.aload_n 0, 1, 0, 0, .null) := rfl
theorem f_144_53 : px_at 144 53 = some (.iload_n 1, 1, 0, 0, .null) := rfl
theorem f_144_54 : px_at 144 54 = some (.iconst 3, 1, 0, 0, .null) := rfl
theorem f_144_55 : px_at 144 55 = some (.invokevirtual 238, 3, 141, 1, .null) := rfl
theorem f_144_58 : px_at 144 58 = some (.return_, 1, 0, 0, .null) := rfl
theorem f_144_59 : px_at 144 59 = some (.iload 4, 2, 0, 0, .null) := rfl
theorem f_144_61 : px_at 144 61 = some (.sipush 206, 3, 0, 0, .null) := rfl
theorem f_144_64 : px_at 144 64 = some (.iadd, 1, 0, 0, .null) := rfl
theorem f_144_65 : px_at 144 65 = some (.istore 5, 2, 0, 0, .null) := rfl
theorem f_144_67 : px_at 144 67 = some (.aload_n 0, 1, 0, 0, .null) := rfl
theorem f_144_68 : px_at 144 68 = some (.getfield 64, 3, 12, 31, .null) := rfl
theorem f_144_71 : px_at 144 71 = some (.iload 5, 2, 0, 0, .null) := rfl
theorem f_144_73 : px_at 144 73 = some (.iaload, 1, 0, 0, .null) := rfl
theorem f_144_74 : px_at 144 74 = some (.istore 6, 2, 0, 0, .null) := rfl
theorem f_144_76 : px_at 144 76 = some (.iconst 0, 1, 0, 0, .null) := rfl
theorem f_144_77 : px_at 144 77 = some (.istore 7, 2, 0, 0, .null) := rfl
theorem f_144_79 : px_at 144 79 = some (.iload 7, 2, 0, 0, .null) := rfl
theorem f_144_81 : px_at 144 81 = some (.aload_n 0, 1, 0, 0, .null) := rfl
theorem f_144_82 : px_at 144 82 = some (.getfield 64, 3, 12, 31, .null) := rfl
theorem f_144_85 : px_at 144 85 = some (.iload 5, 2, 0, 0, .null) := rfl
theorem f_144_87 : px_at 144 87 = some (.iaload, 1, 0, 0, .null) := rfl
theorem f_144_88 : px_at 144 88 = some (.if_icmp .ge 57, 3, 145, 0, .null) := rfl
theorem f_144_91 : px_at 144 91 = some (.aload_n 0, 1, 0, 0, .null) := rfl
theorem f_144_92 : px_at 144 92 = some (.getfield 64, 3, 12, 31, .null) := rfl
theorem f_144_95 : px_at 144 95 = some (.iload 5, 2, 0, 0, .null) := rfl
theorem f_144_97 : px_at 144 97 = some (.iconst 1, 1, 0, 0, .null) := rfl
theorem f_144_98 : px_at 144 98 = some (.iadd, 1, 0, 0, .null) := rfl
theorem f_144_99 : px_at 144 99 = some (.iconst 3, 1, 0, 0, .null) := rfl
theorem f_144_100 : px_at 144 100 = some (.iload 7, 2, 0, 0, .null) := rfl
theorem f_144_102 : px_at 144 102 = some (.imul, 1, 0, 0, .null) := rfl
theorem f_144_103 : px_at 144 103 = some (.iadd, 1, 0, 0, .null) := rfl
theorem f_144_104 : px_at 144 104 = some (.iaload, 1, 0, 0, .null) := rfl
theorem f_144_105 : px_at 144 105 = some (.aload_n 0, 1, 0, 0, .null) := rfl
theorem f_144_106 : px_at 144 106 = some (.getfield 242, 3, 12, 48, .null) := rfl
theorem f_144_109 : px_at 144 109 = some (.if_icmp .ne 26, 3, 135, 0, .null) := rfl
theorem f_144_112 : px_at 144 112 = some (.aload_n 0, 1, 0, 0, .null) := rfl
theorem f_144_113 : px_at 144 113 = some (.getfield 64, 3, 12, 31, .null) := rfl
theorem f_144_116 : px_at 144 116 = some (.iload 5, 2, 0, 0, .null) := rfl
theorem f_144_118 : px_at 144 118 = some (.iconst 2, 1, 0, 0, .null) := rfl
theorem f_144_119 : px_at 144 119 = some (.iadd, 1, 0, 0, .null) := rfl
theorem f_144_120 : px_at 144 120 = some (.iconst 3, 1, 0, 0, .null) := rfl
theorem f_144_121 : px_at 144 121 = some (.iload 7, 2, 0, 0, .null) := rfl
theorem f_144_123 : px_at 144 123 = some (.imul, 1, 0, 0, .null) := rfl
theorem f_144_124 : px_at 144 124 = some (.iadd, 1, 0, 0, .null) := rfl
theorem f_144_125 : px_at 144 125 = some (.iaload, 1, 0, 0, .null) := rfl
theorem f_144_126 : px_at 144 126 = some (.iload_n 3, 1, 0, 0, .null) := rfl
theorem f_144_127 : px_at 144 127 = some (.if_icmp .ne 8, 3, 135, 0, .null) := rfl
theorem f_144_130 : px_at 144 130 = some (.iload 7, 2, 0, 0, .null) := rfl
theorem f_144_132 : px_at 144 132 = some (.goto 5, 3, 137, 0, .null) := rfl
theorem f_144_135 : px_at 144 135 = some (.iload 6, 2, 0, 0, .null) := rfl
theorem f_144_137 : px_at 144 137 = some (.istore 6, 2, 0, 0, .null) := rfl
theorem f_144_139 : px_at 144 139 = some (.iinc 7 1, 3, 0, 0, .null) := rfl
theorem f_144_142 : px_at 144 142 = some (.goto (-63), 3, 79, 0, .null) := rfl
theorem f_144_145 : px_at 144 145 = some (.iload 6, 2, 0, 0, .null) := rfl
theorem f_144_147 : px_at 144 147 = some (.aload_n 0, 1, 0, 0, .null) := rfl
theorem f_144_148 : px_at 144 148 = some (.getfield 64, 3, 12, 31, .null) := rfl
theorem f_144_151 : px_at 144 151 = some (.iload 5, 2, 0, 0, .null) := rfl
theorem f_144_153 : px_at 144 153 = some (.iaload, 1, 0, 0, .null) := rfl
theorem f_144_154 : px_at 144 154 = some (.if_icmp .ne 62, 3, 216, 0, .null) := rfl
theorem f_144_157 : px_at 144 157 = some (.aload_n 0, 1, 0, 0, .null) := rfl
theorem f_144_158 : px_at 144 158 = some (.getfield 64, 3, 12, 31, .null) := rfl
theorem f_144_161 : px_at 144 161 = some (.iload 5, 2, 0, 0, .null) := rfl
theorem f_144_163 : px_at 144 163 = some (.iconst 1, 1, 0, 0, .null) := rfl
theorem f_144_164 : px_at 144 164 = some (.iadd, 1, 0, 0, .null) := rfl
theorem f_144_165 : px_at 144 165 = some (.iconst 3, 1, 0, 0, .null) := rfl
theorem f_144_166 : px_at 144 166 = some (.iload 6, 2, 0, 0, .null) := rfl
theorem f_144_168 : px_at 144 168 = some (.imul, 1, 0, 0, .null) := rfl
theorem f_144_169 : px_at 144 169 = some (.iadd, 1, 0, 0, .null) := rfl
theorem f_144_170 : px_at 144 170 = some (.aload_n 0, 1, 0, 0, .null) := rfl
theorem f_144_171 : px_at 144 171 = some (.getfield 242, 3, 12, 48, .null) := rfl
theorem f_144_174 : px_at 144 174 = some (.iastore, 1, 0, 0, .null) := rfl
theorem f_144_175 : px_at 144 175 = some (.aload_n 0, 1, 0, 0, .null) := rfl
theorem f_144_176 : px_at 144 176 = some (.getfield 64, 3, 12, 31, .null) := rfl
theorem f_144_179 : px_at 144 179 = some (.iload 5, 2, 0, 0, .null) := rfl
theorem f_144_181 : px_at 144 181 = some (.iconst 2, 1, 0, 0, .null) := rfl
theorem f_144_182 : px_at 144 182 = some (.iadd, 1, 0, 0, .null) := rfl
theorem f_144_183 : px_at 144 183 = some (.iconst 3, 1, 0, 0, .null) := rfl
theorem f_144_184 : px_at 144 184 = some (.iload 6, 2, 0, 0, .null) := rfl
theorem f_144_186 : px_at 144 186 = some (.imul, 1, 0, 0, .null) := rfl
theorem f_144_187 : px_at 144 187 = some (.iadd, 1, 0, 0, .null) := rfl
theorem f_144_188 : px_at 144 188 = some (.iload_n 3, 1, 0, 0, .null) := rfl
theorem f_144_189 : px_at 144 189 = some (.iastore, 1, 0, 0, .null) := rfl
theorem f_144_190 : px_at 144 190 = some (.aload_n 0, 1, 0, 0, .null) := rfl
theorem f_144_191 : px_at 144 191 = some (.getfield 64, 3, 12, 31, .null) := rfl
theorem f_144_194 : px_at 144 194 = some (.iload 5, 2, 0, 0, .null) := rfl
theorem f_144_196 : px_at 144 196 = some (.iconst 3, 1, 0, 0, .null) := rfl
theorem f_144_197 : px_at 144 197 = some (.iadd, 1, 0, 0, .null) := rfl
theorem f_144_198 : px_at 144 198 = some (.iconst 3, 1, 0, 0, .null) := rfl
theorem f_144_199 : px_at 144 199 = some (.iload 6, 2, 0, 0, .null) := rfl
theorem f_144_201 : px_at 144 201 = some (.imul, 1, 0, 0, .null) := rfl
theorem f_144_202 : px_at 144 202 = some (.iadd, 1, 0, 0, .null) := rfl
theorem f_144_203 : px_at 144 203 = some (.iconst 0, 1, 0, 0, .null) := rfl
theorem f_144_204 : px_at 144 204 = some (.iastore, 1, 0, 0, .null) := rfl
theorem f_144_205 : px_at 144 205 = some (.aload_n 0, 1, 0, 0, .null) := rfl
theorem f_144_206 : px_at 144 206 = some (.getfield 64, 3, 12, 31, .null) := rfl
theorem f_144_209 : px_at 144 209 = some (.iload 5, 2, 0, 0, .null) := rfl
theorem f_144_211 : px_at 144 211 = some (.dup2, 1, 0, 0, .null) := rfl
theorem f_144_212 : px_at 144 212 = some (.iaload, 1, 0, 0, .null) := rfl
theorem f_144_213 : px_at 144 213 = some (.iconst 1, 1, 0, 0, .null) := rfl
theorem f_144_214 : px_at 144 214 = some (.iadd, 1, 0, 0, .null) := rfl
theorem f_144_215 : px_at 144 215 = some (.iastore, 1, 0, 0, .null) := rfl
theorem f_144_216 : px_at 144 216 = some (.aload_n 0, 1, 0, 0, .null) := rfl
theorem f_144_217 : px_at 144 217 = some (.getfield 64, 3, 12, 31, .null) := rfl
theorem f_144_220 : px_at 144 220 = some (.iload 5, 2, 0, 0, .null) := rfl
theorem f_144_222 : px_at 144 222 = some (.iconst 3, 1, 0, 0, .null) := rfl
theorem f_144_223 : px_at 144 223 = some (.iadd, 1, 0, 0, .null) := rfl
theorem f_144_224 : px_at 144 224 = some (.iconst 3, 1, 0, 0, .null) := rfl
theorem f_144_225 : px_at 144 225 = some (.iload 6, 2, 0, 0, .null) := rfl
theorem f_144_227 : px_at 144 227 = some (.imul, 1, 0, 0, .null) := rfl
theorem f_144_228 : px_at 144 228 = some (.iadd, 1, 0, 0, .null) := rfl
theorem f_144_229 : px_at 144 229 = some (.dup2, 1, 0, 0, .null) := rfl
theorem f_144_230 : px_at 144 230 = some (.iaload, 1, 0, 0, .null) := rfl
theorem f_144_231 : px_at 144 231 = some (.iconst 1, 1, 0, 0, .null) := rfl
theorem f_144_232 : px_at 144 232 = some (.iadd, 1, 0, 0, .null) := rfl
theorem f_144_233 : px_at 144 233 = some (.iastore, 1, 0, 0, .null) := rfl
theorem f_144_234 : px_at 144 234 = some (.return_, 1, 0, 0, .null) := rfl

theorem f_145_0 : px_at 145 0 = some (.aload_n 0, 1, 0, 0, .null) := rfl
theorem f_145_1 : px_at 145 1 = some (.getfield 61, 3, 12, 30, .null) := rfl
theorem f_145_4 : px_at 145 4 = some (.iload_n 1, 1, 0, 0, .null) := rfl
theorem f_145_5 : px_at 145 5 = some (.iaload, 1, 0, 0, .null) := rfl
theorem f_145_6 : px_at 145 6 = some (.istore_n 2, 1, 0, 0, .null) := rfl
theorem f_145_7 : px_at 145 7 = some (.iconst 4, 1, 0, 0, .null) := rfl
theorem f_145_8 : px_at 145 8 = some (.sipush 511, 3, 0, 0, .null) := rfl
theorem f_145_11 : px_at 145 11 = some (.iload_n 1, 1, 0, 0, .null) := rfl
theorem f_145_12 : px_at 145 12 = some (.imul, 1, 0, 0, .null) := rfl
theorem f_145_13 : px_at 145 13 = some (.iadd, 1, 0, 0, .null) := rfl
theorem f_145_14 : px_at 145 14 = some (.istore_n 3, 1, 0, 0, .null) := rfl
theorem f_145_15 : px_at 145 15 = some (.aload_n 0, 1, 0, 0, .null) := rfl
theorem f_145_16 : px_at 145 16 = some (.getfield 55, 3, 12, 28, .null) := rfl
theorem f_145_19 : px_at 145 19 = some (.iload_n 1, 1, 0, 0, .null) := rfl
theorem f_145_20 : px_at 145 20 = some (.caload, 1, 0, 0, .null) := rfl
theorem f_145_21 : px_at 145 21 = some (.tableswitch 339 100 119 #[283, 339, 95, 339, 339, 339, 339, 339, 339, 163, 339, 339, 339, 257, 339, 289, 339, 339, 339, 332], 95, 0, 0, .null) := rfl
theorem f_145_116 : px_at 145 116 = some (.aload_n 0, 1, 0, 0, .null) := rfl
theorem f_145_117 : px_at 145 117 = some (.getfield 58, 3, 12, 29, .null) := rfl
theorem f_145_120 : px_at 145 120 = some (.iload_n 1, 1, 0, 0, .null) := rfl
theorem f_145_121 : px_at 145 121 = some (.caload, 1, 0, 0, .null) := rfl
theorem f_145_122 : px_at 145 122 = some (.bipush 60, 2, 0, 0, .null) := rfl
theorem f_145_124 : px_at 145 124 = some (.if_icmp .ne 19, 3, 143, 0, .null) := rfl
theorem f_145_127 : px_at 145 127 = some (.aload_n 0, 1, 0, 0, .null) := rfl
theorem f_145_128 : px_at 145 128 = some (.getfield 245, 3, 12, 49, .null) := rfl
theorem f_145_131 : px_at 145 131 = some (.iload_n 2, 1, 0, 0, .null) := rfl
theorem f_145_132 : px_at 145 132 = some (.if_icmp .ge 7, 3, 139, 0, .null) := rfl
theorem f_145_135 : px_at 145 135 = some (.iconst 1, 1, 0, 0, .null) := rfl
theorem f_145_136 : px_at 145 136 = some (.goto 47, 3, 183, 0, .null) := rfl
theorem f_145_139 : px_at 145 139 = some (.iconst 0, 1, 0, 0, .null) := rfl
theorem f_145_140 : px_at 145 140 = some (.goto 43, 3, 183, 0, .null) := rfl
theorem f_145_143 : px_at 145 143 = some (.aload_n 0, 1, 0, 0, .null) := rfl
theorem f_145_144 : px_at 145 144 = some (.getfield 58, 3, 12, 29, .null) := rfl
theorem f_145_147 : px_at 145 147 = some (.iload_n 1, 1, 0, 0, .null) := rfl
theorem f_145_148 : px_at 145 148 = some (.caload, 1, 0, 0, .null) := rfl
theorem f_145_149 : px_at 145 149 = some (.bipush 61, 2, 0, 0, .null) := rfl
theorem f_145_151 : px_at 145 151 = some (.if_icmp .ne 19, 3, 170, 0, .null) := rfl
theorem f_145_154 : px_at 145 154 = some (.aload_n 0, 1, 0, 0, .null) := rfl
theorem f_145_155 : px_at 145 155 = some (.getfield 245, 3, 12, 49, .null) := rfl
theorem f_145_158 : px_at 145 158 = some (.iload_n 2, 1, 0, 0, .null) := rfl
theorem f_145_159 : px_at 145 159 = some (.if_icmp .ne 7, 3, 166, 0, .null) := rfl
theorem f_145_162 : px_at 145 162 = some (.iconst 1, 1, 0, 0, .null) := rfl
theorem f_145_163 : px_at 145 163 = some (.goto 20, 3, 183, 0, .null) := rfl
theorem f_145_166 : px_at 145 166 = some (.iconst 0, 1, 0, 0, .null) := rfl
theorem f_145_167 : px_at 145 167 = some (.goto 16, 3, 183, 0, .null) := rfl
theorem f_145_170 : px_at 145 170 = some (.aload_n 0, 1, 0, 0, .null) := rfl
theorem f_145_171 : px_at 145 171 = some (.getfield 245, 3, 12, 49, .null) := rfl
theorem f_145_174 : px_at 145 174 = some (.iload_n 2, 1, 0, 0, .null) := rfl
theorem f_145_175 : px_at 145 175 = some (.if_icmp .le 7, 3, 182, 0, .null) := rfl
theorem f_145_178 : px_at 145 178 = some (.iconst 1, 1, 0, 0, .null) := rfl
theorem f_145_179 : px_at 145 179 = some (.goto 4, 3, 183, 0, .null) := rfl
theorem f_145_182 : px_at 145 182 = some (.iconst 0, 1, 0, 0, .null) := rfl
theorem f_145_183 : px_at 145 183 = some (.ireturn, 1, 0, 0, .null) := rfl
theorem f_145_184 : px_at 145 184 = some (.aload_n 0, 1, 0, 0, .null) := rfl
theorem f_145_185 : px_at 145 185 = some (.getfield 58, 3, 12, 29, .null) := rfl
theorem f_145_188 : px_at 145 188 = some (.iload_n 1, 1, 0, 0, .null) := rfl
theorem f_145_189 : px_at 145 189 = some (.caload, 1, 0, 0, .null) := rfl
theorem f_145_190 : px_at 145 190 = some (.bipush 47, 2, 0, 0, .null) := rfl
theorem f_145_192 : px_at 145 192 = some (.if_icmp .ne 14, 3, 206, 0, .null) := rfl
theorem f_145_195 : px_at 145 195 = some (.iload_n 2, 1, 0, 0, .null) := rfl
theorem f_145_196 : px_at 145 196 = some (.ifCond .ne 10, 3, 206, 0, .null) := rfl
theorem f_145_199 : px_at 145 199 = some (.aload_n 0, 1, 0, 0, .null) := rfl
theorem f_145_200 : px_at 145 200 = some (.iload_n 1, 1, 0, 0, .null) := rfl
theorem f_145_201 : px_at 145 201 = some (.invokevirtual 251, 3, 142, 1, .null) := rfl
theorem f_145_204 : px_at 145 204 = some (.iconst 0, 1, 0, 0, .null) := rfl
theorem f_145_205 : px_at 145 205 = some (.ireturn, 1, 0, 0, .null) := rfl
theorem f_145_206 : px_at 145 206 = some (.aload_n 0, 1, 0, 0, .null) := rfl
theorem f_145_207 : px_at 145 207 = some (.aload_n 0, 1, 0, 0, .null) := rfl
theorem f_145_208 : px_at 145 208 = some (.getfield 58, 3, 12, 29, .null) := rfl
theorem f_145_211 : px_at 145 211 = some (.iload_n 1, 1, 0, 0, .null) := rfl
theorem f_145_212 : px_at 145 212 = some (.caload, 1, 0, 0, .null) := rfl
theorem f_145_213 : px_at 145 213 = some (.bipush 43, 2, 0, 0, .null) := rfl
theorem f_145_215 : px_at 145 215 = some (.if_icmp .ne 12, 3, 227, 0, .null) := rfl
theorem f_145_218 : px_at 145 218 = some (.aload_n 0, 1, 0, 0, .null) := rfl
theorem f_145_219 : px_at 145 219 = some (.getfield 245, 3, 12, 49, .null) := rfl
theorem f_145_222 : px_at 145 222 = some (.iload_n 2, 1, 0, 0, .null) := rfl
theorem f_145_223 : px_at 145 223 = some (.iadd, 1, 0, 0, .null) := rfl
theorem f_145_224 : px_at 145 224 = some (.goto 49, 3, 273, 0, .null) := rfl
theorem f_145_227 : px_at 145 227 = some (.aload_n 0, 1, 0, 0, .null) := rfl
theorem f_145_228 : px_at 145 228 = some (.getfield 58, 3, 12, 29, .null) := rfl
theorem f_145_231 : px_at 145 231 = some (.iload_n 1, 1, 0, 0, .null) := rfl
theorem f_145_232 : px_at 145 232 = some (.caload, 1, 0, 0, .null) := rfl
theorem f_145_233 : px_at 145 233 = some (.bipush 45, 2, 0, 0, .null) := rfl
theorem f_145_235 : px_at 145 235 = some (.if_icmp .ne 12, 3, 247, 0, .null) := rfl
theorem f_145_238 : px_at 145 238 = some (.aload_n 0, 1, 0, 0, .null) := rfl
theorem f_145_239 : px_at 145 239 = some (.getfield 245, 3, 12, 49, .null) := rfl
theorem f_145_242 : px_at 145 242 = some (.iload_n 2, 1, 0, 0, .null) := rfl
theorem f_145_243 : px_at 145 243 = some (.isub, 1, 0, 0, .null) := rfl
theorem f_145_244 : px_at 145 244 = some (.goto 29, 3, 273, 0, .null) := rfl
theorem f_145_247 : px_at 145 247 = some (.aload_n 0, 1, 0, 0, .null) := rfl
theorem f_145_248 : px_at 145 248 = some (.getfield 58, 3, 12, 29, .null) := rfl
theorem f_145_251 : px_at 145 251 = some (.iload_n 1, 1, 0, 0, .null) := rfl
theorem f_145_252 : px_at 145 252 = some (.caload, 1, 0, 0, .null) := rfl
theorem f_145_253 : px_at 145 253 = some (.bipush 42, 2, 0, 0, .null) := rfl
theorem f_145_255 : px_at 145 255 = some (.if_icmp .ne 12, 3, 267, 0, .null) := rfl
theorem f_145_258 : px_at 145 258 = some (.aload_n 0, 1, 0, 0, .null) := rfl
theorem f_145_259 : px_at 145 259 = some (.getfield 245, 3, 12, 49, .null) := rfl
theorem f_145_262 : px_at 145 262 = some (.iload_n 2, 1, 0, 0, .null) := rfl
theorem f_145_263 : px_at 145 263 = some (.imul, 1, 0, 0, .null) := rfl
theorem f_145_264 : px_at 145 264 = some (.goto 9, 3, 273, 0, .null) := rfl
theorem f_145_267 : px_at 145 267 = some (.aload_n 0, 1, 0, 0, .null) := rfl
theorem f_145_268 : px_at 145 268 = some (.getfield 245, 3, 12, 49, .null) := rfl
theorem f_145_271 : px_at 145 271 = some (.iload_n 2, 1, 0, 0, .null) := rfl
theorem f_145_272 : px_at 145 272 = some (.idiv, 1, 0, 0, .null) := rfl
theorem f_145_273 : px_at 145 273 = some (.putfield 245, 3, 12, 49, .null) := rfl
theorem f_145_276 : px_at 145 276 = some (.iconst 1, 1, 0, 0, .null) := rfl
theorem f_145_277 : px_at 145 277 = some (.ireturn, 1, 0, 0, .null) := rfl
theorem f_145_278 : px_at 145 278 = some (.aload_n 0, 1, 0, 0, .null) := rfl
theorem f_145_279 : px_at 145 279 = some (.getfield 245, 3, 12, 49, .null) := rfl
theorem f_145_282 : px_at 145 282 = some (.ifCond .ne 10, 3, 292, 0, .null) := rfl
theorem f_145_285 : px_at 145 285 = some (.aload_n 0, 1, 0, 0, .null) := rfl
theorem f_145_286 : px_at 145 286 = some (.iload_n 1, 1, 0, 0, .null) := rfl
theorem f_145_287 : px_at 145 287 = some (.invokevirtual 251, 3, 142, 1, .null) := rfl
theorem f_145_290 : px_at 145 290 = some (.iconst 0, 1, 0, 0, .null) := rfl
theorem f_145_291 : px_at 145 291 = some (.ireturn, 1, 0, 0, .null) := rfl
theorem f_145_292 : px_at 145 292 = some (.aload_n 0, 1, 0, 0, .null) := rfl
theorem f_145_293 : px_at 145 293 = some (.iload_n 2, 1, 0, 0, .null) := rfl
theorem f_145_294 : px_at 145 294 = some (.aload_n 0, 1, 0, 0, .null) := rfl
theorem f_145_295 : px_at 145 295 = some (.getfield 245, 3, 12, 49, .null) := rfl
theorem f_145_298 : px_at 145 298 = some (.idiv, 1, 0, 0, .null) := rfl
theorem f_145_299 : px_at 145 299 = some (.putfield 245, 3, 12, 49, .null) := rfl
theorem f_145_302 : px_at 145 302 = some (.iconst 1, 1, 0, 0, .null) := rfl
theorem f_145_303 : px_at 145 303 = some (.ireturn, 1, 0, 0, .null) := rfl
theorem f_145_304 : px_at 145 304 = some (.aload_n 0, 1, 0, 0, .null) := rfl
theorem f_145_305 : px_at 145 305 = some (.iload_n 1, 1, 0, 0, .null) := rfl
theorem f_145_306 : px_at 145 306 = some (.invokevirtual 255, 3, 143, 1, .null) := rfl
theorem f_145_309 : px_at 145 309 = some (.ireturn, 1, 0, 0, .null) := rfl
theorem f_145_310 : px_at 145 310 = some (.aload_n 0, 1, 0, 0, .null) := rfl
theorem f_145_311 : px_at 145 311 = some (.getfield 64, 3, 12, 31, .null) := rfl
theorem f_145_314 : px_at 145 314 = some (.iload_n 3, 1, 0, 0, .null) := rfl
theorem f_145_315 : px_at 145 315 = some (.sipush 201, 3, 0, 0, .null) := rfl
theorem f_145_318 : px_at 145 318 = some (.iadd, 1, 0, 0, .null) := rfl
theorem f_145_319 : px_at 145 319 = some (.aload_n 0, 1, 0, 0, .null) := rfl
theorem f_145_320 : px_at 145 320 = some (.getfield 242, 3, 12, 48, .null) := rfl
theorem f_145_323 : px_at 145 323 = some (.iadd, 1, 0, 0, .null) := rfl
theorem f_145_324 : px_at 145 324 = some (.dup2, 1, 0, 0, .null) := rfl
theorem f_145_325 : px_at 145 325 = some (.iaload, 1, 0, 0, .null) := rfl
theorem f_145_326 : px_at 145 326 = some (.aload_n 0, 1, 0, 0, .null) := rfl
theorem f_145_327 : px_at 145 327 = some (.getfield 245, 3, 12, 49, .null) := rfl
theorem f_145_330 : px_at 145 330 = some (.iadd, 1, 0, 0, .null) := rfl
theorem f_145_331 : px_at 145 331 = some (.iastore, 1, 0, 0, .null) := rfl
theorem f_145_332 : px_at 145 332 = some (.aload_n 0, 1, 0, 0, .null) := rfl
theorem f_145_333 : px_at 145 333 = some (.aload_n 0, 1, 0, 0, .null) := rfl
theorem f_145_334 : px_at 145 334 = some (.getfield 64, 3, 12, 31, .null) := rfl
theorem f_145_337 : px_at 145 337 = some (.iload_n 3, 1, 0, 0, .null) := rfl
theorem f_145_338 : px_at 145 338 = some (.sipush 201, 3, 0, 0, .null) := rfl
theorem f_145_341 : px_at 145 341 = some (.iadd, 1, 0, 0, .null) := rfl
theorem f_145_342 : px_at 145 342 = some (.aload_n 0, 1, 0, 0, .null) := rfl
theorem f_145_343 : px_at 145 343 = some (.getfield 242, 3, 12, 48, .null) := rfl
theorem f_145_346 : px_at 145 346 = some (.iadd, 1, 0, 0, .null) := rfl
theorem f_145_347 : px_at 145 347 = some (.iaload, 1, 0, 0, .null) := rfl
theorem f_145_348 : px_at 145 348 = some (.putfield 245, 3, 12, 49, .null) := rfl
theorem f_145_351 : px_at 145 351 = some (.iconst 1, 1, 0, 0, .null) := rfl
theorem f_145_352 : px_at 145 352 = some (.ireturn, 1, 0, 0, .null) := rfl
theorem f_145_353 : px_at 145 353 = some (.aload_n 0, 1, 0, 0, .null) := rfl
theorem f_145_354 : px_at 145 354 = some (.iload_n 1, 1, 0, 0, .null) := rfl
theorem f_145_355 : px_at 145 355 = some (.invokevirtual 259, 3, 144, 1, .null) := rfl
theorem f_145_358 : px_at 145 358 = some (.iconst 0, 1, 0, 0, .null) := rfl
theorem f_145_359 : px_at 145 359 = some (.ireturn, 1, 0, 0, .null) := rfl
theorem f_145_360 : px_at 145 360 = some (.aload_n 0, 1, 0, 0, .null) := rfl
theorem f_145_361 : px_at 145 361 = some (.getfield 64, 3, 12, 31, .null) := rfl
theorem f_145_364 : px_at 145 364 = some (.iload_n 3, 1, 0, 0, .null) := rfl
theorem f_145_365 : px_at 145 365 = some (.sipush 507, 3, 0, 0, .null) := rfl
theorem f_145_368 : px_at 145 368 = some (.iadd, 1, 0, 0, .null) := rfl
theorem f_145_369 : px_at 145 369 = some (.aload_n 0, 1, 0, 0, .null) := rfl
theorem f_145_370 : px_at 145 370 = some (.getfield 242, 3, 12, 48, .null) := rfl
theorem f_145_373 : px_at 145 373 = some (.iadd, 1, 0, 0, .null) := rfl
theorem f_145_374 : px_at 145 374 = some (.aload_n 0, 1, 0, 0, .null) := rfl
theorem f_145_375 : px_at 145 375 = some (.getfield 248, 3, 12, 50, .null) := rfl
theorem f_145_378 : px_at 145 378 = some (.iload_n 2, 1, 0, 0, .null) := rfl
theorem f_145_379 : px_at 145 379 = some (.iadd, 1, 0, 0, .null) := rfl
theorem f_145_380 : px_at 145 380 = some (.iastore, 1, 0, 0, .null) := rfl
theorem f_145_381 : px_at 145 381 = some (.iconst 1, 1, 0, 0, .null) := rfl
theorem f_145_382 : px_at 145 382 = some (.ireturn, 1, 0, 0, .null) := rfl

theorem f_146_0 : px_at 146 0 = some (.iload_n 1, 1, 0, 0, .null) := rfl
theorem f_146_1 : px_at 146 1 = some (.istore_n 2, 1, 0, 0, .null) := rfl
theorem f_146_2 : px_at 146 2 = some (.iload_n 2, 1, 0, 0, .null) := rfl
theorem f_146_3 : px_at 146 3 = some (.aload_n 0, 1, 0, 0, .null) := rfl
theorem f_146_4 : px_at 146 4 = some (.getfield 226, 3, 12, 27, .null) := rfl
theorem f_146_7 : px_at 146 7 = some (.if_icmp .ge 30, 3, 37, 0, .null) := rfl
theorem f_146_10 : px_at 146 10 = some (.aload_n 0, 1, 0, 0, .null) := rfl
theorem f_146_11 : px_at 146 11 = some (.iload_n 2, 1, 0, 0, .null) := rfl
theorem f_146_12 : px_at 146 12 = some (.iconst 0, 1, 0, 0, .null) := rfl
theorem f_146_13 : px_at 146 13 = some (.invokevirtual 238, 3, 141, 1, .null) := rfl
theorem f_146_16 : px_at 146 16 = some (.aload_n 0, 1, 0, 0, .null) := rfl
theorem f_146_17 : px_at 146 17 = some (.iload_n 2, 1, 0, 0, .null) := rfl
theorem f_146_18 : px_at 146 18 = some (.invokevirtual 262, 3, 145, 1, .null) := rfl
theorem f_146_21 : px_at 146 21 = some (.ifCond .ne 4, 3, 25, 0, .null) := rfl
theorem f_146_24 : px_at 146 24 = some (.return_, 1, 0, 0, .null) := rfl
theorem f_146_25 : px_at 146 25 = some (.aload_n 0, 1, 0, 0, .null) := rfl
theorem f_146_26 : px_at 146 26 = some (.iload_n 2, 1, 0, 0, .null) := rfl
theorem f_146_27 : px_at 146 27 = some (.iconst 1, 1, 0, 0, .null) := rfl
theorem f_146_28 : px_at 146 28 = some (.invokevirtual 238, 3, 141, 1, .null) := rfl
theorem f_146_31 : px_at 146 31 = some (.iinc 2 1, 3, 0, 0, .null) := rfl
theorem f_146_34 : px_at 146 34 = some (.goto (-32), 3, 2, 0, .null) := rfl
theorem f_146_37 : px_at 146 37 = some (.aload_n 0, 1, 0, 0, .null) := rfl
theorem f_146_38 : px_at 146 38 = some (.getfield 70, 3, 12, 34, .null) := rfl
theorem f_146_41 : px_at 146 41 = some (.aload_n 0, 1, 0, 0, .null) := rfl
theorem f_146_42 : px_at 146 42 = some (.getfield 265, 3, 12, 33, .null) := rfl
theorem f_146_45 : px_at 146 45 = some (.aload_n 0, 1, 0, 0, .null) := rfl
theorem f_146_46 : px_at 146 46 = some (.getfield 242, 3, 12, 48, .null) := rfl
theorem f_146_49 : px_at 146 49 = some (.i2b, 1, 0, 0, .null) := rfl
theorem f_146_50 : px_at 146 50 = some (.bastore, 1, 0, 0, .null) := rfl
theorem f_146_51 : px_at 146 51 = some (.aload_n 0, 1, 0, 0, .null) := rfl
theorem f_146_52 : px_at 146 52 = some (.getfield 73, 3, 12, 35, .null) := rfl
theorem f_146_55 : px_at 146 55 = some (.aload_n 0, 1, 0, 0, .null) := rfl
theorem f_146_56 : px_at 146 56 = some (.getfield 265, 3, 12, 33, .null) := rfl
theorem f_146_59 : px_at 146 59 = some (.aload_n 0, 1, 0, 0, .null) := rfl
theorem f_146_60 : px_at 146 60 = some (.getfield 245, 3, 12, 49, .null) := rfl
theorem f_146_63 : px_at 146 63 = some (.iastore, 1, 0, 0, .null) := rfl
theorem f_146_64 : px_at 146 64 = some (.aload_n 0, 1, 0, 0, .null) := rfl
theorem f_146_65 : px_at 146 65 = some (.getfield 76, 3, 12, 36, .null) := rfl
theorem f_146_68 : px_at 146 68 = some (.aload_n 0, 1, 0, 0, .null) := rfl
theorem f_146_69 : px_at 146 69 = some (.getfield 265, 3, 12, 33, .null) := rfl
theorem f_146_72 : px_at 146 72 = some (.aload_n 0, 1, 0, 0, .null) := rfl
theorem f_146_73 : px_at 146 73 = some (.getfield 248, 3, 12, 50, .null) := rfl
theorem f_146_76 : px_at 146 76 = some (.iastore, 1, 0, 0, .null) := rfl
theorem f_146_77 : px_at 146 77 = some (.aload_n 0, 1, 0, 0, .null) := rfl
theorem f_146_78 : px_at 146 78 = some (.dup, 1, 0, 0, .null) := rfl
theorem f_146_79 : px_at 146 79 = some (.getfield 265, 3, 12, 33, .null) := rfl
theorem f_146_82 : px_at 146 82 = some (.iconst 1, 1, 0, 0, .null) := rfl
theorem f_146_83 : px_at 146 83 = some (.iadd, 1, 0, 0, .null) := rfl
theorem f_146_84 : px_at 146 84 = some (.putfield 265, 3, 12, 33, .null) := rfl
theorem f_146_87 : px_at 146 87 = some (.return_, 1, 0, 0, .null) := rfl

theorem f_147_0 : px_at 147 0 = some (.iconst 4, 1, 0, 0, .null) := rfl
theorem f_147_1 : px_at 147 1 = some (.sipush 511, 3, 0, 0, .null) := rfl
theorem f_147_4 : px_at 147 4 = some (.iload_n 1, 1, 0, 0, .null) := rfl
theorem f_147_5 : px_at 147 5 = some (.imul, 1, 0, 0, .null) := rfl
theorem f_147_6 : px_at 147 6 = some (.iadd, 1, 0, 0, .null) := rfl
theorem f_147_7 : px_at 147 7 = some (.sipush 206, 3, 0, 0, .null) := rfl
theorem f_147_10 : px_at 147 10 = some (.iadd, 1, 0, 0, .null) := rfl
theorem f_147_11 : px_at 147 11 = some (.istore_n 3, 1, 0, 0, .null) := rfl
theorem f_147_12 : px_at 147 12 = some (.bipush (-3), 2, 0, 0, .null) := rfl
theorem f_147_14 : px_at 147 14 = some (.istore 4, 2, 0, 0, .null) := rfl
theorem f_147_16 : px_at 147 16 = some (.iconst 0, 1, 0, 0, .null) := rfl
theorem f_147_17 : px_at 147 17 = some (.istore 5, 2, 0, 0, .null) := rfl
theorem f_147_19 : px_at 147 19 = some (.iload 5, 2, 0, 0, .null) := rfl
theorem f_147_21 : px_at 147 21 = some (.aload_n 0, 1, 0, 0, .null) := rfl
theorem f_147_22 : px_at 147 22 = some (.getfield 64, 3, 12, 31, .null) := rfl
theorem f_147_25 : px_at 147 25 = some (.iload_n 3, 1, 0, 0, .null) := rfl
theorem f_147_26 : px_at 147 26 = some (.iaload, 1, 0, 0, .null) := rfl
theorem f_147_27 : px_at 147 27 = some (.if_icmp .ge 118, 3, 145, 0, .null) := rfl
theorem f_147_30 : px_at 147 30 = some (.iconst 4, 1, 0, 0, .null) := rfl
theorem f_147_31 : px_at 147 31 = some (.aload_n 0, 1, 0, 0, .null) := rfl
theorem f_147_32 : px_at 147 32 = some (.getfield 64, 3, 12, 31, .null) := rfl
theorem f_147_35 : px_at 147 35 = some (.iload_n 3, 1, 0, 0, .null) := rfl
theorem f_147_36 : px_at 147 36 = some (.iconst 2, 1, 0, 0, .null) := rfl
theorem f_147_37 : px_at 147 37 = some (.iadd, 1, 0, 0, .null) := rfl
theorem f_147_38 : px_at 147 38 = some (.iconst 3, 1, 0, 0, .null) := rfl
theorem f_147_39 : px_at 147 39 = some (.iload 5, 2, 0, 0, .null) := rfl
theorem f_147_41 : px_at 147 41 = some (.imul, 1, 0, 0, .null) := rfl
theorem f_147_42 : px_at 147 42 = some (.iadd, 1, 0, 0, .null) := rfl
theorem f_147_43 : px_at 147 43 = some (.iaload, 1, 0, 0, .null) := rfl
theorem f_147_44 : px_at 147 44 = some (.imul, 1, 0, 0, .null) := rfl
theorem f_147_45 : px_at 147 45 = some (.aload_n 0, 1, 0, 0, .null) := rfl
theorem f_147_46 : px_at 147 46 = some (.getfield 64, 3, 12, 31, .null) := rfl
theorem f_147_49 : px_at 147 49 = some (.iload_n 3, 1, 0, 0, .null) := rfl
theorem f_147_50 : px_at 147 50 = some (.iconst 1, 1, 0, 0, .null) := rfl
theorem f_147_51 : px_at 147 51 = some (.iadd, 1, 0, 0, .null) := rfl
theorem f_147_52 : px_at 147 52 = some (.iconst 3, 1, 0, 0, .null) := rfl
theorem f_147_53 : px_at 147 53 = some (.iload 5, 2, 0, 0, .null) := rfl
theorem f_147_55 : px_at 147 55 = some (.imul, 1, 0, 0, .null) := rfl
theorem f_147_56 : px_at 147 56 = some (.iadd, 1, 0, 0, .null) := rfl
theorem f_147_57 : px_at 147 57 = some (.iaload, 1, 0, 0, .null) := rfl
theorem f_147_58 : px_at 147 58 = some (.iadd, 1, 0, 0, .null) := rfl
theorem f_147_59 : px_at 147 59 = some (.istore 6, 2, 0, 0, .null) := rfl
theorem f_147_61 : px_at 147 61 = some (.iload 4, 2, 0, 0, .null) := rfl
theorem f_147_63 : px_at 147 63 = some (.ifCond .ge 7, 3, 70, 0, .null) := rfl
theorem f_147_66 : px_at 147 66 = some (.iconst 0, 1, 0, 0, .null) := rfl
theorem f_147_67 : px_at 147 67 = some (.goto 32, 3, 99, 0, .null) := rfl
theorem f_147_70 : px_at 147 70 = some (.iconst 4, 1, 0, 0, .null) := rfl
theorem f_147_71 : px_at 147 71 = some (.aload_n 0, 1, 0, 0, .null) := rfl
theorem f_147_72 : px_at 147 72 = some (.getfield 64, 3, 12, 31, .null) := rfl
theorem f_147_75 : px_at 147 75 = some (.iload_n 3, 1, 0, 0, .null) := rfl
theorem f_147_76 : px_at 147 76 = some (.iconst 2, 1, 0, 0, .null) := rfl
theorem f_147_77 : px_at 147 77 = some (.iadd, 1, 0, 0, .null) := rfl
theorem f_147_78 : px_at 147 78 = some (.iconst 3, 1, 0, 0, .null) := rfl
theorem f_147_79 : px_at 147 79 = some (.iload 4, 2, 0, 0, .null) := rfl
theorem f_147_81 : px_at 147 81 = some (.imul, 1, 0, 0, .null) := rfl
theorem f_147_82 : px_at 147 82 = some (.iadd, 1, 0, 0, .null) := rfl
theorem f_147_83 : px_at 147 83 = some (.iaload, 1, 0, 0, .null) := rfl
theorem f_147_84 : px_at 147 84 = some (.imul, 1, 0, 0, .null) := rfl
theorem f_147_85 : px_at 147 85 = some (.aload_n 0, 1, 0, 0, .null) := rfl
theorem f_147_86 : px_at 147 86 = some (.getfield 64, 3, 12, 31, .null) := rfl
theorem f_147_89 : px_at 147 89 = some (.iload_n 3, 1, 0, 0, .null) := rfl
theorem f_147_90 : px_at 147 90 = some (.iconst 1, 1, 0, 0, .null) := rfl
theorem f_147_91 : px_at 147 91 = some (.iadd, 1, 0, 0, .null) := rfl
theorem f_147_92 : px_at 147 92 = some (.iconst 3, 1, 0, 0, .null) := rfl
theorem f_147_93 : px_at 147 93 = some (.iload 4, 2, 0, 0, .null) := rfl
theorem f_147_95 : px_at 147 95 = some (.imul, 1, 0, 0, .null) := rfl
theorem f_147_96 : px_at 147 96 = some (.iadd, 1, 0, 0, .null) := rfl
theorem f_147_97 : px_at 147 97 = some (.iaload, 1, 0, 0, .null) := rfl
theorem f_147_98 : px_at 147 98 = some (.iadd, 1, 0, 0, .null) := rfl
theorem f_147_99 : px_at 147 99 = some (.istore 7, 2, 0, 0, .null) := rfl
theorem f_147_101 : px_at 147 101 = some (.aload_n 0, 1, 0, 0, .null) := rfl
theorem f_147_102 : px_at 147 102 = some (.getfield 64, 3, 12, 31, .null) := rfl
theorem f_147_105 : px_at 147 105 = some (.iload_n 3, 1, 0, 0, .null) := rfl
theorem f_147_106 : px_at 147 106 = some (.iconst 2, 1, 0, 0, .null) := rfl
theorem f_147_107 : px_at 147 107 = some (.iadd, 1, 0, 0, .null) := rfl
theorem f_147_108 : px_at 147 108 = some (.iconst 3, 1, 0, 0, .null) := rfl
theorem f_147_109 : px_at 147 109 = some (.iload 5, 2, 0, 0, .null) := rfl
theorem f_147_111 : px_at 147 111 = some (.imul, 1, 0, 0, .null) := rfl
theorem f_147_112 : px_at 147 112 = some (.iadd, 1, 0, 0, .null) := rfl
theorem f_147_113 : px_at 147 113 = some (.iaload, 1, 0, 0, .null) := rfl
theorem f_147_114 : px_at 147 114 = some (.iload_n 2, 1, 0, 0, .null) := rfl
theorem f_147_115 : px_at 147 115 = some (.if_icmp .gt 20, 3, 135, 0, .null) := rfl
theorem f_147_118 : px_at 147 118 = some (.iload 4, 2, 0, 0, .null) := rfl
theorem f_147_120 : px_at 147 120 = some (.ifCond .lt 10, 3, 130, 0, .null) := rfl
theorem f_147_123 : px_at 147 123 = some (.iload 6, 2, 0, 0, .null) := rfl
theorem f_147_125 : px_at 147 125 = some (.iload 7, 2, 0, 0, .null) := rfl
theorem f_147_127 : px_at 147 127 = some (.if_icmp .ge 8, 3, 135, 0, .null) := rfl
theorem f_147_130 : px_at 147 130 = some (.iload 5, 2, 0, 0, .null) := rfl
theorem f_147_132 : px_at 147 132 = some (.goto 5, 3, 137, 0, .null) := rfl
theorem f_147_135 : px_at 147 135 = some (.iload 4, 2, 0, 0, .null) := rfl
theorem f_147_137 : px_at 147 137 = some (.istore 4, 2, 0, 0, .null) := rfl
theorem f_147_139 : px_at 147 139 = some (.iinc 5 1, 3, 0, 0, .null) := rfl
theorem f_147_142 : px_at 147 142 = some (.goto (-123), 3, 19, 0, .null) := rfl
theorem f_147_145 : px_at 147 145 = some (.iload 4, 2, 0, 0, .null) := rfl
theorem f_147_147 : px_at 147 147 = some (.ireturn, 1, 0, 0, .null) := rfl

theorem f_148_0 : px_at 148 0 = some (.iconst 4, 1, 0, 0, .null) := rfl
theorem f_148_1 : px_at 148 1 = some (.sipush 511, 3, 0, 0, .null) := rfl
theorem f_148_4 : px_at 148 4 = some (.iload_n 1, 1, 0, 0, .null) := rfl
theorem f_148_5 : px_at 148 5 = some (.imul, 1, 0, 0, .null) := rfl
theorem f_148_6 : px_at 148 6 = some (.iadd, 1, 0, 0, .null) := rfl
theorem f_148_7 : px_at 148 7 = some (.sipush 206, 3, 0, 0, .null) := rfl
theorem f_148_10 : px_at 148 10 = some (.iadd, 1, 0, 0, .null) := rfl
theorem f_148_11 : px_at 148 11 = some (.istore_n 3, 1, 0, 0, .null) := rfl
theorem f_148_12 : px_at 148 12 = some (.aload_n 0, 1, 0, 0, .null) := rfl
theorem f_148_13 : px_at 148 13 = some (.iload_n 1, 1, 0, 0, .null) := rfl
theorem f_148_14 : px_at 148 14 = some (.iload_n 2, 1, 0, 0, .null) := rfl
theorem f_148_15 : px_at 148 15 = some (.invokevirtual 268, 3, 147, 1, .null) := rfl
theorem f_148_18 : px_at 148 18 = some (.istore 4, 2, 0, 0, .null) := rfl
theorem f_148_20 : px_at 148 20 = some (.iload 4, 2, 0, 0, .null) := rfl
theorem f_148_22 : px_at 148 22 = some (.ifCond .lt 150, 3, 172, 0, .null) := rfl
theorem f_148_25 : px_at 148 25 = some (.aload_n 0, 1, 0, 0, .null) := rfl
theorem f_148_26 : px_at 148 26 = some (.getfield 232, 3, 12, 41, .null) := rfl
theorem f_148_29 : px_at 148 29 = some (.ifCond .ne 143, 3, 172, 0, .null) := rfl
theorem f_148_32 : px_at 148 32 = some (.aload_n 0, 1, 0, 0, .null) := rfl
theorem f_148_33 : px_at 148 33 = some (.aload_n 0, 1, 0, 0, .null) := rfl
theorem f_148_34 : px_at 148 34 = some (.getfield 64, 3, 12, 31, .null) := rfl
theorem f_148_37 : px_at 148 37 = some (.iload_n 3, 1, 0, 0, .null) := rfl
theorem f_148_38 : px_at 148 38 = some (.iconst 1, 1, 0, 0, .null) := rfl
theorem f_148_39 : px_at 148 39 = some (.iadd, 1, 0, 0, .null) := rfl
theorem f_148_40 : px_at 148 40 = some (.iconst 3, 1, 0, 0, .null) := rfl
theorem f_148_41 : px_at 148 41 = some (.iload 4, 2, 0, 0, .null) := rfl
theorem f_148_43 : px_at 148 43 = some (.imul, 1, 0, 0, .null) := rfl
theorem f_148_44 : px_at 148 44 = some (.iadd, 1, 0, 0, .null) := rfl
theorem f_148_45 : px_at 148 45 = some (.iaload, 1, 0, 0, .null) := rfl
theorem f_148_46 : px_at 148 46 = some (.putfield 242, 3, 12, 48, .null) := rfl
theorem f_148_49 : px_at 148 49 = some (.aload_n 0, 1, 0, 0, .null) := rfl
theorem f_148_50 : px_at 148 50 = some (.aload_n 0, 1, 0, 0, .null) := rfl
theorem f_148_51 : px_at 148 51 = some (.getfield 64, 3, 12, 31, .null) := rfl
theorem f_148_54 : px_at 148 54 = some (.iload_n 3, 1, 0, 0, .null) := rfl
theorem f_148_55 : px_at 148 55 = some (.iconst 2, 1, 0, 0, .null) := rfl
theorem f_148_56 : px_at 148 56 = some (.iadd, 1, 0, 0, .null) := rfl
theorem f_148_57 : px_at 148 57 = some (.iconst 3, 1, 0, 0, .null) := rfl
theorem f_148_58 : px_at 148 58 = some (.iload 4, 2, 0, 0, .null) := rfl
theorem f_148_60 : px_at 148 60 = some (.imul, 1, 0, 0, .null) := rfl
theorem f_148_61 : px_at 148 61 = some (.iadd, 1, 0, 0, .null) := rfl
theorem f_148_62 : px_at 148 62 = some (.iaload, 1, 0, 0, .null) := rfl
theorem f_148_63 : px_at 148 63 = some (.iconst 1, 1, 0, 0, .null) := rfl
theorem f_148_64 : px_at 148 64 = some (.isub, 1, 0, 0, .null) := rfl
theorem f_148_65 : px_at 148 65 = some (.putfield 248, 3, 12, 50, .null) := rfl
theorem f_148_68 : px_at 148 68 = some (.aload_n 0, 1, 0, 0, .null) := rfl
theorem f_148_69 : px_at 148 69 = some (.aload_n 0, 1, 0, 0, .null) := rfl
theorem f_148_70 : px_at 148 70 = some (.getfield 64, 3, 12, 31, .null) := rfl
theorem f_148_73 : px_at 148 73 = some (.iload_n 3, 1, 0, 0, .null) := rfl
theorem f_148_74 : px_at 148 74 = some (.iconst 3, 1, 0, 0, .null) := rfl
theorem f_148_75 : px_at 148 75 = some (.iadd, 1, 0, 0, .null) := rfl
theorem f_148_76 : px_at 148 76 = some (.iconst 3, 1, 0, 0, .null) := rfl
theorem f_148_77 : px_at 148 77 = some (.iload 4, 2, 0, 0, .null) := rfl
theorem f_148_79 : px_at 148 79 = some (.imul, 1, 0, 0, .null) := rfl
theorem f_148_80 : px_at 148 80 = some (.iadd, 1, 0, 0, .null) := rfl
theorem f_148_81 : px_at 148 81 = some (.iaload, 1, 0, 0, .null) := rfl
theorem f_148_82 : px_at 148 82 = some (.putfield 245, 3, 12, 49, .null) := rfl
theorem f_148_85 : px_at 148 85 = some (.aload_n 0, 1, 0, 0, .null) := rfl
theorem f_148_86 : px_at 148 86 = some (.getfield 64, 3, 12, 31, .null) := rfl
theorem f_148_89 : px_at 148 89 = some (.iload_n 3, 1, 0, 0, .null) := rfl
theorem f_148_90 : px_at 148 90 = some (.dup2, 1, 0, 0, .null) := rfl
theorem f_148_91 : px_at 148 91 = some (.iaload, 1, 0, 0, .null) := rfl
theorem f_148_92 : px_at 148 92 = some (.iconst 1, 1, 0, 0, .null) := rfl
theorem f_148_93 : px_at 148 93 = some (.isub, 1, 0, 0, .null) := rfl
theorem f_148_94 : px_at 148 94 = some (.iastore, 1, 0, 0, .null) := rfl
theorem f_148_95 : px_at 148 95 = some (.iconst 1, 1, 0, 0, .null) := rfl
theorem f_148_96 : px_at 148 96 = some (.istore 5, 2, 0, 0, .null) := rfl
theorem f_148_98 : px_at 148 98 = some (.iload 5, 2, 0, 0, .null) := rfl
theorem f_148_100 : px_at 148 100 = some (.iconst 4, 1, 0, 0, .null) := rfl
theorem f_148_101 : px_at 148 101 = some (.if_icmp .ge 41, 3, 142, 0, .null) := rfl
theorem f_148_104 : px_at 148 104 = some (.aload_n 0, 1, 0, 0, .null) := rfl
theorem f_148_105 : px_at 148 105 = some (.getfield 64, 3, 12, 31, .null) := rfl
theorem f_148_108 : px_at 148 108 = some (.iload_n 3, 1, 0, 0, .null) := rfl
theorem f_148_109 : px_at 148 109 = some (.iload 5, 2, 0, 0, .null) := rfl
theorem f_148_111 : px_at 148 111 = some (.iadd, 1, 0, 0, .null) := rfl
theorem f_148_112 : px_at 148 112 = some (.iconst 3, 1, 0, 0, .null) := rfl
theorem f_148_113 : px_at 148 113 = some (.iload 4, 2, 0, 0, .null) := rfl
theorem f_148_115 : px_at 148 115 = some (.imul, 1, 0, 0, .null) := rfl
theorem f_148_116 : px_at 148 116 = some (.iadd, 1, 0, 0, .null) := rfl
theorem f_148_117 : px_at 148 117 = some (.aload_n 0, 1, 0, 0, .null) := rfl
theorem f_148_118 : px_at 148 118 = some (.getfield 64, 3, 12, 31, .null) := rfl
theorem f_148_121 : px_at 148 121 = some (.iload_n 3, 1, 0, 0, .null) := rfl
theorem f_148_122 : px_at 148 122 = some (.iload 5, 2, 0, 0, .null) := rfl
theorem f_148_124 : px_at 148 124 = some (.iadd, 1, 0, 0, .null) := rfl
theorem f_148_125 : px_at 148 125 = some (.iconst 3, 1, 0, 0, .null) := rfl
theorem f_148_126 : px_at 148 126 = some (.aload_n 0, 1, 0, 0, .null) := rfl
theorem f_148_127 : px_at 148 127 = some (.getfield 64, 3, 12, 31, .null) := rfl
theorem f_148_130 : px_at 148 130 = some (.iload_n 3, 1, 0, 0, .null) := rfl
theorem f_148_131 : px_at 148 131 = some (.iaload, 1, 0, 0, .null) := rfl
theorem f_148_132 : px_at 148 132 = some (.imul, 1, 0, 0, .null) := rfl
theorem f_148_133 : px_at 148 133 = some (.iadd, 1, 0, 0, .null) := rfl
theorem f_148_134 : px_at 148 134 = some (.iaload, 1, 0, 0, .null) := rfl
theorem f_148_135 : px_at 148 135 = some (.iastore, 1, 0, 0, .null) := rfl
theorem f_148_136 : px_at 148 136 = some (.iinc 5 1, 3, 0, 0, .null) := rfl
theorem f_148_139 : px_at 148 139 = some (.goto (-41), 3, 98, 0, .null) := rfl
theorem f_148_142 : px_at 148 142 = some (.aload_n 0, 1, 0, 0, .null) := rfl
theorem f_148_143 : px_at 148 143 = some (.iload_n 1, 1, 0, 0, .null) := rfl
theorem f_148_144 : px_at 148 144 = some (.iconst 1, 1, 0, 0, .null) := rfl
theorem f_148_145 : px_at 148 145 = some (.invokevirtual 238, 3, 141, 1, .null) := rfl
theorem f_148_148 : px_at 148 148 = some (.aload_n 0, 1, 0, 0, .null) := rfl
theorem f_148_149 : px_at 148 149 = some (.iload_n 1, 1, 0, 0, .null) := rfl
theorem f_148_150 : px_at 148 150 = some (.iconst 2, 1, 0, 0, .null) := rfl
theorem f_148_151 : px_at 148 151 = some (.invokevirtual 238, 3, 141, 1, .null) := rfl
theorem f_148_154 : px_at 148 154 = some (.aload_n 0, 1, 0, 0, .null) := rfl
theorem f_148_155 : px_at 148 155 = some (.iload_n 1, 1, 0, 0, .null) := rfl
theorem f_148_156 : px_at 148 156 = some (.iconst 1, 1, 0, 0, .null) := rfl
theorem f_148_157 : px_at 148 157 = some (.iadd, 1, 0, 0, .null) := rfl
theorem f_148_158 : px_at 148 158 = some (.invokevirtual 272, 3, 146, 1, .null) := rfl
theorem f_148_161 : px_at 148 161 = some (.aload_n 0, 1, 0, 0, .null) := rfl
theorem f_148_162 : px_at 148 162 = some (.iload_n 1, 1, 0, 0, .null) := rfl
theorem f_148_163 : px_at 148 163 = some (.iload_n 2, 1, 0, 0, .null) := rfl
theorem f_148_164 : px_at 148 164 = some (.invokevirtual 268, 3, 147, 1, .null) := rfl
theorem f_148_167 : px_at 148 167 = some (.istore 4, 2, 0, 0, .null) := rfl
theorem f_148_169 : px_at 148 169 = some (.goto (-149), 3, 20, 0, .null) := rfl
theorem f_148_172 : px_at 148 172 = some (.return_, 1, 0, 0, .null) := rfl

theorem f_149_0 : px_at 149 0 = some (.iconst 4, 1, 0, 0, .null) := rfl
theorem f_149_1 : px_at 149 1 = some (.sipush 511, 3, 0, 0, .null) := rfl
theorem f_149_4 : px_at 149 4 = some (.iload_n 1, 1, 0, 0, .null) := rfl
theorem f_149_5 : px_at 149 5 = some (.imul, 1, 0, 0, .null) := rfl
theorem f_149_6 : px_at 149 6 = some (.iadd, 1, 0, 0, .null) := rfl
theorem f_149_7 : px_at 149 7 = some (.sipush 507, 3, 0, 0, .null) := rfl
theorem f_149_10 : px_at 149 10 = some (.iadd, 1, 0, 0, .null) := rfl
theorem f_149_11 : px_at 149 11 = some (.istore_n 3, 1, 0, 0, .null) := rfl
theorem f_149_12 : px_at 149 12 = some (.bipush (-3), 2, 0, 0, .null) := rfl
theorem f_149_14 : px_at 149 14 = some (.istore 4, 2, 0, 0, .null) := rfl
theorem f_149_16 : px_at 149 16 = some (.iconst 0, 1, 0, 0, .null) := rfl
theorem f_149_17 : px_at 149 17 = some (.istore 5, 2, 0, 0, .null) := rfl
theorem f_149_19 : px_at 149 19 = some (.iload 5, 2, 0, 0, .null) := rfl
theorem f_149_21 : px_at 149 21 = some (.iconst 4, 1, 0, 0, .null) := rfl
theorem f_149_22 : px_at 149 22 = some (.if_icmp .ge 69, 3, 91, 0, .null) := rfl
theorem f_149_25 : px_at 149 25 = some (.aload_n 0, 1, 0, 0, .null) := rfl
theorem f_149_26 : px_at 149 26 = some (.getfield 64, 3, 12, 31, .null) := rfl
theorem f_149_29 : px_at 149 29 = some (.iload_n 3, 1, 0, 0, .null) := rfl
theorem f_149_30 : px_at 149 30 = some (.iload 5, 2, 0, 0, .null) := rfl
theorem f_149_32 : px_at 149 32 = some (.iadd, 1, 0, 0, .null) := rfl
theorem f_149_33 : px_at 149 33 = some (.iaload, 1, 0, 0, .null) := rfl
theorem f_149_34 : px_at 149 34 = some (.ifCond .lt 47, 3, 81, 0, .null) := rfl
theorem f_149_37 : px_at 149 37 = some (.aload_n 0, 1, 0, 0, .null) := rfl
theorem f_149_38 : px_at 149 38 = some (.getfield 64, 3, 12, 31, .null) := rfl
theorem f_149_41 : px_at 149 41 = some (.iload_n 3, 1, 0, 0, .null) := rfl
theorem f_149_42 : px_at 149 42 = some (.iload 5, 2, 0, 0, .null) := rfl
theorem f_149_44 : px_at 149 44 = some (.iadd, 1, 0, 0, .null) := rfl
theorem f_149_45 : px_at 149 45 = some (.iaload, 1, 0, 0, .null) := rfl
theorem f_149_46 : px_at 149 46 = some (.iload_n 2, 1, 0, 0, .null) := rfl
theorem f_149_47 : px_at 149 47 = some (.if_icmp .gt 34, 3, 81, 0, .null) := rfl
theorem f_149_50 : px_at 149 50 = some (.iload 4, 2, 0, 0, .null) := rfl
theorem f_149_52 : px_at 149 52 = some (.ifCond .lt 24, 3, 76, 0, .null) := rfl
theorem f_149_55 : px_at 149 55 = some (.aload_n 0, 1, 0, 0, .null) := rfl
theorem f_149_56 : px_at 149 56 = some (.getfield 64, 3, 12, 31, .null) := rfl
theorem f_149_59 : px_at 149 59 = some (.iload_n 3, 1, 0, 0, .null) := rfl
theorem f_149_60 : px_at 149 60 = some (.iload 5, 2, 0, 0, .null) := rfl
theorem f_149_62 : px_at 149 62 = some (.iadd, 1, 0, 0, .null) := rfl
theorem f_149_63 : px_at 149 63 = some (.iaload, 1, 0, 0, .null) := rfl
theorem f_149_64 : px_at 149 64 = some (.aload_n 0, 1, 0, 0, .null) := rfl
theorem f_149_65 : px_at 149 65 = some (.getfield 64, 3, 12, 31, .null) := rfl
theorem f_149_68 : px_at 149 68 = some (.iload_n 3, 1, 0, 0, .null) := rfl
theorem f_149_69 : px_at 149 69 = some (.iload 4, 2, 0, 0, .null) := rfl
theorem f_149_71 : px_at 149 71 = some (.iadd, 1, 0, 0, .null) := rfl
theorem f_149_72 : px_at 149 72 = some (.iaload, 1, 0, 0, .null) := rfl
theorem f_149_73 : px_at 149 73 = some (.if_icmp .ge 8, 3, 81, 0, .null) := rfl
theorem f_149_76 : px_at 149 76 = some (.iload 5, 2, 0, 0, .null) := rfl
theorem f_149_78 : px_at 149 78 = some (.goto 5, 3, 83, 0, .null) := rfl
theorem f_149_81 : px_at 149 81 = some (.iload 4, 2, 0, 0, .null) := rfl
theorem f_149_83 : px_at 149 83 = some (.istore 4, 2, 0, 0, .null) := rfl
theorem f_149_85 : px_at 149 85 = some (.iinc 5 1, 3, 0, 0, .null) := rfl
theorem f_149_88 : px_at 149 88 = some (.goto (-69), 3, 19, 0, .null) := rfl
theorem f_149_91 : px_at 149 91 = some (.iload 4, 2, 0, 0, .null) := rfl
theorem f_149_93 : px_at 149 93 = some (.ireturn, 1, 0, 0, .null) := rfl

theorem f_150_0 : px_at 150 0 = some (.iconst 4, 1, 0, 0, .null) := rfl
theorem f_150_1 : px_at 150 1 = some (.sipush 511, 3, 0, 0, .null) := rfl
theorem f_150_4 : px_at 150 4 = some (.iload_n 1, 1, 0, 0, .null) := rfl
theorem f_150_5 : px_at 150 5 = some (.imul, 1, 0, 0, .null) := rfl
theorem f_150_6 : px_at 150 6 = some (.iadd, 1, 0, 0, .null) := rfl
theorem f_150_7 : px_at 150 7 = some (.sipush 507, 3, 0, 0, .null) := rfl
theorem f_150_10 : px_at 150 10 = some (.iadd, 1, 0, 0, .null) := rfl
theorem f_150_11 : px_at 150 11 = some (.istore_n 3, 1, 0, 0, .null) := rfl
theorem f_150_12 : px_at 150 12 = some (.aload_n 0, 1, 0, 0, .null) := rfl
theorem f_150_13 : px_at 150 13 = some (.iload_n 1, 1, 0, 0, .null) := rfl
theorem f_150_14 : px_at 150 14 = some (.iload_n 2, 1, 0, 0, .null) := rfl
theorem f_150_15 : px_at 150 15 = some (.invokevirtual 275, 3, 149, 1, .null) := rfl
theorem f_150_18 : px_at 150 18 = some (.istore 4, 2, 0, 0, .null) := rfl
theorem f_150_20 : px_at 150 20 = some (.iload 4, 2, 0, 0, .null) := rfl
theorem f_150_22 : px_at 150 22 = some (.ifCond .lt 75, 3, 97, 0, .null) := rfl
theorem f_150_25 : px_at 150 25 = some (.aload_n 0, 1, 0, 0, .null) := rfl
theorem f_150_26 : px_at 150 26 = some (.getfield 232, 3, 12, 41, .null) := rfl
theorem f_150_29 : px_at 150 29 = some (.ifCond .ne 68, 3, 97, 0, .null) := rfl
theorem f_150_32 : px_at 150 32 = some (.aload_n 0, 1, 0, 0, .null) := rfl
theorem f_150_33 : px_at 150 33 = some (.iload 4, 2, 0, 0, .null) := rfl
theorem f_150_35 : px_at 150 35 = some (.putfield 242, 3, 12, 48, .null) := rfl
theorem f_150_38 : px_at 150 38 = some (.aload_n 0, 1, 0, 0, .null) := rfl
theorem f_150_39 : px_at 150 39 = some (.iconst 0, 1, 0, 0, .null) := rfl
theorem f_150_40 : px_at 150 40 = some (.putfield 245, 3, 12, 49, .null) := rfl
theorem f_150_43 : px_at 150 43 = some (.aload_n 0, 1, 0, 0, .null) := rfl
theorem f_150_44 : px_at 150 44 = some (.aload_n 0, 1, 0, 0, .null) := rfl
theorem f_150_45 : px_at 150 45 = some (.getfield 64, 3, 12, 31, .null) := rfl
theorem f_150_48 : px_at 150 48 = some (.iload_n 3, 1, 0, 0, .null) := rfl
theorem f_150_49 : px_at 150 49 = some (.iload 4, 2, 0, 0, .null) := rfl
theorem f_150_51 : px_at 150 51 = some (.iadd, 1, 0, 0, .null) := rfl
theorem f_150_52 : px_at 150 52 = some (.iaload, 1, 0, 0, .null) := rfl
theorem f_150_53 : px_at 150 53 = some (.putfield 248, 3, 12, 50, .null) := rfl
theorem f_150_56 : px_at 150 56 = some (.aload_n 0, 1, 0, 0, .null) := rfl
theorem f_150_57 : px_at 150 57 = some (.getfield 64, 3, 12, 31, .null) := rfl
theorem f_150_60 : px_at 150 60 = some (.iload_n 3, 1, 0, 0, .null) := rfl
theorem f_150_61 : px_at 150 61 = some (.iload 4, 2, 0, 0, .null) := rfl
theorem f_150_63 : px_at 150 63 = some (.iadd, 1, 0, 0, .null) := rfl
theorem f_150_64 : px_at 150 64 = some (.bipush (-3), 2, 0, 0, .null) := rfl
theorem f_150_66 : px_at 150 66 = some (.iastore, 1, 0, 0, .null) := rfl
theorem f_150_67 : px_at 150 67 = some (.aload_n 0, 1, 0, 0, .null) := rfl
theorem f_150_68 : px_at 150 68 = some (.iload_n 1, 1, 0, 0, .null) := rfl
theorem f_150_69 : px_at 150 69 = some (.iconst 1, 1, 0, 0, .null) := rfl
theorem f_150_70 : px_at 150 70 = some (.invokevirtual 238, 3, 141, 1, .null) := rfl
theorem f_150_73 : px_at 150 73 = some (.aload_n 0, 1, 0, 0, .null) := rfl
theorem f_150_74 : px_at 150 74 = some (.iload_n 1, 1, 0, 0, .null) := rfl
theorem f_150_75 : px_at 150 75 = some (.iconst 2, 1, 0, 0, .null) := rfl
theorem f_150_76 : px_at 150 76 = some (.invokevirtual 238, 3, 141, 1, .null) := rfl
theorem f_150_79 : px_at 150 79 = some (.aload_n 0, 1, 0, 0, .null) := rfl
theorem f_150_80 : px_at 150 80 = some (.iload_n 1, 1, 0, 0, .null) := rfl
theorem f_150_81 : px_at 150 81 = some (.iconst 1, 1, 0, 0, .null) := rfl
theorem f_150_82 : px_at 150 82 = some (.iadd, 1, 0, 0, .null) := rfl
theorem f_150_83 : px_at 150 83 = some (.invokevirtual 272, 3, 146, 1, .null) := rfl
theorem f_150_86 : px_at 150 86 = some (.aload_n 0, 1, 0, 0, .null) := rfl
theorem f_150_87 : px_at 150 87 = some (.iload_n 1, 1, 0, 0, .null) := rfl
theorem f_150_88 : px_at 150 88 = some (.iload_n 2, 1, 0, 0, .null) := rfl
theorem f_150_89 : px_at 150 89 = some (.invokevirtual 275, 3, 149, 1, .null) := rfl
theorem f_150_92 : px_at 150 92 = some (.istore 4, 2, 0, 0, .null) := rfl
theorem f_150_94 : px_at 150 94 = some (.goto (-74), 3, 20, 0, .null) := rfl
theorem f_150_97 : px_at 150 97 = some (.return_, 1, 0, 0, .null) := rfl

theorem f_151_0 : px_at 151 0 = some (.iload_n 1, 1, 0, 0, .null) := rfl
theorem f_151_1 : px_at 151 1 = some (.aload_n 0, 1, 0, 0, .null) := rfl
theorem f_151_2 : px_at 151 2 = some (.getfield 64, 3, 12, 31, .null) := rfl
theorem f_151_5 : px_at 151 5 = some (.iconst 2, 1, 0, 0, .null) := rfl
theorem f_151_6 : px_at 151 6 = some (.iaload, 1, 0, 0, .null) := rfl
theorem f_151_7 : px_at 151 7 = some (.if_icmp .gt 4, 3, 11, 0, .null) := rfl
theorem f_151_10 : px_at 151 10 = some (.return_, 1, 0, 0, .null) := rfl
theorem f_151_11 : px_at 151 11 = some (.aload_n 0, 1, 0, 0, .null) := rfl
theorem f_151_12 : px_at 151 12 = some (.getfield 64, 3, 12, 31, .null) := rfl
theorem f_151_15 : px_at 151 15 = some (.iconst 2, 1, 0, 0, .null) := rfl
theorem f_151_16 : px_at 151 16 = some (.iload_n 1, 1, 0, 0, .null) := rfl
theorem f_151_17 : px_at 151 17 = some (.iastore, 1, 0, 0, .null) := rfl
theorem f_151_18 : px_at 151 18 = some (.iconst 0, 1, 0, 0, .null) := rfl
theorem f_151_19 : px_at 151 19 = some (.istore_n 2, 1, 0, 0, .null) := rfl
theorem f_151_20 : px_at 151 20 = some (.iload_n 2, 1, 0, 0, .null) := rfl
theorem f_151_21 : px_at 151 21 = some (.aload_n 0, 1, 0, 0, .null) := rfl
theorem f_151_22 : px_at 151 22 = some (.getfield 226, 3, 12, 27, .null) := rfl
theorem f_151_25 : px_at 151 25 = some (.if_icmp .ge 70, 3, 95, 0, .null) := rfl
theorem f_151_28 : px_at 151 28 = some (.aload_n 0, 1, 0, 0, .null) := rfl
theorem f_151_29 : px_at 151 29 = some (.getfield 232, 3, 12, 41, .null) := rfl
theorem f_151_32 : px_at 151 32 = some (.ifCond .ne 63, 3, 95, 0, .null) := rfl
theorem f_151_35 : px_at 151 35 = some (.aload_n 0, 1, 0, 0, .null) := rfl
theorem f_151_36 : px_at 151 36 = some (.getfield 64, 3, 12, 31, .null) := rfl
theorem f_151_39 : px_at 151 39 = some (.iconst 4, 1, 0, 0, .null) := rfl
theorem f_151_40 : px_at 151 40 = some (.sipush 511, 3, 0, 0, .null) := rfl
theorem f_151_43 : px_at 151 43 = some (.iload_n 2, 1, 0, 0, .null) := rfl
theorem f_151_44 : px_at 151 44 = some (.imul, 1, 0, 0, .null) := rfl
theorem f_151_45 : px_at 151 45 = some (.iadd, 1, 0, 0, .null) := rfl
theorem f_151_46 : px_at 151 46 = some (.sipush 205, 3, 0, 0, .null) := rfl
theorem f_151_49 : px_at 151 49 = some (.iadd, 1, 0, 0, .null) := rfl
theorem f_151_50 : px_at 151 50 = some (.iload_n 1, 1, 0, 0, .null) := rfl
theorem f_151_51 : px_at 151 51 = some (.iastore, 1, 0, 0, .null) := rfl
theorem f_151_52 : px_at 151 52 = some (.aload_n 0, 1, 0, 0, .null) := rfl
theorem f_151_53 : px_at 151 53 = some (.getfield 55, 3, 12, 28, .null) := rfl
theorem f_151_56 : px_at 151 56 = some (.iload_n 2, 1, 0, 0, .null) := rfl
theorem f_151_57 : px_at 151 57 = some (.caload, 1, 0, 0, .null) := rfl
theorem f_151_58 : px_at 151 58 = some (.bipush 119, 2, 0, 0, .null) := rfl
theorem f_151_60 : px_at 151 60 = some (.if_icmp .ne 12, 3, 72, 0, .null) := rfl
theorem f_151_63 : px_at 151 63 = some (.aload_n 0, 1, 0, 0, .null) := rfl
theorem f_151_64 : px_at 151 64 = some (.iload_n 2, 1, 0, 0, .null) := rfl
theorem f_151_65 : px_at 151 65 = some (.iload_n 1, 1, 0, 0, .null) := rfl
theorem f_151_66 : px_at 151 66 = some (.invokevirtual 278, 3, 148, 1, .null) := rfl
theorem f_151_69 : px_at 151 69 = some (.goto 20, 3, 89, 0, .null) := rfl
theorem f_151_72 : px_at 151 72 = some (.aload_n 0, 1, 0, 0, .null) := rfl
theorem f_151_73 : px_at 151 73 = some (.getfield 55, 3, 12, 28, .null) := rfl
theorem f_151_76 : px_at 151 76 = some (.iload_n 2, 1, 0, 0, .null) := rfl
theorem f_151_77 : px_at 151 77 = some (.caload, 1, 0, 0, .null) := rfl
theorem f_151_78 : px_at 151 78 = some (.bipush 116, 2, 0, 0, .null) := rfl
theorem f_151_80 : px_at 151 80 = some (.if_icmp .ne 9, 3, 89, 0, .null) := rfl
theorem f_151_83 : px_at 151 83 = some (.aload_n 0, 1, 0, 0, .null) := rfl
theorem f_151_84 : px_at 151 84 = some (.iload_n 2, 1, 0, 0, .null) := rfl
theorem f_151_85 : px_at 151 85 = some (.iload_n 1, 1, 0, 0, .null) := rfl
theorem f_151_86 : px_at 151 86 = some (.invokevirtual 281, 3, 150, 1, .null) := rfl
theorem f_151_89 : px_at 151 89 = some (.iinc 2 1, 3, 0, 0, .null) := rfl
theorem f_151_92 : px_at 151 92 = some (.goto (-72), 3, 20, 0, .null) := rfl
theorem f_151_95 : px_at 151 95 = some (.return_, 1, 0, 0, .null) := rfl

theorem f_152_0 : px_at 152 0 = some (.iconst 0, 1, 0, 0, .null) := rfl
theorem f_152_1 : px_at 152 1 = some (.istore_n 1, 1, 0, 0, .null) := rfl
theorem f_152_2 : px_at 152 2 = some (.iload_n 1, 1, 0, 0, .null) := rfl
theorem f_152_3 : px_at 152 3 = some (.aload_n 0, 1, 0, 0, .null) := rfl
theorem f_152_4 : px_at 152 4 = some (.getfield 265, 3, 12, 33, .null) := rfl
theorem f_152_7 : px_at 152 7 = some (.if_icmp .ge 64, 3, 71, 0, .null) := rfl
theorem f_152_10 : px_at 152 10 = some (.aload_n 0, 1, 0, 0, .null) := rfl
theorem f_152_11 : px_at 152 11 = some (.getfield 79, 3, 12, 38, .null) := rfl
theorem f_152_14 : px_at 152 14 = some (.aload_n 0, 1, 0, 0, .null) := rfl
theorem f_152_15 : px_at 152 15 = some (.getfield 284, 3, 12, 37, .null) := rfl
theorem f_152_18 : px_at 152 18 = some (.aload_n 0, 1, 0, 0, .null) := rfl
theorem f_152_19 : px_at 152 19 = some (.getfield 70, 3, 12, 34, .null) := rfl
theorem f_152_22 : px_at 152 22 = some (.iload_n 1, 1, 0, 0, .null) := rfl
theorem f_152_23 : px_at 152 23 = some (.baload, 1, 0, 0, .null) := rfl
theorem f_152_24 : px_at 152 24 = some (.bastore, 1, 0, 0, .null) := rfl
theorem f_152_25 : px_at 152 25 = some (.aload_n 0, 1, 0, 0, .null) := rfl
theorem f_152_26 : px_at 152 26 = some (.getfield 82, 3, 12, 39, .null) := rfl
theorem f_152_29 : px_at 152 29 = some (.aload_n 0, 1, 0, 0, .null) := rfl
theorem f_152_30 : px_at 152 30 = some (.getfield 284, 3, 12, 37, .null) := rfl
theorem f_152_33 : px_at 152 33 = some (.aload_n 0, 1, 0, 0, .null) := rfl
theorem f_152_34 : px_at 152 34 = some (.getfield 73, 3, 12, 35, .null) := rfl
theorem f_152_37 : px_at 152 37 = some (.iload_n 1, 1, 0, 0, .null) := rfl
theorem f_152_38 : px_at 152 38 = some (.iaload, 1, 0, 0, .null) := rfl
theorem f_152_39 : px_at 152 39 = some (.iastore, 1, 0, 0, .null) := rfl
theorem f_152_40 : px_at 152 40 = some (.aload_n 0, 1, 0, 0, .null) := rfl
theorem f_152_41 : px_at 152 41 = some (.getfield 85, 3, 12, 40, .null) := rfl
theorem f_152_44 : px_at 152 44 = some (.aload_n 0, 1, 0, 0, .null) := rfl
theorem f_152_45 : px_at 152 45 = some (.getfield 284, 3, 12, 37, .null) := rfl
theorem f_152_48 : px_at 152 48 = some (.aload_n 0, 1, 0, 0, .null) := rfl
theorem f_152_49 : px_at 152 49 = some (.getfield 76, 3, 12, 36, .null) := rfl
theorem f_152_52 : px_at 152 52 = some (.iload_n 1, 1, 0, 0, .null) := rfl
theorem f_152_53 : px_at 152 53 = some (.iaload, 1, 0, 0, .null) := rfl
theorem f_152_54 : px_at 152 54 = some (.iastore, 1, 0, 0, .null) := rfl
theorem f_152_55 : px_at 152 55 = some (.aload_n 0, 1, 0, 0, .null) := rfl
theorem f_152_56 : px_at 152 56 = some (.dup, 1, 0, 0, .null) := rfl
theorem f_152_57 : px_at 152 57 = some (.getfield 284, 3, 12, 37, .null) := rfl
theorem f_152_60 : px_at 152 60 = some (.iconst 1, 1, 0, 0, .null) := rfl
theorem f_152_61 : px_at 152 61 = some (.iadd, 1, 0, 0, .null) := rfl
theorem f_152_62 : px_at 152 62 = some (.putfield 284, 3, 12, 37, .null) := rfl
theorem f_152_65 : px_at 152 65 = some (.iinc 1 1, 3, 0, 0, .null) := rfl
theorem f_152_68 : px_at 152 68 = some (.goto (-66), 3, 2, 0, .null) := rfl
theorem f_152_71 : px_at 152 71 = some (.aload_n 0, 1, 0, 0, .null) := rfl
theorem f_152_72 : px_at 152 72 = some (.iconst 0, 1, 0, 0, .null) := rfl
theorem f_152_73 : px_at 152 73 = some (.putfield 265, 3, 12, 33, .null) := rfl
theorem f_152_76 : px_at 152 76 = some (.return_, 1, 0, 0, .null) := rfl

theorem f_153_0 : px_at 153 0 = some (.iconst 0, 1, 0, 0, .null) := rfl
theorem f_153_1 : px_at 153 1 = some (.istore_n 3, 1, 0, 0, .null) := rfl
theorem f_153_2 : px_at 153 2 = some (.iload_n 3, 1, 0, 0, .null) := rfl
theorem f_153_3 : px_at 153 3 = some (.iconst 4, 1, 0, 0, .null) := rfl
theorem f_153_4 : px_at 153 4 = some (.sipush 511, 3, 0, 0, .null) := rfl
theorem f_153_7 : px_at 153 7 = some (.aload_n 0, 1, 0, 0, .null) := rfl
theorem f_153_8 : px_at 153 8 = some (.getfield 226, 3, 12, 27, .null) := rfl
theorem f_153_11 : px_at 153 11 = some (.imul, 1, 0, 0, .null) := rfl
theorem f_153_12 : px_at 153 12 = some (.iadd, 1, 0, 0, .null) := rfl
theorem f_153_13 : px_at 153 13 = some (.if_icmp .ge 15, 3, 28, 0, .null) := rfl
theorem f_153_16 : px_at 153 16 = some (.aload_n 2, 1, 0, 0, .null) := rfl
theorem f_153_17 : px_at 153 17 = some (.iload_n 3, 1, 0, 0, .null) := rfl
theorem f_153_18 : px_at 153 18 = some (.aload_n 1, 1, 0, 0, .null) := rfl
theorem f_153_19 : px_at 153 19 = some (.iload_n 3, 1, 0, 0, .null) := rfl
theorem f_153_20 : px_at 153 20 = some (.iaload, 1, 0, 0, .null) := rfl
theorem f_153_21 : px_at 153 21 = some (.iastore, 1, 0, 0, .null) := rfl
theorem f_153_22 : px_at 153 22 = some (.iinc 3 1, 3, 0, 0, .null) := rfl
theorem f_153_25 : px_at 153 25 = some (.goto (-23), 3, 2, 0, .null) := rfl
theorem f_153_28 : px_at 153 28 = some (.return_, 1, 0, 0, .null) := rfl

theorem f_154_0 : px_at 154 0 = some (.aload_n 0, 1, 0, 0, .null) := rfl
theorem f_154_1 : px_at 154 1 = some (.dup, 1, 0, 0, .null) := rfl
theorem f_154_2 : px_at 154 2 = some (.getfield 287, 3, 12, 43, .null) := rfl
theorem f_154_5 : px_at 154 5 = some (.iconst 1, 1, 0, 0, .null) := rfl
theorem f_154_6 : px_at 154 6 = some (.iadd, 1, 0, 0, .null) := rfl
theorem f_154_7 : px_at 154 7 = some (.putfield 287, 3, 12, 43, .null) := rfl
theorem f_154_10 : px_at 154 10 = some (.aload_n 0, 1, 0, 0, .null) := rfl
theorem f_154_11 : px_at 154 11 = some (.getfield 26, 3, 12, 8, .null) := rfl
theorem f_154_14 : px_at 154 14 = some (.iload_n 1, 1, 0, 0, .null) := rfl
theorem f_154_15 : px_at 154 15 = some (.caload, 1, 0, 0, .null) := rfl
theorem f_154_16 : px_at 154 16 = some (.istore_n 2, 1, 0, 0, .null) := rfl
theorem f_154_17 : px_at 154 17 = some (.iload_n 2, 1, 0, 0, .null) := rfl
theorem f_154_18 : px_at 154 18 = some (.bipush 114, 2, 0, 0, .null) := rfl
theorem f_154_20 : px_at 154 20 = some (.if_icmp .eq 9, 3, 29, 0, .null) := rfl
theorem f_154_23 : px_at 154 23 = some (.iload_n 2, 1, 0, 0, .null) := rfl
theorem f_154_24 : px_at 154 24 = some (.bipush 82, 2, 0, 0, .null) := rfl
theorem f_154_26 : px_at 154 26 = some (.if_icmp .ne 39, 3, 65, 0, .null) := rfl
theorem f_154_29 : px_at 154 29 = some (.aload_n 0, 1, 0, 0, .null) := rfl
theorem f_154_30 : px_at 154 30 = some (.aload_n 0, 1, 0, 0, .null) := rfl
theorem f_154_31 : px_at 154 31 = some (.getfield 29, 3, 12, 9, .null) := rfl
theorem f_154_34 : px_at 154 34 = some (.iload_n 1, 1, 0, 0, .null) := rfl
theorem f_154_35 : px_at 154 35 = some (.baload, 1, 0, 0, .null) := rfl
theorem f_154_36 : px_at 154 36 = some (.putfield 242, 3, 12, 48, .null) := rfl
theorem f_154_39 : px_at 154 39 = some (.aload_n 0, 1, 0, 0, .null) := rfl
theorem f_154_40 : px_at 154 40 = some (.aload_n 0, 1, 0, 0, .null) := rfl
theorem f_154_41 : px_at 154 41 = some (.getfield 33, 3, 12, 10, .null) := rfl
theorem f_154_44 : px_at 154 44 = some (.iload_n 1, 1, 0, 0, .null) := rfl
theorem f_154_45 : px_at 154 45 = some (.saload, 1, 0, 0, .null) := rfl
theorem f_154_46 : px_at 154 46 = some (.putfield 245, 3, 12, 49, .null) := rfl
theorem f_154_49 : px_at 154 49 = some (.aload_n 0, 1, 0, 0, .null) := rfl
theorem f_154_50 : px_at 154 50 = some (.aload_n 0, 1, 0, 0, .null) := rfl
theorem f_154_51 : px_at 154 51 = some (.getfield 37, 3, 12, 11, .null) := rfl
theorem f_154_54 : px_at 154 54 = some (.iload_n 1, 1, 0, 0, .null) := rfl
theorem f_154_55 : px_at 154 55 = some (.saload, 1, 0, 0, .null) := rfl
theorem f_154_56 : px_at 154 56 = some (.putfield 248, 3, 12, 50, .null) := rfl
theorem f_154_59 : px_at 154 59 = some (.aload_n 0, 1, 0, 0, .null) := rfl
theorem f_154_60 : px_at 154 60 = some (.iconst 0, 1, 0, 0, .null) := rfl
theorem f_154_61 : px_at 154 61 = some (.invokevirtual 272, 3, 146, 1, .null) := rfl
theorem f_154_64 : px_at 154 64 = some (.return_, 1, 0, 0, .null) := rfl
theorem f_154_65 : px_at 154 65 = some (.iload_n 2, 1, 0, 0, .null) := rfl
theorem f_154_66 : px_at 154 66 = some (.bipush 104, 2, 0, 0, .null) := rfl
theorem f_154_68 : px_at 154 68 = some (.if_icmp .ne 7, 3, 75, 0, .null) := rfl
theorem f_154_71 : px_at 154 71 = some (.iconst 0, 1, 0, 0, .null) := rfl
theorem f_154_72 : px_at 154 72 = some (.goto 4, 3, 76, 0, .null) := rfl
theorem f_154_75 : px_at 154 75 = some (.iconst 1, 1, 0, 0, .null) := rfl
theorem f_154_76 : px_at 154 76 = some (.istore_n 3, 1, 0, 0, .null) := rfl
theorem f_154_77 : px_at 154 77 = some (.aload_n 0, 1, 0, 0, .null) := rfl
theorem f_154_78 : px_at 154 78 = some (.getfield 64, 3, 12, 31, .null) := rfl
theorem f_154_81 : px_at 154 81 = some (.iconst 0, 1, 0, 0, .null) := rfl
theorem f_154_82 : px_at 154 82 = some (.iload_n 3, 1, 0, 0, .null) := rfl
theorem f_154_83 : px_at 154 83 = some (.iadd, 1, 0, 0, .null) := rfl
theorem f_154_84 : px_at 154 84 = some (.aload_n 0, 1, 0, 0, .null) := rfl
theorem f_154_85 : px_at 154 85 = some (.getfield 37, 3, 12, 11, .null) := rfl
theorem f_154_88 : px_at 154 88 = some (.iload_n 1, 1, 0, 0, .null) := rfl
theorem f_154_89 : px_at 154 89 = some (.saload, 1, 0, 0, .null) := rfl
theorem f_154_90 : px_at 154 90 = some (.aload_n 0, 1, 0, 0, .null) := rfl
theorem f_154_91 : px_at 154 91 = some (.getfield 64, 3, 12, 31, .null) := rfl
theorem f_154_94 : px_at 154 94 = some (.iconst 0, 1, 0, 0, .null) := rfl
theorem f_154_95 : px_at 154 95 = some (.iload_n 3, 1, 0, 0, .null) := rfl
theorem f_154_96 : px_at 154 96 = some (.iadd, 1, 0, 0, .null) := rfl
theorem f_154_97 : px_at 154 97 = some (.iaload, 1, 0, 0, .null) := rfl
theorem f_154_98 : px_at 154 98 = some (.if_icmp .le 12, 3, 110, 0, .null) := rfl
theorem f_154_101 : px_at 154 101 = some (.aload_n 0, 1, 0, 0, .null) := rfl
theorem f_154_102 : px_at 154 102 = some (.getfield 37, 3, 12, 11, .null) := rfl
theorem f_154_105 : px_at 154 105 = some (.iload_n 1, 1, 0, 0, .null) := rfl
theorem f_154_106 : px_at 154 106 = some (.saload, 1, 0, 0, .null) := rfl
theorem f_154_107 : px_at 154 107 = some (.goto 11, 3, 118, 0, .null) := rfl
theorem f_154_110 : px_at 154 110 = some (.aload_n 0, 1, 0, 0, .null) := rfl
theorem f_154_111 : px_at 154 111 = some (.getfield 64, 3, 12, 31, .null) := rfl
theorem f_154_114 : px_at 154 114 = some (.iconst 0, 1, 0, 0, .null) := rfl
theorem f_154_115 : px_at 154 115 = some (.iload_n 3, 1, 0, 0, .null) := rfl
theorem f_154_116 : px_at 154 116 = some (.iadd, 1, 0, 0, .null) := rfl
theorem f_154_117 : px_at 154 117 = some (.iaload, 1, 0, 0, .null) := rfl
theorem f_154_118 : px_at 154 118 = some (.iastore, 1, 0, 0, .null) := rfl
theorem f_154_119 : px_at 154 119 = some (.aload_n 0, 1, 0, 0, .null) := rfl
theorem f_154_120 : px_at 154 120 = some (.getfield 290, 3, 12, 44, .null) := rfl
theorem f_154_123 : px_at 154 123 = some (.ifCond .eq 25, 3, 148, 0, .null) := rfl
theorem f_154_126 : px_at 154 126 = some (.aload_n 0, 1, 0, 0, .null) := rfl
theorem f_154_127 : px_at 154 127 = some (.getfield 293, 3, 12, 45, .null) := rfl
theorem f_154_130 : px_at 154 130 = some (.ifCond .eq 22, 3, 152, 0, .null) := rfl
theorem f_154_133 : px_at 154 133 = some (.aload_n 0, 1, 0, 0, .null) := rfl
theorem f_154_134 : px_at 154 134 = some (.getfield 64, 3, 12, 31, .null) := rfl
theorem f_154_137 : px_at 154 137 = some (.iconst 1, 1, 0, 0, .null) := rfl
theorem f_154_138 : px_at 154 138 = some (.iaload, 1, 0, 0, .null) := rfl
theorem f_154_139 : px_at 154 139 = some (.aload_n 0, 1, 0, 0, .null) := rfl
theorem f_154_140 : px_at 154 140 = some (.getfield 64, 3, 12, 31, .null) := rfl
theorem f_154_143 : px_at 154 143 = some (.iconst 0, 1, 0, 0, .null) := rfl
theorem f_154_144 : px_at 154 144 = some (.iaload, 1, 0, 0, .null) := rfl
theorem f_154_145 : px_at 154 145 = some (.if_icmp .ge 7, 3, 152, 0, .null) := rfl
theorem f_154_148 : px_at 154 148 = some (.iconst 1, 1, 0, 0, .null) := rfl
theorem f_154_149 : px_at 154 149 = some (.goto 4, 3, 153, 0, .null) := rfl
theorem f_154_152 : px_at 154 152 = some (.iconst 0, 1, 0, 0, .null) := rfl
theorem f_154_153 : px_at 154 153 = some (.istore 4, 2, 0, 0, .null) := rfl
theorem f_154_155 : px_at 154 155 = some (.iload 4, 2, 0, 0, .null) := rfl
theorem f_154_157 : px_at 154 157 = some (.ifCond .eq 12, 3, 169, 0, .null) := rfl
theorem f_154_160 : px_at 154 160 = some (.aload_n 0, 1, 0, 0, .null) := rfl
theorem f_154_161 : px_at 154 161 = some (.getfield 64, 3, 12, 31, .null) := rfl
theorem f_154_164 : px_at 154 164 = some (.iconst 1, 1, 0, 0, .null) := rfl
theorem f_154_165 : px_at 154 165 = some (.iaload, 1, 0, 0, .null) := rfl
theorem f_154_166 : px_at 154 166 = some (.goto 9, 3, 175, 0, .null) := rfl
theorem f_154_169 : px_at 154 169 = some (.aload_n 0, 1, 0, 0, .null) := rfl
theorem f_154_170 : px_at 154 170 = some (.getfield 64, 3, 12, 31, .null) := rfl
theorem f_154_173 : px_at 154 173 = some (.iconst 0, 1, 0, 0, .null) := rfl
theorem f_154_174 : px_at 154 174 = some (.iaload, 1, 0, 0, .null) := rfl
theorem f_154_175 : px_at 154 175 = some (.istore 5, 2, 0, 0, .null) := rfl
theorem f_154_177 : px_at 154 177 = some (.aload_n 0, 1, 0, 0, .null) := rfl
theorem f_154_178 : px_at 154 178 = some (.iload 5, 2, 0, 0, .null) := rfl
theorem f_154_180 : px_at 154 180 = some (.invokevirtual 296, 3, 151, 1, .null) := rfl
theorem f_154_183 : px_at 154 183 = some (.return_, 1, 0, 0, .null) := rfl

theorem f_155_0 : px_at 155 0 = some (.iconst 0, 1, 0, 0, .null) := rfl
theorem f_155_1 : px_at 155 1 = some (.istore_n 1, 1, 0, 0, .null) := rfl
theorem f_155_2 : px_at 155 2 = some (.iload_n 1, 1, 0, 0, .null) := rfl
theorem f_155_3 : px_at 155 3 = some (.iconst 4, 1, 0, 0, .null) := rfl
theorem f_155_4 : px_at 155 4 = some (.sipush 511, 3, 0, 0, .null) := rfl
theorem f_155_7 : px_at 155 7 = some (.aload_n 0, 1, 0, 0, .null) := rfl
theorem f_155_8 : px_at 155 8 = some (.getfield 226, 3, 12, 27, .null) := rfl
theorem f_155_11 : px_at 155 11 = some (.imul, 1, 0, 0, .null) := rfl
theorem f_155_12 : px_at 155 12 = some (.iadd, 1, 0, 0, .null) := rfl
theorem f_155_13 : px_at 155 13 = some (.if_icmp .ge 16, 3, 29, 0, .null) := rfl
theorem f_155_16 : px_at 155 16 = some (.aload_n 0, 1, 0, 0, .null) := rfl
theorem f_155_17 : px_at 155 17 = some (.getfield 64, 3, 12, 31, .null) := rfl
theorem f_155_20 : px_at 155 20 = some (.iload_n 1, 1, 0, 0, .null) := rfl
theorem f_155_21 : px_at 155 21 = some (.iconst 0, 1, 0, 0, .null) := rfl
theorem f_155_22 : px_at 155 22 = some (.iastore, 1, 0, 0, .null) := rfl
theorem f_155_23 : px_at 155 23 = some (.iinc 1 1, 3, 0, 0, .null) := rfl
theorem f_155_26 : px_at 155 26 = some (.goto (-24), 3, 2, 0, .null) := rfl
theorem f_155_29 : px_at 155 29 = some (.aload_n 0, 1, 0, 0, .null) := rfl
theorem f_155_30 : px_at 155 30 = some (.getfield 64, 3, 12, 31, .null) := rfl
theorem f_155_33 : px_at 155 33 = some (.iconst 0, 1, 0, 0, .null) := rfl
theorem f_155_34 : px_at 155 34 = some (.iconst (-1), 1, 0, 0, .null) := rfl
theorem f_155_35 : px_at 155 35 = some (.iastore, 1, 0, 0, .null) := rfl
theorem f_155_36 : px_at 155 36 = some (.aload_n 0, 1, 0, 0, .null) := rfl
theorem f_155_37 : px_at 155 37 = some (.getfield 64, 3, 12, 31, .null) := rfl
theorem f_155_40 : px_at 155 40 = some (.iconst 1, 1, 0, 0, .null) := rfl
theorem f_155_41 : px_at 155 41 = some (.iconst (-1), 1, 0, 0, .null) := rfl
theorem f_155_42 : px_at 155 42 = some (.iastore, 1, 0, 0, .null) := rfl
theorem f_155_43 : px_at 155 43 = some (.aload_n 0, 1, 0, 0, .null) := rfl
theorem f_155_44 : px_at 155 44 = some (.getfield 64, 3, 12, 31, .null) := rfl
theorem f_155_47 : px_at 155 47 = some (.iconst 2, 1, 0, 0, .null) := rfl
theorem f_155_48 : px_at 155 48 = some (.iconst (-1), 1, 0, 0, .null) := rfl
theorem f_155_49 : px_at 155 49 = some (.iastore, 1, 0, 0, .null) := rfl
theorem f_155_50 : px_at 155 50 = some (.iconst 0, 1, 0, 0, .null) := rfl
theorem f_155_51 : px_at 155 51 = some (.istore_n 1, 1, 0, 0, .null) := rfl
theorem f_155_52 : px_at 155 52 = some (.iload_n 1, 1, 0, 0, .null) := rfl
theorem f_155_53 : px_at 155 53 = some (.aload_n 0, 1, 0, 0, .null) := rfl
theorem f_155_54 : px_at 155 54 = some (.getfield 226, 3, 12, 27, .null) := rfl
theorem f_155_57 : px_at 155 57 = some (.if_icmp .ge 59, 3, 116, 0, .null) := rfl
theorem f_155_60 : px_at 155 60 = some (.aload_n 0, 1, 0, 0, .null) := rfl
theorem f_155_61 : px_at 155 61 = some (.getfield 64, 3, 12, 31, .null) := rfl
theorem f_155_64 : px_at 155 64 = some (.iconst 4, 1, 0, 0, .null) := rfl
theorem f_155_65 : px_at 155 65 = some (.sipush 511, 3, 0, 0, .null) := rfl
theorem f_155_68 : px_at 155 68 = some (.iload_n 1, 1, 0, 0, .null) := rfl
theorem f_155_69 : px_at 155 69 = some (.imul, 1, 0, 0, .null) := rfl
theorem f_155_70 : px_at 155 70 = some (.iadd, 1, 0, 0, .null) := rfl
theorem f_155_71 : px_at 155 71 = some (.sipush 205, 3, 0, 0, .null) := rfl
theorem f_155_74 : px_at 155 74 = some (.iadd, 1, 0, 0, .null) := rfl
theorem f_155_75 : px_at 155 75 = some (.iconst (-1), 1, 0, 0, .null) := rfl
theorem f_155_76 : px_at 155 76 = some (.iastore, 1, 0, 0, .null) := rfl
theorem f_155_77 : px_at 155 77 = some (.iconst 0, 1, 0, 0, .null) := rfl
theorem f_155_78 : px_at 155 78 = some (.istore_n 2, 1, 0, 0, .null) := rfl
theorem f_155_79 : px_at 155 79 = some (.iload_n 2, 1, 0, 0, .null) := rfl
theorem f_155_80 : px_at 155 80 = some (.iconst 4, 1, 0, 0, .null) := rfl
theorem f_155_81 : px_at 155 81 = some (.if_icmp .ge 29, 3, 110, 0, .null) := rfl
theorem f_155_84 : px_at 155 84 = some (.aload_n 0, 1, 0, 0, .null) := rfl
theorem f_155_85 : px_at 155 85 = some (.getfield 64, 3, 12, 31, .null) := rfl
theorem f_155_88 : px_at 155 88 = some (.iconst 4, 1, 0, 0, .null) := rfl
theorem f_155_89 : px_at 155 89 = some (.sipush 511, 3, 0, 0, .null) := rfl
theorem f_155_92 : px_at 155 92 = some (.iload_n 1, 1, 0, 0, .null) := rfl
theorem f_155_93 : px_at 155 93 = some (.imul, 1, 0, 0, .null) := rfl
theorem f_155_94 : px_at 155 94 = some (.iadd, 1, 0, 0, .null) := rfl
theorem f_155_95 : px_at 155 95 = some (.sipush 507, 3, 0, 0, .null) := rfl
theorem f_155_98 : px_at 155 98 = some (.iadd, 1, 0, 0, .null) := rfl
theorem f_155_99 : px_at 155 99 = some (.iload_n 2, 1, 0, 0, .null) := rfl
theorem f_155_100 : px_at 155 100 = some (.iadd, 1, 0, 0, .null) := rfl
theorem f_155_101 : px_at 155 101 = some (.bipush (-3), 2, 0, 0, .null) := rfl
theorem f_155_103 : px_at 155 103 = some (.iastore, 1, 0, 0, .null) := rfl
theorem f_155_104 : px_at 155 104 = some (.iinc 2 1, 3, 0, 0, .null) := rfl
theorem f_155_107 : px_at 155 107 = some (.goto (-28), 3, 79, 0, .null) := rfl
theorem f_155_110 : px_at 155 110 = some (.iinc 1 1, 3, 0, 0, .null) := rfl
theorem f_155_113 : px_at 155 113 = some (.goto (-61), 3, 52, 0, .null) := rfl
theorem f_155_116 : px_at 155 116 = some (.aload_n 0, 1, 0, 0, .null) := rfl
theorem f_155_117 : px_at 155 117 = some (.iconst 0, 1, 0, 0, .null) := rfl
theorem f_155_118 : px_at 155 118 = some (.putfield 265, 3, 12, 33, .null) := rfl
theorem f_155_121 : px_at 155 121 = some (.aload_n 0, 1, 0, 0, .null) := rfl
theorem f_155_122 : px_at 155 122 = some (.iconst 0, 1, 0, 0, .null) := rfl
theorem f_155_123 : px_at 155 123 = some (.putfield 284, 3, 12, 37, .null) := rfl
theorem f_155_126 : px_at 155 126 = some (.aload_n 0, 1, 0, 0, .null) := rfl
theorem f_155_127 : px_at 155 127 = some (.iconst 0, 1, 0, 0, .null) := rfl
theorem f_155_128 : px_at 155 128 = some (.putfield 232, 3, 12, 41, .null) := rfl
theorem f_155_131 : px_at 155 131 = some (.aload_n 0, 1, 0, 0, .null) := rfl
theorem f_155_132 : px_at 155 132 = some (.bipush (-3), 2, 0, 0, .null) := rfl
theorem f_155_134 : px_at 155 134 = some (.putfield 235, 3, 12, 42, .null) := rfl
theorem f_155_137 : px_at 155 137 = some (.aload_n 0, 1, 0, 0, .null) := rfl
theorem f_155_138 : px_at 155 138 = some (.iconst 0, 1, 0, 0, .null) := rfl
theorem f_155_139 : px_at 155 139 = some (.putfield 287, 3, 12, 43, .null) := rfl
theorem f_155_142 : px_at 155 142 = some (.aload_n 0, 1, 0, 0, .null) := rfl
theorem f_155_143 : px_at 155 143 = some (.aload_n 0, 1, 0, 0, .null) := rfl
theorem f_155_144 : px_at 155 144 = some (.getfield 64, 3, 12, 31, .null) := rfl
theorem f_155_147 : px_at 155 147 = some (.aload_n 0, 1, 0, 0, .null) := rfl
theorem f_155_148 : px_at 155 148 = some (.getfield 67, 3, 12, 32, .null) := rfl
theorem f_155_151 : px_at 155 151 = some (.invokevirtual 299, 3, 153, 1, .null) := rfl
theorem f_155_154 : px_at 155 154 = some (.return_, 1, 0, 0, .null) := rfl
