theorem f_49_0 : px_at 49 0 = some (.aload_n 0, 1, 0, 0, .null) := rfl
theorem f_49_1 : px_at 49 1 = some (.aload_n 1, 1, 0, 0, .null) := rfl
theorem f_49_2 : px_at 49 2 = some (.putfield 12, 3, 6, 0, .null) := rfl
theorem f_49_5 : px_at 49 5 = some (.aload_n 0, 1, 0, 0, .null) := rfl
theorem f_49_6 : px_at 49 6 = some (.getfield 21, 3, 6, 1, .null) := rfl
theorem f_49_9 : px_at 49 9 = some (.aload_n 0, 1, 0, 0, .null) := rfl
theorem f_49_10 : px_at 49 10 = some (.getfield 12, 3, 6, 0, .null) := rfl
theorem f_49_13 : px_at 49 13 = some (.getfield 92, 3, 0, 0, .null) := rfl
theorem f_49_16 : px_at 49 16 = some (.invokevirtual 93, 3, 14, 1, .null) := rfl
theorem f_49_19 : px_at 49 19 = some (.aload_n 0, 1, 0, 0, .null) := rfl
theorem f_49_20 : px_at 49 20 = some (.getfield 25, 3, 6, 2, .null) := rfl
theorem f_49_23 : px_at 49 23 = some (.aload_n 0, 1, 0, 0, .null) := rfl
theorem f_49_24 : px_at 49 24 = some (.getfield 12, 3, 6, 0, .null) := rfl
theorem f_49_27 : px_at 49 27 = some (.getfield 92, 3, 0, 0, .null) := rfl
theorem f_49_30 : px_at 49 30 = some (.invokevirtual 93, 3, 14, 1, .null) := rfl
theorem f_49_33 : px_at 49 33 = some (.aload_n 0, 1, 0, 0, .null) := rfl
theorem f_49_34 : px_at 49 34 = some (.getfield 33, 3, 6, 3, .null) := rfl
theorem f_49_37 : px_at 49 37 = some (.iconst 0, 1, 0, 0, .null) := rfl
theorem f_49_38 : px_at 49 38 = some (.invokevirtual 89, 3, 40, 1, .null) := rfl
theorem f_49_41 : px_at 49 41 = some (.aload_n 0, 1, 0, 0, .null) := rfl
theorem f_49_42 : px_at 49 42 = some (.iconst 0, 1, 0, 0, .null) := rfl
theorem f_49_43 : px_at 49 43 = some (.putfield 37, 3, 6, 4, .null) := rfl
theorem f_49_46 : px_at 49 46 = some (.aload_n 0, 1, 0, 0, .null) := rfl
theorem f_49_47 : px_at 49 47 = some (.bipush (-3), 2, 0, 0, .null) := rfl
theorem f_49_49 : px_at 49 49 = some (.putfield 48, 3, 6, 7, .null) := rfl
theorem f_49_52 : px_at 49 52 = some (.aload_n 0, 1, 0, 0, .null) := rfl
theorem f_49_53 : px_at 49 53 = some (.iconst 0, 1, 0, 0, .null) := rfl
theorem f_49_54 : px_at 49 54 = some (.putfield 51, 3, 6, 8, .null) := rfl
theorem f_49_57 : px_at 49 57 = some (.aload_n 0, 1, 0, 0, .null) := rfl
theorem f_49_58 : px_at 49 58 = some (.bipush (-3), 2, 0, 0, .null) := rfl
theorem f_49_60 : px_at 49 60 = some (.putfield 54, 3, 6, 9, .null) := rfl
theorem f_49_63 : px_at 49 63 = some (.aload_n 0, 1, 0, 0, .null) := rfl
theorem f_49_64 : px_at 49 64 = some (.iconst 0, 1, 0, 0, .null) := rfl
theorem f_49_65 : px_at 49 65 = some (.putfield 41, 3, 6, 5, .null) := rfl
theorem f_49_68 : px_at 49 68 = some (.aload_n 0, 1, 0, 0, .null) := rfl
theorem f_49_69 : px_at 49 69 = some (.iconst 0, 1, 0, 0, .null) := rfl
theorem f_49_70 : px_at 49 70 = some (.putfield 45, 3, 6, 6, .null) := rfl
theorem f_49_73 : px_at 49 73 = some (.iconst 0, 1, 0, 0, .null) := rfl
theorem f_49_74 : px_at 49 74 = some (.istore 4, 2, 0, 0, .null) := rfl
theorem f_49_76 : px_at 49 76 = some (.iload 4, 2, 0, 0, .null) := rfl
theorem f_49_78 : px_at 49 78 = some (.aload_n 3, 1, 0, 0, .null) := rfl
theorem f_49_79 : px_at 49 79 = some (.getfield 65, 3, 3, 1, .null) := rfl
theorem f_49_82 : px_at 49 82 = some (.if_icmp .ge 71, 3, 153, 0, .null) := rfl
theorem f_49_85 : px_at 49 85 = some (.aload_n 0, 1, 0, 0, .null) := rfl
theorem f_49_86 : px_at 49 86 = some (.aload_n 0, 1, 0, 0, .null) := rfl
theorem f_49_87 : px_at 49 87 = some (.getfield 41, 3, 6, 5, .null) := rfl
theorem f_49_90 : px_at 49 90 = some (.ifCond .ne 18, 3, 108, 0, .null) := rfl
theorem f_49_93 : px_at 49 93 = some (.aload_n 2, 1, 0, 0, .null) := rfl
theorem f_49_94 : px_at 49 94 = some (.aload_n 3, 1, 0, 0, .null) := rfl
theorem f_49_95 : px_at 49 95 = some (.getfield 70, 3, 3, 0, .null) := rfl
theorem f_49_98 : px_at 49 98 = some (.iload 4, 2, 0, 0, .null) := rfl
theorem f_49_100 : px_at 49 100 = some (.iaload, 1, 0, 0, .null) := rfl
theorem f_49_101 : px_at 49 101 = some (.iconst 0, 1, 0, 0, .null) := rfl
theorem f_49_102 : px_at 49 102 = some (.invokevirtual 96, 3, 84, 1, .null) := rfl
theorem f_49_105 : px_at 49 105 = some (.ifCond .eq 7, 3, 112, 0, .null) := rfl
theorem f_49_108 : px_at 49 108 = some (.iconst 1, 1, 0, 0, .null) := rfl
theorem f_49_109 : px_at 49 109 = some (.goto 4, 3, 113, 0, .null) := rfl
theorem f_49_112 : px_at 49 112 = some (.iconst 0, 1, 0, 0, .null) := rfl
theorem f_49_113 : px_at 49 113 = some (.putfield 41, 3, 6, 5, .null) := rfl
theorem f_49_116 : px_at 49 116 = some (.aload_n 0, 1, 0, 0, .null) := rfl
theorem f_49_117 : px_at 49 117 = some (.aload_n 0, 1, 0, 0, .null) := rfl
theorem f_49_118 : px_at 49 118 = some (.getfield 45, 3, 6, 6, .null) := rfl
theorem f_49_121 : px_at 49 121 = some (.ifCond .ne 18, 3, 139, 0, .null) := rfl
theorem f_49_124 : px_at 49 124 = some (.aload_n 2, 1, 0, 0, .null) := rfl
theorem f_49_125 : px_at 49 125 = some (.aload_n 3, 1, 0, 0, .null) := rfl
theorem f_49_126 : px_at 49 126 = some (.getfield 70, 3, 3, 0, .null) := rfl
theorem f_49_129 : px_at 49 129 = some (.iload 4, 2, 0, 0, .null) := rfl
theorem f_49_131 : px_at 49 131 = some (.iaload, 1, 0, 0, .null) := rfl
theorem f_49_132 : px_at 49 132 = some (.iconst 1, 1, 0, 0, .null) := rfl
theorem f_49_133 : px_at 49 133 = some (.invokevirtual 96, 3, 84, 1, .null) := rfl
theorem f_49_136 : px_at 49 136 = some (.ifCond .eq 7, 3, 143, 0, .null) := rfl
theorem f_49_139 : px_at 49 139 = some (.iconst 1, 1, 0, 0, .null) := rfl
theorem f_49_140 : px_at 49 140 = some (.goto 4, 3, 144, 0, .null) := rfl
theorem f_49_143 : px_at 49 143 = some (.iconst 0, 1, 0, 0, .null) := rfl
theorem f_49_144 : px_at 49 144 = some (.putfield 45, 3, 6, 6, .null) := rfl
theorem f_49_147 : px_at 49 147 = some (.iinc 4 1, 3, 0, 0, .null) := rfl
theorem f_49_150 : px_at 49 150 = some (.goto (-74), 3, 76, 0, .null) := rfl
theorem f_49_153 : px_at 49 153 = some (.return_, 1, 0, 0, .null) := rfl

theorem f_50_0 : px_at 50 0 = some (.aload_n 0, 1, 0, 0, .null) := rfl
theorem f_50_1 : px_at 50 1 = some (.getfield 21, 3, 6, 1, .null) := rfl
theorem f_50_4 : px_at 50 4 = some (.aload_n 0, 1, 0, 0, .null) := rfl
theorem f_50_5 : px_at 50 5 = some (.getfield 25, 3, 6, 2, .null) := rfl
theorem f_50_8 : px_at 50 8 = some (.aload_n 0, 1, 0, 0, .null) := rfl
theorem f_50_9 : px_at 50 9 = some (.getfield 12, 3, 6, 0, .null) := rfl
theorem f_50_12 : px_at 50 12 = some (.getfield 92, 3, 0, 0, .null) := rfl
theorem f_50_15 : px_at 50 15 = some (.invokevirtual 100, 3, 15, 1, .null) := rfl
theorem f_50_18 : px_at 50 18 = some (.aload_n 0, 1, 0, 0, .null) := rfl
theorem f_50_19 : px_at 50 19 = some (.getfield 33, 3, 6, 3, .null) := rfl
theorem f_50_22 : px_at 50 22 = some (.aload_n 0, 1, 0, 0, .null) := rfl
theorem f_50_23 : px_at 50 23 = some (.getfield 37, 3, 6, 4, .null) := rfl
theorem f_50_26 : px_at 50 26 = some (.invokevirtual 89, 3, 40, 1, .null) := rfl
theorem f_50_29 : px_at 50 29 = some (.return_, 1, 0, 0, .null) := rfl

theorem f_51_0 : px_at 51 0 = some (.aload_n 0, 1, 0, 0, .null) := rfl
theorem f_51_1 : px_at 51 1 = some (.dup, 1, 0, 0, .null) := rfl
theorem f_51_2 : px_at 51 2 = some (.getfield 51, 3, 6, 8, .null) := rfl
theorem f_51_5 : px_at 51 5 = some (.iconst 1, 1, 0, 0, .null) := rfl
theorem f_51_6 : px_at 51 6 = some (.iadd, 1, 0, 0, .null) := rfl
theorem f_51_7 : px_at 51 7 = some (.putfield 51, 3, 6, 8, .null) := rfl
theorem f_51_10 : px_at 51 10 = some (.aload_n 1, 1, 0, 0, .null) := rfl
theorem f_51_11 : px_at 51 11 = some (.getfield 73, 3, 10, 1, .null) := rfl
theorem f_51_14 : px_at 51 14 = some (.iload_n 2, 1, 0, 0, .null) := rfl
theorem f_51_15 : px_at 51 15 = some (.iaload, 1, 0, 0, .null) := rfl
theorem f_51_16 : px_at 51 16 = some (.istore_n 3, 1, 0, 0, .null) := rfl
theorem f_51_17 : px_at 51 17 = some (.iload_n 3, 1, 0, 0, .null) := rfl
theorem f_51_18 : px_at 51 18 = some (.bipush 114, 2, 0, 0, .null) := rfl
theorem f_51_20 : px_at 51 20 = some (.if_icmp .eq 9, 3, 29, 0, .null) := rfl
theorem f_51_23 : px_at 51 23 = some (.iload_n 3, 1, 0, 0, .null) := rfl
theorem f_51_24 : px_at 51 24 = some (.bipush 82, 2, 0, 0, .null) := rfl
theorem f_51_26 : px_at 51 26 = some (.if_icmp .ne 29, 3, 55, 0, .null) := rfl
theorem f_51_29 : px_at 51 29 = some (.aload_n 0, 1, 0, 0, .null) := rfl
theorem f_51_30 : px_at 51 30 = some (.iconst 0, 1, 0, 0, .null) := rfl
theorem f_51_31 : px_at 51 31 = some (.aload_n 1, 1, 0, 0, .null) := rfl
theorem f_51_32 : px_at 51 32 = some (.getfield 104, 3, 10, 2, .null) := rfl
theorem f_51_35 : px_at 51 35 = some (.iload_n 2, 1, 0, 0, .null) := rfl
theorem f_51_36 : px_at 51 36 = some (.iaload, 1, 0, 0, .null) := rfl
theorem f_51_37 : px_at 51 37 = some (.aload_n 1, 1, 0, 0, .null) := rfl
theorem f_51_38 : px_at 51 38 = some (.getfield 107, 3, 10, 3, .null) := rfl
theorem f_51_41 : px_at 51 41 = some (.iload_n 2, 1, 0, 0, .null) := rfl
theorem f_51_42 : px_at 51 42 = some (.iaload, 1, 0, 0, .null) := rfl
theorem f_51_43 : px_at 51 43 = some (.aload_n 1, 1, 0, 0, .null) := rfl
theorem f_51_44 : px_at 51 44 = some (.getfield 110, 3, 10, 4, .null) := rfl
theorem f_51_47 : px_at 51 47 = some (.iload_n 2, 1, 0, 0, .null) := rfl
theorem f_51_48 : px_at 51 48 = some (.iaload, 1, 0, 0, .null) := rfl
theorem f_51_49 : px_at 51 49 = some (.invokevirtual 113, 3, 56, 1, .null) := rfl
theorem f_51_52 : px_at 51 52 = some (.goto 112, 3, 164, 0, .null) := rfl
theorem f_51_55 : px_at 51 55 = some (.iload_n 3, 1, 0, 0, .null) := rfl
theorem f_51_56 : px_at 51 56 = some (.bipush 107, 2, 0, 0, .null) := rfl
theorem f_51_58 : px_at 51 58 = some (.if_icmp .ne 35, 3, 93, 0, .null) := rfl
theorem f_51_61 : px_at 51 61 = some (.aload_n 0, 1, 0, 0, .null) := rfl
theorem f_51_62 : px_at 51 62 = some (.aload_n 0, 1, 0, 0, .null) := rfl
theorem f_51_63 : px_at 51 63 = some (.getfield 33, 3, 6, 3, .null) := rfl
theorem f_51_66 : px_at 51 66 = some (.getfield 88, 3, 5, 1, .null) := rfl
theorem f_51_69 : px_at 51 69 = some (.putfield 37, 3, 6, 4, .null) := rfl
theorem f_51_72 : px_at 51 72 = some (.aload_n 0, 1, 0, 0, .null) := rfl
theorem f_51_73 : px_at 51 73 = some (.getfield 25, 3, 6, 2, .null) := rfl
theorem f_51_76 : px_at 51 76 = some (.aload_n 0, 1, 0, 0, .null) := rfl
theorem f_51_77 : px_at 51 77 = some (.getfield 21, 3, 6, 1, .null) := rfl
theorem f_51_80 : px_at 51 80 = some (.aload_n 0, 1, 0, 0, .null) := rfl
theorem f_51_81 : px_at 51 81 = some (.getfield 12, 3, 6, 0, .null) := rfl
theorem f_51_84 : px_at 51 84 = some (.getfield 92, 3, 0, 0, .null) := rfl
theorem f_51_87 : px_at 51 87 = some (.invokevirtual 100, 3, 15, 1, .null) := rfl
theorem f_51_90 : px_at 51 90 = some (.goto 74, 3, 164, 0, .null) := rfl
theorem f_51_93 : px_at 51 93 = some (.iload_n 3, 1, 0, 0, .null) := rfl
theorem f_51_94 : px_at 51 94 = some (.bipush 104, 2, 0, 0, .null) := rfl
theorem f_51_96 : px_at 51 96 = some (.if_icmp .eq 9, 3, 105, 0, .null) := rfl
theorem f_51_99 : px_at 51 99 = some (.iload_n 3, 1, 0, 0, .null) := rfl
theorem f_51_100 : px_at 51 100 = some (.bipush 72, 2, 0, 0, .null) := rfl
theorem f_51_102 : px_at 51 102 = some (.if_icmp .ne 62, 3, 164, 0, .null) := rfl
theorem f_51_105 : px_at 51 105 = some (.aload_n 0, 1, 0, 0, .null) := rfl
theorem f_51_106 : px_at 51 106 = some (.getfield 21, 3, 6, 1, .null) := rfl
theorem f_51_109 : px_at 51 109 = some (.iload_n 3, 1, 0, 0, .null) := rfl
theorem f_51_110 : px_at 51 110 = some (.bipush 72, 2, 0, 0, .null) := rfl
theorem f_51_112 : px_at 51 112 = some (.if_icmp .ne 7, 3, 119, 0, .null) := rfl
theorem f_51_115 : px_at 51 115 = some (.iconst 1, 1, 0, 0, .null) := rfl
theorem f_51_116 : px_at 51 116 = some (.goto 4, 3, 120, 0, .null) := rfl
theorem f_51_119 : px_at 51 119 = some (.iconst 0, 1, 0, 0, .null) := rfl
theorem f_51_120 : px_at 51 120 = some (.aload_n 1, 1, 0, 0, .null) := rfl
theorem f_51_121 : px_at 51 121 = some (.getfield 110, 3, 10, 4, .null) := rfl
theorem f_51_124 : px_at 51 124 = some (.iload_n 2, 1, 0, 0, .null) := rfl
theorem f_51_125 : px_at 51 125 = some (.iaload, 1, 0, 0, .null) := rfl
theorem f_51_126 : px_at 51 126 = some (.invokevirtual 117, 3, 16, 1, .null) := rfl
theorem f_51_129 : px_at 51 129 = some (.aload_n 0, 1, 0, 0, .null) := rfl
theorem f_51_130 : px_at 51 130 = some (.getfield 21, 3, 6, 1, .null) := rfl
theorem f_51_133 : px_at 51 133 = some (.aload_n 0, 1, 0, 0, .null) := rfl
theorem f_51_134 : px_at 51 134 = some (.getfield 41, 3, 6, 5, .null) := rfl
theorem f_51_137 : px_at 51 137 = some (.aload_n 0, 1, 0, 0, .null) := rfl
theorem f_51_138 : px_at 51 138 = some (.getfield 45, 3, 6, 6, .null) := rfl
theorem f_51_141 : px_at 51 141 = some (.invokevirtual 121, 3, 17, 1, .null) := rfl
theorem f_51_144 : px_at 51 144 = some (.istore 4, 2, 0, 0, .null) := rfl
theorem f_51_146 : px_at 51 146 = some (.iload 4, 2, 0, 0, .null) := rfl
theorem f_51_148 : px_at 51 148 = some (.aload_n 0, 1, 0, 0, .null) := rfl
theorem f_51_149 : px_at 51 149 = some (.getfield 21, 3, 6, 1, .null) := rfl
theorem f_51_152 : px_at 51 152 = some (.getfield 125, 3, 2, 2, .null) := rfl
theorem f_51_155 : px_at 51 155 = some (.if_icmp .le 9, 3, 164, 0, .null) := rfl
theorem f_51_158 : px_at 51 158 = some (.aload_n 0, 1, 0, 0, .null) := rfl
theorem f_51_159 : px_at 51 159 = some (.iload 4, 2, 0, 0, .null) := rfl
theorem f_51_161 : px_at 51 161 = some (.invokevirtual 85, 3, 52, 1, .null) := rfl
theorem f_51_164 : px_at 51 164 = some (.return_, 1, 0, 0, .null) := rfl

theorem f_52_0 : px_at 52 0 = some (.aload_n 0, 1, 0, 0, .null) := rfl
theorem f_52_1 : px_at 52 1 = some (.getfield 21, 3, 6, 1, .null) := rfl
theorem f_52_4 : px_at 52 4 = some (.iload_n 1, 1, 0, 0, .null) := rfl
theorem f_52_5 : px_at 52 5 = some (.putfield 125, 3, 2, 2, .null) := rfl
theorem f_52_8 : px_at 52 8 = some (.iconst 0, 1, 0, 0, .null) := rfl
theorem f_52_9 : px_at 52 9 = some (.istore_n 2, 1, 0, 0, .null) := rfl
theorem f_52_10 : px_at 52 10 = some (.iload_n 2, 1, 0, 0, .null) := rfl
theorem f_52_11 : px_at 52 11 = some (.aload_n 0, 1, 0, 0, .null) := rfl
theorem f_52_12 : px_at 52 12 = some (.getfield 12, 3, 6, 0, .null) := rfl
theorem f_52_15 : px_at 52 15 = some (.getfield 92, 3, 0, 0, .null) := rfl
theorem f_52_18 : px_at 52 18 = some (.if_icmp .ge 74, 3, 92, 0, .null) := rfl
theorem f_52_21 : px_at 52 21 = some (.aload_n 0, 1, 0, 0, .null) := rfl
theorem f_52_22 : px_at 52 22 = some (.getfield 48, 3, 6, 7, .null) := rfl
theorem f_52_25 : px_at 52 25 = some (.bipush (-3), 2, 0, 0, .null) := rfl
theorem f_52_27 : px_at 52 27 = some (.if_icmp .ne 65, 3, 92, 0, .null) := rfl
theorem f_52_30 : px_at 52 30 = some (.aload_n 0, 1, 0, 0, .null) := rfl
theorem f_52_31 : px_at 52 31 = some (.getfield 12, 3, 6, 0, .null) := rfl
theorem f_52_34 : px_at 52 34 = some (.getfield 128, 3, 0, 1, .null) := rfl
theorem f_52_37 : px_at 52 37 = some (.iload_n 2, 1, 0, 0, .null) := rfl
theorem f_52_38 : px_at 52 38 = some (.iaload, 1, 0, 0, .null) := rfl
theorem f_52_39 : px_at 52 39 = some (.bipush 119, 2, 0, 0, .null) := rfl
theorem f_52_41 : px_at 52 41 = some (.if_icmp .ne 12, 3, 53, 0, .null) := rfl
theorem f_52_44 : px_at 52 44 = some (.aload_n 0, 1, 0, 0, .null) := rfl
theorem f_52_45 : px_at 52 45 = some (.iload_n 2, 1, 0, 0, .null) := rfl
theorem f_52_46 : px_at 52 46 = some (.iload_n 1, 1, 0, 0, .null) := rfl
theorem f_52_47 : px_at 52 47 = some (.invokevirtual 129, 3, 53, 1, .null) := rfl
theorem f_52_50 : px_at 52 50 = some (.goto 23, 3, 73, 0, .null) := rfl
theorem f_52_53 : px_at 52 53 = some (.aload_n 0, 1, 0, 0, .null) := rfl
theorem f_52_54 : px_at 52 54 = some (.getfield 12, 3, 6, 0, .null) := rfl
theorem f_52_57 : px_at 52 57 = some (.getfield 128, 3, 0, 1, .null) := rfl
theorem f_52_60 : px_at 52 60 = some (.iload_n 2, 1, 0, 0, .null) := rfl
theorem f_52_61 : px_at 52 61 = some (.iaload, 1, 0, 0, .null) := rfl
theorem f_52_62 : px_at 52 62 = some (.bipush 116, 2, 0, 0, .null) := rfl
theorem f_52_64 : px_at 52 64 = some (.if_icmp .ne 9, 3, 73, 0, .null) := rfl
theorem f_52_67 : px_at 52 67 = some (.aload_n 0, 1, 0, 0, .null) := rfl
theorem f_52_68 : px_at 52 68 = some (.iload_n 2, 1, 0, 0, .null) := rfl
theorem f_52_69 : px_at 52 69 = some (.iload_n 1, 1, 0, 0, .null) := rfl
theorem f_52_70 : px_at 52 70 = some (.invokevirtual 133, 3, 54, 1, .null) := rfl
theorem f_52_73 : px_at 52 73 = some (.aload_n 0, 1, 0, 0, .null) := rfl
theorem f_52_74 : px_at 52 74 = some (.getfield 21, 3, 6, 1, .null) := rfl
theorem f_52_77 : px_at 52 77 = some (.getfield 136, 3, 2, 4, .null) := rfl
theorem f_52_80 : px_at 52 80 = some (.iload_n 2, 1, 0, 0, .null) := rfl
theorem f_52_81 : px_at 52 81 = some (.aaload, 1, 0, 0, .null) := rfl
theorem f_52_82 : px_at 52 82 = some (.iload_n 1, 1, 0, 0, .null) := rfl
theorem f_52_83 : px_at 52 83 = some (.putfield 140, 3, 9, 0, .null) := rfl
theorem f_52_86 : px_at 52 86 = some (.iinc 2 1, 3, 0, 0, .null) := rfl
theorem f_52_89 : px_at 52 89 = some (.goto (-79), 3, 10, 0, .null) := rfl
theorem f_52_92 : px_at 52 92 = some (.return_, 1, 0, 0, .null) := rfl

theorem f_53_0 : px_at 53 0 = some (.aload_n 0, 1, 0, 0, .null) := rfl
theorem f_53_1 : px_at 53 1 = some (.getfield 21, 3, 6, 1, .null) := rfl
theorem f_53_4 : px_at 53 4 = some (.getfield 136, 3, 2, 4, .null) := rfl
theorem f_53_7 : px_at 53 7 = some (.iload_n 1, 1, 0, 0, .null) := rfl
theorem f_53_8 : px_at 53 8 = some (.aaload, 1, 0, 0, .null) := rfl
theorem f_53_9 : px_at 53 9 = some (.astore_n 3, 1, 0, 0, .null) := rfl
theorem f_53_10 : px_at 53 10 = some (.aload_n 3, 1, 0, 0, .null) := rfl
theorem f_53_11 : px_at 53 11 = some (.iload_n 2, 1, 0, 0, .null) := rfl
theorem f_53_12 : px_at 53 12 = some (.invokevirtual 145, 3, 74, 1, .null) := rfl
theorem f_53_15 : px_at 53 15 = some (.istore 4, 2, 0, 0, .null) := rfl
theorem f_53_17 : px_at 53 17 = some (.iconst 0, 1, 0, 0, .null) := rfl
theorem f_53_18 : px_at 53 18 = some (.istore 5, 2, 0, 0, .null) := rfl
theorem f_53_20 : px_at 53 20 = some (.iload 5, 2, 0, 0, .null) := rfl
theorem f_53_22 : px_at 53 22 = some (.iload 4, 2, 0, 0, .null) := rfl
theorem f_53_24 : px_at 53 24 = some (.if_icmp .ge 50, 3, 74, 0, .null) := rfl
theorem f_53_27 : px_at 53 27 = some (.aload_n 0, 1, 0, 0, .null) := rfl
theorem f_53_28 : px_at 53 28 = some (.getfield 48, 3, 6, 7, .null) := rfl
theorem f_53_31 : px_at 53 31 = some (.bipush (-3), 2, 0, 0, .null) := rfl
theorem f_53_33 : px_at 53 33 = some (.if_icmp .ne 41, 3, 74, 0, .null) := rfl
theorem f_53_36 : px_at 53 36 = some (.aload_n 0, 1, 0, 0, .null) := rfl
theorem f_53_37 : px_at 53 37 = some (.iload_n 1, 1, 0, 0, .null) := rfl
theorem f_53_38 : px_at 53 38 = some (.invokevirtual 149, 3, 55, 1, .null) := rfl
theorem f_53_41 : px_at 53 41 = some (.aload_n 0, 1, 0, 0, .null) := rfl
theorem f_53_42 : px_at 53 42 = some (.iload_n 1, 1, 0, 0, .null) := rfl
theorem f_53_43 : px_at 53 43 = some (.iconst 1, 1, 0, 0, .null) := rfl
theorem f_53_44 : px_at 53 44 = some (.iadd, 1, 0, 0, .null) := rfl
theorem f_53_45 : px_at 53 45 = some (.aload_n 3, 1, 0, 0, .null) := rfl
theorem f_53_46 : px_at 53 46 = some (.iload 5, 2, 0, 0, .null) := rfl
theorem f_53_48 : px_at 53 48 = some (.invokevirtual 152, 3, 76, 1, .null) := rfl
theorem f_53_51 : px_at 53 51 = some (.aload_n 3, 1, 0, 0, .null) := rfl
theorem f_53_52 : px_at 53 52 = some (.iload 5, 2, 0, 0, .null) := rfl
theorem f_53_54 : px_at 53 54 = some (.invokevirtual 155, 3, 77, 1, .null) := rfl
theorem f_53_57 : px_at 53 57 = some (.aload_n 3, 1, 0, 0, .null) := rfl
theorem f_53_58 : px_at 53 58 = some (.iload 5, 2, 0, 0, .null) := rfl
theorem f_53_60 : px_at 53 60 = some (.invokevirtual 158, 3, 75, 1, .null) := rfl
theorem f_53_63 : px_at 53 63 = some (.iconst 1, 1, 0, 0, .null) := rfl
theorem f_53_64 : px_at 53 64 = some (.isub, 1, 0, 0, .null) := rfl
theorem f_53_65 : px_at 53 65 = some (.invokevirtual 113, 3, 56, 1, .null) := rfl
theorem f_53_68 : px_at 53 68 = some (.iinc 5 1, 3, 0, 0, .null) := rfl
theorem f_53_71 : px_at 53 71 = some (.goto (-51), 3, 20, 0, .null) := rfl
theorem f_53_74 : px_at 53 74 = some (.aload_n 3, 1, 0, 0, .null) := rfl
theorem f_53_75 : px_at 53 75 = some (.iload 4, 2, 0, 0, .null) := rfl
theorem f_53_77 : px_at 53 77 = some (.invokevirtual 161, 3, 78, 1, .null) := rfl
theorem f_53_80 : px_at 53 80 = some (.return_, 1, 0, 0, .null) := rfl

theorem f_54_0 : px_at 54 0 = some (.aload_n 0, 1, 0, 0, .null) := rfl
theorem f_54_1 : px_at 54 1 = some (.getfield 21, 3, 6, 1, .null) := rfl
theorem f_54_4 : px_at 54 4 = some (.getfield 136, 3, 2, 4, .null) := rfl
theorem f_54_7 : px_at 54 7 = some (.iload_n 1, 1, 0, 0, .null) := rfl
theorem f_54_8 : px_at 54 8 = some (.aaload, 1, 0, 0, .null) := rfl
theorem f_54_9 : px_at 54 9 = some (.astore_n 3, 1, 0, 0, .null) := rfl
theorem f_54_10 : px_at 54 10 = some (.aload_n 3, 1, 0, 0, .null) := rfl
theorem f_54_11 : px_at 54 11 = some (.iload_n 2, 1, 0, 0, .null) := rfl
theorem f_54_12 : px_at 54 12 = some (.invokevirtual 164, 3, 79, 1, .null) := rfl
theorem f_54_15 : px_at 54 15 = some (.istore 4, 2, 0, 0, .null) := rfl
theorem f_54_17 : px_at 54 17 = some (.iconst 0, 1, 0, 0, .null) := rfl
theorem f_54_18 : px_at 54 18 = some (.istore 5, 2, 0, 0, .null) := rfl
theorem f_54_20 : px_at 54 20 = some (.iload 5, 2, 0, 0, .null) := rfl
theorem f_54_22 : px_at 54 22 = some (.iconst 4, 1, 0, 0, .null) := rfl
theorem f_54_23 : px_at 54 23 = some (.if_icmp .ge 64, 3, 87, 0, .null) := rfl
theorem f_54_26 : px_at 54 26 = some (.iload 4, 2, 0, 0, .null) := rfl
theorem f_54_28 : px_at 54 28 = some (.bipush (-3), 2, 0, 0, .null) := rfl
theorem f_54_30 : px_at 54 30 = some (.if_icmp .eq 57, 3, 87, 0, .null) := rfl
theorem f_54_33 : px_at 54 33 = some (.aload_n 0, 1, 0, 0, .null) := rfl
theorem f_54_34 : px_at 54 34 = some (.getfield 48, 3, 6, 7, .null) := rfl
theorem f_54_37 : px_at 54 37 = some (.bipush (-3), 2, 0, 0, .null) := rfl
theorem f_54_39 : px_at 54 39 = some (.if_icmp .ne 48, 3, 87, 0, .null) := rfl
theorem f_54_42 : px_at 54 42 = some (.aload_n 3, 1, 0, 0, .null) := rfl
theorem f_54_43 : px_at 54 43 = some (.getfield 167, 3, 9, 2, .null) := rfl
theorem f_54_46 : px_at 54 46 = some (.iload 4, 2, 0, 0, .null) := rfl
theorem f_54_48 : px_at 54 48 = some (.iaload, 1, 0, 0, .null) := rfl
theorem f_54_49 : px_at 54 49 = some (.istore 6, 2, 0, 0, .null) := rfl
theorem f_54_51 : px_at 54 51 = some (.aload_n 3, 1, 0, 0, .null) := rfl
theorem f_54_52 : px_at 54 52 = some (.iload 4, 2, 0, 0, .null) := rfl
theorem f_54_54 : px_at 54 54 = some (.invokevirtual 170, 3, 80, 1, .null) := rfl
theorem f_54_57 : px_at 54 57 = some (.aload_n 0, 1, 0, 0, .null) := rfl
theorem f_54_58 : px_at 54 58 = some (.iload_n 1, 1, 0, 0, .null) := rfl
theorem f_54_59 : px_at 54 59 = some (.invokevirtual 149, 3, 55, 1, .null) := rfl
theorem f_54_62 : px_at 54 62 = some (.aload_n 0, 1, 0, 0, .null) := rfl
theorem f_54_63 : px_at 54 63 = some (.iload_n 1, 1, 0, 0, .null) := rfl
theorem f_54_64 : px_at 54 64 = some (.iconst 1, 1, 0, 0, .null) := rfl
theorem f_54_65 : px_at 54 65 = some (.iadd, 1, 0, 0, .null) := rfl
theorem f_54_66 : px_at 54 66 = some (.iload 4, 2, 0, 0, .null) := rfl
theorem f_54_68 : px_at 54 68 = some (.iconst 0, 1, 0, 0, .null) := rfl
theorem f_54_69 : px_at 54 69 = some (.iload 6, 2, 0, 0, .null) := rfl
theorem f_54_71 : px_at 54 71 = some (.invokevirtual 113, 3, 56, 1, .null) := rfl
theorem f_54_74 : px_at 54 74 = some (.aload_n 3, 1, 0, 0, .null) := rfl
theorem f_54_75 : px_at 54 75 = some (.iload_n 2, 1, 0, 0, .null) := rfl
theorem f_54_76 : px_at 54 76 = some (.invokevirtual 164, 3, 79, 1, .null) := rfl
theorem f_54_79 : px_at 54 79 = some (.istore 4, 2, 0, 0, .null) := rfl
theorem f_54_81 : px_at 54 81 = some (.iinc 5 1, 3, 0, 0, .null) := rfl
theorem f_54_84 : px_at 54 84 = some (.goto (-64), 3, 20, 0, .null) := rfl
theorem f_54_87 : px_at 54 87 = some (.return_, 1, 0, 0, .null) := rfl

theorem f_55_0 : px_at 55 0 = some (.aload_n 0, 1, 0, 0, .null) := rfl
theorem f_55_1 : px_at 55 1 = some (.getfield 57, 3, 6, 10, .null) := rfl
theorem f_55_4 : px_at 55 4 = some (.iload_n 1, 1, 0, 0, .null) := rfl
theorem f_55_5 : px_at 55 5 = some (.iconst 5, 1, 0, 0, .null) := rfl
theorem f_55_6 : px_at 55 6 = some (.imul, 1, 0, 0, .null) := rfl
theorem f_55_7 : px_at 55 7 = some (.iconst 1, 1, 0, 0, .null) := rfl
theorem f_55_8 : px_at 55 8 = some (.iadd, 1, 0, 0, .null) := rfl
theorem f_55_9 : px_at 55 9 = some (.dup2, 1, 0, 0, .null) := rfl
theorem f_55_10 : px_at 55 10 = some (.iaload, 1, 0, 0, .null) := rfl
theorem f_55_11 : px_at 55 11 = some (.iconst 1, 1, 0, 0, .null) := rfl
theorem f_55_12 : px_at 55 12 = some (.iadd, 1, 0, 0, .null) := rfl
theorem f_55_13 : px_at 55 13 = some (.iastore, 1, 0, 0, .null) := rfl
theorem f_55_14 : px_at 55 14 = some (.aload_n 0, 1, 0, 0, .null) := rfl
theorem f_55_15 : px_at 55 15 = some (.getfield 57, 3, 6, 10, .null) := rfl
theorem f_55_18 : px_at 55 18 = some (.iload_n 1, 1, 0, 0, .null) := rfl
theorem f_55_19 : px_at 55 19 = some (.iconst 5, 1, 0, 0, .null) := rfl
theorem f_55_20 : px_at 55 20 = some (.imul, 1, 0, 0, .null) := rfl
theorem f_55_21 : px_at 55 21 = some (.iconst 2, 1, 0, 0, .null) := rfl
theorem f_55_22 : px_at 55 22 = some (.iadd, 1, 0, 0, .null) := rfl
theorem f_55_23 : px_at 55 23 = some (.dup2, 1, 0, 0, .null) := rfl
theorem f_55_24 : px_at 55 24 = some (.iaload, 1, 0, 0, .null) := rfl
theorem f_55_25 : px_at 55 25 = some (.iconst 1, 1, 0, 0, .null) := rfl
theorem f_55_26 : px_at 55 26 = some (.iadd, 1, 0, 0, .null) := rfl
theorem f_55_27 : px_at 55 27 = some (.iastore, 1, 0, 0, .null) := rfl
theorem f_55_28 : px_at 55 28 = some (.return_, 1, 0, 0, .null) := rfl

theorem f_56_0 : px_at 56 0 = some (.iload_n 3, 1, 0, 0, .null) := rfl
theorem f_56_1 : px_at 56 1 = some (.istore 5, 2, 0, 0, .null) := rfl
theorem f_56_3 : px_at 56 3 = some (.iload_n 1, 1, 0, 0, .null) := rfl
theorem f_56_4 : px_at 56 4 = some (.istore 6, 2, 0, 0, .null) := rfl
theorem f_56_6 : px_at 56 6 = some (.iload 6, 2, 0, 0, .null) := rfl
theorem f_56_8 : px_at 56 8 = some (.aload_n 0, 1, 0, 0, .null) := rfl
theorem f_56_9 : px_at 56 9 = some (.getfield 12, 3, 6, 0, .null) := rfl
theorem f_56_12 : px_at 56 12 = some (.getfield 92, 3, 0, 0, .null) := rfl
theorem f_56_15 : px_at 56 15 = some (.if_icmp .ge 351, 3, 366, 0, .null) := rfl
theorem f_56_18 : px_at 56 18 = some (.aload_n 0, 1, 0, 0, .null) := rfl
theorem f_56_19 : px_at 56 19 = some (.getfield 21, 3, 6, 1, .null) := rfl
theorem f_56_22 : px_at 56 22 = some (.getfield 136, 3, 2, 4, .null) := rfl
theorem f_56_25 : px_at 56 25 = some (.iload 6, 2, 0, 0, .null) := rfl
theorem f_56_27 : px_at 56 27 = some (.aaload, 1, 0, 0, .null) := rfl
theorem f_56_28 : px_at 56 28 = some (.astore 7, 2, 0, 0, .null) := rfl
theorem f_56_30 : px_at 56 30 = some (.aload_n 0, 1, 0, 0, .null) := rfl
theorem f_56_31 : px_at 56 31 = some (.getfield 12, 3, 6, 0, .null) := rfl
theorem f_56_34 : px_at 56 34 = some (.getfield 173, 3, 0, 3, .null) := rfl
theorem f_56_37 : px_at 56 37 = some (.iload 6, 2, 0, 0, .null) := rfl
theorem f_56_39 : px_at 56 39 = some (.iaload, 1, 0, 0, .null) := rfl
theorem f_56_40 : px_at 56 40 = some (.istore 8, 2, 0, 0, .null) := rfl
theorem f_56_42 : px_at 56 42 = some (.iconst 1, 1, 0, 0, .null) := rfl
theorem f_56_43 : px_at 56 43 = some (.istore 9, 2, 0, 0, .null) := rfl
theorem f_56_45 : px_at 56 45 = some (.aload_n 0, 1, 0, 0, .null) := rfl
theorem f_56_46 : px_at 56 46 = some (.getfield 57, 3, 6, 10, .null) := rfl
theorem f_56_49 : px_at 56 49 = some (.iload 6, 2, 0, 0, .null) := rfl
theorem f_56_51 : px_at 56 51 = some (.iconst 5, 1, 0, 0, .null) := rfl
theorem f_56_52 : px_at 56 52 = some (.imul, 1, 0, 0, .null) := rfl
theorem f_56_53 : px_at 56 53 = some (.iconst 0, 1, 0, 0, .null) := rfl
theorem f_56_54 : px_at 56 54 = some (.iadd, 1, 0, 0, .null) := rfl
theorem f_56_55 : px_at 56 55 = some (.dup2, 1, 0, 0, .null) := rfl
theorem f_56_56 : px_at 56 56 = some (.iaload, 1, 0, 0, .null) := rfl
theorem f_56_57 : px_at 56 57 = some (.iconst 1, 1, 0, 0, .null) := rfl
theorem f_56_58 : px_at 56 58 = some (.iadd, 1, 0, 0, .null) := rfl
theorem f_56_59 : px_at 56 59 = some (.iastore, 1, 0, 0, .null) := rfl
theorem f_56_60 : px_at 56 60 = some (.aload_n 0, 1, 0, 0, .null) := rfl
theorem f_56_61 : px_at 56 61 = some (.iload 6, 2, 0, 0, .null) := rfl
theorem f_56_63 : px_at 56 63 = some (.iload 5, 2, 0, 0, .null) := rfl
theorem f_56_65 : px_at 56 65 = some (.invokevirtual 176, 3, 57, 1, .null) := rfl
theorem f_56_68 : px_at 56 68 = some (.ifCond .eq 25, 3, 93, 0, .null) := rfl
theorem f_56_71 : px_at 56 71 = some (.aload_n 0, 1, 0, 0, .null) := rfl
theorem f_56_72 : px_at 56 72 = some (.iload 6, 2, 0, 0, .null) := rfl
theorem f_56_74 : px_at 56 74 = some (.putfield 48, 3, 6, 7, .null) := rfl
theorem f_56_77 : px_at 56 77 = some (.aload_n 0, 1, 0, 0, .null) := rfl
theorem f_56_78 : px_at 56 78 = some (.getfield 57, 3, 6, 10, .null) := rfl
theorem f_56_81 : px_at 56 81 = some (.iload 6, 2, 0, 0, .null) := rfl
theorem f_56_83 : px_at 56 83 = some (.iconst 5, 1, 0, 0, .null) := rfl
theorem f_56_84 : px_at 56 84 = some (.imul, 1, 0, 0, .null) := rfl
theorem f_56_85 : px_at 56 85 = some (.iconst 4, 1, 0, 0, .null) := rfl
theorem f_56_86 : px_at 56 86 = some (.iadd, 1, 0, 0, .null) := rfl
theorem f_56_87 : px_at 56 87 = some (.dup2, 1, 0, 0, .null) := rfl
theorem f_56_88 : px_at 56 88 = some (.iaload, 1, 0, 0, .null) := rfl
theorem f_56_89 : px_at 56 89 = some (.iconst 1, 1, 0, 0, .null) := rfl
theorem f_56_90 : px_at 56 90 = some (.iadd, 1, 0, 0, .null) := rfl
theorem f_56_91 : px_at 56 91 = some (.iastore, 1, 0, 0, .null) := rfl
theorem f_56_92 : px_at 56 92 = some (.return_, 1, 0, 0, .null) := rfl
theorem f_56_93 : px_at 56 93 = some (.aload_n 0, 1, 0, 0, .null) := rfl
theorem f_56_94 : px_at 56 94 = some (.getfield 12, 3, 6, 0, .null) := rfl
theorem f_56_97 : px_at 56 97 = some (.getfield 128, 3, 0, 1, .null) := rfl
theorem f_56_100 : px_at 56 100 = some (.iload 6, 2, 0, 0, .null) := rfl
theorem f_56_102 : px_at 56 102 = some (.iaload, 1, 0, 0, .null) := rfl
theorem f_56_103 : px_at 56 103 = some (.tableswitch 224 100 119 #[151, 224, 93, 224, 224, 224, 224, 224, 224, 115, 224, 224, 224, 137, 224, 164, 224, 224, 224, 177], 93, 0, 0, .null) := rfl
theorem f_56_196 : px_at 56 196 = some (.aload_n 0, 1, 0, 0, .null) := rfl
theorem f_56_197 : px_at 56 197 = some (.getfield 12, 3, 6, 0, .null) := rfl
theorem f_56_200 : px_at 56 200 = some (.getfield 180, 3, 0, 2, .null) := rfl
theorem f_56_203 : px_at 56 203 = some (.iload 6, 2, 0, 0, .null) := rfl
theorem f_56_205 : px_at 56 205 = some (.iaload, 1, 0, 0, .null) := rfl
theorem f_56_206 : px_at 56 206 = some (.iload 5, 2, 0, 0, .null) := rfl
theorem f_56_208 : px_at 56 208 = some (.iload 8, 2, 0, 0, .null) := rfl
theorem f_56_210 : px_at 56 210 = some (.invokestatic 183, 3, 58, 2, .null) := rfl
theorem f_56_213 : px_at 56 213 = some (.istore 9, 2, 0, 0, .null) := rfl
theorem f_56_215 : px_at 56 215 = some (.goto 124, 3, 339, 0, .null) := rfl
theorem f_56_218 : px_at 56 218 = some (.aload_n 0, 1, 0, 0, .null) := rfl
theorem f_56_219 : px_at 56 219 = some (.getfield 12, 3, 6, 0, .null) := rfl
theorem f_56_222 : px_at 56 222 = some (.getfield 180, 3, 0, 2, .null) := rfl
theorem f_56_225 : px_at 56 225 = some (.iload 6, 2, 0, 0, .null) := rfl
theorem f_56_227 : px_at 56 227 = some (.iaload, 1, 0, 0, .null) := rfl
theorem f_56_228 : px_at 56 228 = some (.iload 5, 2, 0, 0, .null) := rfl
theorem f_56_230 : px_at 56 230 = some (.iload 8, 2, 0, 0, .null) := rfl
theorem f_56_232 : px_at 56 232 = some (.invokestatic 187, 3, 59, 2, .null) := rfl
theorem f_56_235 : px_at 56 235 = some (.istore 5, 2, 0, 0, .null) := rfl
theorem f_56_237 : px_at 56 237 = some (.goto 102, 3, 339, 0, .null) := rfl
theorem f_56_240 : px_at 56 240 = some (.bipush 47, 2, 0, 0, .null) := rfl
theorem f_56_242 : px_at 56 242 = some (.iload 8, 2, 0, 0, .null) := rfl
theorem f_56_244 : px_at 56 244 = some (.iload 5, 2, 0, 0, .null) := rfl
theorem f_56_246 : px_at 56 246 = some (.invokestatic 187, 3, 59, 2, .null) := rfl
theorem f_56_249 : px_at 56 249 = some (.istore 5, 2, 0, 0, .null) := rfl
theorem f_56_251 : px_at 56 251 = some (.goto 88, 3, 339, 0, .null) := rfl
theorem f_56_254 : px_at 56 254 = some (.aload 7, 2, 0, 0, .null) := rfl
theorem f_56_256 : px_at 56 256 = some (.iload_n 2, 1, 0, 0, .null) := rfl
theorem f_56_257 : px_at 56 257 = some (.iload 5, 2, 0, 0, .null) := rfl
theorem f_56_259 : px_at 56 259 = some (.invokevirtual 191, 3, 71, 1, .null) := rfl
theorem f_56_262 : px_at 56 262 = some (.istore 9, 2, 0, 0, .null) := rfl
theorem f_56_264 : px_at 56 264 = some (.goto 75, 3, 339, 0, .null) := rfl
theorem f_56_267 : px_at 56 267 = some (.aload 7, 2, 0, 0, .null) := rfl
theorem f_56_269 : px_at 56 269 = some (.iload_n 2, 1, 0, 0, .null) := rfl
theorem f_56_270 : px_at 56 270 = some (.iload 5, 2, 0, 0, .null) := rfl
theorem f_56_272 : px_at 56 272 = some (.invokevirtual 194, 3, 72, 1, .null) := rfl
theorem f_56_275 : px_at 56 275 = some (.istore 5, 2, 0, 0, .null) := rfl
theorem f_56_277 : px_at 56 277 = some (.goto 62, 3, 339, 0, .null) := rfl
theorem f_56_280 : px_at 56 280 = some (.iconst 0, 1, 0, 0, .null) := rfl
theorem f_56_281 : px_at 56 281 = some (.istore 9, 2, 0, 0, .null) := rfl
theorem f_56_283 : px_at 56 283 = some (.aload 7, 2, 0, 0, .null) := rfl
theorem f_56_285 : px_at 56 285 = some (.iload_n 2, 1, 0, 0, .null) := rfl
theorem f_56_286 : px_at 56 286 = some (.iload 4, 2, 0, 0, .null) := rfl
theorem f_56_288 : px_at 56 288 = some (.iload 8, 2, 0, 0, .null) := rfl
theorem f_56_290 : px_at 56 290 = some (.invokevirtual 198, 3, 73, 1, .null) := rfl
theorem f_56_293 : px_at 56 293 = some (.ifCond .ne 46, 3, 339, 0, .null) := rfl
theorem f_56_296 : px_at 56 296 = some (.aload_n 0, 1, 0, 0, .null) := rfl
theorem f_56_297 : px_at 56 297 = some (.getfield 21, 3, 6, 1, .null) := rfl
theorem f_56_300 : px_at 56 300 = some (.dup, 1, 0, 0, .null) := rfl
theorem f_56_301 : px_at 56 301 = some (.getfield 201, 3, 2, 3, .null) := rfl
theorem f_56_304 : px_at 56 304 = some (.iconst 1, 1, 0, 0, .null) := rfl
theorem f_56_305 : px_at 56 305 = some (.iadd, 1, 0, 0, .null) := rfl
theorem f_56_306 : px_at 56 306 = some (.putfield 201, 3, 2, 3, .null) := rfl
theorem f_56_309 : px_at 56 309 = some (.aload_n 0, 1, 0, 0, .null) := rfl
theorem f_56_310 : px_at 56 310 = some (.getfield 57, 3, 6, 10, .null) := rfl
theorem f_56_313 : px_at 56 313 = some (.iload 6, 2, 0, 0, .null) := rfl
theorem f_56_315 : px_at 56 315 = some (.iconst 5, 1, 0, 0, .null) := rfl
theorem f_56_316 : px_at 56 316 = some (.imul, 1, 0, 0, .null) := rfl
theorem f_56_317 : px_at 56 317 = some (.iconst 3, 1, 0, 0, .null) := rfl
theorem f_56_318 : px_at 56 318 = some (.iadd, 1, 0, 0, .null) := rfl
theorem f_56_319 : px_at 56 319 = some (.dup2, 1, 0, 0, .null) := rfl
theorem f_56_320 : px_at 56 320 = some (.iaload, 1, 0, 0, .null) := rfl
theorem f_56_321 : px_at 56 321 = some (.iconst 1, 1, 0, 0, .null) := rfl
theorem f_56_322 : px_at 56 322 = some (.iadd, 1, 0, 0, .null) := rfl
theorem f_56_323 : px_at 56 323 = some (.iastore, 1, 0, 0, .null) := rfl
theorem f_56_324 : px_at 56 324 = some (.goto 15, 3, 339, 0, .null) := rfl
theorem f_56_327 : px_at 56 327 = some (.aload 7, 2, 0, 0, .null) := rfl
theorem f_56_329 : px_at 56 329 = some (.getfield 167, 3, 9, 2, .null) := rfl
theorem f_56_332 : px_at 56 332 = some (.iload_n 2, 1, 0, 0, .null) := rfl
theorem f_56_333 : px_at 56 333 = some (.iload 4, 2, 0, 0, .null) := rfl
theorem f_56_335 : px_at 56 335 = some (.iload 8, 2, 0, 0, .null) := rfl
theorem f_56_337 : px_at 56 337 = some (.iadd, 1, 0, 0, .null) := rfl
theorem f_56_338 : px_at 56 338 = some (.iastore, 1, 0, 0, .null) := rfl
theorem f_56_339 : px_at 56 339 = some (.iload 9, 2, 0, 0, .null) := rfl
theorem f_56_341 : px_at 56 341 = some (.ifCond .ne 4, 3, 345, 0, .null) := rfl
theorem f_56_344 : px_at 56 344 = some (.return_, 1, 0, 0, .null) := rfl
theorem f_56_345 : px_at 56 345 = some (.aload_n 0, 1, 0, 0, .null) := rfl
theorem f_56_346 : px_at 56 346 = some (.getfield 57, 3, 6, 10, .null) := rfl
theorem f_56_349 : px_at 56 349 = some (.iload 6, 2, 0, 0, .null) := rfl
theorem f_56_351 : px_at 56 351 = some (.iconst 5, 1, 0, 0, .null) := rfl
theorem f_56_352 : px_at 56 352 = some (.imul, 1, 0, 0, .null) := rfl
theorem f_56_353 : px_at 56 353 = some (.iconst 1, 1, 0, 0, .null) := rfl
theorem f_56_354 : px_at 56 354 = some (.iadd, 1, 0, 0, .null) := rfl
theorem f_56_355 : px_at 56 355 = some (.dup2, 1, 0, 0, .null) := rfl
theorem f_56_356 : px_at 56 356 = some (.iaload, 1, 0, 0, .null) := rfl
theorem f_56_357 : px_at 56 357 = some (.iconst 1, 1, 0, 0, .null) := rfl
theorem f_56_358 : px_at 56 358 = some (.iadd, 1, 0, 0, .null) := rfl
theorem f_56_359 : px_at 56 359 = some (.iastore, 1, 0, 0, .null) := rfl
theorem f_56_360 : px_at 56 360 = some (.iinc 6 1, 3, 0, 0, .null) := rfl
theorem f_56_363 : px_at 56 363 = some (.goto (-357), 3, 6, 0, .null) := rfl
theorem f_56_366 : px_at 56 366 = some (.aload_n 0, 1, 0, 0, .null) := rfl
theorem f_56_367 : px_at 56 367 = some (.getfield 33, 3, 6, 3, .null) := rfl
theorem f_56_370 : px_at 56 370 = some (.iload_n 2, 1, 0, 0, .null) := rfl
theorem f_56_371 : px_at 56 371 = some (.iload 5, 2, 0, 0, .null) := rfl
theorem f_56_373 : px_at 56 373 = some (.iload 4, 2, 0, 0, .null) := rfl
theorem f_56_375 : px_at 56 375 = some (.invokevirtual 204, 3, 39, 1, .null) := rfl
theorem f_56_378 : px_at 56 378 = some (.return_, 1, 0, 0, .null) := rfl

theorem f_57_0 : px_at 57 0 = some (.aload_n 0, 1, 0, 0, .null) := rfl
theorem f_57_1 : px_at 57 1 = some (.getfield 12, 3, 6, 0, .null) := rfl
theorem f_57_4 : px_at 57 4 = some (.getfield 128, 3, 0, 1, .null) := rfl
theorem f_57_7 : px_at 57 7 = some (.iload_n 1, 1, 0, 0, .null) := rfl
theorem f_57_8 : px_at 57 8 = some (.iaload, 1, 0, 0, .null) := rfl
theorem f_57_9 : px_at 57 9 = some (.bipush 113, 2, 0, 0, .null) := rfl
theorem f_57_11 : px_at 57 11 = some (.if_icmp .ne 13, 3, 24, 0, .null) := rfl
theorem f_57_14 : px_at 57 14 = some (.iload_n 2, 1, 0, 0, .null) := rfl
theorem f_57_15 : px_at 57 15 = some (.ifCond .ne 7, 3, 22, 0, .null) := rfl
theorem f_57_18 : px_at 57 18 = some (.iconst 1, 1, 0, 0, .null) := rfl
theorem f_57_19 : px_at 57 19 = some (.goto 4, 3, 23, 0, .null) := rfl
theorem f_57_22 : px_at 57 22 = some (.iconst 0, 1, 0, 0, .null) := rfl
theorem f_57_23 : px_at 57 23 = some (.ireturn, 1, 0, 0, .null) := rfl
theorem f_57_24 : px_at 57 24 = some (.aload_n 0, 1, 0, 0, .null) := rfl
theorem f_57_25 : px_at 57 25 = some (.getfield 12, 3, 6, 0, .null) := rfl
theorem f_57_28 : px_at 57 28 = some (.getfield 128, 3, 0, 1, .null) := rfl
theorem f_57_31 : px_at 57 31 = some (.iload_n 1, 1, 0, 0, .null) := rfl
theorem f_57_32 : px_at 57 32 = some (.iaload, 1, 0, 0, .null) := rfl
theorem f_57_33 : px_at 57 33 = some (.bipush 109, 2, 0, 0, .null) := rfl
theorem f_57_35 : px_at 57 35 = some (.if_icmp .ne 33, 3, 68, 0, .null) := rfl
theorem f_57_38 : px_at 57 38 = some (.aload_n 0, 1, 0, 0, .null) := rfl
theorem f_57_39 : px_at 57 39 = some (.getfield 12, 3, 6, 0, .null) := rfl
theorem f_57_42 : px_at 57 42 = some (.getfield 180, 3, 0, 2, .null) := rfl
theorem f_57_45 : px_at 57 45 = some (.iload_n 1, 1, 0, 0, .null) := rfl
theorem f_57_46 : px_at 57 46 = some (.iaload, 1, 0, 0, .null) := rfl
theorem f_57_47 : px_at 57 47 = some (.bipush 47, 2, 0, 0, .null) := rfl
theorem f_57_49 : px_at 57 49 = some (.if_icmp .ne 19, 3, 68, 0, .null) := rfl
theorem f_57_52 : px_at 57 52 = some (.aload_n 0, 1, 0, 0, .null) := rfl
theorem f_57_53 : px_at 57 53 = some (.getfield 12, 3, 6, 0, .null) := rfl
theorem f_57_56 : px_at 57 56 = some (.getfield 173, 3, 0, 3, .null) := rfl
theorem f_57_59 : px_at 57 59 = some (.iload_n 1, 1, 0, 0, .null) := rfl
theorem f_57_60 : px_at 57 60 = some (.iaload, 1, 0, 0, .null) := rfl
theorem f_57_61 : px_at 57 61 = some (.ifCond .ne 7, 3, 68, 0, .null) := rfl
theorem f_57_64 : px_at 57 64 = some (.iconst 1, 1, 0, 0, .null) := rfl
theorem f_57_65 : px_at 57 65 = some (.goto 4, 3, 69, 0, .null) := rfl
theorem f_57_68 : px_at 57 68 = some (.iconst 0, 1, 0, 0, .null) := rfl
theorem f_57_69 : px_at 57 69 = some (.ireturn, 1, 0, 0, .null) := rfl

theorem f_58_0 : px_at 58 0 = some (.iload_n 0, 1, 0, 0, .null) := rfl
theorem f_58_1 : px_at 58 1 = some (.lookupswitch 49 #[(60, 27), (61, 38)], 27, 0, 0, .null) := rfl
theorem f_58_28 : px_at 58 28 = some (.iload_n 1, 1, 0, 0, .null) := rfl
theorem f_58_29 : px_at 58 29 = some (.iload_n 2, 1, 0, 0, .null) := rfl
theorem f_58_30 : px_at 58 30 = some (.if_icmp .ge 7, 3, 37, 0, .null) := rfl
theorem f_58_33 : px_at 58 33 = some (.iconst 1, 1, 0, 0, .null) := rfl
theorem f_58_34 : px_at 58 34 = some (.goto 4, 3, 38, 0, .null) := rfl
theorem f_58_37 : px_at 58 37 = some (.iconst 0, 1, 0, 0, .null) := rfl
theorem f_58_38 : px_at 58 38 = some (.ireturn, 1, 0, 0, .null) := rfl
theorem f_58_39 : px_at 58 39 = some (.iload_n 1, 1, 0, 0, .null) := rfl
theorem f_58_40 : px_at 58 40 = some (.iload_n 2, 1, 0, 0, .null) := rfl
theorem f_58_41 : px_at 58 41 = some (.if_icmp .ne 7, 3, 48, 0, .null) := rfl
theorem f_58_44 : px_at 58 44 = some (.iconst 1, 1, 0, 0, .null) := rfl
theorem f_58_45 : px_at 58 45 = some (.goto 4, 3, 49, 0, .null) := rfl
theorem f_58_48 : px_at 58 48 = some (.iconst 0, 1, 0, 0, .null) := rfl
theorem f_58_49 : px_at 58 49 = some (.ireturn, 1, 0, 0, .null) := rfl
theorem f_58_50 : px_at 58 50 = some (.iload_n 1, 1, 0, 0, .null) := rfl
theorem f_58_51 : px_at 58 51 = some (.iload_n 2, 1, 0, 0, .null) := rfl
theorem f_58_52 : px_at 58 52 = some (.if_icmp .le 7, 3, 59, 0, .null) := rfl
theorem f_58_55 : px_at 58 55 = some (.iconst 1, 1, 0, 0, .null) := rfl
theorem f_58_56 : px_at 58 56 = some (.goto 4, 3, 60, 0, .null) := rfl
theorem f_58_59 : px_at 58 59 = some (.iconst 0, 1, 0, 0, .null) := rfl
theorem f_58_60 : px_at 58 60 = some (.ireturn, 1, 0, 0, .null) := rfl

theorem f_59_0 : px_at 59 0 = some (.iload_n 0, 1, 0, 0, .null) := rfl
theorem f_59_1 : px_at 59 1 = some (.tableswitch 43 42 45 #[39, 31, 43, 35], 31, 0, 0, .null) := rfl
theorem f_59_32 : px_at 59 32 = some (.iload_n 1, 1, 0, 0, .null) := rfl
theorem f_59_33 : px_at 59 33 = some (.iload_n 2, 1, 0, 0, .null) := rfl
theorem f_59_34 : px_at 59 34 = some (.iadd, 1, 0, 0, .null) := rfl
theorem f_59_35 : px_at 59 35 = some (.ireturn, 1, 0, 0, .null) := rfl
theorem f_59_36 : px_at 59 36 = some (.iload_n 1, 1, 0, 0, .null) := rfl
theorem f_59_37 : px_at 59 37 = some (.iload_n 2, 1, 0, 0, .null) := rfl
theorem f_59_38 : px_at 59 38 = some (.isub, 1, 0, 0, .null) := rfl
theorem f_59_39 : px_at 59 39 = some (.ireturn, 1, 0, 0, .null) := rfl
theorem f_59_40 : px_at 59 40 = some (.iload_n 1, 1, 0, 0, .null) := rfl
theorem f_59_41 : px_at 59 41 = some (.iload_n 2, 1, 0, 0, .null) := rfl
theorem f_59_42 : px_at 59 42 = some (.imul, 1, 0, 0, .null) := rfl
theorem f_59_43 : px_at 59 43 = some (.ireturn, 1, 0, 0, .null) := rfl
theorem f_59_44 : px_at 59 44 = some (.iload_n 2, 1, 0, 0, .null) := rfl
theorem f_59_45 : px_at 59 45 = some (.ifCond .ne 7, 3, 52, 0, .null) := rfl
theorem f_59_48 : px_at 59 48 = some (.iconst 0, 1, 0, 0, .null) := rfl
theorem f_59_49 : px_at 59 49 = some (.goto 6, 3, 55, 0, .null) := rfl
theorem f_59_52 : px_at 59 52 = some (.iload_n 1, 1, 0, 0, .null) := rfl
theorem f_59_53 : px_at 59 53 = some (.iload_n 2, 1, 0, 0, .null) := rfl
theorem f_59_54 : px_at 59 54 = some (.idiv, 1, 0, 0, .null) := rfl
theorem f_59_55 : px_at 59 55 = some (.ireturn, 1, 0, 0, .null) := rfl

theorem f_61_0 : px_at 61 0 = some (.iload_n 1, 1, 0, 0, .null) := rfl
theorem f_61_1 : px_at 61 1 = some (.aload_n 0, 1, 0, 0, .null) := rfl
theorem f_61_2 : px_at 61 2 = some (.getfield 22, 3, 7, 3, .null) := rfl
theorem f_61_5 : px_at 61 5 = some (.if_icmp .ne 12, 3, 17, 0, .null) := rfl
theorem f_61_8 : px_at 61 8 = some (.iload_n 2, 1, 0, 0, .null) := rfl
theorem f_61_9 : px_at 61 9 = some (.aload_n 0, 1, 0, 0, .null) := rfl
theorem f_61_10 : px_at 61 10 = some (.getfield 25, 3, 7, 4, .null) := rfl
theorem f_61_13 : px_at 61 13 = some (.if_icmp .ne 4, 3, 17, 0, .null) := rfl
theorem f_61_16 : px_at 61 16 = some (.return_, 1, 0, 0, .null) := rfl
theorem f_61_17 : px_at 61 17 = some (.aload_n 0, 1, 0, 0, .null) := rfl
theorem f_61_18 : px_at 61 18 = some (.iload_n 1, 1, 0, 0, .null) := rfl
theorem f_61_19 : px_at 61 19 = some (.putfield 22, 3, 7, 3, .null) := rfl
theorem f_61_22 : px_at 61 22 = some (.aload_n 0, 1, 0, 0, .null) := rfl
theorem f_61_23 : px_at 61 23 = some (.iload_n 2, 1, 0, 0, .null) := rfl
theorem f_61_24 : px_at 61 24 = some (.putfield 25, 3, 7, 4, .null) := rfl
theorem f_61_27 : px_at 61 27 = some (.aload_n 0, 1, 0, 0, .null) := rfl
theorem f_61_28 : px_at 61 28 = some (.iconst 0, 1, 0, 0, .null) := rfl
theorem f_61_29 : px_at 61 29 = some (.putfield 18, 3, 7, 2, .null) := rfl
theorem f_61_32 : px_at 61 32 = some (.iload_n 1, 1, 0, 0, .null) := rfl
theorem f_61_33 : px_at 61 33 = some (.ifCond .eq 7, 3, 40, 0, .null) := rfl
theorem f_61_36 : px_at 61 36 = some (.iload_n 2, 1, 0, 0, .null) := rfl
theorem f_61_37 : px_at 61 37 = some (.ifCond .ne 11, 3, 48, 0, .null) := rfl
theorem f_61_40 : px_at 61 40 = some (.aload_n 0, 1, 0, 0, .null) := rfl
theorem f_61_41 : px_at 61 41 = some (.iload_n 2, 1, 0, 0, .null) := rfl
theorem f_61_42 : px_at 61 42 = some (.invokestatic 28, 3, 65, 2, .null) := rfl
theorem f_61_45 : px_at 61 45 = some (.invokevirtual 32, 3, 64, 1, .null) := rfl
theorem f_61_48 : px_at 61 48 = some (.aload_n 0, 1, 0, 0, .null) := rfl
theorem f_61_49 : px_at 61 49 = some (.getfield 15, 3, 7, 1, .null) := rfl
theorem f_61_52 : px_at 61 52 = some (.iconst 0, 1, 0, 0, .null) := rfl
theorem f_61_53 : px_at 61 53 = some (.aload_n 0, 1, 0, 0, .null) := rfl
theorem f_61_54 : px_at 61 54 = some (.getfield 18, 3, 7, 2, .null) := rfl
theorem f_61_57 : px_at 61 57 = some (.iastore, 1, 0, 0, .null) := rfl
theorem f_61_58 : px_at 61 58 = some (.iload_n 1, 1, 0, 0, .null) := rfl
theorem f_61_59 : px_at 61 59 = some (.ifCond .le 25, 3, 84, 0, .null) := rfl
theorem f_61_62 : px_at 61 62 = some (.iload_n 2, 1, 0, 0, .null) := rfl
theorem f_61_63 : px_at 61 63 = some (.ifCond .le 21, 3, 84, 0, .null) := rfl
theorem f_61_66 : px_at 61 66 = some (.aload_n 0, 1, 0, 0, .null) := rfl
theorem f_61_67 : px_at 61 67 = some (.iload_n 2, 1, 0, 0, .null) := rfl
theorem f_61_68 : px_at 61 68 = some (.invokestatic 28, 3, 65, 2, .null) := rfl
theorem f_61_71 : px_at 61 71 = some (.iload_n 1, 1, 0, 0, .null) := rfl
theorem f_61_72 : px_at 61 72 = some (.ishl, 1, 0, 0, .null) := rfl
theorem f_61_73 : px_at 61 73 = some (.invokevirtual 32, 3, 64, 1, .null) := rfl
theorem f_61_76 : px_at 61 76 = some (.aload_n 0, 1, 0, 0, .null) := rfl
theorem f_61_77 : px_at 61 77 = some (.iload_n 2, 1, 0, 0, .null) := rfl
theorem f_61_78 : px_at 61 78 = some (.invokestatic 28, 3, 65, 2, .null) := rfl
theorem f_61_81 : px_at 61 81 = some (.invokevirtual 32, 3, 64, 1, .null) := rfl
theorem f_61_84 : px_at 61 84 = some (.aload_n 0, 1, 0, 0, .null) := rfl
theorem f_61_85 : px_at 61 85 = some (.getfield 15, 3, 7, 1, .null) := rfl
theorem f_61_88 : px_at 61 88 = some (.iconst 1, 1, 0, 0, .null) := rfl
theorem f_61_89 : px_at 61 89 = some (.aload_n 0, 1, 0, 0, .null) := rfl
theorem f_61_90 : px_at 61 90 = some (.getfield 18, 3, 7, 2, .null) := rfl
theorem f_61_93 : px_at 61 93 = some (.iastore, 1, 0, 0, .null) := rfl
theorem f_61_94 : px_at 61 94 = some (.aload_n 0, 1, 0, 0, .null) := rfl
theorem f_61_95 : px_at 61 95 = some (.iload_n 1, 1, 0, 0, .null) := rfl
theorem f_61_96 : px_at 61 96 = some (.iload_n 2, 1, 0, 0, .null) := rfl
theorem f_61_97 : px_at 61 97 = some (.invokevirtual 36, 3, 62, 1, .null) := rfl
theorem f_61_100 : px_at 61 100 = some (.aload_n 0, 1, 0, 0, .null) := rfl
theorem f_61_101 : px_at 61 101 = some (.getfield 15, 3, 7, 1, .null) := rfl
theorem f_61_104 : px_at 61 104 = some (.iconst 2, 1, 0, 0, .null) := rfl
theorem f_61_105 : px_at 61 105 = some (.aload_n 0, 1, 0, 0, .null) := rfl
theorem f_61_106 : px_at 61 106 = some (.getfield 18, 3, 7, 2, .null) := rfl
theorem f_61_109 : px_at 61 109 = some (.iastore, 1, 0, 0, .null) := rfl
theorem f_61_110 : px_at 61 110 = some (.aload_n 0, 1, 0, 0, .null) := rfl
theorem f_61_111 : px_at 61 111 = some (.iload_n 1, 1, 0, 0, .null) := rfl
theorem f_61_112 : px_at 61 112 = some (.iload_n 2, 1, 0, 0, .null) := rfl
theorem f_61_113 : px_at 61 113 = some (.invokevirtual 40, 3, 63, 1, .null) := rfl
theorem f_61_116 : px_at 61 116 = some (.aload_n 0, 1, 0, 0, .null) := rfl
theorem f_61_117 : px_at 61 117 = some (.getfield 15, 3, 7, 1, .null) := rfl
theorem f_61_120 : px_at 61 120 = some (.iconst 3, 1, 0, 0, .null) := rfl
theorem f_61_121 : px_at 61 121 = some (.aload_n 0, 1, 0, 0, .null) := rfl
theorem f_61_122 : px_at 61 122 = some (.getfield 18, 3, 7, 2, .null) := rfl
theorem f_61_125 : px_at 61 125 = some (.iastore, 1, 0, 0, .null) := rfl
theorem f_61_126 : px_at 61 126 = some (.return_, 1, 0, 0, .null) := rfl

theorem f_62_0 : px_at 62 0 = some (.iconst 1, 1, 0, 0, .null) := rfl
theorem f_62_1 : px_at 62 1 = some (.istore_n 3, 1, 0, 0, .null) := rfl
theorem f_62_2 : px_at 62 2 = some (.iload_n 3, 1, 0, 0, .null) := rfl
theorem f_62_3 : px_at 62 3 = some (.iload_n 1, 1, 0, 0, .null) := rfl
theorem f_62_4 : px_at 62 4 = some (.if_icmp .ge 23, 3, 27, 0, .null) := rfl
theorem f_62_7 : px_at 62 7 = some (.iload_n 2, 1, 0, 0, .null) := rfl
theorem f_62_8 : px_at 62 8 = some (.ifCond .le 19, 3, 27, 0, .null) := rfl
theorem f_62_11 : px_at 62 11 = some (.aload_n 0, 1, 0, 0, .null) := rfl
theorem f_62_12 : px_at 62 12 = some (.iload_n 2, 1, 0, 0, .null) := rfl
theorem f_62_13 : px_at 62 13 = some (.invokestatic 28, 3, 65, 2, .null) := rfl
theorem f_62_16 : px_at 62 16 = some (.iload_n 3, 1, 0, 0, .null) := rfl
theorem f_62_17 : px_at 62 17 = some (.ishl, 1, 0, 0, .null) := rfl
theorem f_62_18 : px_at 62 18 = some (.invokevirtual 32, 3, 64, 1, .null) := rfl
theorem f_62_21 : px_at 62 21 = some (.iinc 3 1, 3, 0, 0, .null) := rfl
theorem f_62_24 : px_at 62 24 = some (.goto (-22), 3, 2, 0, .null) := rfl
theorem f_62_27 : px_at 62 27 = some (.iconst 1, 1, 0, 0, .null) := rfl
theorem f_62_28 : px_at 62 28 = some (.istore_n 3, 1, 0, 0, .null) := rfl
theorem f_62_29 : px_at 62 29 = some (.iload_n 3, 1, 0, 0, .null) := rfl
theorem f_62_30 : px_at 62 30 = some (.iload_n 2, 1, 0, 0, .null) := rfl
theorem f_62_31 : px_at 62 31 = some (.if_icmp .ge 32, 3, 63, 0, .null) := rfl
theorem f_62_34 : px_at 62 34 = some (.iload_n 1, 1, 0, 0, .null) := rfl
theorem f_62_35 : px_at 62 35 = some (.ifCond .le 28, 3, 63, 0, .null) := rfl
theorem f_62_38 : px_at 62 38 = some (.aload_n 0, 1, 0, 0, .null) := rfl
theorem f_62_39 : px_at 62 39 = some (.iload_n 3, 1, 0, 0, .null) := rfl
theorem f_62_40 : px_at 62 40 = some (.invokestatic 28, 3, 65, 2, .null) := rfl
theorem f_62_43 : px_at 62 43 = some (.iload_n 2, 1, 0, 0, .null) := rfl
theorem f_62_44 : px_at 62 44 = some (.iload_n 3, 1, 0, 0, .null) := rfl
theorem f_62_45 : px_at 62 45 = some (.isub, 1, 0, 0, .null) := rfl
theorem f_62_46 : px_at 62 46 = some (.invokestatic 28, 3, 65, 2, .null) := rfl
theorem f_62_49 : px_at 62 49 = some (.iload_n 3, 1, 0, 0, .null) := rfl
theorem f_62_50 : px_at 62 50 = some (.iload_n 1, 1, 0, 0, .null) := rfl
theorem f_62_51 : px_at 62 51 = some (.iadd, 1, 0, 0, .null) := rfl
theorem f_62_52 : px_at 62 52 = some (.ishl, 1, 0, 0, .null) := rfl
theorem f_62_53 : px_at 62 53 = some (.ior, 1, 0, 0, .null) := rfl
theorem f_62_54 : px_at 62 54 = some (.invokevirtual 32, 3, 64, 1, .null) := rfl
theorem f_62_57 : px_at 62 57 = some (.iinc 3 1, 3, 0, 0, .null) := rfl
theorem f_62_60 : px_at 62 60 = some (.goto (-31), 3, 29, 0, .null) := rfl
theorem f_62_63 : px_at 62 63 = some (.return_, 1, 0, 0, .null) := rfl

theorem f_63_0 : px_at 63 0 = some (.iconst 1, 1, 0, 0, .null) := rfl
theorem f_63_1 : px_at 63 1 = some (.istore_n 3, 1, 0, 0, .null) := rfl
theorem f_63_2 : px_at 63 2 = some (.iload_n 3, 1, 0, 0, .null) := rfl
theorem f_63_3 : px_at 63 3 = some (.iload_n 1, 1, 0, 0, .null) := rfl
theorem f_63_4 : px_at 63 4 = some (.if_icmp .ge 48, 3, 52, 0, .null) := rfl
theorem f_63_7 : px_at 63 7 = some (.iconst 1, 1, 0, 0, .null) := rfl
theorem f_63_8 : px_at 63 8 = some (.istore 4, 2, 0, 0, .null) := rfl
theorem f_63_10 : px_at 63 10 = some (.iload 4, 2, 0, 0, .null) := rfl
theorem f_63_12 : px_at 63 12 = some (.iload_n 2, 1, 0, 0, .null) := rfl
theorem f_63_13 : px_at 63 13 = some (.if_icmp .ge 33, 3, 46, 0, .null) := rfl
theorem f_63_16 : px_at 63 16 = some (.aload_n 0, 1, 0, 0, .null) := rfl
theorem f_63_17 : px_at 63 17 = some (.iload 4, 2, 0, 0, .null) := rfl
theorem f_63_19 : px_at 63 19 = some (.invokestatic 28, 3, 65, 2, .null) := rfl
theorem f_63_22 : px_at 63 22 = some (.iload_n 3, 1, 0, 0, .null) := rfl
theorem f_63_23 : px_at 63 23 = some (.ishl, 1, 0, 0, .null) := rfl
theorem f_63_24 : px_at 63 24 = some (.iload_n 2, 1, 0, 0, .null) := rfl
theorem f_63_25 : px_at 63 25 = some (.iload 4, 2, 0, 0, .null) := rfl
theorem f_63_27 : px_at 63 27 = some (.isub, 1, 0, 0, .null) := rfl
theorem f_63_28 : px_at 63 28 = some (.invokestatic 28, 3, 65, 2, .null) := rfl
theorem f_63_31 : px_at 63 31 = some (.iload_n 1, 1, 0, 0, .null) := rfl
theorem f_63_32 : px_at 63 32 = some (.iload 4, 2, 0, 0, .null) := rfl
theorem f_63_34 : px_at 63 34 = some (.iadd, 1, 0, 0, .null) := rfl
theorem f_63_35 : px_at 63 35 = some (.ishl, 1, 0, 0, .null) := rfl
theorem f_63_36 : px_at 63 36 = some (.ior, 1, 0, 0, .null) := rfl
theorem f_63_37 : px_at 63 37 = some (.invokevirtual 32, 3, 64, 1, .null) := rfl
theorem f_63_40 : px_at 63 40 = some (.iinc 4 1, 3, 0, 0, .null) := rfl
theorem f_63_43 : px_at 63 43 = some (.goto (-33), 3, 10, 0, .null) := rfl
theorem f_63_46 : px_at 63 46 = some (.iinc 3 1, 3, 0, 0, .null) := rfl
theorem f_63_49 : px_at 63 49 = some (.goto (-47), 3, 2, 0, .null) := rfl
theorem f_63_52 : px_at 63 52 = some (.iconst 1, 1, 0, 0, .null) := rfl
theorem f_63_53 : px_at 63 53 = some (.istore_n 3, 1, 0, 0, .null) := rfl
theorem f_63_54 : px_at 63 54 = some (.iload_n 3, 1, 0, 0, .null) := rfl
theorem f_63_55 : px_at 63 55 = some (.iload_n 2, 1, 0, 0, .null) := rfl
theorem f_63_56 : px_at 63 56 = some (.if_icmp .ge 44, 3, 100, 0, .null) := rfl
theorem f_63_59 : px_at 63 59 = some (.iconst 1, 1, 0, 0, .null) := rfl
theorem f_63_60 : px_at 63 60 = some (.istore 4, 2, 0, 0, .null) := rfl
theorem f_63_62 : px_at 63 62 = some (.iload 4, 2, 0, 0, .null) := rfl
theorem f_63_64 : px_at 63 64 = some (.iload_n 1, 1, 0, 0, .null) := rfl
theorem f_63_65 : px_at 63 65 = some (.if_icmp .ge 29, 3, 94, 0, .null) := rfl
theorem f_63_68 : px_at 63 68 = some (.aload_n 0, 1, 0, 0, .null) := rfl
theorem f_63_69 : px_at 63 69 = some (.iload_n 3, 1, 0, 0, .null) := rfl
theorem f_63_70 : px_at 63 70 = some (.invokestatic 28, 3, 65, 2, .null) := rfl
theorem f_63_73 : px_at 63 73 = some (.iload_n 2, 1, 0, 0, .null) := rfl
theorem f_63_74 : px_at 63 74 = some (.iload_n 3, 1, 0, 0, .null) := rfl
theorem f_63_75 : px_at 63 75 = some (.isub, 1, 0, 0, .null) := rfl
theorem f_63_76 : px_at 63 76 = some (.invokestatic 28, 3, 65, 2, .null) := rfl
theorem f_63_79 : px_at 63 79 = some (.iload_n 3, 1, 0, 0, .null) := rfl
theorem f_63_80 : px_at 63 80 = some (.iload 4, 2, 0, 0, .null) := rfl
theorem f_63_82 : px_at 63 82 = some (.iadd, 1, 0, 0, .null) := rfl
theorem f_63_83 : px_at 63 83 = some (.ishl, 1, 0, 0, .null) := rfl
theorem f_63_84 : px_at 63 84 = some (.ior, 1, 0, 0, .null) := rfl
theorem f_63_85 : px_at 63 85 = some (.invokevirtual 32, 3, 64, 1, .null) := rfl
theorem f_63_88 : px_at 63 88 = some (.iinc 4 1, 3, 0, 0, .null) := rfl
theorem f_63_91 : px_at 63 91 = some (.goto (-29), 3, 62, 0, .null) := rfl
theorem f_63_94 : px_at 63 94 = some (.iinc 3 1, 3, 0, 0, .null) := rfl
theorem f_63_97 : px_at 63 97 = some (.goto (-43), 3, 54, 0, .null) := rfl
theorem f_63_100 : px_at 63 100 = some (.return_, 1, 0, 0, .null) := rfl

theorem f_64_0 : px_at 64 0 = some (.aload_n 0, 1, 0, 0, .null) := rfl
theorem f_64_1 : px_at 64 1 = some (.getfield 18, 3, 7, 2, .null) := rfl
theorem f_64_4 : px_at 64 4 = some (.sipush 266, 3, 0, 0, .null) := rfl
theorem f_64_7 : px_at 64 7 = some (.if_icmp .ge 23, 3, 30, 0, .null) := rfl
theorem f_64_10 : px_at 64 10 = some (.aload_n 0, 1, 0, 0, .null) := rfl
theorem f_64_11 : px_at 64 11 = some (.getfield 9, 3, 7, 0, .null) := rfl
theorem f_64_14 : px_at 64 14 = some (.aload_n 0, 1, 0, 0, .null) := rfl
theorem f_64_15 : px_at 64 15 = some (.getfield 18, 3, 7, 2, .null) := rfl
theorem f_64_18 : px_at 64 18 = some (.iload_n 1, 1, 0, 0, .null) := rfl
theorem f_64_19 : px_at 64 19 = some (.iastore, 1, 0, 0, .null) := rfl
theorem f_64_20 : px_at 64 20 = some (.aload_n 0, 1, 0, 0, .null) := rfl
theorem f_64_21 : px_at 64 21 = some (.dup, 1, 0, 0, .null) := rfl
theorem f_64_22 : px_at 64 22 = some (.getfield 18, 3, 7, 2, .null) := rfl
theorem f_64_25 : px_at 64 25 = some (.iconst 1, 1, 0, 0, .null) := rfl
theorem f_64_26 : px_at 64 26 = some (.iadd, 1, 0, 0, .null) := rfl
theorem f_64_27 : px_at 64 27 = some (.putfield 18, 3, 7, 2, .null) := rfl
theorem f_64_30 : px_at 64 30 = some (.return_, 1, 0, 0, .null) := rfl

theorem f_65_0 : px_at 65 0 = some (.iconst 1, 1, 0, 0, .null) := rfl
theorem f_65_1 : px_at 65 1 = some (.iload_n 0, 1, 0, 0, .null) := rfl
theorem f_65_2 : px_at 65 2 = some (.ishl, 1, 0, 0, .null) := rfl
theorem f_65_3 : px_at 65 3 = some (.iconst 1, 1, 0, 0, .null) := rfl
theorem f_65_4 : px_at 65 4 = some (.isub, 1, 0, 0, .null) := rfl
theorem f_65_5 : px_at 65 5 = some (.ireturn, 1, 0, 0, .null) := rfl

theorem f_67_0 : px_at 67 0 = some (.aload_n 0, 1, 0, 0, .null) := rfl
theorem f_67_1 : px_at 67 1 = some (.getfield 12, 3, 8, 0, .null) := rfl
theorem f_67_4 : px_at 67 4 = some (.iconst 0, 1, 0, 0, .null) := rfl
theorem f_67_5 : px_at 67 5 = some (.putfield 29, 3, 0, 0, .null) := rfl
theorem f_67_8 : px_at 67 8 = some (.aload_n 0, 1, 0, 0, .null) := rfl
theorem f_67_9 : px_at 67 9 = some (.iconst 0, 1, 0, 0, .null) := rfl
theorem f_67_10 : px_at 67 10 = some (.putfield 24, 3, 8, 2, .null) := rfl
theorem f_67_13 : px_at 67 13 = some (.return_, 1, 0, 0, .null) := rfl

theorem f_69_0 : px_at 69 0 = some (.aload_n 0, 1, 0, 0, .null) := rfl
theorem f_69_1 : px_at 69 1 = some (.iconst (-1), 1, 0, 0, .null) := rfl
theorem f_69_2 : px_at 69 2 = some (.putfield 9, 3, 9, 0, .null) := rfl
theorem f_69_5 : px_at 69 5 = some (.aload_n 0, 1, 0, 0, .null) := rfl
theorem f_69_6 : px_at 69 6 = some (.iconst 0, 1, 0, 0, .null) := rfl
theorem f_69_7 : px_at 69 7 = some (.putfield 29, 3, 9, 5, .null) := rfl
theorem f_69_10 : px_at 69 10 = some (.iconst 0, 1, 0, 0, .null) := rfl
theorem f_69_11 : px_at 69 11 = some (.istore_n 1, 1, 0, 0, .null) := rfl
theorem f_69_12 : px_at 69 12 = some (.iload_n 1, 1, 0, 0, .null) := rfl
theorem f_69_13 : px_at 69 13 = some (.iconst 4, 1, 0, 0, .null) := rfl
theorem f_69_14 : px_at 69 14 = some (.if_icmp .ge 23, 3, 37, 0, .null) := rfl
theorem f_69_17 : px_at 69 17 = some (.aload_n 0, 1, 0, 0, .null) := rfl
theorem f_69_18 : px_at 69 18 = some (.getfield 15, 3, 9, 1, .null) := rfl
theorem f_69_21 : px_at 69 21 = some (.iload_n 1, 1, 0, 0, .null) := rfl
theorem f_69_22 : px_at 69 22 = some (.iconst 0, 1, 0, 0, .null) := rfl
theorem f_69_23 : px_at 69 23 = some (.iastore, 1, 0, 0, .null) := rfl
theorem f_69_24 : px_at 69 24 = some (.aload_n 0, 1, 0, 0, .null) := rfl
theorem f_69_25 : px_at 69 25 = some (.getfield 19, 3, 9, 2, .null) := rfl
theorem f_69_28 : px_at 69 28 = some (.iload_n 1, 1, 0, 0, .null) := rfl
theorem f_69_29 : px_at 69 29 = some (.iconst (-1), 1, 0, 0, .null) := rfl
theorem f_69_30 : px_at 69 30 = some (.iastore, 1, 0, 0, .null) := rfl
theorem f_69_31 : px_at 69 31 = some (.iinc 1 1, 3, 0, 0, .null) := rfl
theorem f_69_34 : px_at 69 34 = some (.goto (-22), 3, 12, 0, .null) := rfl
theorem f_69_37 : px_at 69 37 = some (.return_, 1, 0, 0, .null) := rfl

theorem f_70_0 : px_at 70 0 = some (.aload_n 0, 1, 0, 0, .null) := rfl
theorem f_70_1 : px_at 70 1 = some (.aload_n 1, 1, 0, 0, .null) := rfl
theorem f_70_2 : px_at 70 2 = some (.getfield 9, 3, 9, 0, .null) := rfl
theorem f_70_5 : px_at 70 5 = some (.putfield 9, 3, 9, 0, .null) := rfl
theorem f_70_8 : px_at 70 8 = some (.aload_n 0, 1, 0, 0, .null) := rfl
theorem f_70_9 : px_at 70 9 = some (.aload_n 1, 1, 0, 0, .null) := rfl
theorem f_70_10 : px_at 70 10 = some (.getfield 29, 3, 9, 5, .null) := rfl
theorem f_70_13 : px_at 70 13 = some (.putfield 29, 3, 9, 5, .null) := rfl
theorem f_70_16 : px_at 70 16 = some (.iconst 0, 1, 0, 0, .null) := rfl
theorem f_70_17 : px_at 70 17 = some (.istore_n 2, 1, 0, 0, .null) := rfl
theorem f_70_18 : px_at 70 18 = some (.iload_n 2, 1, 0, 0, .null) := rfl
theorem f_70_19 : px_at 70 19 = some (.iconst 4, 1, 0, 0, .null) := rfl
theorem f_70_20 : px_at 70 20 = some (.if_icmp .ge 33, 3, 53, 0, .null) := rfl
theorem f_70_23 : px_at 70 23 = some (.aload_n 0, 1, 0, 0, .null) := rfl
theorem f_70_24 : px_at 70 24 = some (.getfield 15, 3, 9, 1, .null) := rfl
theorem f_70_27 : px_at 70 27 = some (.iload_n 2, 1, 0, 0, .null) := rfl
theorem f_70_28 : px_at 70 28 = some (.aload_n 1, 1, 0, 0, .null) := rfl
theorem f_70_29 : px_at 70 29 = some (.getfield 15, 3, 9, 1, .null) := rfl
theorem f_70_32 : px_at 70 32 = some (.iload_n 2, 1, 0, 0, .null) := rfl
theorem f_70_33 : px_at 70 33 = some (.iaload, 1, 0, 0, .null) := rfl
theorem f_70_34 : px_at 70 34 = some (.iastore, 1, 0, 0, .null) := rfl
theorem f_70_35 : px_at 70 35 = some (.aload_n 0, 1, 0, 0, .null) := rfl
theorem f_70_36 : px_at 70 36 = some (.getfield 19, 3, 9, 2, .null) := rfl
theorem f_70_39 : px_at 70 39 = some (.iload_n 2, 1, 0, 0, .null) := rfl
theorem f_70_40 : px_at 70 40 = some (.aload_n 1, 1, 0, 0, .null) := rfl
theorem f_70_41 : px_at 70 41 = some (.getfield 19, 3, 9, 2, .null) := rfl
theorem f_70_44 : px_at 70 44 = some (.iload_n 2, 1, 0, 0, .null) := rfl
theorem f_70_45 : px_at 70 45 = some (.iaload, 1, 0, 0, .null) := rfl
theorem f_70_46 : px_at 70 46 = some (.iastore, 1, 0, 0, .null) := rfl
theorem f_70_47 : px_at 70 47 = some (.iinc 2 1, 3, 0, 0, .null) := rfl
theorem f_70_50 : px_at 70 50 = some (.goto (-32), 3, 18, 0, .null) := rfl
theorem f_70_53 : px_at 70 53 = some (.iconst 0, 1, 0, 0, .null) := rfl
theorem f_70_54 : px_at 70 54 = some (.istore_n 2, 1, 0, 0, .null) := rfl
theorem f_70_55 : px_at 70 55 = some (.iload_n 2, 1, 0, 0, .null) := rfl
theorem f_70_56 : px_at 70 56 = some (.aload_n 0, 1, 0, 0, .null) := rfl
theorem f_70_57 : px_at 70 57 = some (.getfield 29, 3, 9, 5, .null) := rfl
theorem f_70_60 : px_at 70 60 = some (.if_icmp .ge 33, 3, 93, 0, .null) := rfl
theorem f_70_63 : px_at 70 63 = some (.aload_n 0, 1, 0, 0, .null) := rfl
theorem f_70_64 : px_at 70 64 = some (.getfield 22, 3, 9, 3, .null) := rfl
theorem f_70_67 : px_at 70 67 = some (.iload_n 2, 1, 0, 0, .null) := rfl
theorem f_70_68 : px_at 70 68 = some (.aload_n 1, 1, 0, 0, .null) := rfl
theorem f_70_69 : px_at 70 69 = some (.getfield 22, 3, 9, 3, .null) := rfl
theorem f_70_72 : px_at 70 72 = some (.iload_n 2, 1, 0, 0, .null) := rfl
theorem f_70_73 : px_at 70 73 = some (.laload, 1, 0, 0, .null) := rfl
theorem f_70_74 : px_at 70 74 = some (.lastore, 1, 0, 0, .null) := rfl
theorem f_70_75 : px_at 70 75 = some (.aload_n 0, 1, 0, 0, .null) := rfl
theorem f_70_76 : px_at 70 76 = some (.getfield 26, 3, 9, 4, .null) := rfl
theorem f_70_79 : px_at 70 79 = some (.iload_n 2, 1, 0, 0, .null) := rfl
theorem f_70_80 : px_at 70 80 = some (.aload_n 1, 1, 0, 0, .null) := rfl
theorem f_70_81 : px_at 70 81 = some (.getfield 26, 3, 9, 4, .null) := rfl
theorem f_70_84 : px_at 70 84 = some (.iload_n 2, 1, 0, 0, .null) := rfl
theorem f_70_85 : px_at 70 85 = some (.iaload, 1, 0, 0, .null) := rfl
theorem f_70_86 : px_at 70 86 = some (.iastore, 1, 0, 0, .null) := rfl
theorem f_70_87 : px_at 70 87 = some (.iinc 2 1, 3, 0, 0, .null) := rfl
theorem f_70_90 : px_at 70 90 = some (.goto (-35), 3, 55, 0, .null) := rfl
theorem f_70_93 : px_at 70 93 = some (.return_, 1, 0, 0, .null) := rfl

theorem f_71_0 : px_at 71 0 = some (.iload_n 2, 1, 0, 0, .null) := rfl
theorem f_71_1 : px_at 71 1 = some (.i2l, 1, 0, 0, .null) := rfl
theorem f_71_2 : px_at 71 2 = some (.ldc2_w 32, 3, 0, 0, .long (4)) := rfl
theorem f_71_5 : px_at 71 5 = some (.lmul, 1, 0, 0, .null) := rfl
theorem f_71_6 : px_at 71 6 = some (.iload_n 1, 1, 0, 0, .null) := rfl
theorem f_71_7 : px_at 71 7 = some (.i2l, 1, 0, 0, .null) := rfl
theorem f_71_8 : px_at 71 8 = some (.ladd, 1, 0, 0, .null) := rfl
theorem f_71_9 : px_at 71 9 = some (.lstore_n 3, 1, 0, 0, .null) := rfl
theorem f_71_10 : px_at 71 10 = some (.iconst 0, 1, 0, 0, .null) := rfl
theorem f_71_11 : px_at 71 11 = some (.istore 5, 2, 0, 0, .null) := rfl
theorem f_71_13 : px_at 71 13 = some (.iload 5, 2, 0, 0, .null) := rfl
theorem f_71_15 : px_at 71 15 = some (.aload_n 0, 1, 0, 0, .null) := rfl
theorem f_71_16 : px_at 71 16 = some (.getfield 29, 3, 9, 5, .null) := rfl
theorem f_71_19 : px_at 71 19 = some (.if_icmp .ge 23, 3, 42, 0, .null) := rfl
theorem f_71_22 : px_at 71 22 = some (.aload_n 0, 1, 0, 0, .null) := rfl
theorem f_71_23 : px_at 71 23 = some (.getfield 22, 3, 9, 3, .null) := rfl
theorem f_71_26 : px_at 71 26 = some (.iload 5, 2, 0, 0, .null) := rfl
theorem f_71_28 : px_at 71 28 = some (.laload, 1, 0, 0, .null) := rfl
theorem f_71_29 : px_at 71 29 = some (.lload_n 3, 1, 0, 0, .null) := rfl
theorem f_71_30 : px_at 71 30 = some (.lcmp, 1, 0, 0, .null) := rfl
theorem f_71_31 : px_at 71 31 = some (.ifCond .ne 5, 3, 36, 0, .null) := rfl
theorem f_71_34 : px_at 71 34 = some (.iconst 0, 1, 0, 0, .null) := rfl
theorem f_71_35 : px_at 71 35 = some (.ireturn, 1, 0, 0, .null) := rfl
theorem f_71_36 : px_at 71 36 = some (.iinc 5 1, 3, 0, 0, .null) := rfl
theorem f_71_39 : px_at 71 39 = some (.goto (-26), 3, 13, 0, .null) := rfl
theorem f_71_42 : px_at 71 42 = some (.aload_n 0, 1, 0, 0, .null) := rfl
theorem f_71_43 : px_at 71 43 = some (.getfield 29, 3, 9, 5, .null) := rfl
theorem f_71_46 : px_at 71 46 = some (.bipush 96, 2, 0, 0, .null) := rfl
theorem f_71_48 : px_at 71 48 = some (.if_icmp .ge 23, 3, 71, 0, .null) := rfl
theorem f_71_51 : px_at 71 51 = some (.aload_n 0, 1, 0, 0, .null) := rfl
theorem f_71_52 : px_at 71 52 = some (.getfield 22, 3, 9, 3, .null) := rfl
theorem f_71_55 : px_at 71 55 = some (.aload_n 0, 1, 0, 0, .null) := rfl
theorem f_71_56 : px_at 71 56 = some (.getfield 29, 3, 9, 5, .null) := rfl
theorem f_71_59 : px_at 71 59 = some (.lload_n 3, 1, 0, 0, .null) := rfl
theorem f_71_60 : px_at 71 60 = some (.lastore, 1, 0, 0, .null) := rfl
theorem f_71_61 : px_at 71 61 = some (.aload_n 0, 1, 0, 0, .null) := rfl
theorem f_71_62 : px_at 71 62 = some (.dup, 1, 0, 0, .null) := rfl
theorem f_71_63 : px_at 71 63 = some (.getfield 29, 3, 9, 5, .null) := rfl
theorem f_71_66 : px_at 71 66 = some (.iconst 1, 1, 0, 0, .null) := rfl
theorem f_71_67 : px_at 71 67 = some (.iadd, 1, 0, 0, .null) := rfl
theorem f_71_68 : px_at 71 68 = some (.putfield 29, 3, 9, 5, .null) := rfl
theorem f_71_71 : px_at 71 71 = some (.iconst 1, 1, 0, 0, .null) := rfl
theorem f_71_72 : px_at 71 72 = some (.ireturn, 1, 0, 0, .null) := rfl

theorem f_72_0 : px_at 72 0 = some (.aload_n 0, 1, 0, 0, .null) := rfl
theorem f_72_1 : px_at 72 1 = some (.getfield 15, 3, 9, 1, .null) := rfl
theorem f_72_4 : px_at 72 4 = some (.iload_n 1, 1, 0, 0, .null) := rfl
theorem f_72_5 : px_at 72 5 = some (.dup2, 1, 0, 0, .null) := rfl
theorem f_72_6 : px_at 72 6 = some (.iaload, 1, 0, 0, .null) := rfl
theorem f_72_7 : px_at 72 7 = some (.iload_n 2, 1, 0, 0, .null) := rfl
theorem f_72_8 : px_at 72 8 = some (.iadd, 1, 0, 0, .null) := rfl
theorem f_72_9 : px_at 72 9 = some (.iastore, 1, 0, 0, .null) := rfl
theorem f_72_10 : px_at 72 10 = some (.aload_n 0, 1, 0, 0, .null) := rfl
theorem f_72_11 : px_at 72 11 = some (.getfield 15, 3, 9, 1, .null) := rfl
theorem f_72_14 : px_at 72 14 = some (.iload_n 1, 1, 0, 0, .null) := rfl
theorem f_72_15 : px_at 72 15 = some (.iaload, 1, 0, 0, .null) := rfl
theorem f_72_16 : px_at 72 16 = some (.ireturn, 1, 0, 0, .null) := rfl

theorem f_73_0 : px_at 73 0 = some (.iload_n 3, 1, 0, 0, .null) := rfl
theorem f_73_1 : px_at 73 1 = some (.ifCond .le 7, 3, 8, 0, .null) := rfl
theorem f_73_4 : px_at 73 4 = some (.iload_n 3, 1, 0, 0, .null) := rfl
theorem f_73_5 : px_at 73 5 = some (.goto 4, 3, 9, 0, .null) := rfl
theorem f_73_8 : px_at 73 8 = some (.iconst 1, 1, 0, 0, .null) := rfl
theorem f_73_9 : px_at 73 9 = some (.istore 4, 2, 0, 0, .null) := rfl
theorem f_73_11 : px_at 73 11 = some (.iload_n 2, 1, 0, 0, .null) := rfl
theorem f_73_12 : px_at 73 12 = some (.iload 4, 2, 0, 0, .null) := rfl
theorem f_73_14 : px_at 73 14 = some (.idiv, 1, 0, 0, .null) := rfl
theorem f_73_15 : px_at 73 15 = some (.iconst 1, 1, 0, 0, .null) := rfl
theorem f_73_16 : px_at 73 16 = some (.iadd, 1, 0, 0, .null) := rfl
theorem f_73_17 : px_at 73 17 = some (.iload 4, 2, 0, 0, .null) := rfl
theorem f_73_19 : px_at 73 19 = some (.imul, 1, 0, 0, .null) := rfl
theorem f_73_20 : px_at 73 20 = some (.istore 5, 2, 0, 0, .null) := rfl
theorem f_73_22 : px_at 73 22 = some (.iload 5, 2, 0, 0, .null) := rfl
theorem f_73_24 : px_at 73 24 = some (.aload_n 0, 1, 0, 0, .null) := rfl
theorem f_73_25 : px_at 73 25 = some (.getfield 9, 3, 9, 0, .null) := rfl
theorem f_73_28 : px_at 73 28 = some (.if_icmp .gt 5, 3, 33, 0, .null) := rfl
theorem f_73_31 : px_at 73 31 = some (.iconst 0, 1, 0, 0, .null) := rfl
theorem f_73_32 : px_at 73 32 = some (.ireturn, 1, 0, 0, .null) := rfl
theorem f_73_33 : px_at 73 33 = some (.iload 5, 2, 0, 0, .null) := rfl
theorem f_73_35 : px_at 73 35 = some (.i2l, 1, 0, 0, .null) := rfl
theorem f_73_36 : px_at 73 36 = some (.ldc2_w 32, 3, 0, 0, .long (4)) := rfl
theorem f_73_39 : px_at 73 39 = some (.lmul, 1, 0, 0, .null) := rfl
theorem f_73_40 : px_at 73 40 = some (.iload_n 1, 1, 0, 0, .null) := rfl
theorem f_73_41 : px_at 73 41 = some (.i2l, 1, 0, 0, .null) := rfl
theorem f_73_42 : px_at 73 42 = some (.ladd, 1, 0, 0, .null) := rfl
theorem f_73_43 : px_at 73 43 = some (.lstore 6, 2, 0, 0, .null) := rfl
theorem f_73_45 : px_at 73 45 = some (.iconst 0, 1, 0, 0, .null) := rfl
theorem f_73_46 : px_at 73 46 = some (.istore 8, 2, 0, 0, .null) := rfl
theorem f_73_48 : px_at 73 48 = some (.iload 8, 2, 0, 0, .null) := rfl
theorem f_73_50 : px_at 73 50 = some (.aload_n 0, 1, 0, 0, .null) := rfl
theorem f_73_51 : px_at 73 51 = some (.getfield 29, 3, 9, 5, .null) := rfl
theorem f_73_54 : px_at 73 54 = some (.if_icmp .ge 22, 3, 76, 0, .null) := rfl
theorem f_73_57 : px_at 73 57 = some (.aload_n 0, 1, 0, 0, .null) := rfl
theorem f_73_58 : px_at 73 58 = some (.getfield 22, 3, 9, 3, .null) := rfl
theorem f_73_61 : px_at 73 61 = some (.iload 8, 2, 0, 0, .null) := rfl
theorem f_73_63 : px_at 73 63 = some (.laload, 1, 0, 0, .null) := rfl
theorem f_73_64 : px_at 73 64 = some (.lload 6, 2, 0, 0, .null) := rfl
theorem f_73_66 : px_at 73 66 = some (.lcmp, 1, 0, 0, .null) := rfl
theorem f_73_67 : px_at 73 67 = some (.ifCond .ge 9, 3, 76, 0, .null) := rfl
theorem f_73_70 : px_at 73 70 = some (.iinc 8 1, 3, 0, 0, .null) := rfl
theorem f_73_73 : px_at 73 73 = some (.goto (-25), 3, 48, 0, .null) := rfl
theorem f_73_76 : px_at 73 76 = some (.iload 8, 2, 0, 0, .null) := rfl
theorem f_73_78 : px_at 73 78 = some (.aload_n 0, 1, 0, 0, .null) := rfl
theorem f_73_79 : px_at 73 79 = some (.getfield 29, 3, 9, 5, .null) := rfl
theorem f_73_82 : px_at 73 82 = some (.if_icmp .ge 30, 3, 112, 0, .null) := rfl
theorem f_73_85 : px_at 73 85 = some (.aload_n 0, 1, 0, 0, .null) := rfl
theorem f_73_86 : px_at 73 86 = some (.getfield 22, 3, 9, 3, .null) := rfl
theorem f_73_89 : px_at 73 89 = some (.iload 8, 2, 0, 0, .null) := rfl
theorem f_73_91 : px_at 73 91 = some (.laload, 1, 0, 0, .null) := rfl
theorem f_73_92 : px_at 73 92 = some (.lload 6, 2, 0, 0, .null) := rfl
theorem f_73_94 : px_at 73 94 = some (.lcmp, 1, 0, 0, .null) := rfl
theorem f_73_95 : px_at 73 95 = some (.ifCond .ne 17, 3, 112, 0, .null) := rfl
theorem f_73_98 : px_at 73 98 = some (.aload_n 0, 1, 0, 0, .null) := rfl
theorem f_73_99 : px_at 73 99 = some (.getfield 26, 3, 9, 4, .null) := rfl
theorem f_73_102 : px_at 73 102 = some (.iload 8, 2, 0, 0, .null) := rfl
theorem f_73_104 : px_at 73 104 = some (.dup2, 1, 0, 0, .null) := rfl
theorem f_73_105 : px_at 73 105 = some (.iaload, 1, 0, 0, .null) := rfl
theorem f_73_106 : px_at 73 106 = some (.iconst 1, 1, 0, 0, .null) := rfl
theorem f_73_107 : px_at 73 107 = some (.iadd, 1, 0, 0, .null) := rfl
theorem f_73_108 : px_at 73 108 = some (.iastore, 1, 0, 0, .null) := rfl
theorem f_73_109 : px_at 73 109 = some (.goto 90, 3, 199, 0, .null) := rfl
theorem f_73_112 : px_at 73 112 = some (.aload_n 0, 1, 0, 0, .null) := rfl
theorem f_73_113 : px_at 73 113 = some (.getfield 29, 3, 9, 5, .null) := rfl
theorem f_73_116 : px_at 73 116 = some (.bipush 96, 2, 0, 0, .null) := rfl
theorem f_73_118 : px_at 73 118 = some (.if_icmp .ge 81, 3, 199, 0, .null) := rfl
theorem f_73_121 : px_at 73 121 = some (.aload_n 0, 1, 0, 0, .null) := rfl
theorem f_73_122 : px_at 73 122 = some (.getfield 29, 3, 9, 5, .null) := rfl
theorem f_73_125 : px_at 73 125 = some (.istore 9, 2, 0, 0, .null) := rfl
theorem f_73_127 : px_at 73 127 = some (.iload 9, 2, 0, 0, .null) := rfl
theorem f_73_129 : px_at 73 129 = some (.iload 8, 2, 0, 0, .null) := rfl
theorem f_73_131 : px_at 73 131 = some (.if_icmp .le 41, 3, 172, 0, .null) := rfl
theorem f_73_134 : px_at 73 134 = some (.aload_n 0, 1, 0, 0, .null) := rfl
theorem f_73_135 : px_at 73 135 = some (.getfield 22, 3, 9, 3, .null) := rfl
theorem f_73_138 : px_at 73 138 = some (.iload 9, 2, 0, 0, .null) := rfl
theorem f_73_140 : px_at 73 140 = some (.aload_n 0, 1, 0, 0, .null) := rfl
theorem f_73_141 : px_at 73 141 = some (.getfield 22, 3, 9, 3, .null) := rfl
theorem f_73_144 : px_at 73 144 = some (.iload 9, 2, 0, 0, .null) := rfl
theorem f_73_146 : px_at 73 146 = some (.iconst 1, 1, 0, 0, .null) := rfl
theorem f_73_147 : px_at 73 147 = some (.isub, 1, 0, 0, .null) := rfl
theorem f_73_148 : px_at 73 148 = some (.laload, 1, 0, 0, .null) := rfl
theorem f_73_149 : px_at 73 149 = some (.lastore, 1, 0, 0, .null) := rfl
theorem f_73_150 : px_at 73 150 = some (.aload_n 0, 1, 0, 0, .null) := rfl
theorem f_73_151 : px_at 73 151 = some (.getfield 26, 3, 9, 4, .null) := rfl
theorem f_73_154 : px_at 73 154 = some (.iload 9, 2, 0, 0, .null) := rfl
theorem f_73_156 : px_at 73 156 = some (.aload_n 0, 1, 0, 0, .null) := rfl
theorem f_73_157 : px_at 73 157 = some (.getfield 26, 3, 9, 4, .null) := rfl
theorem f_73_160 : px_at 73 160 = some (.iload 9, 2, 0, 0, .null) := rfl
theorem f_73_162 : px_at 73 162 = some (.iconst 1, 1, 0, 0, .null) := rfl
theorem f_73_163 : px_at 73 163 = some (.isub, 1, 0, 0, .null) := rfl
theorem f_73_164 : px_at 73 164 = some (.iaload, 1, 0, 0, .null) := rfl
theorem f_73_165 : px_at 73 165 = some (.iastore, 1, 0, 0, .null) := rfl
theorem f_73_166 : px_at 73 166 = some (.iinc 9 (-1), 3, 0, 0, .null) := rfl
theorem f_73_169 : px_at 73 169 = some (.goto (-42), 3, 127, 0, .null) := rfl
theorem f_73_172 : px_at 73 172 = some (.aload_n 0, 1, 0, 0, .null) := rfl
theorem f_73_173 : px_at 73 173 = some (.getfield 22, 3, 9, 3, .null) := rfl
theorem f_73_176 : px_at 73 176 = some (.iload 8, 2, 0, 0, .null) := rfl
theorem f_73_178 : px_at 73 178 = some (.lload 6, 2, 0, 0, .null) := rfl
theorem f_73_180 : px_at 73 180 = some (.lastore, 1, 0, 0, .null) := rfl
theorem f_73_181 : px_at 73 181 = some (.aload_n 0, 1, 0, 0, .null) := rfl
theorem f_73_182 : px_at 73 182 = some (.getfield 26, 3, 9, 4, .null) := rfl
theorem f_73_185 : px_at 73 185 = some (.iload 8, 2, 0, 0, .null) := rfl
theorem f_73_187 : px_at 73 187 = some (.iconst 1, 1, 0, 0, .null) := rfl
theorem f_73_188 : px_at 73 188 = some (.iastore, 1, 0, 0, .null) := rfl
theorem f_73_189 : px_at 73 189 = some (.aload_n 0, 1, 0, 0, .null) := rfl
theorem f_73_190 : px_at 73 190 = some (.dup, 1, 0, 0, .null) := rfl
theorem f_73_191 : px_at 73 191 = some (.getfield 29, 3, 9, 5, .null) := rfl
theorem f_73_194 : px_at 73 194 = some (.iconst 1, 1, 0, 0, .null) := rfl
theorem f_73_195 : px_at 73 195 = some (.iadd, 1, 0, 0, .null) := rfl
theorem f_73_196 : px_at 73 196 = some (.putfield 29, 3, 9, 5, .null) := rfl
theorem f_73_199 : px_at 73 199 = some (.iconst 1, 1, 0, 0, .null) := rfl
theorem f_73_200 : px_at 73 200 = some (.ireturn, 1, 0, 0, .null) := rfl

theorem f_74_0 : px_at 74 0 = some (.iconst 0, 1, 0, 0, .null) := rfl
theorem f_74_1 : px_at 74 1 = some (.istore_n 2, 1, 0, 0, .null) := rfl
theorem f_74_2 : px_at 74 2 = some (.iload_n 2, 1, 0, 0, .null) := rfl
theorem f_74_3 : px_at 74 3 = some (.aload_n 0, 1, 0, 0, .null) := rfl
theorem f_74_4 : px_at 74 4 = some (.getfield 29, 3, 9, 5, .null) := rfl
theorem f_74_7 : px_at 74 7 = some (.if_icmp .ge 18, 3, 25, 0, .null) := rfl
theorem f_74_10 : px_at 74 10 = some (.aload_n 0, 1, 0, 0, .null) := rfl
theorem f_74_11 : px_at 74 11 = some (.iload_n 2, 1, 0, 0, .null) := rfl
theorem f_74_12 : px_at 74 12 = some (.invokevirtual 34, 3, 75, 1, .null) := rfl
theorem f_74_15 : px_at 74 15 = some (.iload_n 1, 1, 0, 0, .null) := rfl
theorem f_74_16 : px_at 74 16 = some (.if_icmp .gt 9, 3, 25, 0, .null) := rfl
theorem f_74_19 : px_at 74 19 = some (.iinc 2 1, 3, 0, 0, .null) := rfl
theorem f_74_22 : px_at 74 22 = some (.goto (-20), 3, 2, 0, .null) := rfl
theorem f_74_25 : px_at 74 25 = some (.iload_n 2, 1, 0, 0, .null) := rfl
theorem f_74_26 : px_at 74 26 = some (.ireturn, 1, 0, 0, .null) := rfl

theorem f_75_0 : px_at 75 0 = some (.iload_n 1, 1, 0, 0, .null) := rfl
theorem f_75_1 : px_at 75 1 = some (.ifCond .lt 11, 3, 12, 0, .null) := rfl
theorem f_75_4 : px_at 75 4 = some (.iload_n 1, 1, 0, 0, .null) := rfl
theorem f_75_5 : px_at 75 5 = some (.aload_n 0, 1, 0, 0, .null) := rfl
theorem f_75_6 : px_at 75 6 = some (.getfield 29, 3, 9, 5, .null) := rfl
theorem f_75_9 : px_at 75 9 = some (.if_icmp .lt 7, 3, 16, 0, .null) := rfl
theorem f_75_12 : px_at 75 12 = some (.iconst 0, 1, 0, 0, .null) := rfl
theorem f_75_13 : px_at 75 13 = some (.goto 14, 3, 27, 0, .null) := rfl
theorem f_75_16 : px_at 75 16 = some (.aload_n 0, 1, 0, 0, .null) := rfl
theorem f_75_17 : px_at 75 17 = some (.getfield 22, 3, 9, 3, .null) := rfl
theorem f_75_20 : px_at 75 20 = some (.iload_n 1, 1, 0, 0, .null) := rfl
theorem f_75_21 : px_at 75 21 = some (.laload, 1, 0, 0, .null) := rfl
theorem f_75_22 : px_at 75 22 = some (.ldc2_w 32, 3, 0, 0, .long (4)) := rfl
theorem f_75_25 : px_at 75 25 = some (.ldiv, 1, 0, 0, .null) := rfl
theorem f_75_26 : px_at 75 26 = some (.l2i, 1, 0, 0, .null) := rfl
theorem f_75_27 : px_at 75 27 = some (.ireturn, 1, 0, 0, .null) := rfl

theorem f_76_0 : px_at 76 0 = some (.iload_n 1, 1, 0, 0, .null) := rfl
theorem f_76_1 : px_at 76 1 = some (.ifCond .lt 11, 3, 12, 0, .null) := rfl
theorem f_76_4 : px_at 76 4 = some (.iload_n 1, 1, 0, 0, .null) := rfl
theorem f_76_5 : px_at 76 5 = some (.aload_n 0, 1, 0, 0, .null) := rfl
theorem f_76_6 : px_at 76 6 = some (.getfield 29, 3, 9, 5, .null) := rfl
theorem f_76_9 : px_at 76 9 = some (.if_icmp .lt 7, 3, 16, 0, .null) := rfl
theorem f_76_12 : px_at 76 12 = some (.iconst 0, 1, 0, 0, .null) := rfl
theorem f_76_13 : px_at 76 13 = some (.goto 14, 3, 27, 0, .null) := rfl
theorem f_76_16 : px_at 76 16 = some (.aload_n 0, 1, 0, 0, .null) := rfl
theorem f_76_17 : px_at 76 17 = some (.getfield 22, 3, 9, 3, .null) := rfl
theorem f_76_20 : px_at 76 20 = some (.iload_n 1, 1, 0, 0, .null) := rfl
theorem f_76_21 : px_at 76 21 = some (.laload, 1, 0, 0, .null) := rfl
theorem f_76_22 : px_at 76 22 = some (.ldc2_w 32, 3, 0, 0, .long (4)) := rfl
theorem f_76_25 : px_at 76 25 = some (.lrem, 1, 0, 0, .null) := rfl
theorem f_76_26 : px_at 76 26 = some (.l2i, 1, 0, 0, .null) := rfl
theorem f_76_27 : px_at 76 27 = some (.ireturn, 1, 0, 0, .null) := rfl

theorem f_77_0 : px_at 77 0 = some (.iload_n 1, 1, 0, 0, .null) := rfl
theorem f_77_1 : px_at 77 1 = some (.ifCond .lt 11, 3, 12, 0, .null) := rfl
theorem f_77_4 : px_at 77 4 = some (.iload_n 1, 1, 0, 0, .null) := rfl
theorem f_77_5 : px_at 77 5 = some (.aload_n 0, 1, 0, 0, .null) := rfl
theorem f_77_6 : px_at 77 6 = some (.getfield 29, 3, 9, 5, .null) := rfl
theorem f_77_9 : px_at 77 9 = some (.if_icmp .lt 7, 3, 16, 0, .null) := rfl
theorem f_77_12 : px_at 77 12 = some (.iconst 0, 1, 0, 0, .null) := rfl
theorem f_77_13 : px_at 77 13 = some (.goto 9, 3, 22, 0, .null) := rfl
theorem f_77_16 : px_at 77 16 = some (.aload_n 0, 1, 0, 0, .null) := rfl
theorem f_77_17 : px_at 77 17 = some (.getfield 26, 3, 9, 4, .null) := rfl
theorem f_77_20 : px_at 77 20 = some (.iload_n 1, 1, 0, 0, .null) := rfl
theorem f_77_21 : px_at 77 21 = some (.iaload, 1, 0, 0, .null) := rfl
theorem f_77_22 : px_at 77 22 = some (.ireturn, 1, 0, 0, .null) := rfl

theorem f_78_0 : px_at 78 0 = some (.iload_n 1, 1, 0, 0, .null) := rfl
theorem f_78_1 : px_at 78 1 = some (.istore_n 2, 1, 0, 0, .null) := rfl
theorem f_78_2 : px_at 78 2 = some (.iload_n 2, 1, 0, 0, .null) := rfl
theorem f_78_3 : px_at 78 3 = some (.aload_n 0, 1, 0, 0, .null) := rfl
theorem f_78_4 : px_at 78 4 = some (.getfield 29, 3, 9, 5, .null) := rfl
theorem f_78_7 : px_at 78 7 = some (.if_icmp .ge 37, 3, 44, 0, .null) := rfl
theorem f_78_10 : px_at 78 10 = some (.aload_n 0, 1, 0, 0, .null) := rfl
theorem f_78_11 : px_at 78 11 = some (.getfield 22, 3, 9, 3, .null) := rfl
theorem f_78_14 : px_at 78 14 = some (.iload_n 2, 1, 0, 0, .null) := rfl
theorem f_78_15 : px_at 78 15 = some (.iload_n 1, 1, 0, 0, .null) := rfl
theorem f_78_16 : px_at 78 16 = some (.isub, 1, 0, 0, .null) := rfl
theorem f_78_17 : px_at 78 17 = some (.aload_n 0, 1, 0, 0, .null) := rfl
theorem f_78_18 : px_at 78 18 = some (.getfield 22, 3, 9, 3, .null) := rfl
theorem f_78_21 : px_at 78 21 = some (.iload_n 2, 1, 0, 0, .null) := rfl
theorem f_78_22 : px_at 78 22 = some (.laload, 1, 0, 0, .null) := rfl
theorem f_78_23 : px_at 78 23 = some (.lastore, 1, 0, 0, .null) := rfl
theorem f_78_24 : px_at 78 24 = some (.aload_n 0, 1, 0, 0, .null) := rfl
theorem f_78_25 : px_at 78 25 = some (.getfield 26, 3, 9, 4, .null) := rfl
theorem f_78_28 : px_at 78 28 = some (.iload_n 2, 1, 0, 0, .null) := rfl
theorem f_78_29 : px_at 78 29 = some (.iload_n 1, 1, 0, 0, .null) := rfl
theorem f_78_30 : px_at 78 30 = some (.isub, 1, 0, 0, .null) := rfl
theorem f_78_31 : px_at 78 31 = some (.aload_n 0, 1, 0, 0, .null) := rfl
theorem f_78_32 : px_at 78 32 = some (.getfield 26, 3, 9, 4, .null) := rfl
theorem f_78_35 : px_at 78 35 = some (.iload_n 2, 1, 0, 0, .null) := rfl
theorem f_78_36 : px_at 78 36 = some (.iaload, 1, 0, 0, .null) := rfl
theorem f_78_37 : px_at 78 37 = some (.iastore, 1, 0, 0, .null) := rfl
theorem f_78_38 : px_at 78 38 = some (.iinc 2 1, 3, 0, 0, .null) := rfl
theorem f_78_41 : px_at 78 41 = some (.goto (-39), 3, 2, 0, .null) := rfl
theorem f_78_44 : px_at 78 44 = some (.aload_n 0, 1, 0, 0, .null) := rfl
theorem f_78_45 : px_at 78 45 = some (.iconst 0, 1, 0, 0, .null) := rfl
theorem f_78_46 : px_at 78 46 = some (.aload_n 0, 1, 0, 0, .null) := rfl
theorem f_78_47 : px_at 78 47 = some (.getfield 29, 3, 9, 5, .null) := rfl
theorem f_78_50 : px_at 78 50 = some (.iload_n 1, 1, 0, 0, .null) := rfl
theorem f_78_51 : px_at 78 51 = some (.isub, 1, 0, 0, .null) := rfl
theorem f_78_52 : px_at 78 52 = some (.invokestatic 38, 3, 0, 11, .null) := rfl
theorem f_78_55 : px_at 78 55 = some (.putfield 29, 3, 9, 5, .null) := rfl
theorem f_78_58 : px_at 78 58 = some (.return_, 1, 0, 0, .null) := rfl
