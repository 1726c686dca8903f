theorem f_114_0 : px_at 114 0 = some (.aload_n 1, 1, 0, 0, .null) := rfl
theorem f_114_1 : px_at 114 1 = some (.getfield 214, 3, 10, 7, .null) := rfl
theorem f_114_4 : px_at 114 4 = some (.bipush (-4), 2, 0, 0, .null) := rfl
theorem f_114_6 : px_at 114 6 = some (.if_icmp .eq 4, 3, 10, 0, .null) := rfl
theorem f_114_9 : px_at 114 9 = some (.return_, 1, 0, 0, .null) := rfl
theorem f_114_10 : px_at 114 10 = some (.aload_n 0, 1, 0, 0, .null) := rfl
theorem f_114_11 : px_at 114 11 = some (.getfield 51, 3, 11, 7, .null) := rfl
theorem f_114_14 : px_at 114 14 = some (.aload_n 1, 1, 0, 0, .null) := rfl
theorem f_114_15 : px_at 114 15 = some (.invokevirtual 258, 3, 20, 1, .null) := rfl
theorem f_114_18 : px_at 114 18 = some (.aload_n 0, 1, 0, 0, .null) := rfl
theorem f_114_19 : px_at 114 19 = some (.getfield 37, 3, 11, 5, .null) := rfl
theorem f_114_22 : px_at 114 22 = some (.aload_n 0, 1, 0, 0, .null) := rfl
theorem f_114_23 : px_at 114 23 = some (.getfield 20, 3, 11, 2, .null) := rfl
theorem f_114_26 : px_at 114 26 = some (.getfield 113, 3, 8, 0, .null) := rfl
theorem f_114_29 : px_at 114 29 = some (.aload_n 1, 1, 0, 0, .null) := rfl
theorem f_114_30 : px_at 114 30 = some (.aload_n 0, 1, 0, 0, .null) := rfl
theorem f_114_31 : px_at 114 31 = some (.getfield 51, 3, 11, 7, .null) := rfl
theorem f_114_34 : px_at 114 34 = some (.invokevirtual 261, 3, 48, 1, .null) := rfl
theorem f_114_37 : px_at 114 37 = some (.aload_n 0, 1, 0, 0, .null) := rfl
theorem f_114_38 : px_at 114 38 = some (.getfield 44, 3, 11, 6, .null) := rfl
theorem f_114_41 : px_at 114 41 = some (.aload_n 1, 1, 0, 0, .null) := rfl
theorem f_114_42 : px_at 114 42 = some (.aload_n 0, 1, 0, 0, .null) := rfl
theorem f_114_43 : px_at 114 43 = some (.getfield 37, 3, 11, 5, .null) := rfl
theorem f_114_46 : px_at 114 46 = some (.invokevirtual 132, 3, 11, 1, .null) := rfl
theorem f_114_49 : px_at 114 49 = some (.istore_n 2, 1, 0, 0, .null) := rfl
theorem f_114_50 : px_at 114 50 = some (.iload_n 2, 1, 0, 0, .null) := rfl
theorem f_114_51 : px_at 114 51 = some (.iconst 1, 1, 0, 0, .null) := rfl
theorem f_114_52 : px_at 114 52 = some (.if_icmp .ne 10, 3, 62, 0, .null) := rfl
theorem f_114_55 : px_at 114 55 = some (.aload_n 1, 1, 0, 0, .null) := rfl
theorem f_114_56 : px_at 114 56 = some (.bipush (-2), 2, 0, 0, .null) := rfl
theorem f_114_58 : px_at 114 58 = some (.putfield 214, 3, 10, 7, .null) := rfl
theorem f_114_61 : px_at 114 61 = some (.return_, 1, 0, 0, .null) := rfl
theorem f_114_62 : px_at 114 62 = some (.iconst 0, 1, 0, 0, .null) := rfl
theorem f_114_63 : px_at 114 63 = some (.istore_n 3, 1, 0, 0, .null) := rfl
theorem f_114_64 : px_at 114 64 = some (.sipush 600, 3, 0, 0, .null) := rfl
theorem f_114_67 : px_at 114 67 = some (.istore 4, 2, 0, 0, .null) := rfl
theorem f_114_69 : px_at 114 69 = some (.iconst 0, 1, 0, 0, .null) := rfl
theorem f_114_70 : px_at 114 70 = some (.istore 5, 2, 0, 0, .null) := rfl
theorem f_114_72 : px_at 114 72 = some (.iload 5, 2, 0, 0, .null) := rfl
theorem f_114_74 : px_at 114 74 = some (.iload 4, 2, 0, 0, .null) := rfl
theorem f_114_76 : px_at 114 76 = some (.if_icmp .ge 87, 3, 163, 0, .null) := rfl
theorem f_114_79 : px_at 114 79 = some (.iload_n 3, 1, 0, 0, .null) := rfl
theorem f_114_80 : px_at 114 80 = some (.aload_n 0, 1, 0, 0, .null) := rfl
theorem f_114_81 : px_at 114 81 = some (.getfield 51, 3, 11, 7, .null) := rfl
theorem f_114_84 : px_at 114 84 = some (.getfield 284, 3, 3, 1, .null) := rfl
theorem f_114_87 : px_at 114 87 = some (.if_icmp .ge 76, 3, 163, 0, .null) := rfl
theorem f_114_90 : px_at 114 90 = some (.aload_n 0, 1, 0, 0, .null) := rfl
theorem f_114_91 : px_at 114 91 = some (.getfield 55, 3, 11, 8, .null) := rfl
theorem f_114_94 : px_at 114 94 = some (.aload_n 0, 1, 0, 0, .null) := rfl
theorem f_114_95 : px_at 114 95 = some (.getfield 51, 3, 11, 7, .null) := rfl
theorem f_114_98 : px_at 114 98 = some (.iload_n 3, 1, 0, 0, .null) := rfl
theorem f_114_99 : px_at 114 99 = some (.invokevirtual 285, 3, 23, 1, .null) := rfl
theorem f_114_102 : px_at 114 102 = some (.aload_n 0, 1, 0, 0, .null) := rfl
theorem f_114_103 : px_at 114 103 = some (.getfield 37, 3, 11, 5, .null) := rfl
theorem f_114_106 : px_at 114 106 = some (.aload_n 0, 1, 0, 0, .null) := rfl
theorem f_114_107 : px_at 114 107 = some (.getfield 20, 3, 11, 2, .null) := rfl
theorem f_114_110 : px_at 114 110 = some (.getfield 113, 3, 8, 0, .null) := rfl
theorem f_114_113 : px_at 114 113 = some (.aload_n 1, 1, 0, 0, .null) := rfl
theorem f_114_114 : px_at 114 114 = some (.aload_n 0, 1, 0, 0, .null) := rfl
theorem f_114_115 : px_at 114 115 = some (.getfield 55, 3, 11, 8, .null) := rfl
theorem f_114_118 : px_at 114 118 = some (.invokevirtual 261, 3, 48, 1, .null) := rfl
theorem f_114_121 : px_at 114 121 = some (.aload_n 0, 1, 0, 0, .null) := rfl
theorem f_114_122 : px_at 114 122 = some (.getfield 44, 3, 11, 6, .null) := rfl
theorem f_114_125 : px_at 114 125 = some (.aload_n 1, 1, 0, 0, .null) := rfl
theorem f_114_126 : px_at 114 126 = some (.aload_n 0, 1, 0, 0, .null) := rfl
theorem f_114_127 : px_at 114 127 = some (.getfield 37, 3, 11, 5, .null) := rfl
theorem f_114_130 : px_at 114 130 = some (.invokevirtual 132, 3, 11, 1, .null) := rfl
theorem f_114_133 : px_at 114 133 = some (.iload_n 2, 1, 0, 0, .null) := rfl
theorem f_114_134 : px_at 114 134 = some (.if_icmp .ne 20, 3, 154, 0, .null) := rfl
theorem f_114_137 : px_at 114 137 = some (.aload_n 0, 1, 0, 0, .null) := rfl
theorem f_114_138 : px_at 114 138 = some (.getfield 51, 3, 11, 7, .null) := rfl
theorem f_114_141 : px_at 114 141 = some (.aload_n 0, 1, 0, 0, .null) := rfl
theorem f_114_142 : px_at 114 142 = some (.getfield 51, 3, 11, 7, .null) := rfl
theorem f_114_145 : px_at 114 145 = some (.iload_n 3, 1, 0, 0, .null) := rfl
theorem f_114_146 : px_at 114 146 = some (.invokevirtual 285, 3, 23, 1, .null) := rfl
theorem f_114_149 : px_at 114 149 = some (.iconst 0, 1, 0, 0, .null) := rfl
theorem f_114_150 : px_at 114 150 = some (.istore_n 3, 1, 0, 0, .null) := rfl
theorem f_114_151 : px_at 114 151 = some (.goto 6, 3, 157, 0, .null) := rfl
theorem f_114_154 : px_at 114 154 = some (.iinc 3 1, 3, 0, 0, .null) := rfl
theorem f_114_157 : px_at 114 157 = some (.iinc 5 1, 3, 0, 0, .null) := rfl
theorem f_114_160 : px_at 114 160 = some (.goto (-88), 3, 72, 0, .null) := rfl
theorem f_114_163 : px_at 114 163 = some (.aload_n 1, 1, 0, 0, .null) := rfl
theorem f_114_164 : px_at 114 164 = some (.aload_n 0, 1, 0, 0, .null) := rfl
theorem f_114_165 : px_at 114 165 = some (.getfield 51, 3, 11, 7, .null) := rfl
theorem f_114_168 : px_at 114 168 = some (.invokevirtual 289, 3, 87, 1, .null) := rfl
theorem f_114_171 : px_at 114 171 = some (.return_, 1, 0, 0, .null) := rfl

theorem f_115_0 : px_at 115 0 = some (.aload_n 0, 1, 0, 0, .null) := rfl
theorem f_115_1 : px_at 115 1 = some (.getfield 95, 3, 11, 16, .null) := rfl
theorem f_115_4 : px_at 115 4 = some (.ifCond .eq 4, 3, 8, 0, .null) := rfl
theorem f_115_7 : px_at 115 7 = some (.return_, 1, 0, 0, .null) := rfl
theorem f_115_8 : px_at 115 8 = some (.aload_n 0, 1, 0, 0, .null) := rfl
theorem f_115_9 : px_at 115 9 = some (.getfield 37, 3, 11, 5, .null) := rfl
theorem f_115_12 : px_at 115 12 = some (.invokevirtual 293, 3, 47, 1, .null) := rfl
theorem f_115_15 : px_at 115 15 = some (.iconst 0, 1, 0, 0, .null) := rfl
theorem f_115_16 : px_at 115 16 = some (.istore_n 1, 1, 0, 0, .null) := rfl
theorem f_115_17 : px_at 115 17 = some (.iload_n 1, 1, 0, 0, .null) := rfl
theorem f_115_18 : px_at 115 18 = some (.aload_n 0, 1, 0, 0, .null) := rfl
theorem f_115_19 : px_at 115 19 = some (.getfield 20, 3, 11, 2, .null) := rfl
theorem f_115_22 : px_at 115 22 = some (.getfield 110, 3, 8, 2, .null) := rfl
theorem f_115_25 : px_at 115 25 = some (.if_icmp .ge 52, 3, 77, 0, .null) := rfl
theorem f_115_28 : px_at 115 28 = some (.aload_n 0, 1, 0, 0, .null) := rfl
theorem f_115_29 : px_at 115 29 = some (.getfield 51, 3, 11, 7, .null) := rfl
theorem f_115_32 : px_at 115 32 = some (.aload_n 0, 1, 0, 0, .null) := rfl
theorem f_115_33 : px_at 115 33 = some (.getfield 20, 3, 11, 2, .null) := rfl
theorem f_115_36 : px_at 115 36 = some (.getfield 128, 3, 8, 1, .null) := rfl
theorem f_115_39 : px_at 115 39 = some (.iload_n 1, 1, 0, 0, .null) := rfl
theorem f_115_40 : px_at 115 40 = some (.aaload, 1, 0, 0, .null) := rfl
theorem f_115_41 : px_at 115 41 = some (.invokevirtual 258, 3, 20, 1, .null) := rfl
theorem f_115_44 : px_at 115 44 = some (.aload_n 0, 1, 0, 0, .null) := rfl
theorem f_115_45 : px_at 115 45 = some (.getfield 37, 3, 11, 5, .null) := rfl
theorem f_115_48 : px_at 115 48 = some (.aload_n 0, 1, 0, 0, .null) := rfl
theorem f_115_49 : px_at 115 49 = some (.getfield 20, 3, 11, 2, .null) := rfl
theorem f_115_52 : px_at 115 52 = some (.getfield 113, 3, 8, 0, .null) := rfl
theorem f_115_55 : px_at 115 55 = some (.aload_n 0, 1, 0, 0, .null) := rfl
theorem f_115_56 : px_at 115 56 = some (.getfield 20, 3, 11, 2, .null) := rfl
theorem f_115_59 : px_at 115 59 = some (.getfield 128, 3, 8, 1, .null) := rfl
theorem f_115_62 : px_at 115 62 = some (.iload_n 1, 1, 0, 0, .null) := rfl
theorem f_115_63 : px_at 115 63 = some (.aaload, 1, 0, 0, .null) := rfl
theorem f_115_64 : px_at 115 64 = some (.aload_n 0, 1, 0, 0, .null) := rfl
theorem f_115_65 : px_at 115 65 = some (.getfield 51, 3, 11, 7, .null) := rfl
theorem f_115_68 : px_at 115 68 = some (.invokevirtual 261, 3, 48, 1, .null) := rfl
theorem f_115_71 : px_at 115 71 = some (.iinc 1 1, 3, 0, 0, .null) := rfl
theorem f_115_74 : px_at 115 74 = some (.goto (-57), 3, 17, 0, .null) := rfl
theorem f_115_77 : px_at 115 77 = some (.aload_n 0, 1, 0, 0, .null) := rfl
theorem f_115_78 : px_at 115 78 = some (.getfield 37, 3, 11, 5, .null) := rfl
theorem f_115_81 : px_at 115 81 = some (.getfield 296, 3, 6, 10, .null) := rfl
theorem f_115_84 : px_at 115 84 = some (.iconst 0, 1, 0, 0, .null) := rfl
theorem f_115_85 : px_at 115 85 = some (.aload_n 0, 1, 0, 0, .null) := rfl
theorem f_115_86 : px_at 115 86 = some (.getfield 92, 3, 11, 15, .null) := rfl
theorem f_115_89 : px_at 115 89 = some (.iconst 0, 1, 0, 0, .null) := rfl
theorem f_115_90 : px_at 115 90 = some (.aload_n 0, 1, 0, 0, .null) := rfl
theorem f_115_91 : px_at 115 91 = some (.getfield 92, 3, 11, 15, .null) := rfl
theorem f_115_94 : px_at 115 94 = some (.arraylength, 1, 0, 0, .null) := rfl
theorem f_115_95 : px_at 115 95 = some (.invokestatic 299, 3, 0, 16, .null) := rfl
theorem f_115_98 : px_at 115 98 = some (.aload_n 0, 1, 0, 0, .null) := rfl
theorem f_115_99 : px_at 115 99 = some (.iconst 1, 1, 0, 0, .null) := rfl
theorem f_115_100 : px_at 115 100 = some (.putfield 95, 3, 11, 16, .null) := rfl
theorem f_115_103 : px_at 115 103 = some (.return_, 1, 0, 0, .null) := rfl

theorem f_116_0 : px_at 116 0 = some (.aload_n 0, 1, 0, 0, .null) := rfl
theorem f_116_1 : px_at 116 1 = some (.getfield 89, 3, 11, 14, .null) := rfl
theorem f_116_4 : px_at 116 4 = some (.ifCond .eq 4, 3, 8, 0, .null) := rfl
theorem f_116_7 : px_at 116 7 = some (.return_, 1, 0, 0, .null) := rfl
theorem f_116_8 : px_at 116 8 = some (.aload_n 0, 1, 0, 0, .null) := rfl
theorem f_116_9 : px_at 116 9 = some (.getfield 20, 3, 11, 2, .null) := rfl
theorem f_116_12 : px_at 116 12 = some (.getfield 113, 3, 8, 0, .null) := rfl
theorem f_116_15 : px_at 116 15 = some (.invokevirtual 117, 3, 4, 1, .null) := rfl
theorem f_116_18 : px_at 116 18 = some (.istore_n 1, 1, 0, 0, .null) := rfl
theorem f_116_19 : px_at 116 19 = some (.iconst 0, 1, 0, 0, .null) := rfl
theorem f_116_20 : px_at 116 20 = some (.istore_n 2, 1, 0, 0, .null) := rfl
theorem f_116_21 : px_at 116 21 = some (.iload_n 2, 1, 0, 0, .null) := rfl
theorem f_116_22 : px_at 116 22 = some (.bipush 30, 2, 0, 0, .null) := rfl
theorem f_116_24 : px_at 116 24 = some (.if_icmp .ge 16, 3, 40, 0, .null) := rfl
theorem f_116_27 : px_at 116 27 = some (.aload_n 0, 1, 0, 0, .null) := rfl
theorem f_116_28 : px_at 116 28 = some (.getfield 85, 3, 11, 13, .null) := rfl
theorem f_116_31 : px_at 116 31 = some (.iload_n 2, 1, 0, 0, .null) := rfl
theorem f_116_32 : px_at 116 32 = some (.iconst 0, 1, 0, 0, .null) := rfl
theorem f_116_33 : px_at 116 33 = some (.iastore, 1, 0, 0, .null) := rfl
theorem f_116_34 : px_at 116 34 = some (.iinc 2 1, 3, 0, 0, .null) := rfl
theorem f_116_37 : px_at 116 37 = some (.goto (-16), 3, 21, 0, .null) := rfl
theorem f_116_40 : px_at 116 40 = some (.iconst 0, 1, 0, 0, .null) := rfl
theorem f_116_41 : px_at 116 41 = some (.istore_n 2, 1, 0, 0, .null) := rfl
theorem f_116_42 : px_at 116 42 = some (.iload_n 2, 1, 0, 0, .null) := rfl
theorem f_116_43 : px_at 116 43 = some (.aload_n 0, 1, 0, 0, .null) := rfl
theorem f_116_44 : px_at 116 44 = some (.getfield 20, 3, 11, 2, .null) := rfl
theorem f_116_47 : px_at 116 47 = some (.getfield 110, 3, 8, 2, .null) := rfl
theorem f_116_50 : px_at 116 50 = some (.if_icmp .ge 145, 3, 195, 0, .null) := rfl
theorem f_116_53 : px_at 116 53 = some (.aload_n 0, 1, 0, 0, .null) := rfl
theorem f_116_54 : px_at 116 54 = some (.getfield 20, 3, 11, 2, .null) := rfl
theorem f_116_57 : px_at 116 57 = some (.getfield 128, 3, 8, 1, .null) := rfl
theorem f_116_60 : px_at 116 60 = some (.iload_n 2, 1, 0, 0, .null) := rfl
theorem f_116_61 : px_at 116 61 = some (.aaload, 1, 0, 0, .null) := rfl
theorem f_116_62 : px_at 116 62 = some (.astore_n 3, 1, 0, 0, .null) := rfl
theorem f_116_63 : px_at 116 63 = some (.aload_n 0, 1, 0, 0, .null) := rfl
theorem f_116_64 : px_at 116 64 = some (.getfield 51, 3, 11, 7, .null) := rfl
theorem f_116_67 : px_at 116 67 = some (.aload_n 3, 1, 0, 0, .null) := rfl
theorem f_116_68 : px_at 116 68 = some (.invokevirtual 258, 3, 20, 1, .null) := rfl
theorem f_116_71 : px_at 116 71 = some (.aload_n 0, 1, 0, 0, .null) := rfl
theorem f_116_72 : px_at 116 72 = some (.getfield 37, 3, 11, 5, .null) := rfl
theorem f_116_75 : px_at 116 75 = some (.aload_n 0, 1, 0, 0, .null) := rfl
theorem f_116_76 : px_at 116 76 = some (.getfield 20, 3, 11, 2, .null) := rfl
theorem f_116_79 : px_at 116 79 = some (.getfield 113, 3, 8, 0, .null) := rfl
theorem f_116_82 : px_at 116 82 = some (.aload_n 3, 1, 0, 0, .null) := rfl
theorem f_116_83 : px_at 116 83 = some (.aload_n 0, 1, 0, 0, .null) := rfl
theorem f_116_84 : px_at 116 84 = some (.getfield 51, 3, 11, 7, .null) := rfl
theorem f_116_87 : px_at 116 87 = some (.invokevirtual 261, 3, 48, 1, .null) := rfl
theorem f_116_90 : px_at 116 90 = some (.aload_n 0, 1, 0, 0, .null) := rfl
theorem f_116_91 : px_at 116 91 = some (.getfield 44, 3, 11, 6, .null) := rfl
theorem f_116_94 : px_at 116 94 = some (.aload_n 3, 1, 0, 0, .null) := rfl
theorem f_116_95 : px_at 116 95 = some (.aload_n 0, 1, 0, 0, .null) := rfl
theorem f_116_96 : px_at 116 96 = some (.getfield 37, 3, 11, 5, .null) := rfl
theorem f_116_99 : px_at 116 99 = some (.invokevirtual 132, 3, 11, 1, .null) := rfl
theorem f_116_102 : px_at 116 102 = some (.iconst 1, 1, 0, 0, .null) := rfl
theorem f_116_103 : px_at 116 103 = some (.if_icmp .ne 86, 3, 189, 0, .null) := rfl
theorem f_116_106 : px_at 116 106 = some (.iconst 0, 1, 0, 0, .null) := rfl
theorem f_116_107 : px_at 116 107 = some (.istore 4, 2, 0, 0, .null) := rfl
theorem f_116_109 : px_at 116 109 = some (.iload 4, 2, 0, 0, .null) := rfl
theorem f_116_111 : px_at 116 111 = some (.iload_n 1, 1, 0, 0, .null) := rfl
theorem f_116_112 : px_at 116 112 = some (.if_icmp .ge 77, 3, 189, 0, .null) := rfl
theorem f_116_115 : px_at 116 115 = some (.iload 4, 2, 0, 0, .null) := rfl
theorem f_116_117 : px_at 116 117 = some (.bipush 30, 2, 0, 0, .null) := rfl
theorem f_116_119 : px_at 116 119 = some (.if_icmp .ge 70, 3, 189, 0, .null) := rfl
theorem f_116_122 : px_at 116 122 = some (.aload_n 0, 1, 0, 0, .null) := rfl
theorem f_116_123 : px_at 116 123 = some (.getfield 68, 3, 11, 10, .null) := rfl
theorem f_116_126 : px_at 116 126 = some (.aload_n 0, 1, 0, 0, .null) := rfl
theorem f_116_127 : px_at 116 127 = some (.getfield 20, 3, 11, 2, .null) := rfl
theorem f_116_130 : px_at 116 130 = some (.getfield 113, 3, 8, 0, .null) := rfl
theorem f_116_133 : px_at 116 133 = some (.iload 4, 2, 0, 0, .null) := rfl
theorem f_116_135 : px_at 116 135 = some (.invokevirtual 305, 3, 7, 1, .null) := rfl
theorem f_116_138 : px_at 116 138 = some (.aload_n 0, 1, 0, 0, .null) := rfl
theorem f_116_139 : px_at 116 139 = some (.getfield 37, 3, 11, 5, .null) := rfl
theorem f_116_142 : px_at 116 142 = some (.aload_n 0, 1, 0, 0, .null) := rfl
theorem f_116_143 : px_at 116 143 = some (.getfield 68, 3, 11, 10, .null) := rfl
theorem f_116_146 : px_at 116 146 = some (.aload_n 3, 1, 0, 0, .null) := rfl
theorem f_116_147 : px_at 116 147 = some (.aload_n 0, 1, 0, 0, .null) := rfl
theorem f_116_148 : px_at 116 148 = some (.getfield 51, 3, 11, 7, .null) := rfl
theorem f_116_151 : px_at 116 151 = some (.invokevirtual 261, 3, 48, 1, .null) := rfl
theorem f_116_154 : px_at 116 154 = some (.aload_n 0, 1, 0, 0, .null) := rfl
theorem f_116_155 : px_at 116 155 = some (.getfield 44, 3, 11, 6, .null) := rfl
theorem f_116_158 : px_at 116 158 = some (.aload_n 3, 1, 0, 0, .null) := rfl
theorem f_116_159 : px_at 116 159 = some (.aload_n 0, 1, 0, 0, .null) := rfl
theorem f_116_160 : px_at 116 160 = some (.getfield 37, 3, 11, 5, .null) := rfl
theorem f_116_163 : px_at 116 163 = some (.invokevirtual 132, 3, 11, 1, .null) := rfl
theorem f_116_166 : px_at 116 166 = some (.iconst 1, 1, 0, 0, .null) := rfl
theorem f_116_167 : px_at 116 167 = some (.if_icmp .eq 16, 3, 183, 0, .null) := rfl
theorem f_116_170 : px_at 116 170 = some (.aload_n 0, 1, 0, 0, .null) := rfl
theorem f_116_171 : px_at 116 171 = some (.getfield 85, 3, 11, 13, .null) := rfl
theorem f_116_174 : px_at 116 174 = some (.iload 4, 2, 0, 0, .null) := rfl
theorem f_116_176 : px_at 116 176 = some (.dup2, 1, 0, 0, .null) := rfl
theorem f_116_177 : px_at 116 177 = some (.iaload, 1, 0, 0, .null) := rfl
theorem f_116_178 : px_at 116 178 = some (.iconst 1, 1, 0, 0, .null) := rfl
theorem f_116_179 : px_at 116 179 = some (.iload_n 2, 1, 0, 0, .null) := rfl
theorem f_116_180 : px_at 116 180 = some (.ishl, 1, 0, 0, .null) := rfl
theorem f_116_181 : px_at 116 181 = some (.ior, 1, 0, 0, .null) := rfl
theorem f_116_182 : px_at 116 182 = some (.iastore, 1, 0, 0, .null) := rfl
theorem f_116_183 : px_at 116 183 = some (.iinc 4 1, 3, 0, 0, .null) := rfl
theorem f_116_186 : px_at 116 186 = some (.goto (-77), 3, 109, 0, .null) := rfl
theorem f_116_189 : px_at 116 189 = some (.iinc 2 1, 3, 0, 0, .null) := rfl
theorem f_116_192 : px_at 116 192 = some (.goto (-150), 3, 42, 0, .null) := rfl
theorem f_116_195 : px_at 116 195 = some (.aload_n 0, 1, 0, 0, .null) := rfl
theorem f_116_196 : px_at 116 196 = some (.iconst 1, 1, 0, 0, .null) := rfl
theorem f_116_197 : px_at 116 197 = some (.putfield 89, 3, 11, 14, .null) := rfl
theorem f_116_200 : px_at 116 200 = some (.return_, 1, 0, 0, .null) := rfl

theorem f_118_0 : px_at 118 0 = some (.iload_n 0, 1, 0, 0, .null) := rfl
theorem f_118_1 : px_at 118 1 = some (.iload_n 1, 1, 0, 0, .null) := rfl
theorem f_118_2 : px_at 118 2 = some (.if_icmp .lt 12, 3, 14, 0, .null) := rfl
theorem f_118_5 : px_at 118 5 = some (.iload_n 0, 1, 0, 0, .null) := rfl
theorem f_118_6 : px_at 118 6 = some (.iload_n 2, 1, 0, 0, .null) := rfl
theorem f_118_7 : px_at 118 7 = some (.if_icmp .gt 7, 3, 14, 0, .null) := rfl
theorem f_118_10 : px_at 118 10 = some (.iconst 1, 1, 0, 0, .null) := rfl
theorem f_118_11 : px_at 118 11 = some (.goto 4, 3, 15, 0, .null) := rfl
theorem f_118_14 : px_at 118 14 = some (.iconst 0, 1, 0, 0, .null) := rfl
theorem f_118_15 : px_at 118 15 = some (.ireturn, 1, 0, 0, .null) := rfl

theorem f_119_0 : px_at 119 0 = some (.iload_n 3, 1, 0, 0, .null) := rfl
theorem f_119_1 : px_at 119 1 = some (.iconst 1, 1, 0, 0, .null) := rfl
theorem f_119_2 : px_at 119 2 = some (.bipush 8, 2, 0, 0, .null) := rfl
theorem f_119_4 : px_at 119 4 = some (.invokestatic 115, 3, 118, 2, .null) := rfl
theorem f_119_7 : px_at 119 7 = some (.ifCond .ne 5, 3, 12, 0, .null) := rfl
theorem f_119_10 : px_at 119 10 = some (.iconst (-1), 1, 0, 0, .null) := rfl
theorem f_119_11 : px_at 119 11 = some (.ireturn, 1, 0, 0, .null) := rfl
theorem f_119_12 : px_at 119 12 = some (.iconst 0, 1, 0, 0, .null) := rfl
theorem f_119_13 : px_at 119 13 = some (.istore 4, 2, 0, 0, .null) := rfl
theorem f_119_15 : px_at 119 15 = some (.iload 4, 2, 0, 0, .null) := rfl
theorem f_119_17 : px_at 119 17 = some (.iload_n 3, 1, 0, 0, .null) := rfl
theorem f_119_18 : px_at 119 18 = some (.if_icmp .ge 33, 3, 51, 0, .null) := rfl
theorem f_119_21 : px_at 119 21 = some (.lload_n 1, 1, 0, 0, .null) := rfl
theorem f_119_22 : px_at 119 22 = some (.bipush 8, 2, 0, 0, .null) := rfl
theorem f_119_24 : px_at 119 24 = some (.iload 4, 2, 0, 0, .null) := rfl
theorem f_119_26 : px_at 119 26 = some (.imul, 1, 0, 0, .null) := rfl
theorem f_119_27 : px_at 119 27 = some (.lshr, 1, 0, 0, .null) := rfl
theorem f_119_28 : px_at 119 28 = some (.ldc2_w 119, 3, 0, 0, .long (255)) := rfl
theorem f_119_31 : px_at 119 31 = some (.land, 1, 0, 0, .null) := rfl
theorem f_119_32 : px_at 119 32 = some (.l2i, 1, 0, 0, .null) := rfl
theorem f_119_33 : px_at 119 33 = some (.bipush 32, 2, 0, 0, .null) := rfl
theorem f_119_35 : px_at 119 35 = some (.bipush 126, 2, 0, 0, .null) := rfl
theorem f_119_37 : px_at 119 37 = some (.invokestatic 115, 3, 118, 2, .null) := rfl
theorem f_119_40 : px_at 119 40 = some (.ifCond .ne 5, 3, 45, 0, .null) := rfl
theorem f_119_43 : px_at 119 43 = some (.iconst (-1), 1, 0, 0, .null) := rfl
theorem f_119_44 : px_at 119 44 = some (.ireturn, 1, 0, 0, .null) := rfl
theorem f_119_45 : px_at 119 45 = some (.iinc 4 1, 3, 0, 0, .null) := rfl
theorem f_119_48 : px_at 119 48 = some (.goto (-33), 3, 15, 0, .null) := rfl
theorem f_119_51 : px_at 119 51 = some (.aload_n 0, 1, 0, 0, .null) := rfl
theorem f_119_52 : px_at 119 52 = some (.getfield 121, 3, 12, 1, .null) := rfl
theorem f_119_55 : px_at 119 55 = some (.iload_n 3, 1, 0, 0, .null) := rfl
theorem f_119_56 : px_at 119 56 = some (.iadd, 1, 0, 0, .null) := rfl
theorem f_119_57 : px_at 119 57 = some (.sipush 500, 3, 0, 0, .null) := rfl
theorem f_119_60 : px_at 119 60 = some (.if_icmp .le 6, 3, 66, 0, .null) := rfl
theorem f_119_63 : px_at 119 63 = some (.bipush (-2), 2, 0, 0, .null) := rfl
theorem f_119_65 : px_at 119 65 = some (.ireturn, 1, 0, 0, .null) := rfl
theorem f_119_66 : px_at 119 66 = some (.iconst 0, 1, 0, 0, .null) := rfl
theorem f_119_67 : px_at 119 67 = some (.istore 4, 2, 0, 0, .null) := rfl
theorem f_119_69 : px_at 119 69 = some (.iload 4, 2, 0, 0, .null) := rfl
theorem f_119_71 : px_at 119 71 = some (.iload_n 3, 1, 0, 0, .null) := rfl
theorem f_119_72 : px_at 119 72 = some (.if_icmp .ge 41, 3, 113, 0, .null) := rfl
theorem f_119_75 : px_at 119 75 = some (.aload_n 0, 1, 0, 0, .null) := rfl
theorem f_119_76 : px_at 119 76 = some (.getfield 7, 3, 12, 0, .null) := rfl
theorem f_119_79 : px_at 119 79 = some (.aload_n 0, 1, 0, 0, .null) := rfl
theorem f_119_80 : px_at 119 80 = some (.getfield 121, 3, 12, 1, .null) := rfl
theorem f_119_83 : px_at 119 83 = some (.lload_n 1, 1, 0, 0, .null) := rfl
theorem f_119_84 : px_at 119 84 = some (.bipush 8, 2, 0, 0, .null) := rfl
theorem f_119_86 : px_at 119 86 = some (.iload 4, 2, 0, 0, .null) := rfl
theorem f_119_88 : px_at 119 88 = some (.imul, 1, 0, 0, .null) := rfl
theorem f_119_89 : px_at 119 89 = some (.lshr, 1, 0, 0, .null) := rfl
theorem f_119_90 : px_at 119 90 = some (.ldc2_w 119, 3, 0, 0, .long (255)) := rfl
theorem f_119_93 : px_at 119 93 = some (.land, 1, 0, 0, .null) := rfl
theorem f_119_94 : px_at 119 94 = some (.l2i, 1, 0, 0, .null) := rfl
theorem f_119_95 : px_at 119 95 = some (.i2c, 1, 0, 0, .null) := rfl
theorem f_119_96 : px_at 119 96 = some (.castore, 1, 0, 0, .null) := rfl
theorem f_119_97 : px_at 119 97 = some (.aload_n 0, 1, 0, 0, .null) := rfl
theorem f_119_98 : px_at 119 98 = some (.dup, 1, 0, 0, .null) := rfl
theorem f_119_99 : px_at 119 99 = some (.getfield 121, 3, 12, 1, .null) := rfl
theorem f_119_102 : px_at 119 102 = some (.iconst 1, 1, 0, 0, .null) := rfl
theorem f_119_103 : px_at 119 103 = some (.iadd, 1, 0, 0, .null) := rfl
theorem f_119_104 : px_at 119 104 = some (.putfield 121, 3, 12, 1, .null) := rfl
theorem f_119_107 : px_at 119 107 = some (.iinc 4 1, 3, 0, 0, .null) := rfl
theorem f_119_110 : px_at 119 110 = some (.goto (-41), 3, 69, 0, .null) := rfl
theorem f_119_113 : px_at 119 113 = some (.aload_n 0, 1, 0, 0, .null) := rfl
theorem f_119_114 : px_at 119 114 = some (.getfield 121, 3, 12, 1, .null) := rfl
theorem f_119_117 : px_at 119 117 = some (.ireturn, 1, 0, 0, .null) := rfl

theorem f_120_0 : px_at 120 0 = some (.aload_n 0, 1, 0, 0, .null) := rfl
theorem f_120_1 : px_at 120 1 = some (.getfield 125, 3, 12, 17, .null) := rfl
theorem f_120_4 : px_at 120 4 = some (.aload_n 0, 1, 0, 0, .null) := rfl
theorem f_120_5 : px_at 120 5 = some (.getfield 121, 3, 12, 1, .null) := rfl
theorem f_120_8 : px_at 120 8 = some (.if_icmp .ge 30, 3, 38, 0, .null) := rfl
theorem f_120_11 : px_at 120 11 = some (.aload_n 0, 1, 0, 0, .null) := rfl
theorem f_120_12 : px_at 120 12 = some (.getfield 7, 3, 12, 0, .null) := rfl
theorem f_120_15 : px_at 120 15 = some (.aload_n 0, 1, 0, 0, .null) := rfl
theorem f_120_16 : px_at 120 16 = some (.getfield 125, 3, 12, 17, .null) := rfl
theorem f_120_19 : px_at 120 19 = some (.caload, 1, 0, 0, .null) := rfl
theorem f_120_20 : px_at 120 20 = some (.bipush 32, 2, 0, 0, .null) := rfl
theorem f_120_22 : px_at 120 22 = some (.if_icmp .ne 16, 3, 38, 0, .null) := rfl
theorem f_120_25 : px_at 120 25 = some (.aload_n 0, 1, 0, 0, .null) := rfl
theorem f_120_26 : px_at 120 26 = some (.dup, 1, 0, 0, .null) := rfl
theorem f_120_27 : px_at 120 27 = some (.getfield 125, 3, 12, 17, .null) := rfl
theorem f_120_30 : px_at 120 30 = some (.iconst 1, 1, 0, 0, .null) := rfl
theorem f_120_31 : px_at 120 31 = some (.iadd, 1, 0, 0, .null) := rfl
theorem f_120_32 : px_at 120 32 = some (.putfield 125, 3, 12, 17, .null) := rfl
theorem f_120_35 : px_at 120 35 = some (.goto (-35), 3, 0, 0, .null) := rfl
theorem f_120_38 : px_at 120 38 = some (.aload_n 0, 1, 0, 0, .null) := rfl
theorem f_120_39 : px_at 120 39 = some (.getfield 125, 3, 12, 17, .null) := rfl
theorem f_120_42 : px_at 120 42 = some (.aload_n 0, 1, 0, 0, .null) := rfl
theorem f_120_43 : px_at 120 43 = some (.getfield 121, 3, 12, 1, .null) := rfl
theorem f_120_46 : px_at 120 46 = some (.if_icmp .ge 15, 3, 61, 0, .null) := rfl
theorem f_120_49 : px_at 120 49 = some (.aload_n 0, 1, 0, 0, .null) := rfl
theorem f_120_50 : px_at 120 50 = some (.getfield 7, 3, 12, 0, .null) := rfl
theorem f_120_53 : px_at 120 53 = some (.aload_n 0, 1, 0, 0, .null) := rfl
theorem f_120_54 : px_at 120 54 = some (.getfield 125, 3, 12, 17, .null) := rfl
theorem f_120_57 : px_at 120 57 = some (.caload, 1, 0, 0, .null) := rfl
theorem f_120_58 : px_at 120 58 = some (.goto 4, 3, 62, 0, .null) := rfl
theorem f_120_61 : px_at 120 61 = some (.iconst 0, 1, 0, 0, .null) := rfl
theorem f_120_62 : px_at 120 62 = some (.ireturn, 1, 0, 0, .null) := rfl

theorem f_121_0 : px_at 121 0 = some (.aload_n 0, 1, 0, 0, .null) := rfl
theorem f_121_1 : px_at 121 1 = some (.aload_n 0, 1, 0, 0, .null) := rfl
theorem f_121_2 : px_at 121 2 = some (.getfield 125, 3, 12, 17, .null) := rfl
theorem f_121_5 : px_at 121 5 = some (.putfield 128, 3, 12, 19, .null) := rfl
theorem f_121_8 : px_at 121 8 = some (.iconst 0, 1, 0, 0, .null) := rfl
theorem f_121_9 : px_at 121 9 = some (.ireturn, 1, 0, 0, .null) := rfl

theorem f_122_0 : px_at 122 0 = some (.aload_n 0, 1, 0, 0, .null) := rfl
theorem f_122_1 : px_at 122 1 = some (.invokevirtual 131, 3, 120, 1, .null) := rfl
theorem f_122_4 : px_at 122 4 = some (.iload_n 1, 1, 0, 0, .null) := rfl
theorem f_122_5 : px_at 122 5 = some (.if_icmp .eq 8, 3, 13, 0, .null) := rfl
theorem f_122_8 : px_at 122 8 = some (.aload_n 0, 1, 0, 0, .null) := rfl
theorem f_122_9 : px_at 122 9 = some (.invokevirtual 135, 3, 121, 1, .null) := rfl
theorem f_122_12 : px_at 122 12 = some (.ireturn, 1, 0, 0, .null) := rfl
theorem f_122_13 : px_at 122 13 = some (.aload_n 0, 1, 0, 0, .null) := rfl
theorem f_122_14 : px_at 122 14 = some (.dup, 1, 0, 0, .null) := rfl
theorem f_122_15 : px_at 122 15 = some (.getfield 125, 3, 12, 17, .null) := rfl
theorem f_122_18 : px_at 122 18 = some (.iconst 1, 1, 0, 0, .null) := rfl
theorem f_122_19 : px_at 122 19 = some (.iadd, 1, 0, 0, .null) := rfl
theorem f_122_20 : px_at 122 20 = some (.putfield 125, 3, 12, 17, .null) := rfl
theorem f_122_23 : px_at 122 23 = some (.iconst 1, 1, 0, 0, .null) := rfl
theorem f_122_24 : px_at 122 24 = some (.ireturn, 1, 0, 0, .null) := rfl

theorem f_123_0 : px_at 123 0 = some (.aload_n 0, 1, 0, 0, .null) := rfl
theorem f_123_1 : px_at 123 1 = some (.invokevirtual 131, 3, 120, 1, .null) := rfl
theorem f_123_4 : px_at 123 4 = some (.istore 5, 2, 0, 0, .null) := rfl
theorem f_123_6 : px_at 123 6 = some (.iload 5, 2, 0, 0, .null) := rfl
theorem f_123_8 : px_at 123 8 = some (.ifCond .eq 28, 3, 36, 0, .null) := rfl
theorem f_123_11 : px_at 123 11 = some (.iload 5, 2, 0, 0, .null) := rfl
theorem f_123_13 : px_at 123 13 = some (.iload_n 1, 1, 0, 0, .null) := rfl
theorem f_123_14 : px_at 123 14 = some (.if_icmp .eq 27, 3, 41, 0, .null) := rfl
theorem f_123_17 : px_at 123 17 = some (.iload 5, 2, 0, 0, .null) := rfl
theorem f_123_19 : px_at 123 19 = some (.iload_n 2, 1, 0, 0, .null) := rfl
theorem f_123_20 : px_at 123 20 = some (.if_icmp .eq 21, 3, 41, 0, .null) := rfl
theorem f_123_23 : px_at 123 23 = some (.iload 5, 2, 0, 0, .null) := rfl
theorem f_123_25 : px_at 123 25 = some (.iload_n 3, 1, 0, 0, .null) := rfl
theorem f_123_26 : px_at 123 26 = some (.if_icmp .eq 15, 3, 41, 0, .null) := rfl
theorem f_123_29 : px_at 123 29 = some (.iload 5, 2, 0, 0, .null) := rfl
theorem f_123_31 : px_at 123 31 = some (.iload 4, 2, 0, 0, .null) := rfl
theorem f_123_33 : px_at 123 33 = some (.if_icmp .eq 8, 3, 41, 0, .null) := rfl
theorem f_123_36 : px_at 123 36 = some (.aload_n 0, 1, 0, 0, .null) := rfl
theorem f_123_37 : px_at 123 37 = some (.invokevirtual 135, 3, 121, 1, .null) := rfl
theorem f_123_40 : px_at 123 40 = some (.ireturn, 1, 0, 0, .null) := rfl
theorem f_123_41 : px_at 123 41 = some (.aload_n 0, 1, 0, 0, .null) := rfl
theorem f_123_42 : px_at 123 42 = some (.iload 5, 2, 0, 0, .null) := rfl
theorem f_123_44 : px_at 123 44 = some (.putfield 139, 3, 12, 20, .null) := rfl
theorem f_123_47 : px_at 123 47 = some (.aload_n 0, 1, 0, 0, .null) := rfl
theorem f_123_48 : px_at 123 48 = some (.dup, 1, 0, 0, .null) := rfl
theorem f_123_49 : px_at 123 49 = some (.getfield 125, 3, 12, 17, .null) := rfl
theorem f_123_52 : px_at 123 52 = some (.iconst 1, 1, 0, 0, .null) := rfl
theorem f_123_53 : px_at 123 53 = some (.iadd, 1, 0, 0, .null) := rfl
theorem f_123_54 : px_at 123 54 = some (.putfield 125, 3, 12, 17, .null) := rfl
theorem f_123_57 : px_at 123 57 = some (.iconst 1, 1, 0, 0, .null) := rfl
theorem f_123_58 : px_at 123 58 = some (.ireturn, 1, 0, 0, .null) := rfl

theorem f_124_0 : px_at 124 0 = some (.aload_n 0, 1, 0, 0, .null) := rfl
theorem f_124_1 : px_at 124 1 = some (.getfield 125, 3, 12, 17, .null) := rfl
theorem f_124_4 : px_at 124 4 = some (.aload_n 0, 1, 0, 0, .null) := rfl
theorem f_124_5 : px_at 124 5 = some (.getfield 121, 3, 12, 1, .null) := rfl
theorem f_124_8 : px_at 124 8 = some (.if_icmp .ge 35, 3, 43, 0, .null) := rfl
theorem f_124_11 : px_at 124 11 = some (.aload_n 0, 1, 0, 0, .null) := rfl
theorem f_124_12 : px_at 124 12 = some (.getfield 7, 3, 12, 0, .null) := rfl
theorem f_124_15 : px_at 124 15 = some (.aload_n 0, 1, 0, 0, .null) := rfl
theorem f_124_16 : px_at 124 16 = some (.getfield 125, 3, 12, 17, .null) := rfl
theorem f_124_19 : px_at 124 19 = some (.caload, 1, 0, 0, .null) := rfl
theorem f_124_20 : px_at 124 20 = some (.bipush 48, 2, 0, 0, .null) := rfl
theorem f_124_22 : px_at 124 22 = some (.if_icmp .lt 21, 3, 43, 0, .null) := rfl
theorem f_124_25 : px_at 124 25 = some (.aload_n 0, 1, 0, 0, .null) := rfl
theorem f_124_26 : px_at 124 26 = some (.getfield 7, 3, 12, 0, .null) := rfl
theorem f_124_29 : px_at 124 29 = some (.aload_n 0, 1, 0, 0, .null) := rfl
theorem f_124_30 : px_at 124 30 = some (.getfield 125, 3, 12, 17, .null) := rfl
theorem f_124_33 : px_at 124 33 = some (.caload, 1, 0, 0, .null) := rfl
theorem f_124_34 : px_at 124 34 = some (.bipush 57, 2, 0, 0, .null) := rfl
theorem f_124_36 : px_at 124 36 = some (.if_icmp .gt 7, 3, 43, 0, .null) := rfl
theorem f_124_39 : px_at 124 39 = some (.iconst 1, 1, 0, 0, .null) := rfl
theorem f_124_40 : px_at 124 40 = some (.goto 4, 3, 44, 0, .null) := rfl
theorem f_124_43 : px_at 124 43 = some (.iconst 0, 1, 0, 0, .null) := rfl
theorem f_124_44 : px_at 124 44 = some (.ireturn, 1, 0, 0, .null) := rfl

theorem f_125_0 : px_at 125 0 = some (.aload_n 0, 1, 0, 0, .null) := rfl
theorem f_125_1 : px_at 125 1 = some (.invokevirtual 142, 3, 124, 1, .null) := rfl
theorem f_125_4 : px_at 125 4 = some (.ifCond .ne 8, 3, 12, 0, .null) := rfl
theorem f_125_7 : px_at 125 7 = some (.aload_n 0, 1, 0, 0, .null) := rfl
theorem f_125_8 : px_at 125 8 = some (.invokevirtual 135, 3, 121, 1, .null) := rfl
theorem f_125_11 : px_at 125 11 = some (.ireturn, 1, 0, 0, .null) := rfl
theorem f_125_12 : px_at 125 12 = some (.aload_n 0, 1, 0, 0, .null) := rfl
theorem f_125_13 : px_at 125 13 = some (.iconst 0, 1, 0, 0, .null) := rfl
theorem f_125_14 : px_at 125 14 = some (.putfield 139, 3, 12, 20, .null) := rfl
theorem f_125_17 : px_at 125 17 = some (.iconst 0, 1, 0, 0, .null) := rfl
theorem f_125_18 : px_at 125 18 = some (.istore_n 1, 1, 0, 0, .null) := rfl
theorem f_125_19 : px_at 125 19 = some (.iload_n 1, 1, 0, 0, .null) := rfl
theorem f_125_20 : px_at 125 20 = some (.iconst 3, 1, 0, 0, .null) := rfl
theorem f_125_21 : px_at 125 21 = some (.if_icmp .ge 50, 3, 71, 0, .null) := rfl
theorem f_125_24 : px_at 125 24 = some (.aload_n 0, 1, 0, 0, .null) := rfl
theorem f_125_25 : px_at 125 25 = some (.invokevirtual 142, 3, 124, 1, .null) := rfl
theorem f_125_28 : px_at 125 28 = some (.ifCond .eq 43, 3, 71, 0, .null) := rfl
theorem f_125_31 : px_at 125 31 = some (.aload_n 0, 1, 0, 0, .null) := rfl
theorem f_125_32 : px_at 125 32 = some (.bipush 10, 2, 0, 0, .null) := rfl
theorem f_125_34 : px_at 125 34 = some (.aload_n 0, 1, 0, 0, .null) := rfl
theorem f_125_35 : px_at 125 35 = some (.getfield 139, 3, 12, 20, .null) := rfl
theorem f_125_38 : px_at 125 38 = some (.imul, 1, 0, 0, .null) := rfl
theorem f_125_39 : px_at 125 39 = some (.aload_n 0, 1, 0, 0, .null) := rfl
theorem f_125_40 : px_at 125 40 = some (.getfield 7, 3, 12, 0, .null) := rfl
theorem f_125_43 : px_at 125 43 = some (.aload_n 0, 1, 0, 0, .null) := rfl
theorem f_125_44 : px_at 125 44 = some (.getfield 125, 3, 12, 17, .null) := rfl
theorem f_125_47 : px_at 125 47 = some (.caload, 1, 0, 0, .null) := rfl
theorem f_125_48 : px_at 125 48 = some (.iadd, 1, 0, 0, .null) := rfl
theorem f_125_49 : px_at 125 49 = some (.bipush 48, 2, 0, 0, .null) := rfl
theorem f_125_51 : px_at 125 51 = some (.isub, 1, 0, 0, .null) := rfl
theorem f_125_52 : px_at 125 52 = some (.putfield 139, 3, 12, 20, .null) := rfl
theorem f_125_55 : px_at 125 55 = some (.aload_n 0, 1, 0, 0, .null) := rfl
theorem f_125_56 : px_at 125 56 = some (.dup, 1, 0, 0, .null) := rfl
theorem f_125_57 : px_at 125 57 = some (.getfield 125, 3, 12, 17, .null) := rfl
theorem f_125_60 : px_at 125 60 = some (.iconst 1, 1, 0, 0, .null) := rfl
theorem f_125_61 : px_at 125 61 = some (.iadd, 1, 0, 0, .null) := rfl
theorem f_125_62 : px_at 125 62 = some (.putfield 125, 3, 12, 17, .null) := rfl
theorem f_125_65 : px_at 125 65 = some (.iinc 1 1, 3, 0, 0, .null) := rfl
theorem f_125_68 : px_at 125 68 = some (.goto (-49), 3, 19, 0, .null) := rfl
theorem f_125_71 : px_at 125 71 = some (.iconst 1, 1, 0, 0, .null) := rfl
theorem f_125_72 : px_at 125 72 = some (.ireturn, 1, 0, 0, .null) := rfl

theorem f_126_0 : px_at 126 0 = some (.aload_n 0, 1, 0, 0, .null) := rfl
theorem f_126_1 : px_at 126 1 = some (.invokevirtual 131, 3, 120, 1, .null) := rfl
theorem f_126_4 : px_at 126 4 = some (.istore_n 1, 1, 0, 0, .null) := rfl
theorem f_126_5 : px_at 126 5 = some (.aload_n 0, 1, 0, 0, .null) := rfl
theorem f_126_6 : px_at 126 6 = some (.invokevirtual 145, 3, 125, 1, .null) := rfl
theorem f_126_9 : px_at 126 9 = some (.ireturn, 1, 0, 0, .null) := rfl

theorem f_127_0 : px_at 127 0 = some (.aload_n 0, 1, 0, 0, .null) := rfl
theorem f_127_1 : px_at 127 1 = some (.invokevirtual 131, 3, 120, 1, .null) := rfl
theorem f_127_4 : px_at 127 4 = some (.bipush 45, 2, 0, 0, .null) := rfl
theorem f_127_6 : px_at 127 6 = some (.if_icmp .ne 7, 3, 13, 0, .null) := rfl
theorem f_127_9 : px_at 127 9 = some (.iconst 1, 1, 0, 0, .null) := rfl
theorem f_127_10 : px_at 127 10 = some (.goto 4, 3, 14, 0, .null) := rfl
theorem f_127_13 : px_at 127 13 = some (.iconst 0, 1, 0, 0, .null) := rfl
theorem f_127_14 : px_at 127 14 = some (.istore_n 1, 1, 0, 0, .null) := rfl
theorem f_127_15 : px_at 127 15 = some (.aload_n 0, 1, 0, 0, .null) := rfl
theorem f_127_16 : px_at 127 16 = some (.iload_n 1, 1, 0, 0, .null) := rfl
theorem f_127_17 : px_at 127 17 = some (.ifCond .eq 12, 3, 29, 0, .null) := rfl
theorem f_127_20 : px_at 127 20 = some (.aload_n 0, 1, 0, 0, .null) := rfl
theorem f_127_21 : px_at 127 21 = some (.getfield 125, 3, 12, 17, .null) := rfl
theorem f_127_24 : px_at 127 24 = some (.iconst 1, 1, 0, 0, .null) := rfl
theorem f_127_25 : px_at 127 25 = some (.iadd, 1, 0, 0, .null) := rfl
theorem f_127_26 : px_at 127 26 = some (.goto 7, 3, 33, 0, .null) := rfl
theorem f_127_29 : px_at 127 29 = some (.aload_n 0, 1, 0, 0, .null) := rfl
theorem f_127_30 : px_at 127 30 = some (.getfield 125, 3, 12, 17, .null) := rfl
theorem f_127_33 : px_at 127 33 = some (.putfield 125, 3, 12, 17, .null) := rfl
theorem f_127_36 : px_at 127 36 = some (.aload_n 0, 1, 0, 0, .null) := rfl
theorem f_127_37 : px_at 127 37 = some (.invokevirtual 145, 3, 125, 1, .null) := rfl
theorem f_127_40 : px_at 127 40 = some (.ifCond .ne 5, 3, 45, 0, .null) := rfl
theorem f_127_43 : px_at 127 43 = some (.iconst 0, 1, 0, 0, .null) := rfl
theorem f_127_44 : px_at 127 44 = some (.ireturn, 1, 0, 0, .null) := rfl
theorem f_127_45 : px_at 127 45 = some (.aload_n 0, 1, 0, 0, .null) := rfl
theorem f_127_46 : px_at 127 46 = some (.iload_n 1, 1, 0, 0, .null) := rfl
theorem f_127_47 : px_at 127 47 = some (.ifCond .eq 11, 3, 58, 0, .null) := rfl
theorem f_127_50 : px_at 127 50 = some (.aload_n 0, 1, 0, 0, .null) := rfl
theorem f_127_51 : px_at 127 51 = some (.getfield 139, 3, 12, 20, .null) := rfl
theorem f_127_54 : px_at 127 54 = some (.ineg, 1, 0, 0, .null) := rfl
theorem f_127_55 : px_at 127 55 = some (.goto 7, 3, 62, 0, .null) := rfl
theorem f_127_58 : px_at 127 58 = some (.aload_n 0, 1, 0, 0, .null) := rfl
theorem f_127_59 : px_at 127 59 = some (.getfield 139, 3, 12, 20, .null) := rfl
theorem f_127_62 : px_at 127 62 = some (.putfield 139, 3, 12, 20, .null) := rfl
theorem f_127_65 : px_at 127 65 = some (.iconst 1, 1, 0, 0, .null) := rfl
theorem f_127_66 : px_at 127 66 = some (.ireturn, 1, 0, 0, .null) := rfl

theorem f_128_0 : px_at 128 0 = some (.aload_n 0, 1, 0, 0, .null) := rfl
theorem f_128_1 : px_at 128 1 = some (.invokevirtual 148, 3, 126, 1, .null) := rfl
theorem f_128_4 : px_at 128 4 = some (.ifCond .ne 5, 3, 9, 0, .null) := rfl
theorem f_128_7 : px_at 128 7 = some (.iconst 0, 1, 0, 0, .null) := rfl
theorem f_128_8 : px_at 128 8 = some (.ireturn, 1, 0, 0, .null) := rfl
theorem f_128_9 : px_at 128 9 = some (.aload_n 0, 1, 0, 0, .null) := rfl
theorem f_128_10 : px_at 128 10 = some (.getfield 139, 3, 12, 20, .null) := rfl
theorem f_128_13 : px_at 128 13 = some (.ifCond .gt 10, 3, 23, 0, .null) := rfl
theorem f_128_16 : px_at 128 16 = some (.aload_n 0, 1, 0, 0, .null) := rfl
theorem f_128_17 : px_at 128 17 = some (.invokevirtual 135, 3, 121, 1, .null) := rfl
theorem f_128_20 : px_at 128 20 = some (.ifCond .eq 7, 3, 27, 0, .null) := rfl
theorem f_128_23 : px_at 128 23 = some (.iconst 1, 1, 0, 0, .null) := rfl
theorem f_128_24 : px_at 128 24 = some (.goto 4, 3, 28, 0, .null) := rfl
theorem f_128_27 : px_at 128 27 = some (.iconst 0, 1, 0, 0, .null) := rfl
theorem f_128_28 : px_at 128 28 = some (.ireturn, 1, 0, 0, .null) := rfl

theorem f_129_0 : px_at 129 0 = some (.aload_n 0, 1, 0, 0, .null) := rfl
theorem f_129_1 : px_at 129 1 = some (.getfield 151, 3, 12, 18, .null) := rfl
theorem f_129_4 : px_at 129 4 = some (.ifCond .eq 34, 3, 38, 0, .null) := rfl
theorem f_129_7 : px_at 129 7 = some (.aload_n 0, 1, 0, 0, .null) := rfl
theorem f_129_8 : px_at 129 8 = some (.getfield 13, 3, 12, 3, .null) := rfl
theorem f_129_11 : px_at 129 11 = some (.aload_n 0, 1, 0, 0, .null) := rfl
theorem f_129_12 : px_at 129 12 = some (.getfield 155, 3, 12, 21, .null) := rfl
theorem f_129_15 : px_at 129 15 = some (.iload_n 1, 1, 0, 0, .null) := rfl
theorem f_129_16 : px_at 129 16 = some (.castore, 1, 0, 0, .null) := rfl
theorem f_129_17 : px_at 129 17 = some (.aload_n 0, 1, 0, 0, .null) := rfl
theorem f_129_18 : px_at 129 18 = some (.getfield 16, 3, 12, 4, .null) := rfl
theorem f_129_21 : px_at 129 21 = some (.aload_n 0, 1, 0, 0, .null) := rfl
theorem f_129_22 : px_at 129 22 = some (.getfield 155, 3, 12, 21, .null) := rfl
theorem f_129_25 : px_at 129 25 = some (.iload_n 2, 1, 0, 0, .null) := rfl
theorem f_129_26 : px_at 129 26 = some (.i2c, 1, 0, 0, .null) := rfl
theorem f_129_27 : px_at 129 27 = some (.castore, 1, 0, 0, .null) := rfl
theorem f_129_28 : px_at 129 28 = some (.aload_n 0, 1, 0, 0, .null) := rfl
theorem f_129_29 : px_at 129 29 = some (.getfield 19, 3, 12, 5, .null) := rfl
theorem f_129_32 : px_at 129 32 = some (.aload_n 0, 1, 0, 0, .null) := rfl
theorem f_129_33 : px_at 129 33 = some (.getfield 155, 3, 12, 21, .null) := rfl
theorem f_129_36 : px_at 129 36 = some (.iload_n 3, 1, 0, 0, .null) := rfl
theorem f_129_37 : px_at 129 37 = some (.iastore, 1, 0, 0, .null) := rfl
theorem f_129_38 : px_at 129 38 = some (.aload_n 0, 1, 0, 0, .null) := rfl
theorem f_129_39 : px_at 129 39 = some (.dup, 1, 0, 0, .null) := rfl
theorem f_129_40 : px_at 129 40 = some (.getfield 155, 3, 12, 21, .null) := rfl
theorem f_129_43 : px_at 129 43 = some (.iconst 1, 1, 0, 0, .null) := rfl
theorem f_129_44 : px_at 129 44 = some (.iadd, 1, 0, 0, .null) := rfl
theorem f_129_45 : px_at 129 45 = some (.putfield 155, 3, 12, 21, .null) := rfl
theorem f_129_48 : px_at 129 48 = some (.return_, 1, 0, 0, .null) := rfl

theorem f_130_0 : px_at 130 0 = some (.aload_n 0, 1, 0, 0, .null) := rfl
theorem f_130_1 : px_at 130 1 = some (.dup, 1, 0, 0, .null) := rfl
theorem f_130_2 : px_at 130 2 = some (.getfield 125, 3, 12, 17, .null) := rfl
theorem f_130_5 : px_at 130 5 = some (.iconst 1, 1, 0, 0, .null) := rfl
theorem f_130_6 : px_at 130 6 = some (.iadd, 1, 0, 0, .null) := rfl
theorem f_130_7 : px_at 130 7 = some (.putfield 125, 3, 12, 17, .null) := rfl
theorem f_130_10 : px_at 130 10 = some (.iload_n 1, 1, 0, 0, .null) := rfl
theorem f_130_11 : px_at 130 11 = some (.lookupswitch 178 #[(102, 49), (109, 49), (113, 113), (116, 134), (119, 134)], 49, 0, 0, .null) := rfl
theorem f_130_60 : px_at 130 60 = some (.iload_n 1, 1, 0, 0, .null) := rfl
theorem f_130_61 : px_at 130 61 = some (.bipush 102, 2, 0, 0, .null) := rfl
theorem f_130_63 : px_at 130 63 = some (.if_icmp .ne 18, 3, 81, 0, .null) := rfl
theorem f_130_66 : px_at 130 66 = some (.aload_n 0, 1, 0, 0, .null) := rfl
theorem f_130_67 : px_at 130 67 = some (.bipush 60, 2, 0, 0, .null) := rfl
theorem f_130_69 : px_at 130 69 = some (.bipush 61, 2, 0, 0, .null) := rfl
theorem f_130_71 : px_at 130 71 = some (.bipush 62, 2, 0, 0, .null) := rfl
theorem f_130_73 : px_at 130 73 = some (.bipush 62, 2, 0, 0, .null) := rfl
theorem f_130_75 : px_at 130 75 = some (.invokevirtual 158, 3, 123, 1, .null) := rfl
theorem f_130_78 : px_at 130 78 = some (.goto 15, 3, 93, 0, .null) := rfl
theorem f_130_81 : px_at 130 81 = some (.aload_n 0, 1, 0, 0, .null) := rfl
theorem f_130_82 : px_at 130 82 = some (.bipush 43, 2, 0, 0, .null) := rfl
theorem f_130_84 : px_at 130 84 = some (.bipush 45, 2, 0, 0, .null) := rfl
theorem f_130_86 : px_at 130 86 = some (.bipush 42, 2, 0, 0, .null) := rfl
theorem f_130_88 : px_at 130 88 = some (.bipush 47, 2, 0, 0, .null) := rfl
theorem f_130_90 : px_at 130 90 = some (.invokevirtual 158, 3, 123, 1, .null) := rfl
theorem f_130_93 : px_at 130 93 = some (.istore_n 2, 1, 0, 0, .null) := rfl
theorem f_130_94 : px_at 130 94 = some (.aload_n 0, 1, 0, 0, .null) := rfl
theorem f_130_95 : px_at 130 95 = some (.getfield 139, 3, 12, 20, .null) := rfl
theorem f_130_98 : px_at 130 98 = some (.istore_n 3, 1, 0, 0, .null) := rfl
theorem f_130_99 : px_at 130 99 = some (.iload_n 2, 1, 0, 0, .null) := rfl
theorem f_130_100 : px_at 130 100 = some (.ifCond .eq 10, 3, 110, 0, .null) := rfl
theorem f_130_103 : px_at 130 103 = some (.aload_n 0, 1, 0, 0, .null) := rfl
theorem f_130_104 : px_at 130 104 = some (.invokevirtual 162, 3, 127, 1, .null) := rfl
theorem f_130_107 : px_at 130 107 = some (.ifCond .ne 5, 3, 112, 0, .null) := rfl
theorem f_130_110 : px_at 130 110 = some (.iconst 0, 1, 0, 0, .null) := rfl
theorem f_130_111 : px_at 130 111 = some (.ireturn, 1, 0, 0, .null) := rfl
theorem f_130_112 : px_at 130 112 = some (.aload_n 0, 1, 0, 0, .null) := rfl
theorem f_130_113 : px_at 130 113 = some (.iload_n 1, 1, 0, 0, .null) := rfl
theorem f_130_114 : px_at 130 114 = some (.iload_n 3, 1, 0, 0, .null) := rfl
theorem f_130_115 : px_at 130 115 = some (.aload_n 0, 1, 0, 0, .null) := rfl
theorem f_130_116 : px_at 130 116 = some (.getfield 139, 3, 12, 20, .null) := rfl
theorem f_130_119 : px_at 130 119 = some (.invokevirtual 165, 3, 129, 1, .null) := rfl
theorem f_130_122 : px_at 130 122 = some (.iconst 1, 1, 0, 0, .null) := rfl
theorem f_130_123 : px_at 130 123 = some (.ireturn, 1, 0, 0, .null) := rfl
theorem f_130_124 : px_at 130 124 = some (.aload_n 0, 1, 0, 0, .null) := rfl
theorem f_130_125 : px_at 130 125 = some (.invokevirtual 162, 3, 127, 1, .null) := rfl
theorem f_130_128 : px_at 130 128 = some (.ifCond .ne 5, 3, 133, 0, .null) := rfl
theorem f_130_131 : px_at 130 131 = some (.iconst 0, 1, 0, 0, .null) := rfl
theorem f_130_132 : px_at 130 132 = some (.ireturn, 1, 0, 0, .null) := rfl
theorem f_130_133 : px_at 130 133 = some (.aload_n 0, 1, 0, 0, .null) := rfl
theorem f_130_134 : px_at 130 134 = some (.iload_n 1, 1, 0, 0, .null) := rfl
theorem f_130_135 : px_at 130 135 = some (.iconst 0, 1, 0, 0, .null) := rfl
theorem f_130_136 : px_at 130 136 = some (.aload_n 0, 1, 0, 0, .null) := rfl
theorem f_130_137 : px_at 130 137 = some (.getfield 139, 3, 12, 20, .null) := rfl
theorem f_130_140 : px_at 130 140 = some (.invokevirtual 165, 3, 129, 1, .null) := rfl
theorem f_130_143 : px_at 130 143 = some (.iconst 1, 1, 0, 0, .null) := rfl
theorem f_130_144 : px_at 130 144 = some (.ireturn, 1, 0, 0, .null) := rfl
theorem f_130_145 : px_at 130 145 = some (.aload_n 0, 1, 0, 0, .null) := rfl
theorem f_130_146 : px_at 130 146 = some (.iload_n 1, 1, 0, 0, .null) := rfl
theorem f_130_147 : px_at 130 147 = some (.bipush 116, 2, 0, 0, .null) := rfl
theorem f_130_149 : px_at 130 149 = some (.if_icmp .ne 12, 3, 161, 0, .null) := rfl
theorem f_130_152 : px_at 130 152 = some (.aload_n 0, 1, 0, 0, .null) := rfl
theorem f_130_153 : px_at 130 153 = some (.getfield 169, 3, 12, 23, .null) := rfl
theorem f_130_156 : px_at 130 156 = some (.iconst 1, 1, 0, 0, .null) := rfl
theorem f_130_157 : px_at 130 157 = some (.iadd, 1, 0, 0, .null) := rfl
theorem f_130_158 : px_at 130 158 = some (.goto 7, 3, 165, 0, .null) := rfl
theorem f_130_161 : px_at 130 161 = some (.aload_n 0, 1, 0, 0, .null) := rfl
theorem f_130_162 : px_at 130 162 = some (.getfield 169, 3, 12, 23, .null) := rfl
theorem f_130_165 : px_at 130 165 = some (.putfield 169, 3, 12, 23, .null) := rfl
theorem f_130_168 : px_at 130 168 = some (.aload_n 0, 1, 0, 0, .null) := rfl
theorem f_130_169 : px_at 130 169 = some (.invokevirtual 172, 3, 128, 1, .null) := rfl
theorem f_130_172 : px_at 130 172 = some (.ifCond .ne 5, 3, 177, 0, .null) := rfl
theorem f_130_175 : px_at 130 175 = some (.iconst 0, 1, 0, 0, .null) := rfl
theorem f_130_176 : px_at 130 176 = some (.ireturn, 1, 0, 0, .null) := rfl
theorem f_130_177 : px_at 130 177 = some (.aload_n 0, 1, 0, 0, .null) := rfl
theorem f_130_178 : px_at 130 178 = some (.iload_n 1, 1, 0, 0, .null) := rfl
theorem f_130_179 : px_at 130 179 = some (.iconst 0, 1, 0, 0, .null) := rfl
theorem f_130_180 : px_at 130 180 = some (.aload_n 0, 1, 0, 0, .null) := rfl
theorem f_130_181 : px_at 130 181 = some (.getfield 139, 3, 12, 20, .null) := rfl
theorem f_130_184 : px_at 130 184 = some (.invokevirtual 165, 3, 129, 1, .null) := rfl
theorem f_130_187 : px_at 130 187 = some (.iconst 1, 1, 0, 0, .null) := rfl
theorem f_130_188 : px_at 130 188 = some (.ireturn, 1, 0, 0, .null) := rfl
theorem f_130_189 : px_at 130 189 = some (.aload_n 0, 1, 0, 0, .null) := rfl
theorem f_130_190 : px_at 130 190 = some (.iload_n 1, 1, 0, 0, .null) := rfl
theorem f_130_191 : px_at 130 191 = some (.iconst 0, 1, 0, 0, .null) := rfl
theorem f_130_192 : px_at 130 192 = some (.iconst 0, 1, 0, 0, .null) := rfl
theorem f_130_193 : px_at 130 193 = some (.invokevirtual 165, 3, 129, 1, .null) := rfl
theorem f_130_196 : px_at 130 196 = some (.iconst 1, 1, 0, 0, .null) := rfl
theorem f_130_197 : px_at 130 197 = some (.ireturn, 1, 0, 0, .null) := rfl

theorem f_131_0 : px_at 131 0 = some (.iload_n 1, 1, 0, 0, .null) := rfl
theorem f_131_1 : px_at 131 1 = some (.bipush 102, 2, 0, 0, .null) := rfl
theorem f_131_3 : px_at 131 3 = some (.if_icmp .eq 47, 3, 50, 0, .null) := rfl
theorem f_131_6 : px_at 131 6 = some (.iload_n 1, 1, 0, 0, .null) := rfl
theorem f_131_7 : px_at 131 7 = some (.bipush 109, 2, 0, 0, .null) := rfl
theorem f_131_9 : px_at 131 9 = some (.if_icmp .eq 41, 3, 50, 0, .null) := rfl
theorem f_131_12 : px_at 131 12 = some (.iload_n 1, 1, 0, 0, .null) := rfl
theorem f_131_13 : px_at 131 13 = some (.bipush 113, 2, 0, 0, .null) := rfl
theorem f_131_15 : px_at 131 15 = some (.if_icmp .eq 35, 3, 50, 0, .null) := rfl
theorem f_131_18 : px_at 131 18 = some (.iload_n 1, 1, 0, 0, .null) := rfl
theorem f_131_19 : px_at 131 19 = some (.bipush 100, 2, 0, 0, .null) := rfl
theorem f_131_21 : px_at 131 21 = some (.if_icmp .eq 29, 3, 50, 0, .null) := rfl
theorem f_131_24 : px_at 131 24 = some (.iload_n 1, 1, 0, 0, .null) := rfl
theorem f_131_25 : px_at 131 25 = some (.bipush 115, 2, 0, 0, .null) := rfl
theorem f_131_27 : px_at 131 27 = some (.if_icmp .eq 23, 3, 50, 0, .null) := rfl
theorem f_131_30 : px_at 131 30 = some (.iload_n 1, 1, 0, 0, .null) := rfl
theorem f_131_31 : px_at 131 31 = some (.bipush 119, 2, 0, 0, .null) := rfl
theorem f_131_33 : px_at 131 33 = some (.if_icmp .eq 17, 3, 50, 0, .null) := rfl
theorem f_131_36 : px_at 131 36 = some (.iload_n 1, 1, 0, 0, .null) := rfl
theorem f_131_37 : px_at 131 37 = some (.bipush 116, 2, 0, 0, .null) := rfl
theorem f_131_39 : px_at 131 39 = some (.if_icmp .ne 15, 3, 54, 0, .null) := rfl
theorem f_131_42 : px_at 131 42 = some (.aload_n 0, 1, 0, 0, .null) := rfl
theorem f_131_43 : px_at 131 43 = some (.getfield 169, 3, 12, 23, .null) := rfl
theorem f_131_46 : px_at 131 46 = some (.iconst 2, 1, 0, 0, .null) := rfl
theorem f_131_47 : px_at 131 47 = some (.if_icmp .ge 7, 3, 54, 0, .null) := rfl
theorem f_131_50 : px_at 131 50 = some (.iconst 1, 1, 0, 0, .null) := rfl
theorem f_131_51 : px_at 131 51 = some (.goto 4, 3, 55, 0, .null) := rfl
theorem f_131_54 : px_at 131 54 = some (.iconst 0, 1, 0, 0, .null) := rfl
theorem f_131_55 : px_at 131 55 = some (.istore_n 2, 1, 0, 0, .null) := rfl
theorem f_131_56 : px_at 131 56 = some (.iload_n 2, 1, 0, 0, .null) := rfl
theorem f_131_57 : px_at 131 57 = some (.ifCond .eq 16, 3, 73, 0, .null) := rfl
theorem f_131_60 : px_at 131 60 = some (.aload_n 0, 1, 0, 0, .null) := rfl
theorem f_131_61 : px_at 131 61 = some (.getfield 155, 3, 12, 21, .null) := rfl
theorem f_131_64 : px_at 131 64 = some (.bipush 6, 2, 0, 0, .null) := rfl
theorem f_131_66 : px_at 131 66 = some (.if_icmp .ge 7, 3, 73, 0, .null) := rfl
theorem f_131_69 : px_at 131 69 = some (.iconst 1, 1, 0, 0, .null) := rfl
theorem f_131_70 : px_at 131 70 = some (.goto 4, 3, 74, 0, .null) := rfl
theorem f_131_73 : px_at 131 73 = some (.iconst 0, 1, 0, 0, .null) := rfl
theorem f_131_74 : px_at 131 74 = some (.ireturn, 1, 0, 0, .null) := rfl

theorem f_132_0 : px_at 132 0 = some (.aload_n 0, 1, 0, 0, .null) := rfl
theorem f_132_1 : px_at 132 1 = some (.iconst 0, 1, 0, 0, .null) := rfl
theorem f_132_2 : px_at 132 2 = some (.putfield 155, 3, 12, 21, .null) := rfl
theorem f_132_5 : px_at 132 5 = some (.aload_n 0, 1, 0, 0, .null) := rfl
theorem f_132_6 : px_at 132 6 = some (.iconst 0, 1, 0, 0, .null) := rfl
theorem f_132_7 : px_at 132 7 = some (.putfield 169, 3, 12, 23, .null) := rfl
theorem f_132_10 : px_at 132 10 = some (.aload_n 0, 1, 0, 0, .null) := rfl
theorem f_132_11 : px_at 132 11 = some (.bipush 74, 2, 0, 0, .null) := rfl
theorem f_132_13 : px_at 132 13 = some (.invokevirtual 175, 3, 122, 1, .null) := rfl
theorem f_132_16 : px_at 132 16 = some (.ifCond .ne 5, 3, 21, 0, .null) := rfl
theorem f_132_19 : px_at 132 19 = some (.iconst 0, 1, 0, 0, .null) := rfl
theorem f_132_20 : px_at 132 20 = some (.ireturn, 1, 0, 0, .null) := rfl
theorem f_132_21 : px_at 132 21 = some (.aload_n 0, 1, 0, 0, .null) := rfl
theorem f_132_22 : px_at 132 22 = some (.aload_n 0, 1, 0, 0, .null) := rfl
theorem f_132_23 : px_at 132 23 = some (.invokevirtual 131, 3, 120, 1, .null) := rfl
theorem f_132_26 : px_at 132 26 = some (.invokevirtual 179, 3, 131, 1, .null) := rfl
theorem f_132_29 : px_at 132 29 = some (.ifCond .eq 16, 3, 45, 0, .null) := rfl
theorem f_132_32 : px_at 132 32 = some (.aload_n 0, 1, 0, 0, .null) := rfl
theorem f_132_33 : px_at 132 33 = some (.aload_n 0, 1, 0, 0, .null) := rfl
theorem f_132_34 : px_at 132 34 = some (.invokevirtual 131, 3, 120, 1, .null) := rfl
theorem f_132_37 : px_at 132 37 = some (.invokevirtual 182, 3, 130, 1, .null) := rfl
theorem f_132_40 : px_at 132 40 = some (.ifCond .ne (-19), 3, 21, 0, .null) := rfl
theorem f_132_43 : px_at 132 43 = some (.iconst 0, 1, 0, 0, .null) := rfl
theorem f_132_44 : px_at 132 44 = some (.ireturn, 1, 0, 0, .null) := rfl
theorem f_132_45 : px_at 132 45 = some (.aload_n 0, 1, 0, 0, .null) := rfl
theorem f_132_46 : px_at 132 46 = some (.bipush 59, 2, 0, 0, .null) := rfl
theorem f_132_48 : px_at 132 48 = some (.invokevirtual 175, 3, 122, 1, .null) := rfl
theorem f_132_51 : px_at 132 51 = some (.ireturn, 1, 0, 0, .null) := rfl

theorem f_133_0 : px_at 133 0 = some (.iload_n 0, 1, 0, 0, .null) := rfl
theorem f_133_1 : px_at 133 1 = some (.bipush 114, 2, 0, 0, .null) := rfl
theorem f_133_3 : px_at 133 3 = some (.if_icmp .eq 33, 3, 36, 0, .null) := rfl
theorem f_133_6 : px_at 133 6 = some (.iload_n 0, 1, 0, 0, .null) := rfl
theorem f_133_7 : px_at 133 7 = some (.bipush 82, 2, 0, 0, .null) := rfl
theorem f_133_9 : px_at 133 9 = some (.if_icmp .eq 27, 3, 36, 0, .null) := rfl
theorem f_133_12 : px_at 133 12 = some (.iload_n 0, 1, 0, 0, .null) := rfl
theorem f_133_13 : px_at 133 13 = some (.bipush 104, 2, 0, 0, .null) := rfl
theorem f_133_15 : px_at 133 15 = some (.if_icmp .eq 21, 3, 36, 0, .null) := rfl
theorem f_133_18 : px_at 133 18 = some (.iload_n 0, 1, 0, 0, .null) := rfl
theorem f_133_19 : px_at 133 19 = some (.bipush 72, 2, 0, 0, .null) := rfl
theorem f_133_21 : px_at 133 21 = some (.if_icmp .eq 15, 3, 36, 0, .null) := rfl
theorem f_133_24 : px_at 133 24 = some (.iload_n 0, 1, 0, 0, .null) := rfl
theorem f_133_25 : px_at 133 25 = some (.bipush 107, 2, 0, 0, .null) := rfl
theorem f_133_27 : px_at 133 27 = some (.if_icmp .eq 9, 3, 36, 0, .null) := rfl
theorem f_133_30 : px_at 133 30 = some (.iload_n 0, 1, 0, 0, .null) := rfl
theorem f_133_31 : px_at 133 31 = some (.bipush 120, 2, 0, 0, .null) := rfl
theorem f_133_33 : px_at 133 33 = some (.if_icmp .ne 7, 3, 40, 0, .null) := rfl
theorem f_133_36 : px_at 133 36 = some (.iconst 1, 1, 0, 0, .null) := rfl
theorem f_133_37 : px_at 133 37 = some (.goto 4, 3, 41, 0, .null) := rfl
theorem f_133_40 : px_at 133 40 = some (.iconst 0, 1, 0, 0, .null) := rfl
theorem f_133_41 : px_at 133 41 = some (.ireturn, 1, 0, 0, .null) := rfl

theorem f_134_0 : px_at 134 0 = some (.aload_n 0, 1, 0, 0, .null) := rfl
theorem f_134_1 : px_at 134 1 = some (.bipush 97, 2, 0, 0, .null) := rfl
theorem f_134_3 : px_at 134 3 = some (.bipush 98, 2, 0, 0, .null) := rfl
theorem f_134_5 : px_at 134 5 = some (.bipush 99, 2, 0, 0, .null) := rfl
theorem f_134_7 : px_at 134 7 = some (.bipush 100, 2, 0, 0, .null) := rfl
theorem f_134_9 : px_at 134 9 = some (.invokevirtual 158, 3, 123, 1, .null) := rfl
theorem f_134_12 : px_at 134 12 = some (.ifCond .ne 5, 3, 17, 0, .null) := rfl
theorem f_134_15 : px_at 134 15 = some (.iconst 0, 1, 0, 0, .null) := rfl
theorem f_134_16 : px_at 134 16 = some (.ireturn, 1, 0, 0, .null) := rfl
theorem f_134_17 : px_at 134 17 = some (.aload_n 0, 1, 0, 0, .null) := rfl
theorem f_134_18 : px_at 134 18 = some (.aload_n 0, 1, 0, 0, .null) := rfl
theorem f_134_19 : px_at 134 19 = some (.getfield 139, 3, 12, 20, .null) := rfl
theorem f_134_22 : px_at 134 22 = some (.bipush 97, 2, 0, 0, .null) := rfl
theorem f_134_24 : px_at 134 24 = some (.isub, 1, 0, 0, .null) := rfl
theorem f_134_25 : px_at 134 25 = some (.putfield 185, 3, 12, 24, .null) := rfl
theorem f_134_28 : px_at 134 28 = some (.aload_n 0, 1, 0, 0, .null) := rfl
theorem f_134_29 : px_at 134 29 = some (.invokevirtual 162, 3, 127, 1, .null) := rfl
theorem f_134_32 : px_at 134 32 = some (.ifCond .ne 5, 3, 37, 0, .null) := rfl
theorem f_134_35 : px_at 134 35 = some (.iconst 0, 1, 0, 0, .null) := rfl
theorem f_134_36 : px_at 134 36 = some (.ireturn, 1, 0, 0, .null) := rfl
theorem f_134_37 : px_at 134 37 = some (.aload_n 0, 1, 0, 0, .null) := rfl
theorem f_134_38 : px_at 134 38 = some (.aload_n 0, 1, 0, 0, .null) := rfl
theorem f_134_39 : px_at 134 39 = some (.getfield 139, 3, 12, 20, .null) := rfl
theorem f_134_42 : px_at 134 42 = some (.putfield 188, 3, 12, 25, .null) := rfl
theorem f_134_45 : px_at 134 45 = some (.aload_n 0, 1, 0, 0, .null) := rfl
theorem f_134_46 : px_at 134 46 = some (.invokevirtual 148, 3, 126, 1, .null) := rfl
theorem f_134_49 : px_at 134 49 = some (.ifCond .ne 5, 3, 54, 0, .null) := rfl
theorem f_134_52 : px_at 134 52 = some (.iconst 0, 1, 0, 0, .null) := rfl
theorem f_134_53 : px_at 134 53 = some (.ireturn, 1, 0, 0, .null) := rfl
theorem f_134_54 : px_at 134 54 = some (.aload_n 0, 1, 0, 0, .null) := rfl
theorem f_134_55 : px_at 134 55 = some (.aload_n 0, 1, 0, 0, .null) := rfl
theorem f_134_56 : px_at 134 56 = some (.getfield 139, 3, 12, 20, .null) := rfl
theorem f_134_59 : px_at 134 59 = some (.putfield 191, 3, 12, 26, .null) := rfl
theorem f_134_62 : px_at 134 62 = some (.iconst 1, 1, 0, 0, .null) := rfl
theorem f_134_63 : px_at 134 63 = some (.ireturn, 1, 0, 0, .null) := rfl

theorem f_135_0 : px_at 135 0 = some (.aload_n 0, 1, 0, 0, .null) := rfl
theorem f_135_1 : px_at 135 1 = some (.dup, 1, 0, 0, .null) := rfl
theorem f_135_2 : px_at 135 2 = some (.getfield 125, 3, 12, 17, .null) := rfl
theorem f_135_5 : px_at 135 5 = some (.iconst 1, 1, 0, 0, .null) := rfl
theorem f_135_6 : px_at 135 6 = some (.iadd, 1, 0, 0, .null) := rfl
theorem f_135_7 : px_at 135 7 = some (.putfield 125, 3, 12, 17, .null) := rfl
theorem f_135_10 : px_at 135 10 = some (.aload_n 0, 1, 0, 0, .null) := rfl
theorem f_135_11 : px_at 135 11 = some (.bipush (-3), 2, 0, 0, .null) := rfl
theorem f_135_13 : px_at 135 13 = some (.putfield 185, 3, 12, 24, .null) := rfl
theorem f_135_16 : px_at 135 16 = some (.aload_n 0, 1, 0, 0, .null) := rfl
theorem f_135_17 : px_at 135 17 = some (.iconst 0, 1, 0, 0, .null) := rfl
theorem f_135_18 : px_at 135 18 = some (.putfield 188, 3, 12, 25, .null) := rfl
theorem f_135_21 : px_at 135 21 = some (.aload_n 0, 1, 0, 0, .null) := rfl
theorem f_135_22 : px_at 135 22 = some (.bipush (-3), 2, 0, 0, .null) := rfl
theorem f_135_24 : px_at 135 24 = some (.putfield 191, 3, 12, 26, .null) := rfl
theorem f_135_27 : px_at 135 27 = some (.iload_n 1, 1, 0, 0, .null) := rfl
theorem f_135_28 : px_at 135 28 = some (.bipush 114, 2, 0, 0, .null) := rfl
theorem f_135_30 : px_at 135 30 = some (.if_icmp .eq 9, 3, 39, 0, .null) := rfl
theorem f_135_33 : px_at 135 33 = some (.iload_n 1, 1, 0, 0, .null) := rfl
theorem f_135_34 : px_at 135 34 = some (.bipush 82, 2, 0, 0, .null) := rfl
theorem f_135_36 : px_at 135 36 = some (.if_icmp .ne 12, 3, 48, 0, .null) := rfl
theorem f_135_39 : px_at 135 39 = some (.aload_n 0, 1, 0, 0, .null) := rfl
theorem f_135_40 : px_at 135 40 = some (.invokevirtual 194, 3, 134, 1, .null) := rfl
theorem f_135_43 : px_at 135 43 = some (.ifCond .ne 5, 3, 48, 0, .null) := rfl
theorem f_135_46 : px_at 135 46 = some (.iconst 0, 1, 0, 0, .null) := rfl
theorem f_135_47 : px_at 135 47 = some (.ireturn, 1, 0, 0, .null) := rfl
theorem f_135_48 : px_at 135 48 = some (.iload_n 1, 1, 0, 0, .null) := rfl
theorem f_135_49 : px_at 135 49 = some (.bipush 104, 2, 0, 0, .null) := rfl
theorem f_135_51 : px_at 135 51 = some (.if_icmp .eq 9, 3, 60, 0, .null) := rfl
theorem f_135_54 : px_at 135 54 = some (.iload_n 1, 1, 0, 0, .null) := rfl
theorem f_135_55 : px_at 135 55 = some (.bipush 72, 2, 0, 0, .null) := rfl
theorem f_135_57 : px_at 135 57 = some (.if_icmp .ne 20, 3, 77, 0, .null) := rfl
theorem f_135_60 : px_at 135 60 = some (.aload_n 0, 1, 0, 0, .null) := rfl
theorem f_135_61 : px_at 135 61 = some (.invokevirtual 148, 3, 126, 1, .null) := rfl
theorem f_135_64 : px_at 135 64 = some (.ifCond .ne 5, 3, 69, 0, .null) := rfl
theorem f_135_67 : px_at 135 67 = some (.iconst 0, 1, 0, 0, .null) := rfl
theorem f_135_68 : px_at 135 68 = some (.ireturn, 1, 0, 0, .null) := rfl
theorem f_135_69 : px_at 135 69 = some (.aload_n 0, 1, 0, 0, .null) := rfl
theorem f_135_70 : px_at 135 70 = some (.aload_n 0, 1, 0, 0, .null) := rfl
theorem f_135_71 : px_at 135 71 = some (.getfield 139, 3, 12, 20, .null) := rfl
theorem f_135_74 : px_at 135 74 = some (.putfield 191, 3, 12, 26, .null) := rfl
theorem f_135_77 : px_at 135 77 = some (.aload_n 0, 1, 0, 0, .null) := rfl
theorem f_135_78 : px_at 135 78 = some (.getfield 151, 3, 12, 18, .null) := rfl
theorem f_135_81 : px_at 135 81 = some (.ifCond .eq 53, 3, 134, 0, .null) := rfl
theorem f_135_84 : px_at 135 84 = some (.bipush 24, 2, 0, 0, .null) := rfl
theorem f_135_86 : px_at 135 86 = some (.aload_n 0, 1, 0, 0, .null) := rfl
theorem f_135_87 : px_at 135 87 = some (.getfield 197, 3, 12, 22, .null) := rfl
theorem f_135_90 : px_at 135 90 = some (.imul, 1, 0, 0, .null) := rfl
theorem f_135_91 : px_at 135 91 = some (.iload_n 2, 1, 0, 0, .null) := rfl
theorem f_135_92 : px_at 135 92 = some (.iadd, 1, 0, 0, .null) := rfl
theorem f_135_93 : px_at 135 93 = some (.istore_n 3, 1, 0, 0, .null) := rfl
theorem f_135_94 : px_at 135 94 = some (.aload_n 0, 1, 0, 0, .null) := rfl
theorem f_135_95 : px_at 135 95 = some (.getfield 26, 3, 12, 8, .null) := rfl
theorem f_135_98 : px_at 135 98 = some (.iload_n 3, 1, 0, 0, .null) := rfl
theorem f_135_99 : px_at 135 99 = some (.iload_n 1, 1, 0, 0, .null) := rfl
theorem f_135_100 : px_at 135 100 = some (.castore, 1, 0, 0, .null) := rfl
theorem f_135_101 : px_at 135 101 = some (.aload_n 0, 1, 0, 0, .null) := rfl
theorem f_135_102 : px_at 135 102 = some (.getfield 29, 3, 12, 9, .null) := rfl
theorem f_135_105 : px_at 135 105 = some (.iload_n 3, 1, 0, 0, .null) := rfl
theorem f_135_106 : px_at 135 106 = some (.aload_n 0, 1, 0, 0, .null) := rfl
theorem f_135_107 : px_at 135 107 = some (.getfield 185, 3, 12, 24, .null) := rfl
theorem f_135_110 : px_at 135 110 = some (.i2b, 1, 0, 0, .null) := rfl
theorem f_135_111 : px_at 135 111 = some (.bastore, 1, 0, 0, .null) := rfl
theorem f_135_112 : px_at 135 112 = some (.aload_n 0, 1, 0, 0, .null) := rfl
theorem f_135_113 : px_at 135 113 = some (.getfield 33, 3, 12, 10, .null) := rfl
theorem f_135_116 : px_at 135 116 = some (.iload_n 3, 1, 0, 0, .null) := rfl
theorem f_135_117 : px_at 135 117 = some (.aload_n 0, 1, 0, 0, .null) := rfl
theorem f_135_118 : px_at 135 118 = some (.getfield 188, 3, 12, 25, .null) := rfl
theorem f_135_121 : px_at 135 121 = some (.i2s, 1, 0, 0, .null) := rfl
theorem f_135_122 : px_at 135 122 = some (.sastore, 1, 0, 0, .null) := rfl
theorem f_135_123 : px_at 135 123 = some (.aload_n 0, 1, 0, 0, .null) := rfl
theorem f_135_124 : px_at 135 124 = some (.getfield 37, 3, 12, 11, .null) := rfl
theorem f_135_127 : px_at 135 127 = some (.iload_n 3, 1, 0, 0, .null) := rfl
theorem f_135_128 : px_at 135 128 = some (.aload_n 0, 1, 0, 0, .null) := rfl
theorem f_135_129 : px_at 135 129 = some (.getfield 191, 3, 12, 26, .null) := rfl
theorem f_135_132 : px_at 135 132 = some (.i2s, 1, 0, 0, .null) := rfl
theorem f_135_133 : px_at 135 133 = some (.sastore, 1, 0, 0, .null) := rfl
theorem f_135_134 : px_at 135 134 = some (.iconst 1, 1, 0, 0, .null) := rfl
theorem f_135_135 : px_at 135 135 = some (.ireturn, 1, 0, 0, .null) := rfl

theorem f_136_0 : px_at 136 0 = some (.iconst 0, 1, 0, 0, .null) := rfl
theorem f_136_1 : px_at 136 1 = some (.istore_n 1, 1, 0, 0, .null) := rfl
theorem f_136_2 : px_at 136 2 = some (.iload_n 1, 1, 0, 0, .null) := rfl
theorem f_136_3 : px_at 136 3 = some (.bipush 16, 2, 0, 0, .null) := rfl
theorem f_136_5 : px_at 136 5 = some (.if_icmp .ge 86, 3, 91, 0, .null) := rfl
theorem f_136_8 : px_at 136 8 = some (.aload_n 0, 1, 0, 0, .null) := rfl
theorem f_136_9 : px_at 136 9 = some (.invokevirtual 131, 3, 120, 1, .null) := rfl
theorem f_136_12 : px_at 136 12 = some (.bipush 97, 2, 0, 0, .null) := rfl
theorem f_136_14 : px_at 136 14 = some (.if_icmp .lt 77, 3, 91, 0, .null) := rfl
theorem f_136_17 : px_at 136 17 = some (.aload_n 0, 1, 0, 0, .null) := rfl
theorem f_136_18 : px_at 136 18 = some (.invokevirtual 131, 3, 120, 1, .null) := rfl
theorem f_136_21 : px_at 136 21 = some (.bipush 100, 2, 0, 0, .null) := rfl
theorem f_136_23 : px_at 136 23 = some (.if_icmp .gt 68, 3, 91, 0, .null) := rfl
theorem f_136_26 : px_at 136 26 = some (.aload_n 0, 1, 0, 0, .null) := rfl
theorem f_136_27 : px_at 136 27 = some (.invokevirtual 194, 3, 134, 1, .null) := rfl
theorem f_136_30 : px_at 136 30 = some (.ifCond .ne 5, 3, 35, 0, .null) := rfl
theorem f_136_33 : px_at 136 33 = some (.iconst 0, 1, 0, 0, .null) := rfl
theorem f_136_34 : px_at 136 34 = some (.ireturn, 1, 0, 0, .null) := rfl
theorem f_136_35 : px_at 136 35 = some (.aload_n 0, 1, 0, 0, .null) := rfl
theorem f_136_36 : px_at 136 36 = some (.getfield 151, 3, 12, 18, .null) := rfl
theorem f_136_39 : px_at 136 39 = some (.ifCond .eq 46, 3, 85, 0, .null) := rfl
theorem f_136_42 : px_at 136 42 = some (.bipush 16, 2, 0, 0, .null) := rfl
theorem f_136_44 : px_at 136 44 = some (.aload_n 0, 1, 0, 0, .null) := rfl
theorem f_136_45 : px_at 136 45 = some (.getfield 197, 3, 12, 22, .null) := rfl
theorem f_136_48 : px_at 136 48 = some (.imul, 1, 0, 0, .null) := rfl
theorem f_136_49 : px_at 136 49 = some (.iload_n 1, 1, 0, 0, .null) := rfl
theorem f_136_50 : px_at 136 50 = some (.iadd, 1, 0, 0, .null) := rfl
theorem f_136_51 : px_at 136 51 = some (.istore_n 2, 1, 0, 0, .null) := rfl
theorem f_136_52 : px_at 136 52 = some (.aload_n 0, 1, 0, 0, .null) := rfl
theorem f_136_53 : px_at 136 53 = some (.getfield 43, 3, 12, 13, .null) := rfl
theorem f_136_56 : px_at 136 56 = some (.iload_n 2, 1, 0, 0, .null) := rfl
theorem f_136_57 : px_at 136 57 = some (.aload_n 0, 1, 0, 0, .null) := rfl
theorem f_136_58 : px_at 136 58 = some (.getfield 185, 3, 12, 24, .null) := rfl
theorem f_136_61 : px_at 136 61 = some (.i2b, 1, 0, 0, .null) := rfl
theorem f_136_62 : px_at 136 62 = some (.bastore, 1, 0, 0, .null) := rfl
theorem f_136_63 : px_at 136 63 = some (.aload_n 0, 1, 0, 0, .null) := rfl
theorem f_136_64 : px_at 136 64 = some (.getfield 46, 3, 12, 14, .null) := rfl
theorem f_136_67 : px_at 136 67 = some (.iload_n 2, 1, 0, 0, .null) := rfl
theorem f_136_68 : px_at 136 68 = some (.aload_n 0, 1, 0, 0, .null) := rfl
theorem f_136_69 : px_at 136 69 = some (.getfield 188, 3, 12, 25, .null) := rfl
theorem f_136_72 : px_at 136 72 = some (.i2s, 1, 0, 0, .null) := rfl
theorem f_136_73 : px_at 136 73 = some (.sastore, 1, 0, 0, .null) := rfl
theorem f_136_74 : px_at 136 74 = some (.aload_n 0, 1, 0, 0, .null) := rfl
theorem f_136_75 : px_at 136 75 = some (.getfield 49, 3, 12, 15, .null) := rfl
theorem f_136_78 : px_at 136 78 = some (.iload_n 2, 1, 0, 0, .null) := rfl
theorem f_136_79 : px_at 136 79 = some (.aload_n 0, 1, 0, 0, .null) := rfl
theorem f_136_80 : px_at 136 80 = some (.getfield 191, 3, 12, 26, .null) := rfl
theorem f_136_83 : px_at 136 83 = some (.i2s, 1, 0, 0, .null) := rfl
theorem f_136_84 : px_at 136 84 = some (.sastore, 1, 0, 0, .null) := rfl
theorem f_136_85 : px_at 136 85 = some (.iinc 1 1, 3, 0, 0, .null) := rfl
theorem f_136_88 : px_at 136 88 = some (.goto (-86), 3, 2, 0, .null) := rfl
theorem f_136_91 : px_at 136 91 = some (.aload_n 0, 1, 0, 0, .null) := rfl
theorem f_136_92 : px_at 136 92 = some (.bipush 61, 2, 0, 0, .null) := rfl
theorem f_136_94 : px_at 136 94 = some (.bipush 126, 2, 0, 0, .null) := rfl
theorem f_136_96 : px_at 136 96 = some (.bipush 33, 2, 0, 0, .null) := rfl
theorem f_136_98 : px_at 136 98 = some (.bipush 33, 2, 0, 0, .null) := rfl
theorem f_136_100 : px_at 136 100 = some (.invokevirtual 158, 3, 123, 1, .null) := rfl
theorem f_136_103 : px_at 136 103 = some (.ifCond .ne 5, 3, 108, 0, .null) := rfl
theorem f_136_106 : px_at 136 106 = some (.iconst 0, 1, 0, 0, .null) := rfl
theorem f_136_107 : px_at 136 107 = some (.ireturn, 1, 0, 0, .null) := rfl
theorem f_136_108 : px_at 136 108 = some (.aload_n 0, 1, 0, 0, .null) := rfl
theorem f_136_109 : px_at 136 109 = some (.getfield 151, 3, 12, 18, .null) := rfl
theorem f_136_112 : px_at 136 112 = some (.ifCond .eq 27, 3, 139, 0, .null) := rfl
theorem f_136_115 : px_at 136 115 = some (.aload_n 0, 1, 0, 0, .null) := rfl
theorem f_136_116 : px_at 136 116 = some (.getfield 40, 3, 12, 12, .null) := rfl
theorem f_136_119 : px_at 136 119 = some (.aload_n 0, 1, 0, 0, .null) := rfl
theorem f_136_120 : px_at 136 120 = some (.getfield 197, 3, 12, 22, .null) := rfl
theorem f_136_123 : px_at 136 123 = some (.iload_n 1, 1, 0, 0, .null) := rfl
theorem f_136_124 : px_at 136 124 = some (.iastore, 1, 0, 0, .null) := rfl
theorem f_136_125 : px_at 136 125 = some (.aload_n 0, 1, 0, 0, .null) := rfl
theorem f_136_126 : px_at 136 126 = some (.getfield 52, 3, 12, 16, .null) := rfl
theorem f_136_129 : px_at 136 129 = some (.aload_n 0, 1, 0, 0, .null) := rfl
theorem f_136_130 : px_at 136 130 = some (.getfield 197, 3, 12, 22, .null) := rfl
theorem f_136_133 : px_at 136 133 = some (.aload_n 0, 1, 0, 0, .null) := rfl
theorem f_136_134 : px_at 136 134 = some (.getfield 139, 3, 12, 20, .null) := rfl
theorem f_136_137 : px_at 136 137 = some (.i2c, 1, 0, 0, .null) := rfl
theorem f_136_138 : px_at 136 138 = some (.castore, 1, 0, 0, .null) := rfl
theorem f_136_139 : px_at 136 139 = some (.aload_n 0, 1, 0, 0, .null) := rfl
theorem f_136_140 : px_at 136 140 = some (.bipush 59, 2, 0, 0, .null) := rfl
theorem f_136_142 : px_at 136 142 = some (.invokevirtual 175, 3, 122, 1, .null) := rfl
theorem f_136_145 : px_at 136 145 = some (.ireturn, 1, 0, 0, .null) := rfl

theorem f_137_0 : px_at 137 0 = some (.aload_n 0, 1, 0, 0, .null) := rfl
theorem f_137_1 : px_at 137 1 = some (.dup, 1, 0, 0, .null) := rfl
theorem f_137_2 : px_at 137 2 = some (.getfield 125, 3, 12, 17, .null) := rfl
theorem f_137_5 : px_at 137 5 = some (.iconst 1, 1, 0, 0, .null) := rfl
theorem f_137_6 : px_at 137 6 = some (.iadd, 1, 0, 0, .null) := rfl
theorem f_137_7 : px_at 137 7 = some (.putfield 125, 3, 12, 17, .null) := rfl
theorem f_137_10 : px_at 137 10 = some (.iconst 0, 1, 0, 0, .null) := rfl
theorem f_137_11 : px_at 137 11 = some (.istore_n 1, 1, 0, 0, .null) := rfl
theorem f_137_12 : px_at 137 12 = some (.iload_n 1, 1, 0, 0, .null) := rfl
theorem f_137_13 : px_at 137 13 = some (.bipush 24, 2, 0, 0, .null) := rfl
theorem f_137_15 : px_at 137 15 = some (.if_icmp .ge 33, 3, 48, 0, .null) := rfl
theorem f_137_18 : px_at 137 18 = some (.aload_n 0, 1, 0, 0, .null) := rfl
theorem f_137_19 : px_at 137 19 = some (.invokevirtual 131, 3, 120, 1, .null) := rfl
theorem f_137_22 : px_at 137 22 = some (.invokestatic 200, 3, 133, 2, .null) := rfl
theorem f_137_25 : px_at 137 25 = some (.ifCond .eq 23, 3, 48, 0, .null) := rfl
theorem f_137_28 : px_at 137 28 = some (.aload_n 0, 1, 0, 0, .null) := rfl
theorem f_137_29 : px_at 137 29 = some (.aload_n 0, 1, 0, 0, .null) := rfl
theorem f_137_30 : px_at 137 30 = some (.invokevirtual 131, 3, 120, 1, .null) := rfl
theorem f_137_33 : px_at 137 33 = some (.iload_n 1, 1, 0, 0, .null) := rfl
theorem f_137_34 : px_at 137 34 = some (.invokevirtual 203, 3, 135, 1, .null) := rfl
theorem f_137_37 : px_at 137 37 = some (.ifCond .ne 5, 3, 42, 0, .null) := rfl
theorem f_137_40 : px_at 137 40 = some (.iconst 0, 1, 0, 0, .null) := rfl
theorem f_137_41 : px_at 137 41 = some (.ireturn, 1, 0, 0, .null) := rfl
theorem f_137_42 : px_at 137 42 = some (.iinc 1 1, 3, 0, 0, .null) := rfl
theorem f_137_45 : px_at 137 45 = some (.goto (-33), 3, 12, 0, .null) := rfl
theorem f_137_48 : px_at 137 48 = some (.aload_n 0, 1, 0, 0, .null) := rfl
theorem f_137_49 : px_at 137 49 = some (.getfield 151, 3, 12, 18, .null) := rfl
theorem f_137_52 : px_at 137 52 = some (.ifCond .eq 13, 3, 65, 0, .null) := rfl
theorem f_137_55 : px_at 137 55 = some (.aload_n 0, 1, 0, 0, .null) := rfl
theorem f_137_56 : px_at 137 56 = some (.getfield 23, 3, 12, 7, .null) := rfl
theorem f_137_59 : px_at 137 59 = some (.aload_n 0, 1, 0, 0, .null) := rfl
theorem f_137_60 : px_at 137 60 = some (.getfield 197, 3, 12, 22, .null) := rfl
theorem f_137_63 : px_at 137 63 = some (.iload_n 1, 1, 0, 0, .null) := rfl
theorem f_137_64 : px_at 137 64 = some (.iastore, 1, 0, 0, .null) := rfl
theorem f_137_65 : px_at 137 65 = some (.aload_n 0, 1, 0, 0, .null) := rfl
theorem f_137_66 : px_at 137 66 = some (.bipush 58, 2, 0, 0, .null) := rfl
theorem f_137_68 : px_at 137 68 = some (.invokevirtual 175, 3, 122, 1, .null) := rfl
theorem f_137_71 : px_at 137 71 = some (.ifCond .eq 10, 3, 81, 0, .null) := rfl
theorem f_137_74 : px_at 137 74 = some (.aload_n 0, 1, 0, 0, .null) := rfl
theorem f_137_75 : px_at 137 75 = some (.invokevirtual 207, 3, 136, 1, .null) := rfl
theorem f_137_78 : px_at 137 78 = some (.ifCond .ne 5, 3, 83, 0, .null) := rfl
theorem f_137_81 : px_at 137 81 = some (.iconst 0, 1, 0, 0, .null) := rfl
theorem f_137_82 : px_at 137 82 = some (.ireturn, 1, 0, 0, .null) := rfl
theorem f_137_83 : px_at 137 83 = some (.aload_n 0, 1, 0, 0, .null) := rfl
theorem f_137_84 : px_at 137 84 = some (.dup, 1, 0, 0, .null) := rfl
theorem f_137_85 : px_at 137 85 = some (.getfield 197, 3, 12, 22, .null) := rfl
theorem f_137_88 : px_at 137 88 = some (.iconst 1, 1, 0, 0, .null) := rfl
theorem f_137_89 : px_at 137 89 = some (.iadd, 1, 0, 0, .null) := rfl
theorem f_137_90 : px_at 137 90 = some (.putfield 197, 3, 12, 22, .null) := rfl
theorem f_137_93 : px_at 137 93 = some (.iconst 1, 1, 0, 0, .null) := rfl
theorem f_137_94 : px_at 137 94 = some (.ireturn, 1, 0, 0, .null) := rfl

theorem f_138_0 : px_at 138 0 = some (.aload_n 0, 1, 0, 0, .null) := rfl
theorem f_138_1 : px_at 138 1 = some (.iconst 0, 1, 0, 0, .null) := rfl
theorem f_138_2 : px_at 138 2 = some (.putfield 125, 3, 12, 17, .null) := rfl
theorem f_138_5 : px_at 138 5 = some (.aload_n 0, 1, 0, 0, .null) := rfl
theorem f_138_6 : px_at 138 6 = some (.iload_n 1, 1, 0, 0, .null) := rfl
theorem f_138_7 : px_at 138 7 = some (.putfield 151, 3, 12, 18, .null) := rfl
theorem f_138_10 : px_at 138 10 = some (.aload_n 0, 1, 0, 0, .null) := rfl
theorem f_138_11 : px_at 138 11 = some (.iconst 0, 1, 0, 0, .null) := rfl
theorem f_138_12 : px_at 138 12 = some (.putfield 197, 3, 12, 22, .null) := rfl
theorem f_138_15 : px_at 138 15 = some (.aload_n 0, 1, 0, 0, .null) := rfl
theorem f_138_16 : px_at 138 16 = some (.invokevirtual 210, 3, 132, 1, .null) := rfl
theorem f_138_19 : px_at 138 19 = some (.ifCond .ne 5, 3, 24, 0, .null) := rfl
theorem f_138_22 : px_at 138 22 = some (.iconst 0, 1, 0, 0, .null) := rfl
theorem f_138_23 : px_at 138 23 = some (.ireturn, 1, 0, 0, .null) := rfl
theorem f_138_24 : px_at 138 24 = some (.aload_n 0, 1, 0, 0, .null) := rfl
theorem f_138_25 : px_at 138 25 = some (.getfield 197, 3, 12, 22, .null) := rfl
theorem f_138_28 : px_at 138 28 = some (.bipush 8, 2, 0, 0, .null) := rfl
theorem f_138_30 : px_at 138 30 = some (.if_icmp .ge 21, 3, 51, 0, .null) := rfl
theorem f_138_33 : px_at 138 33 = some (.aload_n 0, 1, 0, 0, .null) := rfl
theorem f_138_34 : px_at 138 34 = some (.invokevirtual 131, 3, 120, 1, .null) := rfl
theorem f_138_37 : px_at 138 37 = some (.bipush 67, 2, 0, 0, .null) := rfl
theorem f_138_39 : px_at 138 39 = some (.if_icmp .ne 12, 3, 51, 0, .null) := rfl
theorem f_138_42 : px_at 138 42 = some (.aload_n 0, 1, 0, 0, .null) := rfl
theorem f_138_43 : px_at 138 43 = some (.invokevirtual 213, 3, 137, 1, .null) := rfl
theorem f_138_46 : px_at 138 46 = some (.ifCond .ne (-22), 3, 24, 0, .null) := rfl
theorem f_138_49 : px_at 138 49 = some (.iconst 0, 1, 0, 0, .null) := rfl
theorem f_138_50 : px_at 138 50 = some (.ireturn, 1, 0, 0, .null) := rfl
theorem f_138_51 : px_at 138 51 = some (.aload_n 0, 1, 0, 0, .null) := rfl
theorem f_138_52 : px_at 138 52 = some (.invokevirtual 131, 3, 120, 1, .null) := rfl
theorem f_138_55 : px_at 138 55 = some (.istore_n 2, 1, 0, 0, .null) := rfl
theorem f_138_56 : px_at 138 56 = some (.aload_n 0, 1, 0, 0, .null) := rfl
theorem f_138_57 : px_at 138 57 = some (.getfield 125, 3, 12, 17, .null) := rfl
theorem f_138_60 : px_at 138 60 = some (.aload_n 0, 1, 0, 0, .null) := rfl
theorem f_138_61 : px_at 138 61 = some (.getfield 121, 3, 12, 1, .null) := rfl
theorem f_138_64 : px_at 138 64 = some (.if_icmp .eq 10, 3, 74, 0, .null) := rfl
theorem f_138_67 : px_at 138 67 = some (.aload_n 0, 1, 0, 0, .null) := rfl
theorem f_138_68 : px_at 138 68 = some (.invokevirtual 135, 3, 121, 1, .null) := rfl
theorem f_138_71 : px_at 138 71 = some (.ifCond .eq 7, 3, 78, 0, .null) := rfl
theorem f_138_74 : px_at 138 74 = some (.iconst 1, 1, 0, 0, .null) := rfl
theorem f_138_75 : px_at 138 75 = some (.goto 4, 3, 79, 0, .null) := rfl
theorem f_138_78 : px_at 138 78 = some (.iconst 0, 1, 0, 0, .null) := rfl
theorem f_138_79 : px_at 138 79 = some (.ireturn, 1, 0, 0, .null) := rfl

theorem f_139_0 : px_at 139 0 = some (.aload_n 0, 1, 0, 0, .null) := rfl
theorem f_139_1 : px_at 139 1 = some (.iconst 0, 1, 0, 0, .null) := rfl
theorem f_139_2 : px_at 139 2 = some (.invokevirtual 216, 3, 138, 1, .null) := rfl
theorem f_139_5 : px_at 139 5 = some (.istore_n 1, 1, 0, 0, .null) := rfl
theorem f_139_6 : px_at 139 6 = some (.iload_n 1, 1, 0, 0, .null) := rfl
theorem f_139_7 : px_at 139 7 = some (.ifCond .eq 25, 3, 32, 0, .null) := rfl
theorem f_139_10 : px_at 139 10 = some (.aload_n 0, 1, 0, 0, .null) := rfl
theorem f_139_11 : px_at 139 11 = some (.iconst 1, 1, 0, 0, .null) := rfl
theorem f_139_12 : px_at 139 12 = some (.invokevirtual 216, 3, 138, 1, .null) := rfl
theorem f_139_15 : px_at 139 15 = some (.istore_n 1, 1, 0, 0, .null) := rfl
theorem f_139_16 : px_at 139 16 = some (.aload_n 0, 1, 0, 0, .null) := rfl
theorem f_139_17 : px_at 139 17 = some (.aload_n 0, 1, 0, 0, .null) := rfl
theorem f_139_18 : px_at 139 18 = some (.getfield 155, 3, 12, 21, .null) := rfl
theorem f_139_21 : px_at 139 21 = some (.putfield 220, 3, 12, 2, .null) := rfl
theorem f_139_24 : px_at 139 24 = some (.aload_n 0, 1, 0, 0, .null) := rfl
theorem f_139_25 : px_at 139 25 = some (.aload_n 0, 1, 0, 0, .null) := rfl
theorem f_139_26 : px_at 139 26 = some (.getfield 197, 3, 12, 22, .null) := rfl
theorem f_139_29 : px_at 139 29 = some (.putfield 223, 3, 12, 6, .null) := rfl
theorem f_139_32 : px_at 139 32 = some (.aload_n 0, 1, 0, 0, .null) := rfl
theorem f_139_33 : px_at 139 33 = some (.iconst 0, 1, 0, 0, .null) := rfl
theorem f_139_34 : px_at 139 34 = some (.putfield 121, 3, 12, 1, .null) := rfl
theorem f_139_37 : px_at 139 37 = some (.iload_n 1, 1, 0, 0, .null) := rfl
theorem f_139_38 : px_at 139 38 = some (.ifCond .eq 10, 3, 48, 0, .null) := rfl
theorem f_139_41 : px_at 139 41 = some (.aload_n 0, 1, 0, 0, .null) := rfl
theorem f_139_42 : px_at 139 42 = some (.getfield 223, 3, 12, 6, .null) := rfl
theorem f_139_45 : px_at 139 45 = some (.goto 10, 3, 55, 0, .null) := rfl
theorem f_139_48 : px_at 139 48 = some (.bipush (-10), 2, 0, 0, .null) := rfl
theorem f_139_50 : px_at 139 50 = some (.aload_n 0, 1, 0, 0, .null) := rfl
theorem f_139_51 : px_at 139 51 = some (.getfield 128, 3, 12, 19, .null) := rfl
theorem f_139_54 : px_at 139 54 = some (.isub, 1, 0, 0, .null) := rfl
theorem f_139_55 : px_at 139 55 = some (.ireturn, 1, 0, 0, .null) := rfl

theorem f_140_0 : px_at 140 0 = some (.aload_n 0, 1, 0, 0, .null) := rfl
theorem f_140_1 : px_at 140 1 = some (.aload_n 0, 1, 0, 0, .null) := rfl
theorem f_140_2 : px_at 140 2 = some (.getfield 220, 3, 12, 2, .null) := rfl
theorem f_140_5 : px_at 140 5 = some (.putfield 226, 3, 12, 27, .null) := rfl
theorem f_140_8 : px_at 140 8 = some (.iconst 0, 1, 0, 0, .null) := rfl
theorem f_140_9 : px_at 140 9 = some (.istore_n 1, 1, 0, 0, .null) := rfl
theorem f_140_10 : px_at 140 10 = some (.iload_n 1, 1, 0, 0, .null) := rfl
theorem f_140_11 : px_at 140 11 = some (.aload_n 0, 1, 0, 0, .null) := rfl
theorem f_140_12 : px_at 140 12 = some (.getfield 220, 3, 12, 2, .null) := rfl
theorem f_140_15 : px_at 140 15 = some (.if_icmp .ge 45, 3, 60, 0, .null) := rfl
theorem f_140_18 : px_at 140 18 = some (.aload_n 0, 1, 0, 0, .null) := rfl
theorem f_140_19 : px_at 140 19 = some (.getfield 55, 3, 12, 28, .null) := rfl
theorem f_140_22 : px_at 140 22 = some (.iload_n 1, 1, 0, 0, .null) := rfl
theorem f_140_23 : px_at 140 23 = some (.aload_n 0, 1, 0, 0, .null) := rfl
theorem f_140_24 : px_at 140 24 = some (.getfield 13, 3, 12, 3, .null) := rfl
theorem f_140_27 : px_at 140 27 = some (.iload_n 1, 1, 0, 0, .null) := rfl
theorem f_140_28 : px_at 140 28 = some (.caload, 1, 0, 0, .null) := rfl
theorem f_140_29 : px_at 140 29 = some (.castore, 1, 0, 0, .null) := rfl
theorem f_140_30 : px_at 140 30 = some (.aload_n 0, 1, 0, 0, .null) := rfl
theorem f_140_31 : px_at 140 31 = some (.getfield 58, 3, 12, 29, .null) := rfl
theorem f_140_34 : px_at 140 34 = some (.iload_n 1, 1, 0, 0, .null) := rfl
theorem f_140_35 : px_at 140 35 = some (.aload_n 0, 1, 0, 0, .null) := rfl
theorem f_140_36 : px_at 140 36 = some (.getfield 16, 3, 12, 4, .null) := rfl
theorem f_140_39 : px_at 140 39 = some (.iload_n 1, 1, 0, 0, .null) := rfl
theorem f_140_40 : px_at 140 40 = some (.caload, 1, 0, 0, .null) := rfl
theorem f_140_41 : px_at 140 41 = some (.castore, 1, 0, 0, .null) := rfl
theorem f_140_42 : px_at 140 42 = some (.aload_n 0, 1, 0, 0, .null) := rfl
theorem f_140_43 : px_at 140 43 = some (.getfield 61, 3, 12, 30, .null) := rfl
theorem f_140_46 : px_at 140 46 = some (.iload_n 1, 1, 0, 0, .null) := rfl
theorem f_140_47 : px_at 140 47 = some (.aload_n 0, 1, 0, 0, .null) := rfl
theorem f_140_48 : px_at 140 48 = some (.getfield 19, 3, 12, 5, .null) := rfl
theorem f_140_51 : px_at 140 51 = some (.iload_n 1, 1, 0, 0, .null) := rfl
theorem f_140_52 : px_at 140 52 = some (.iaload, 1, 0, 0, .null) := rfl
theorem f_140_53 : px_at 140 53 = some (.iastore, 1, 0, 0, .null) := rfl
theorem f_140_54 : px_at 140 54 = some (.iinc 1 1, 3, 0, 0, .null) := rfl
theorem f_140_57 : px_at 140 57 = some (.goto (-47), 3, 10, 0, .null) := rfl
theorem f_140_60 : px_at 140 60 = some (.return_, 1, 0, 0, .null) := rfl

theorem f_141_0 : px_at 141 0 = some (.aload_n 0, 1, 0, 0, .null) := rfl
theorem f_141_1 : px_at 141 1 = some (.getfield 229, 3, 12, 46, .null) := rfl
theorem f_141_4 : px_at 141 4 = some (.ifCond .eq 17, 3, 21, 0, .null) := rfl
theorem f_141_7 : px_at 141 7 = some (.aload_n 0, 1, 0, 0, .null) := rfl
theorem f_141_8 : px_at 141 8 = some (.getfield 88, 3, 12, 47, .null) := rfl
theorem f_141_11 : px_at 141 11 = some (.iconst 5, 1, 0, 0, .null) := rfl
theorem f_141_12 : px_at 141 12 = some (.iload_n 1, 1, 0, 0, .null) := rfl
theorem f_141_13 : px_at 141 13 = some (.imul, 1, 0, 0, .null) := rfl
theorem f_141_14 : px_at 141 14 = some (.iload_n 2, 1, 0, 0, .null) := rfl
theorem f_141_15 : px_at 141 15 = some (.iadd, 1, 0, 0, .null) := rfl
theorem f_141_16 : px_at 141 16 = some (.dup2, 1, 0, 0, .null) := rfl
theorem f_141_17 : px_at 141 17 = some (.iaload, 1, 0, 0, .null) := rfl
theorem f_141_18 : px_at 141 18 = some (.iconst 1, 1, 0, 0, .null) := rfl
theorem f_141_19 : px_at 141 19 = some (.iadd, 1, 0, 0, .null) := rfl
theorem f_141_20 : px_at 141 20 = some (.iastore, 1, 0, 0, .null) := rfl
theorem f_141_21 : px_at 141 21 = some (.return_, 1, 0, 0, .null) := rfl
