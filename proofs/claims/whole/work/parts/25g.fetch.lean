theorem f_184_0 : px_at 184 0 = some (.aload_n 0, 1, 0, 0, .null) := rfl
theorem f_184_1 : px_at 184 1 = some (.invokevirtual 315, 3, 140, 1, .null) := rfl
theorem f_184_4 : px_at 184 4 = some (.aload_n 0, 1, 0, 0, .null) := rfl
theorem f_184_5 : px_at 184 5 = some (.iload_n 1, 1, 0, 0, .null) := rfl
theorem f_184_6 : px_at 184 6 = some (.invokevirtual 406, 3, 181, 1, .null) := rfl
theorem f_184_9 : px_at 184 9 = some (.aload_n 0, 1, 0, 0, .null) := rfl
theorem f_184_10 : px_at 184 10 = some (.iload_n 1, 1, 0, 0, .null) := rfl
theorem f_184_11 : px_at 184 11 = some (.invokevirtual 321, 3, 156, 1, .null) := rfl
theorem f_184_14 : px_at 184 14 = some (.aload_n 0, 1, 0, 0, .null) := rfl
theorem f_184_15 : px_at 184 15 = some (.aload_n 0, 1, 0, 0, .null) := rfl
theorem f_184_16 : px_at 184 16 = some (.getfield 232, 3, 12, 41, .null) := rfl
theorem f_184_19 : px_at 184 19 = some (.putfield 409, 3, 12, 66, .null) := rfl
theorem f_184_22 : px_at 184 22 = some (.aload_n 0, 1, 0, 0, .null) := rfl
theorem f_184_23 : px_at 184 23 = some (.aload_n 0, 1, 0, 0, .null) := rfl
theorem f_184_24 : px_at 184 24 = some (.getfield 284, 3, 12, 37, .null) := rfl
theorem f_184_27 : px_at 184 27 = some (.putfield 327, 3, 12, 57, .null) := rfl
theorem f_184_30 : px_at 184 30 = some (.iconst 0, 1, 0, 0, .null) := rfl
theorem f_184_31 : px_at 184 31 = some (.istore_n 2, 1, 0, 0, .null) := rfl
theorem f_184_32 : px_at 184 32 = some (.iload_n 2, 1, 0, 0, .null) := rfl
theorem f_184_33 : px_at 184 33 = some (.aload_n 0, 1, 0, 0, .null) := rfl
theorem f_184_34 : px_at 184 34 = some (.getfield 284, 3, 12, 37, .null) := rfl
theorem f_184_37 : px_at 184 37 = some (.if_icmp .ge 45, 3, 82, 0, .null) := rfl
theorem f_184_40 : px_at 184 40 = some (.aload_n 0, 1, 0, 0, .null) := rfl
theorem f_184_41 : px_at 184 41 = some (.getfield 103, 3, 12, 58, .null) := rfl
theorem f_184_44 : px_at 184 44 = some (.iload_n 2, 1, 0, 0, .null) := rfl
theorem f_184_45 : px_at 184 45 = some (.aload_n 0, 1, 0, 0, .null) := rfl
theorem f_184_46 : px_at 184 46 = some (.getfield 79, 3, 12, 38, .null) := rfl
theorem f_184_49 : px_at 184 49 = some (.iload_n 2, 1, 0, 0, .null) := rfl
theorem f_184_50 : px_at 184 50 = some (.baload, 1, 0, 0, .null) := rfl
theorem f_184_51 : px_at 184 51 = some (.bastore, 1, 0, 0, .null) := rfl
theorem f_184_52 : px_at 184 52 = some (.aload_n 0, 1, 0, 0, .null) := rfl
theorem f_184_53 : px_at 184 53 = some (.getfield 106, 3, 12, 59, .null) := rfl
theorem f_184_56 : px_at 184 56 = some (.iload_n 2, 1, 0, 0, .null) := rfl
theorem f_184_57 : px_at 184 57 = some (.aload_n 0, 1, 0, 0, .null) := rfl
theorem f_184_58 : px_at 184 58 = some (.getfield 82, 3, 12, 39, .null) := rfl
theorem f_184_61 : px_at 184 61 = some (.iload_n 2, 1, 0, 0, .null) := rfl
theorem f_184_62 : px_at 184 62 = some (.iaload, 1, 0, 0, .null) := rfl
theorem f_184_63 : px_at 184 63 = some (.iastore, 1, 0, 0, .null) := rfl
theorem f_184_64 : px_at 184 64 = some (.aload_n 0, 1, 0, 0, .null) := rfl
theorem f_184_65 : px_at 184 65 = some (.getfield 109, 3, 12, 60, .null) := rfl
theorem f_184_68 : px_at 184 68 = some (.iload_n 2, 1, 0, 0, .null) := rfl
theorem f_184_69 : px_at 184 69 = some (.aload_n 0, 1, 0, 0, .null) := rfl
theorem f_184_70 : px_at 184 70 = some (.getfield 85, 3, 12, 40, .null) := rfl
theorem f_184_73 : px_at 184 73 = some (.iload_n 2, 1, 0, 0, .null) := rfl
theorem f_184_74 : px_at 184 74 = some (.iaload, 1, 0, 0, .null) := rfl
theorem f_184_75 : px_at 184 75 = some (.iastore, 1, 0, 0, .null) := rfl
theorem f_184_76 : px_at 184 76 = some (.iinc 2 1, 3, 0, 0, .null) := rfl
theorem f_184_79 : px_at 184 79 = some (.goto (-47), 3, 32, 0, .null) := rfl
theorem f_184_82 : px_at 184 82 = some (.return_, 1, 0, 0, .null) := rfl

theorem f_185_0 : px_at 185 0 = some (.aload_n 0, 1, 0, 0, .null) := rfl
theorem f_185_1 : px_at 185 1 = some (.iload_n 1, 1, 0, 0, .null) := rfl
theorem f_185_2 : px_at 185 2 = some (.iload_n 2, 1, 0, 0, .null) := rfl
theorem f_185_3 : px_at 185 3 = some (.invokevirtual 412, 3, 183, 1, .null) := rfl
theorem f_185_6 : px_at 185 6 = some (.aload_n 0, 1, 0, 0, .null) := rfl
theorem f_185_7 : px_at 185 7 = some (.iload_n 1, 1, 0, 0, .null) := rfl
theorem f_185_8 : px_at 185 8 = some (.invokevirtual 321, 3, 156, 1, .null) := rfl
theorem f_185_11 : px_at 185 11 = some (.aload_n 0, 1, 0, 0, .null) := rfl
theorem f_185_12 : px_at 185 12 = some (.getfield 232, 3, 12, 41, .null) := rfl
theorem f_185_15 : px_at 185 15 = some (.aload_n 0, 1, 0, 0, .null) := rfl
theorem f_185_16 : px_at 185 16 = some (.getfield 409, 3, 12, 66, .null) := rfl
theorem f_185_19 : px_at 185 19 = some (.if_icmp .eq 5, 3, 24, 0, .null) := rfl
theorem f_185_22 : px_at 185 22 = some (.iconst 0, 1, 0, 0, .null) := rfl
theorem f_185_23 : px_at 185 23 = some (.ireturn, 1, 0, 0, .null) := rfl
theorem f_185_24 : px_at 185 24 = some (.aload_n 0, 1, 0, 0, .null) := rfl
theorem f_185_25 : px_at 185 25 = some (.invokevirtual 338, 3, 159, 1, .null) := rfl
theorem f_185_28 : px_at 185 28 = some (.aload_n 0, 1, 0, 0, .null) := rfl
theorem f_185_29 : px_at 185 29 = some (.invokevirtual 344, 3, 163, 1, .null) := rfl
theorem f_185_32 : px_at 185 32 = some (.aload_n 0, 1, 0, 0, .null) := rfl
theorem f_185_33 : px_at 185 33 = some (.invokevirtual 347, 3, 164, 1, .null) := rfl
theorem f_185_36 : px_at 185 36 = some (.bipush (-3), 2, 0, 0, .null) := rfl
theorem f_185_38 : px_at 185 38 = some (.if_icmp .ne 7, 3, 45, 0, .null) := rfl
theorem f_185_41 : px_at 185 41 = some (.iconst 1, 1, 0, 0, .null) := rfl
theorem f_185_42 : px_at 185 42 = some (.goto 4, 3, 46, 0, .null) := rfl
theorem f_185_45 : px_at 185 45 = some (.iconst 0, 1, 0, 0, .null) := rfl
theorem f_185_46 : px_at 185 46 = some (.ireturn, 1, 0, 0, .null) := rfl

theorem f_186_0 : px_at 186 0 = some (.aload_n 0, 1, 0, 0, .null) := rfl
theorem f_186_1 : px_at 186 1 = some (.iload_n 1, 1, 0, 0, .null) := rfl
theorem f_186_2 : px_at 186 2 = some (.invokevirtual 355, 3, 167, 1, .null) := rfl
theorem f_186_5 : px_at 186 5 = some (.ifCond .ne 5, 3, 10, 0, .null) := rfl
theorem f_186_8 : px_at 186 8 = some (.iconst (-1), 1, 0, 0, .null) := rfl
theorem f_186_9 : px_at 186 9 = some (.ireturn, 1, 0, 0, .null) := rfl
theorem f_186_10 : px_at 186 10 = some (.aload_n 0, 1, 0, 0, .null) := rfl
theorem f_186_11 : px_at 186 11 = some (.iload_n 1, 1, 0, 0, .null) := rfl
theorem f_186_12 : px_at 186 12 = some (.invokevirtual 397, 3, 174, 1, .null) := rfl
theorem f_186_15 : px_at 186 15 = some (.iconst 0, 1, 0, 0, .null) := rfl
theorem f_186_16 : px_at 186 16 = some (.istore_n 3, 1, 0, 0, .null) := rfl
theorem f_186_17 : px_at 186 17 = some (.iconst 0, 1, 0, 0, .null) := rfl
theorem f_186_18 : px_at 186 18 = some (.istore 4, 2, 0, 0, .null) := rfl
theorem f_186_20 : px_at 186 20 = some (.iload 4, 2, 0, 0, .null) := rfl
theorem f_186_22 : px_at 186 22 = some (.bipush 31, 2, 0, 0, .null) := rfl
theorem f_186_24 : px_at 186 24 = some (.if_icmp .ge 18, 3, 42, 0, .null) := rfl
theorem f_186_27 : px_at 186 27 = some (.iload_n 3, 1, 0, 0, .null) := rfl
theorem f_186_28 : px_at 186 28 = some (.iload_n 2, 1, 0, 0, .null) := rfl
theorem f_186_29 : px_at 186 29 = some (.iload 4, 2, 0, 0, .null) := rfl
theorem f_186_31 : px_at 186 31 = some (.ishr, 1, 0, 0, .null) := rfl
theorem f_186_32 : px_at 186 32 = some (.iconst 1, 1, 0, 0, .null) := rfl
theorem f_186_33 : px_at 186 33 = some (.iand, 1, 0, 0, .null) := rfl
theorem f_186_34 : px_at 186 34 = some (.iadd, 1, 0, 0, .null) := rfl
theorem f_186_35 : px_at 186 35 = some (.istore_n 3, 1, 0, 0, .null) := rfl
theorem f_186_36 : px_at 186 36 = some (.iinc 4 1, 3, 0, 0, .null) := rfl
theorem f_186_39 : px_at 186 39 = some (.goto (-19), 3, 20, 0, .null) := rfl
theorem f_186_42 : px_at 186 42 = some (.iload_n 2, 1, 0, 0, .null) := rfl
theorem f_186_43 : px_at 186 43 = some (.ifCond .lt 25, 3, 68, 0, .null) := rfl
theorem f_186_46 : px_at 186 46 = some (.iload_n 2, 1, 0, 0, .null) := rfl
theorem f_186_47 : px_at 186 47 = some (.aload_n 0, 1, 0, 0, .null) := rfl
theorem f_186_48 : px_at 186 48 = some (.getfield 364, 3, 12, 61, .null) := rfl
theorem f_186_51 : px_at 186 51 = some (.aload_n 0, 1, 0, 0, .null) := rfl
theorem f_186_52 : px_at 186 52 = some (.getfield 367, 3, 12, 62, .null) := rfl
theorem f_186_55 : px_at 186 55 = some (.iadd, 1, 0, 0, .null) := rfl
theorem f_186_56 : px_at 186 56 = some (.ishr, 1, 0, 0, .null) := rfl
theorem f_186_57 : px_at 186 57 = some (.ifCond .ne 11, 3, 68, 0, .null) := rfl
theorem f_186_60 : px_at 186 60 = some (.iload_n 3, 1, 0, 0, .null) := rfl
theorem f_186_61 : px_at 186 61 = some (.aload_n 0, 1, 0, 0, .null) := rfl
theorem f_186_62 : px_at 186 62 = some (.getfield 367, 3, 12, 62, .null) := rfl
theorem f_186_65 : px_at 186 65 = some (.if_icmp .eq 5, 3, 70, 0, .null) := rfl
theorem f_186_68 : px_at 186 68 = some (.iconst (-1), 1, 0, 0, .null) := rfl
theorem f_186_69 : px_at 186 69 = some (.ireturn, 1, 0, 0, .null) := rfl
theorem f_186_70 : px_at 186 70 = some (.aload_n 0, 1, 0, 0, .null) := rfl
theorem f_186_71 : px_at 186 71 = some (.iload_n 1, 1, 0, 0, .null) := rfl
theorem f_186_72 : px_at 186 72 = some (.invokevirtual 415, 3, 184, 1, .null) := rfl
theorem f_186_75 : px_at 186 75 = some (.aload_n 0, 1, 0, 0, .null) := rfl
theorem f_186_76 : px_at 186 76 = some (.iload_n 1, 1, 0, 0, .null) := rfl
theorem f_186_77 : px_at 186 77 = some (.iload_n 2, 1, 0, 0, .null) := rfl
theorem f_186_78 : px_at 186 78 = some (.invokevirtual 418, 3, 185, 1, .null) := rfl
theorem f_186_81 : px_at 186 81 = some (.ifCond .eq 7, 3, 88, 0, .null) := rfl
theorem f_186_84 : px_at 186 84 = some (.iconst 1, 1, 0, 0, .null) := rfl
theorem f_186_85 : px_at 186 85 = some (.goto 4, 3, 89, 0, .null) := rfl
theorem f_186_88 : px_at 186 88 = some (.iconst 0, 1, 0, 0, .null) := rfl
theorem f_186_89 : px_at 186 89 = some (.ireturn, 1, 0, 0, .null) := rfl

theorem f_187_0 : px_at 187 0 = some (.aload_n 0, 1, 0, 0, .null) := rfl
theorem f_187_1 : px_at 187 1 = some (.iload_n 1, 1, 0, 0, .null) := rfl
theorem f_187_2 : px_at 187 2 = some (.iload_n 2, 1, 0, 0, .null) := rfl
theorem f_187_3 : px_at 187 3 = some (.invokevirtual 393, 3, 178, 1, .null) := rfl
theorem f_187_6 : px_at 187 6 = some (.ifCond .ne 5, 3, 11, 0, .null) := rfl
theorem f_187_9 : px_at 187 9 = some (.iconst (-1), 1, 0, 0, .null) := rfl
theorem f_187_10 : px_at 187 10 = some (.ireturn, 1, 0, 0, .null) := rfl
theorem f_187_11 : px_at 187 11 = some (.iload_n 3, 1, 0, 0, .null) := rfl
theorem f_187_12 : px_at 187 12 = some (.ifCond .ge 6, 3, 18, 0, .null) := rfl
theorem f_187_15 : px_at 187 15 = some (.bipush (-3), 2, 0, 0, .null) := rfl
theorem f_187_17 : px_at 187 17 = some (.ireturn, 1, 0, 0, .null) := rfl
theorem f_187_18 : px_at 187 18 = some (.aload_n 0, 1, 0, 0, .null) := rfl
theorem f_187_19 : px_at 187 19 = some (.iload_n 1, 1, 0, 0, .null) := rfl
theorem f_187_20 : px_at 187 20 = some (.invokevirtual 397, 3, 174, 1, .null) := rfl
theorem f_187_23 : px_at 187 23 = some (.aload_n 0, 1, 0, 0, .null) := rfl
theorem f_187_24 : px_at 187 24 = some (.iload_n 1, 1, 0, 0, .null) := rfl
theorem f_187_25 : px_at 187 25 = some (.invokevirtual 415, 3, 184, 1, .null) := rfl
theorem f_187_28 : px_at 187 28 = some (.iconst 0, 1, 0, 0, .null) := rfl
theorem f_187_29 : px_at 187 29 = some (.istore 4, 2, 0, 0, .null) := rfl
theorem f_187_31 : px_at 187 31 = some (.iconst 0, 1, 0, 0, .null) := rfl
theorem f_187_32 : px_at 187 32 = some (.istore 5, 2, 0, 0, .null) := rfl
theorem f_187_34 : px_at 187 34 = some (.aload_n 0, 1, 0, 0, .null) := rfl
theorem f_187_35 : px_at 187 35 = some (.iload_n 2, 1, 0, 0, .null) := rfl
theorem f_187_36 : px_at 187 36 = some (.iload 4, 2, 0, 0, .null) := rfl
theorem f_187_38 : px_at 187 38 = some (.invokevirtual 400, 3, 177, 1, .null) := rfl
theorem f_187_41 : px_at 187 41 = some (.ifCond .eq 33, 3, 74, 0, .null) := rfl
theorem f_187_44 : px_at 187 44 = some (.aload_n 0, 1, 0, 0, .null) := rfl
theorem f_187_45 : px_at 187 45 = some (.iload_n 1, 1, 0, 0, .null) := rfl
theorem f_187_46 : px_at 187 46 = some (.aload_n 0, 1, 0, 0, .null) := rfl
theorem f_187_47 : px_at 187 47 = some (.getfield 376, 3, 12, 63, .null) := rfl
theorem f_187_50 : px_at 187 50 = some (.invokevirtual 418, 3, 185, 1, .null) := rfl
theorem f_187_53 : px_at 187 53 = some (.ifCond .ne 15, 3, 68, 0, .null) := rfl
theorem f_187_56 : px_at 187 56 = some (.iload 5, 2, 0, 0, .null) := rfl
theorem f_187_58 : px_at 187 58 = some (.iload_n 3, 1, 0, 0, .null) := rfl
theorem f_187_59 : px_at 187 59 = some (.if_icmp .ne 6, 3, 65, 0, .null) := rfl
theorem f_187_62 : px_at 187 62 = some (.iload 4, 2, 0, 0, .null) := rfl
theorem f_187_64 : px_at 187 64 = some (.ireturn, 1, 0, 0, .null) := rfl
theorem f_187_65 : px_at 187 65 = some (.iinc 5 1, 3, 0, 0, .null) := rfl
theorem f_187_68 : px_at 187 68 = some (.iinc 4 1, 3, 0, 0, .null) := rfl
theorem f_187_71 : px_at 187 71 = some (.goto (-37), 3, 34, 0, .null) := rfl
theorem f_187_74 : px_at 187 74 = some (.bipush (-3), 2, 0, 0, .null) := rfl
theorem f_187_76 : px_at 187 76 = some (.ireturn, 1, 0, 0, .null) := rfl

theorem f_188_0 : px_at 188 0 = some (.aload_n 0, 1, 0, 0, .null) := rfl
theorem f_188_1 : px_at 188 1 = some (.iload_n 1, 1, 0, 0, .null) := rfl
theorem f_188_2 : px_at 188 2 = some (.invokevirtual 355, 3, 167, 1, .null) := rfl
theorem f_188_5 : px_at 188 5 = some (.ifCond .ne 5, 3, 10, 0, .null) := rfl
theorem f_188_8 : px_at 188 8 = some (.iconst (-1), 1, 0, 0, .null) := rfl
theorem f_188_9 : px_at 188 9 = some (.ireturn, 1, 0, 0, .null) := rfl
theorem f_188_10 : px_at 188 10 = some (.aload_n 0, 1, 0, 0, .null) := rfl
theorem f_188_11 : px_at 188 11 = some (.iload_n 1, 1, 0, 0, .null) := rfl
theorem f_188_12 : px_at 188 12 = some (.invokevirtual 397, 3, 174, 1, .null) := rfl
theorem f_188_15 : px_at 188 15 = some (.iload_n 2, 1, 0, 0, .null) := rfl
theorem f_188_16 : px_at 188 16 = some (.istore_n 3, 1, 0, 0, .null) := rfl
theorem f_188_17 : px_at 188 17 = some (.aload_n 0, 1, 0, 0, .null) := rfl
theorem f_188_18 : px_at 188 18 = some (.iconst 0, 1, 0, 0, .null) := rfl
theorem f_188_19 : px_at 188 19 = some (.putfield 376, 3, 12, 63, .null) := rfl
theorem f_188_22 : px_at 188 22 = some (.aload_n 0, 1, 0, 0, .null) := rfl
theorem f_188_23 : px_at 188 23 = some (.iconst 0, 1, 0, 0, .null) := rfl
theorem f_188_24 : px_at 188 24 = some (.putfield 379, 3, 12, 64, .null) := rfl
theorem f_188_27 : px_at 188 27 = some (.aload_n 0, 1, 0, 0, .null) := rfl
theorem f_188_28 : px_at 188 28 = some (.getfield 364, 3, 12, 61, .null) := rfl
theorem f_188_31 : px_at 188 31 = some (.istore 4, 2, 0, 0, .null) := rfl
theorem f_188_33 : px_at 188 33 = some (.aload_n 0, 1, 0, 0, .null) := rfl
theorem f_188_34 : px_at 188 34 = some (.getfield 367, 3, 12, 62, .null) := rfl
theorem f_188_37 : px_at 188 37 = some (.istore 5, 2, 0, 0, .null) := rfl
theorem f_188_39 : px_at 188 39 = some (.iload 4, 2, 0, 0, .null) := rfl
theorem f_188_41 : px_at 188 41 = some (.iload 5, 2, 0, 0, .null) := rfl
theorem f_188_43 : px_at 188 43 = some (.iadd, 1, 0, 0, .null) := rfl
theorem f_188_44 : px_at 188 44 = some (.ifCond .le 94, 3, 138, 0, .null) := rfl
theorem f_188_47 : px_at 188 47 = some (.iload 4, 2, 0, 0, .null) := rfl
theorem f_188_49 : px_at 188 49 = some (.ifCond .ne 7, 3, 56, 0, .null) := rfl
theorem f_188_52 : px_at 188 52 = some (.iconst 1, 1, 0, 0, .null) := rfl
theorem f_188_53 : px_at 188 53 = some (.goto 4, 3, 57, 0, .null) := rfl
theorem f_188_56 : px_at 188 56 = some (.iconst 0, 1, 0, 0, .null) := rfl
theorem f_188_57 : px_at 188 57 = some (.istore 6, 2, 0, 0, .null) := rfl
theorem f_188_59 : px_at 188 59 = some (.iload 4, 2, 0, 0, .null) := rfl
theorem f_188_61 : px_at 188 61 = some (.ifCond .le 35, 3, 96, 0, .null) := rfl
theorem f_188_64 : px_at 188 64 = some (.iload 5, 2, 0, 0, .null) := rfl
theorem f_188_66 : px_at 188 66 = some (.ifCond .le 30, 3, 96, 0, .null) := rfl
theorem f_188_69 : px_at 188 69 = some (.iload_n 3, 1, 0, 0, .null) := rfl
theorem f_188_70 : px_at 188 70 = some (.ldc_w 421, 3, 0, 0, .int (1103515245)) := rfl
theorem f_188_73 : px_at 188 73 = some (.imul, 1, 0, 0, .null) := rfl
theorem f_188_74 : px_at 188 74 = some (.sipush 12345, 3, 0, 0, .null) := rfl
theorem f_188_77 : px_at 188 77 = some (.iadd, 1, 0, 0, .null) := rfl
theorem f_188_78 : px_at 188 78 = some (.istore_n 3, 1, 0, 0, .null) := rfl
theorem f_188_79 : px_at 188 79 = some (.iload_n 3, 1, 0, 0, .null) := rfl
theorem f_188_80 : px_at 188 80 = some (.bipush 16, 2, 0, 0, .null) := rfl
theorem f_188_82 : px_at 188 82 = some (.ishr, 1, 0, 0, .null) := rfl
theorem f_188_83 : px_at 188 83 = some (.iconst 1, 1, 0, 0, .null) := rfl
theorem f_188_84 : px_at 188 84 = some (.iand, 1, 0, 0, .null) := rfl
theorem f_188_85 : px_at 188 85 = some (.iconst 1, 1, 0, 0, .null) := rfl
theorem f_188_86 : px_at 188 86 = some (.if_icmp .ne 7, 3, 93, 0, .null) := rfl
theorem f_188_89 : px_at 188 89 = some (.iconst 1, 1, 0, 0, .null) := rfl
theorem f_188_90 : px_at 188 90 = some (.goto 4, 3, 94, 0, .null) := rfl
theorem f_188_93 : px_at 188 93 = some (.iconst 0, 1, 0, 0, .null) := rfl
theorem f_188_94 : px_at 188 94 = some (.istore 6, 2, 0, 0, .null) := rfl
theorem f_188_96 : px_at 188 96 = some (.aload_n 0, 1, 0, 0, .null) := rfl
theorem f_188_97 : px_at 188 97 = some (.iload 6, 2, 0, 0, .null) := rfl
theorem f_188_99 : px_at 188 99 = some (.iconst 1, 1, 0, 0, .null) := rfl
theorem f_188_100 : px_at 188 100 = some (.invokevirtual 382, 3, 175, 1, .null) := rfl
theorem f_188_103 : px_at 188 103 = some (.iload 6, 2, 0, 0, .null) := rfl
theorem f_188_105 : px_at 188 105 = some (.ifCond .eq 8, 3, 113, 0, .null) := rfl
theorem f_188_108 : px_at 188 108 = some (.iload 4, 2, 0, 0, .null) := rfl
theorem f_188_110 : px_at 188 110 = some (.goto 7, 3, 117, 0, .null) := rfl
theorem f_188_113 : px_at 188 113 = some (.iload 4, 2, 0, 0, .null) := rfl
theorem f_188_115 : px_at 188 115 = some (.iconst 1, 1, 0, 0, .null) := rfl
theorem f_188_116 : px_at 188 116 = some (.isub, 1, 0, 0, .null) := rfl
theorem f_188_117 : px_at 188 117 = some (.istore 4, 2, 0, 0, .null) := rfl
theorem f_188_119 : px_at 188 119 = some (.iload 6, 2, 0, 0, .null) := rfl
theorem f_188_121 : px_at 188 121 = some (.ifCond .eq 10, 3, 131, 0, .null) := rfl
theorem f_188_124 : px_at 188 124 = some (.iload 5, 2, 0, 0, .null) := rfl
theorem f_188_126 : px_at 188 126 = some (.iconst 1, 1, 0, 0, .null) := rfl
theorem f_188_127 : px_at 188 127 = some (.isub, 1, 0, 0, .null) := rfl
theorem f_188_128 : px_at 188 128 = some (.goto 5, 3, 133, 0, .null) := rfl
theorem f_188_131 : px_at 188 131 = some (.iload 5, 2, 0, 0, .null) := rfl
theorem f_188_133 : px_at 188 133 = some (.istore 5, 2, 0, 0, .null) := rfl
theorem f_188_135 : px_at 188 135 = some (.goto (-96), 3, 39, 0, .null) := rfl
theorem f_188_138 : px_at 188 138 = some (.aload_n 0, 1, 0, 0, .null) := rfl
theorem f_188_139 : px_at 188 139 = some (.getfield 376, 3, 12, 63, .null) := rfl
theorem f_188_142 : px_at 188 142 = some (.ireturn, 1, 0, 0, .null) := rfl

theorem f_189_0 : px_at 189 0 = some (.aload_n 0, 1, 0, 0, .null) := rfl
theorem f_189_1 : px_at 189 1 = some (.iconst 0, 1, 0, 0, .null) := rfl
theorem f_189_2 : px_at 189 2 = some (.putfield 303, 3, 12, 52, .null) := rfl
theorem f_189_5 : px_at 189 5 = some (.iconst 0, 1, 0, 0, .null) := rfl
theorem f_189_6 : px_at 189 6 = some (.istore_n 2, 1, 0, 0, .null) := rfl
theorem f_189_7 : px_at 189 7 = some (.iload_n 2, 1, 0, 0, .null) := rfl
theorem f_189_8 : px_at 189 8 = some (.aload_n 0, 1, 0, 0, .null) := rfl
theorem f_189_9 : px_at 189 9 = some (.getfield 422, 3, 12, 67, .null) := rfl
theorem f_189_12 : px_at 189 12 = some (.if_icmp .ge 39, 3, 51, 0, .null) := rfl
theorem f_189_15 : px_at 189 15 = some (.iload_n 2, 1, 0, 0, .null) := rfl
theorem f_189_16 : px_at 189 16 = some (.iload_n 1, 1, 0, 0, .null) := rfl
theorem f_189_17 : px_at 189 17 = some (.if_icmp .eq 28, 3, 45, 0, .null) := rfl
theorem f_189_20 : px_at 189 20 = some (.aload_n 0, 1, 0, 0, .null) := rfl
theorem f_189_21 : px_at 189 21 = some (.getfield 91, 3, 12, 51, .null) := rfl
theorem f_189_24 : px_at 189 24 = some (.aload_n 0, 1, 0, 0, .null) := rfl
theorem f_189_25 : px_at 189 25 = some (.getfield 303, 3, 12, 52, .null) := rfl
theorem f_189_28 : px_at 189 28 = some (.aload_n 0, 1, 0, 0, .null) := rfl
theorem f_189_29 : px_at 189 29 = some (.getfield 112, 3, 12, 68, .null) := rfl
theorem f_189_32 : px_at 189 32 = some (.iload_n 2, 1, 0, 0, .null) := rfl
theorem f_189_33 : px_at 189 33 = some (.iaload, 1, 0, 0, .null) := rfl
theorem f_189_34 : px_at 189 34 = some (.iastore, 1, 0, 0, .null) := rfl
theorem f_189_35 : px_at 189 35 = some (.aload_n 0, 1, 0, 0, .null) := rfl
theorem f_189_36 : px_at 189 36 = some (.dup, 1, 0, 0, .null) := rfl
theorem f_189_37 : px_at 189 37 = some (.getfield 303, 3, 12, 52, .null) := rfl
theorem f_189_40 : px_at 189 40 = some (.iconst 1, 1, 0, 0, .null) := rfl
theorem f_189_41 : px_at 189 41 = some (.iadd, 1, 0, 0, .null) := rfl
theorem f_189_42 : px_at 189 42 = some (.putfield 303, 3, 12, 52, .null) := rfl
theorem f_189_45 : px_at 189 45 = some (.iinc 2 1, 3, 0, 0, .null) := rfl
theorem f_189_48 : px_at 189 48 = some (.goto (-41), 3, 7, 0, .null) := rfl
theorem f_189_51 : px_at 189 51 = some (.return_, 1, 0, 0, .null) := rfl

theorem f_190_0 : px_at 190 0 = some (.aload_n 0, 1, 0, 0, .null) := rfl
theorem f_190_1 : px_at 190 1 = some (.iload_n 1, 1, 0, 0, .null) := rfl
theorem f_190_2 : px_at 190 2 = some (.invokevirtual 358, 3, 158, 1, .null) := rfl
theorem f_190_5 : px_at 190 5 = some (.aload_n 0, 1, 0, 0, .null) := rfl
theorem f_190_6 : px_at 190 6 = some (.iload_n 1, 1, 0, 0, .null) := rfl
theorem f_190_7 : px_at 190 7 = some (.invokevirtual 361, 3, 166, 1, .null) := rfl
theorem f_190_10 : px_at 190 10 = some (.istore_n 2, 1, 0, 0, .null) := rfl
theorem f_190_11 : px_at 190 11 = some (.iload_n 2, 1, 0, 0, .null) := rfl
theorem f_190_12 : px_at 190 12 = some (.iconst 1, 1, 0, 0, .null) := rfl
theorem f_190_13 : px_at 190 13 = some (.if_icmp .ne 5, 3, 18, 0, .null) := rfl
theorem f_190_16 : px_at 190 16 = some (.iconst 0, 1, 0, 0, .null) := rfl
theorem f_190_17 : px_at 190 17 = some (.ireturn, 1, 0, 0, .null) := rfl
theorem f_190_18 : px_at 190 18 = some (.aload_n 0, 1, 0, 0, .null) := rfl
theorem f_190_19 : px_at 190 19 = some (.aload_n 0, 1, 0, 0, .null) := rfl
theorem f_190_20 : px_at 190 20 = some (.getfield 23, 3, 12, 7, .null) := rfl
theorem f_190_23 : px_at 190 23 = some (.iload_n 1, 1, 0, 0, .null) := rfl
theorem f_190_24 : px_at 190 24 = some (.iaload, 1, 0, 0, .null) := rfl
theorem f_190_25 : px_at 190 25 = some (.putfield 422, 3, 12, 67, .null) := rfl
theorem f_190_28 : px_at 190 28 = some (.iconst 0, 1, 0, 0, .null) := rfl
theorem f_190_29 : px_at 190 29 = some (.istore_n 3, 1, 0, 0, .null) := rfl
theorem f_190_30 : px_at 190 30 = some (.iload_n 3, 1, 0, 0, .null) := rfl
theorem f_190_31 : px_at 190 31 = some (.aload_n 0, 1, 0, 0, .null) := rfl
theorem f_190_32 : px_at 190 32 = some (.getfield 422, 3, 12, 67, .null) := rfl
theorem f_190_35 : px_at 190 35 = some (.if_icmp .ge 16, 3, 51, 0, .null) := rfl
theorem f_190_38 : px_at 190 38 = some (.aload_n 0, 1, 0, 0, .null) := rfl
theorem f_190_39 : px_at 190 39 = some (.getfield 112, 3, 12, 68, .null) := rfl
theorem f_190_42 : px_at 190 42 = some (.iload_n 3, 1, 0, 0, .null) := rfl
theorem f_190_43 : px_at 190 43 = some (.iload_n 3, 1, 0, 0, .null) := rfl
theorem f_190_44 : px_at 190 44 = some (.iastore, 1, 0, 0, .null) := rfl
theorem f_190_45 : px_at 190 45 = some (.iinc 3 1, 3, 0, 0, .null) := rfl
theorem f_190_48 : px_at 190 48 = some (.goto (-18), 3, 30, 0, .null) := rfl
theorem f_190_51 : px_at 190 51 = some (.iconst 0, 1, 0, 0, .null) := rfl
theorem f_190_52 : px_at 190 52 = some (.istore_n 3, 1, 0, 0, .null) := rfl
theorem f_190_53 : px_at 190 53 = some (.iload_n 3, 1, 0, 0, .null) := rfl
theorem f_190_54 : px_at 190 54 = some (.aload_n 0, 1, 0, 0, .null) := rfl
theorem f_190_55 : px_at 190 55 = some (.getfield 422, 3, 12, 67, .null) := rfl
theorem f_190_58 : px_at 190 58 = some (.if_icmp .ge 77, 3, 135, 0, .null) := rfl
theorem f_190_61 : px_at 190 61 = some (.aload_n 0, 1, 0, 0, .null) := rfl
theorem f_190_62 : px_at 190 62 = some (.iload_n 3, 1, 0, 0, .null) := rfl
theorem f_190_63 : px_at 190 63 = some (.invokevirtual 425, 3, 189, 1, .null) := rfl
theorem f_190_66 : px_at 190 66 = some (.aload_n 0, 1, 0, 0, .null) := rfl
theorem f_190_67 : px_at 190 67 = some (.iload_n 1, 1, 0, 0, .null) := rfl
theorem f_190_68 : px_at 190 68 = some (.invokevirtual 321, 3, 156, 1, .null) := rfl
theorem f_190_71 : px_at 190 71 = some (.aload_n 0, 1, 0, 0, .null) := rfl
theorem f_190_72 : px_at 190 72 = some (.iload_n 1, 1, 0, 0, .null) := rfl
theorem f_190_73 : px_at 190 73 = some (.invokevirtual 361, 3, 166, 1, .null) := rfl
theorem f_190_76 : px_at 190 76 = some (.iload_n 2, 1, 0, 0, .null) := rfl
theorem f_190_77 : px_at 190 77 = some (.if_icmp .ne 52, 3, 129, 0, .null) := rfl
theorem f_190_80 : px_at 190 80 = some (.aload_n 0, 1, 0, 0, .null) := rfl
theorem f_190_81 : px_at 190 81 = some (.dup, 1, 0, 0, .null) := rfl
theorem f_190_82 : px_at 190 82 = some (.getfield 422, 3, 12, 67, .null) := rfl
theorem f_190_85 : px_at 190 85 = some (.iconst 1, 1, 0, 0, .null) := rfl
theorem f_190_86 : px_at 190 86 = some (.isub, 1, 0, 0, .null) := rfl
theorem f_190_87 : px_at 190 87 = some (.putfield 422, 3, 12, 67, .null) := rfl
theorem f_190_90 : px_at 190 90 = some (.iload_n 3, 1, 0, 0, .null) := rfl
theorem f_190_91 : px_at 190 91 = some (.istore 4, 2, 0, 0, .null) := rfl
theorem f_190_93 : px_at 190 93 = some (.iload 4, 2, 0, 0, .null) := rfl
theorem f_190_95 : px_at 190 95 = some (.aload_n 0, 1, 0, 0, .null) := rfl
theorem f_190_96 : px_at 190 96 = some (.getfield 422, 3, 12, 67, .null) := rfl
theorem f_190_99 : px_at 190 99 = some (.if_icmp .ge 25, 3, 124, 0, .null) := rfl
theorem f_190_102 : px_at 190 102 = some (.aload_n 0, 1, 0, 0, .null) := rfl
theorem f_190_103 : px_at 190 103 = some (.getfield 112, 3, 12, 68, .null) := rfl
theorem f_190_106 : px_at 190 106 = some (.iload 4, 2, 0, 0, .null) := rfl
theorem f_190_108 : px_at 190 108 = some (.aload_n 0, 1, 0, 0, .null) := rfl
theorem f_190_109 : px_at 190 109 = some (.getfield 112, 3, 12, 68, .null) := rfl
theorem f_190_112 : px_at 190 112 = some (.iload 4, 2, 0, 0, .null) := rfl
theorem f_190_114 : px_at 190 114 = some (.iconst 1, 1, 0, 0, .null) := rfl
theorem f_190_115 : px_at 190 115 = some (.iadd, 1, 0, 0, .null) := rfl
theorem f_190_116 : px_at 190 116 = some (.iaload, 1, 0, 0, .null) := rfl
theorem f_190_117 : px_at 190 117 = some (.iastore, 1, 0, 0, .null) := rfl
theorem f_190_118 : px_at 190 118 = some (.iinc 4 1, 3, 0, 0, .null) := rfl
theorem f_190_121 : px_at 190 121 = some (.goto (-28), 3, 93, 0, .null) := rfl
theorem f_190_124 : px_at 190 124 = some (.iconst 0, 1, 0, 0, .null) := rfl
theorem f_190_125 : px_at 190 125 = some (.istore_n 3, 1, 0, 0, .null) := rfl
theorem f_190_126 : px_at 190 126 = some (.goto (-73), 3, 53, 0, .null) := rfl
theorem f_190_129 : px_at 190 129 = some (.iinc 3 1, 3, 0, 0, .null) := rfl
theorem f_190_132 : px_at 190 132 = some (.goto (-79), 3, 53, 0, .null) := rfl
theorem f_190_135 : px_at 190 135 = some (.iconst 1, 1, 0, 0, .null) := rfl
theorem f_190_136 : px_at 190 136 = some (.ireturn, 1, 0, 0, .null) := rfl

theorem f_191_0 : px_at 191 0 = some (.aload_n 0, 1, 0, 0, .null) := rfl
theorem f_191_1 : px_at 191 1 = some (.iload_n 1, 1, 0, 0, .null) := rfl
theorem f_191_2 : px_at 191 2 = some (.invokevirtual 355, 3, 167, 1, .null) := rfl
theorem f_191_5 : px_at 191 5 = some (.ifCond .ne 7, 3, 12, 0, .null) := rfl
theorem f_191_8 : px_at 191 8 = some (.iconst (-1), 1, 0, 0, .null) := rfl
theorem f_191_9 : px_at 191 9 = some (.goto 20, 3, 29, 0, .null) := rfl
theorem f_191_12 : px_at 191 12 = some (.aload_n 0, 1, 0, 0, .null) := rfl
theorem f_191_13 : px_at 191 13 = some (.iload_n 1, 1, 0, 0, .null) := rfl
theorem f_191_14 : px_at 191 14 = some (.invokevirtual 428, 3, 190, 1, .null) := rfl
theorem f_191_17 : px_at 191 17 = some (.ifCond .eq 10, 3, 27, 0, .null) := rfl
theorem f_191_20 : px_at 191 20 = some (.aload_n 0, 1, 0, 0, .null) := rfl
theorem f_191_21 : px_at 191 21 = some (.getfield 422, 3, 12, 67, .null) := rfl
theorem f_191_24 : px_at 191 24 = some (.goto 5, 3, 29, 0, .null) := rfl
theorem f_191_27 : px_at 191 27 = some (.bipush (-2), 2, 0, 0, .null) := rfl
theorem f_191_29 : px_at 191 29 = some (.ireturn, 1, 0, 0, .null) := rfl

theorem f_192_0 : px_at 192 0 = some (.aload_n 0, 1, 0, 0, .null) := rfl
theorem f_192_1 : px_at 192 1 = some (.iload_n 1, 1, 0, 0, .null) := rfl
theorem f_192_2 : px_at 192 2 = some (.invokevirtual 355, 3, 167, 1, .null) := rfl
theorem f_192_5 : px_at 192 5 = some (.ifCond .ne 5, 3, 10, 0, .null) := rfl
theorem f_192_8 : px_at 192 8 = some (.iconst (-1), 1, 0, 0, .null) := rfl
theorem f_192_9 : px_at 192 9 = some (.ireturn, 1, 0, 0, .null) := rfl
theorem f_192_10 : px_at 192 10 = some (.aload_n 0, 1, 0, 0, .null) := rfl
theorem f_192_11 : px_at 192 11 = some (.iload_n 1, 1, 0, 0, .null) := rfl
theorem f_192_12 : px_at 192 12 = some (.invokevirtual 428, 3, 190, 1, .null) := rfl
theorem f_192_15 : px_at 192 15 = some (.ifCond .ne 8, 3, 23, 0, .null) := rfl
theorem f_192_18 : px_at 192 18 = some (.bipush (-2), 2, 0, 0, .null) := rfl
theorem f_192_20 : px_at 192 20 = some (.goto 28, 3, 48, 0, .null) := rfl
theorem f_192_23 : px_at 192 23 = some (.iload_n 2, 1, 0, 0, .null) := rfl
theorem f_192_24 : px_at 192 24 = some (.iconst 0, 1, 0, 0, .null) := rfl
theorem f_192_25 : px_at 192 25 = some (.aload_n 0, 1, 0, 0, .null) := rfl
theorem f_192_26 : px_at 192 26 = some (.getfield 422, 3, 12, 67, .null) := rfl
theorem f_192_29 : px_at 192 29 = some (.iconst 1, 1, 0, 0, .null) := rfl
theorem f_192_30 : px_at 192 30 = some (.isub, 1, 0, 0, .null) := rfl
theorem f_192_31 : px_at 192 31 = some (.invokestatic 115, 3, 118, 2, .null) := rfl
theorem f_192_34 : px_at 192 34 = some (.ifCond .eq 12, 3, 46, 0, .null) := rfl
theorem f_192_37 : px_at 192 37 = some (.aload_n 0, 1, 0, 0, .null) := rfl
theorem f_192_38 : px_at 192 38 = some (.getfield 112, 3, 12, 68, .null) := rfl
theorem f_192_41 : px_at 192 41 = some (.iload_n 2, 1, 0, 0, .null) := rfl
theorem f_192_42 : px_at 192 42 = some (.iaload, 1, 0, 0, .null) := rfl
theorem f_192_43 : px_at 192 43 = some (.goto 5, 3, 48, 0, .null) := rfl
theorem f_192_46 : px_at 192 46 = some (.bipush (-3), 2, 0, 0, .null) := rfl
theorem f_192_48 : px_at 192 48 = some (.ireturn, 1, 0, 0, .null) := rfl

theorem f_193_0 : px_at 193 0 = some (.iload_n 1, 1, 0, 0, .null) := rfl
theorem f_193_1 : px_at 193 1 = some (.iconst 0, 1, 0, 0, .null) := rfl
theorem f_193_2 : px_at 193 2 = some (.aload_n 0, 1, 0, 0, .null) := rfl
theorem f_193_3 : px_at 193 3 = some (.getfield 220, 3, 12, 2, .null) := rfl
theorem f_193_6 : px_at 193 6 = some (.iconst 1, 1, 0, 0, .null) := rfl
theorem f_193_7 : px_at 193 7 = some (.isub, 1, 0, 0, .null) := rfl
theorem f_193_8 : px_at 193 8 = some (.invokestatic 115, 3, 118, 2, .null) := rfl
theorem f_193_11 : px_at 193 11 = some (.ifCond .eq 12, 3, 23, 0, .null) := rfl
theorem f_193_14 : px_at 193 14 = some (.iload_n 2, 1, 0, 0, .null) := rfl
theorem f_193_15 : px_at 193 15 = some (.iconst 0, 1, 0, 0, .null) := rfl
theorem f_193_16 : px_at 193 16 = some (.iconst 4, 1, 0, 0, .null) := rfl
theorem f_193_17 : px_at 193 17 = some (.invokestatic 115, 3, 118, 2, .null) := rfl
theorem f_193_20 : px_at 193 20 = some (.ifCond .ne 5, 3, 25, 0, .null) := rfl
theorem f_193_23 : px_at 193 23 = some (.iconst (-1), 1, 0, 0, .null) := rfl
theorem f_193_24 : px_at 193 24 = some (.ireturn, 1, 0, 0, .null) := rfl
theorem f_193_25 : px_at 193 25 = some (.iconst 0, 1, 0, 0, .null) := rfl
theorem f_193_26 : px_at 193 26 = some (.istore_n 3, 1, 0, 0, .null) := rfl
theorem f_193_27 : px_at 193 27 = some (.iload_n 3, 1, 0, 0, .null) := rfl
theorem f_193_28 : px_at 193 28 = some (.bipush 30, 2, 0, 0, .null) := rfl
theorem f_193_30 : px_at 193 30 = some (.if_icmp .ge 16, 3, 46, 0, .null) := rfl
theorem f_193_33 : px_at 193 33 = some (.aload_n 0, 1, 0, 0, .null) := rfl
theorem f_193_34 : px_at 193 34 = some (.getfield 88, 3, 12, 47, .null) := rfl
theorem f_193_37 : px_at 193 37 = some (.iload_n 3, 1, 0, 0, .null) := rfl
theorem f_193_38 : px_at 193 38 = some (.iconst 0, 1, 0, 0, .null) := rfl
theorem f_193_39 : px_at 193 39 = some (.iastore, 1, 0, 0, .null) := rfl
theorem f_193_40 : px_at 193 40 = some (.iinc 3 1, 3, 0, 0, .null) := rfl
theorem f_193_43 : px_at 193 43 = some (.goto (-16), 3, 27, 0, .null) := rfl
theorem f_193_46 : px_at 193 46 = some (.aload_n 0, 1, 0, 0, .null) := rfl
theorem f_193_47 : px_at 193 47 = some (.iconst 1, 1, 0, 0, .null) := rfl
theorem f_193_48 : px_at 193 48 = some (.putfield 229, 3, 12, 46, .null) := rfl
theorem f_193_51 : px_at 193 51 = some (.iconst 0, 1, 0, 0, .null) := rfl
theorem f_193_52 : px_at 193 52 = some (.istore_n 3, 1, 0, 0, .null) := rfl
theorem f_193_53 : px_at 193 53 = some (.iload_n 3, 1, 0, 0, .null) := rfl
theorem f_193_54 : px_at 193 54 = some (.aload_n 0, 1, 0, 0, .null) := rfl
theorem f_193_55 : px_at 193 55 = some (.getfield 223, 3, 12, 6, .null) := rfl
theorem f_193_58 : px_at 193 58 = some (.if_icmp .ge 14, 3, 72, 0, .null) := rfl
theorem f_193_61 : px_at 193 61 = some (.aload_n 0, 1, 0, 0, .null) := rfl
theorem f_193_62 : px_at 193 62 = some (.iload_n 3, 1, 0, 0, .null) := rfl
theorem f_193_63 : px_at 193 63 = some (.invokevirtual 358, 3, 158, 1, .null) := rfl
theorem f_193_66 : px_at 193 66 = some (.iinc 3 1, 3, 0, 0, .null) := rfl
theorem f_193_69 : px_at 193 69 = some (.goto (-16), 3, 53, 0, .null) := rfl
theorem f_193_72 : px_at 193 72 = some (.aload_n 0, 1, 0, 0, .null) := rfl
theorem f_193_73 : px_at 193 73 = some (.iconst 0, 1, 0, 0, .null) := rfl
theorem f_193_74 : px_at 193 74 = some (.putfield 229, 3, 12, 46, .null) := rfl
theorem f_193_77 : px_at 193 77 = some (.aload_n 0, 1, 0, 0, .null) := rfl
theorem f_193_78 : px_at 193 78 = some (.getfield 88, 3, 12, 47, .null) := rfl
theorem f_193_81 : px_at 193 81 = some (.iconst 5, 1, 0, 0, .null) := rfl
theorem f_193_82 : px_at 193 82 = some (.iload_n 1, 1, 0, 0, .null) := rfl
theorem f_193_83 : px_at 193 83 = some (.imul, 1, 0, 0, .null) := rfl
theorem f_193_84 : px_at 193 84 = some (.iload_n 2, 1, 0, 0, .null) := rfl
theorem f_193_85 : px_at 193 85 = some (.iadd, 1, 0, 0, .null) := rfl
theorem f_193_86 : px_at 193 86 = some (.iaload, 1, 0, 0, .null) := rfl
theorem f_193_87 : px_at 193 87 = some (.ireturn, 1, 0, 0, .null) := rfl

theorem f_194_0 : px_at 194 0 = some (.aload_n 0, 1, 0, 0, .null) := rfl
theorem f_194_1 : px_at 194 1 = some (.getfield 13, 3, 12, 3, .null) := rfl
theorem f_194_4 : px_at 194 4 = some (.iload_n 1, 1, 0, 0, .null) := rfl
theorem f_194_5 : px_at 194 5 = some (.caload, 1, 0, 0, .null) := rfl
theorem f_194_6 : px_at 194 6 = some (.lookupswitch 46 #[(100, 44), (102, 42), (109, 42), (115, 44)], 42, 0, 0, .null) := rfl
theorem f_194_48 : px_at 194 48 = some (.iconst 5, 1, 0, 0, .null) := rfl
theorem f_194_49 : px_at 194 49 = some (.ireturn, 1, 0, 0, .null) := rfl
theorem f_194_50 : px_at 194 50 = some (.iconst 1, 1, 0, 0, .null) := rfl
theorem f_194_51 : px_at 194 51 = some (.ireturn, 1, 0, 0, .null) := rfl
theorem f_194_52 : px_at 194 52 = some (.iconst 2, 1, 0, 0, .null) := rfl
theorem f_194_53 : px_at 194 53 = some (.ireturn, 1, 0, 0, .null) := rfl

theorem f_195_0 : px_at 195 0 = some (.iconst 0, 1, 0, 0, .null) := rfl
theorem f_195_1 : px_at 195 1 = some (.istore_n 1, 1, 0, 0, .null) := rfl
theorem f_195_2 : px_at 195 2 = some (.iconst 0, 1, 0, 0, .null) := rfl
theorem f_195_3 : px_at 195 3 = some (.istore_n 2, 1, 0, 0, .null) := rfl
theorem f_195_4 : px_at 195 4 = some (.iload_n 2, 1, 0, 0, .null) := rfl
theorem f_195_5 : px_at 195 5 = some (.aload_n 0, 1, 0, 0, .null) := rfl
theorem f_195_6 : px_at 195 6 = some (.getfield 220, 3, 12, 2, .null) := rfl
theorem f_195_9 : px_at 195 9 = some (.if_icmp .ge 17, 3, 26, 0, .null) := rfl
theorem f_195_12 : px_at 195 12 = some (.iload_n 1, 1, 0, 0, .null) := rfl
theorem f_195_13 : px_at 195 13 = some (.aload_n 0, 1, 0, 0, .null) := rfl
theorem f_195_14 : px_at 195 14 = some (.iload_n 2, 1, 0, 0, .null) := rfl
theorem f_195_15 : px_at 195 15 = some (.invokevirtual 431, 3, 194, 1, .null) := rfl
theorem f_195_18 : px_at 195 18 = some (.iadd, 1, 0, 0, .null) := rfl
theorem f_195_19 : px_at 195 19 = some (.istore_n 1, 1, 0, 0, .null) := rfl
theorem f_195_20 : px_at 195 20 = some (.iinc 2 1, 3, 0, 0, .null) := rfl
theorem f_195_23 : px_at 195 23 = some (.goto (-19), 3, 4, 0, .null) := rfl
theorem f_195_26 : px_at 195 26 = some (.iload_n 1, 1, 0, 0, .null) := rfl
theorem f_195_27 : px_at 195 27 = some (.ireturn, 1, 0, 0, .null) := rfl

theorem f_196_0 : px_at 196 0 = some (.iload_n 0, 1, 0, 0, .null) := rfl
theorem f_196_1 : px_at 196 1 = some (.bipush 102, 2, 0, 0, .null) := rfl
theorem f_196_3 : px_at 196 3 = some (.if_icmp .ne 25, 3, 28, 0, .null) := rfl
theorem f_196_6 : px_at 196 6 = some (.iload_n 1, 1, 0, 0, .null) := rfl
theorem f_196_7 : px_at 196 7 = some (.ifCond .ne 8, 3, 15, 0, .null) := rfl
theorem f_196_10 : px_at 196 10 = some (.bipush 60, 2, 0, 0, .null) := rfl
theorem f_196_12 : px_at 196 12 = some (.goto 15, 3, 27, 0, .null) := rfl
theorem f_196_15 : px_at 196 15 = some (.iload_n 1, 1, 0, 0, .null) := rfl
theorem f_196_16 : px_at 196 16 = some (.iconst 1, 1, 0, 0, .null) := rfl
theorem f_196_17 : px_at 196 17 = some (.if_icmp .ne 8, 3, 25, 0, .null) := rfl
theorem f_196_20 : px_at 196 20 = some (.bipush 61, 2, 0, 0, .null) := rfl
theorem f_196_22 : px_at 196 22 = some (.goto 5, 3, 27, 0, .null) := rfl
theorem f_196_25 : px_at 196 25 = some (.bipush 62, 2, 0, 0, .null) := rfl
theorem f_196_27 : px_at 196 27 = some (.ireturn, 1, 0, 0, .null) := rfl
theorem f_196_28 : px_at 196 28 = some (.iload_n 1, 1, 0, 0, .null) := rfl
theorem f_196_29 : px_at 196 29 = some (.ifCond .ne 8, 3, 37, 0, .null) := rfl
theorem f_196_32 : px_at 196 32 = some (.bipush 43, 2, 0, 0, .null) := rfl
theorem f_196_34 : px_at 196 34 = some (.goto 25, 3, 59, 0, .null) := rfl
theorem f_196_37 : px_at 196 37 = some (.iload_n 1, 1, 0, 0, .null) := rfl
theorem f_196_38 : px_at 196 38 = some (.iconst 1, 1, 0, 0, .null) := rfl
theorem f_196_39 : px_at 196 39 = some (.if_icmp .ne 8, 3, 47, 0, .null) := rfl
theorem f_196_42 : px_at 196 42 = some (.bipush 45, 2, 0, 0, .null) := rfl
theorem f_196_44 : px_at 196 44 = some (.goto 15, 3, 59, 0, .null) := rfl
theorem f_196_47 : px_at 196 47 = some (.iload_n 1, 1, 0, 0, .null) := rfl
theorem f_196_48 : px_at 196 48 = some (.iconst 2, 1, 0, 0, .null) := rfl
theorem f_196_49 : px_at 196 49 = some (.if_icmp .ne 8, 3, 57, 0, .null) := rfl
theorem f_196_52 : px_at 196 52 = some (.bipush 42, 2, 0, 0, .null) := rfl
theorem f_196_54 : px_at 196 54 = some (.goto 5, 3, 59, 0, .null) := rfl
theorem f_196_57 : px_at 196 57 = some (.bipush 47, 2, 0, 0, .null) := rfl
theorem f_196_59 : px_at 196 59 = some (.ireturn, 1, 0, 0, .null) := rfl

theorem f_197_0 : px_at 197 0 = some (.aload_n 0, 1, 0, 0, .null) := rfl
theorem f_197_1 : px_at 197 1 = some (.iconst 0, 1, 0, 0, .null) := rfl
theorem f_197_2 : px_at 197 2 = some (.putfield 434, 3, 12, 69, .null) := rfl
theorem f_197_5 : px_at 197 5 = some (.aload_n 0, 1, 0, 0, .null) := rfl
theorem f_197_6 : px_at 197 6 = some (.iload_n 1, 1, 0, 0, .null) := rfl
theorem f_197_7 : px_at 197 7 = some (.putfield 437, 3, 12, 70, .null) := rfl
theorem f_197_10 : px_at 197 10 = some (.aload_n 0, 1, 0, 0, .null) := rfl
theorem f_197_11 : px_at 197 11 = some (.getfield 437, 3, 12, 70, .null) := rfl
theorem f_197_14 : px_at 197 14 = some (.aload_n 0, 1, 0, 0, .null) := rfl
theorem f_197_15 : px_at 197 15 = some (.aload_n 0, 1, 0, 0, .null) := rfl
theorem f_197_16 : px_at 197 16 = some (.getfield 434, 3, 12, 69, .null) := rfl
theorem f_197_19 : px_at 197 19 = some (.invokevirtual 431, 3, 194, 1, .null) := rfl
theorem f_197_22 : px_at 197 22 = some (.if_icmp .lt 33, 3, 55, 0, .null) := rfl
theorem f_197_25 : px_at 197 25 = some (.aload_n 0, 1, 0, 0, .null) := rfl
theorem f_197_26 : px_at 197 26 = some (.dup, 1, 0, 0, .null) := rfl
theorem f_197_27 : px_at 197 27 = some (.getfield 437, 3, 12, 70, .null) := rfl
theorem f_197_30 : px_at 197 30 = some (.aload_n 0, 1, 0, 0, .null) := rfl
theorem f_197_31 : px_at 197 31 = some (.aload_n 0, 1, 0, 0, .null) := rfl
theorem f_197_32 : px_at 197 32 = some (.getfield 434, 3, 12, 69, .null) := rfl
theorem f_197_35 : px_at 197 35 = some (.invokevirtual 431, 3, 194, 1, .null) := rfl
theorem f_197_38 : px_at 197 38 = some (.isub, 1, 0, 0, .null) := rfl
theorem f_197_39 : px_at 197 39 = some (.putfield 437, 3, 12, 70, .null) := rfl
theorem f_197_42 : px_at 197 42 = some (.aload_n 0, 1, 0, 0, .null) := rfl
theorem f_197_43 : px_at 197 43 = some (.dup, 1, 0, 0, .null) := rfl
theorem f_197_44 : px_at 197 44 = some (.getfield 434, 3, 12, 69, .null) := rfl
theorem f_197_47 : px_at 197 47 = some (.iconst 1, 1, 0, 0, .null) := rfl
theorem f_197_48 : px_at 197 48 = some (.iadd, 1, 0, 0, .null) := rfl
theorem f_197_49 : px_at 197 49 = some (.putfield 434, 3, 12, 69, .null) := rfl
theorem f_197_52 : px_at 197 52 = some (.goto (-42), 3, 10, 0, .null) := rfl
theorem f_197_55 : px_at 197 55 = some (.return_, 1, 0, 0, .null) := rfl

theorem f_198_0 : px_at 198 0 = some (.aload_n 0, 1, 0, 0, .null) := rfl
theorem f_198_1 : px_at 198 1 = some (.getfield 437, 3, 12, 70, .null) := rfl
theorem f_198_4 : px_at 198 4 = some (.aload_n 0, 1, 0, 0, .null) := rfl
theorem f_198_5 : px_at 198 5 = some (.aload_n 0, 1, 0, 0, .null) := rfl
theorem f_198_6 : px_at 198 6 = some (.getfield 434, 3, 12, 69, .null) := rfl
theorem f_198_9 : px_at 198 9 = some (.invokevirtual 431, 3, 194, 1, .null) := rfl
theorem f_198_12 : px_at 198 12 = some (.iconst 1, 1, 0, 0, .null) := rfl
theorem f_198_13 : px_at 198 13 = some (.isub, 1, 0, 0, .null) := rfl
theorem f_198_14 : px_at 198 14 = some (.if_icmp .ne 7, 3, 21, 0, .null) := rfl
theorem f_198_17 : px_at 198 17 = some (.iconst 1, 1, 0, 0, .null) := rfl
theorem f_198_18 : px_at 198 18 = some (.goto 4, 3, 22, 0, .null) := rfl
theorem f_198_21 : px_at 198 21 = some (.iconst 0, 1, 0, 0, .null) := rfl
theorem f_198_22 : px_at 198 22 = some (.ireturn, 1, 0, 0, .null) := rfl

theorem f_199_0 : px_at 199 0 = some (.aload_n 0, 1, 0, 0, .null) := rfl
theorem f_199_1 : px_at 199 1 = some (.invokevirtual 315, 3, 140, 1, .null) := rfl
theorem f_199_4 : px_at 199 4 = some (.aload_n 0, 1, 0, 0, .null) := rfl
theorem f_199_5 : px_at 199 5 = some (.getfield 434, 3, 12, 69, .null) := rfl
theorem f_199_8 : px_at 199 8 = some (.istore_n 1, 1, 0, 0, .null) := rfl
theorem f_199_9 : px_at 199 9 = some (.aload_n 0, 1, 0, 0, .null) := rfl
theorem f_199_10 : px_at 199 10 = some (.invokevirtual 440, 3, 198, 1, .null) := rfl
theorem f_199_13 : px_at 199 13 = some (.ifCond .eq 72, 3, 85, 0, .null) := rfl
theorem f_199_16 : px_at 199 16 = some (.aload_n 0, 1, 0, 0, .null) := rfl
theorem f_199_17 : px_at 199 17 = some (.dup, 1, 0, 0, .null) := rfl
theorem f_199_18 : px_at 199 18 = some (.getfield 226, 3, 12, 27, .null) := rfl
theorem f_199_21 : px_at 199 21 = some (.iconst 1, 1, 0, 0, .null) := rfl
theorem f_199_22 : px_at 199 22 = some (.isub, 1, 0, 0, .null) := rfl
theorem f_199_23 : px_at 199 23 = some (.putfield 226, 3, 12, 27, .null) := rfl
theorem f_199_26 : px_at 199 26 = some (.iload_n 1, 1, 0, 0, .null) := rfl
theorem f_199_27 : px_at 199 27 = some (.istore_n 2, 1, 0, 0, .null) := rfl
theorem f_199_28 : px_at 199 28 = some (.iload_n 2, 1, 0, 0, .null) := rfl
theorem f_199_29 : px_at 199 29 = some (.aload_n 0, 1, 0, 0, .null) := rfl
theorem f_199_30 : px_at 199 30 = some (.getfield 226, 3, 12, 27, .null) := rfl
theorem f_199_33 : px_at 199 33 = some (.if_icmp .ge 51, 3, 84, 0, .null) := rfl
theorem f_199_36 : px_at 199 36 = some (.aload_n 0, 1, 0, 0, .null) := rfl
theorem f_199_37 : px_at 199 37 = some (.getfield 55, 3, 12, 28, .null) := rfl
theorem f_199_40 : px_at 199 40 = some (.iload_n 2, 1, 0, 0, .null) := rfl
theorem f_199_41 : px_at 199 41 = some (.aload_n 0, 1, 0, 0, .null) := rfl
theorem f_199_42 : px_at 199 42 = some (.getfield 55, 3, 12, 28, .null) := rfl
theorem f_199_45 : px_at 199 45 = some (.iload_n 2, 1, 0, 0, .null) := rfl
theorem f_199_46 : px_at 199 46 = some (.iconst 1, 1, 0, 0, .null) := rfl
theorem f_199_47 : px_at 199 47 = some (.iadd, 1, 0, 0, .null) := rfl
theorem f_199_48 : px_at 199 48 = some (.caload, 1, 0, 0, .null) := rfl
theorem f_199_49 : px_at 199 49 = some (.castore, 1, 0, 0, .null) := rfl
theorem f_199_50 : px_at 199 50 = some (.aload_n 0, 1, 0, 0, .null) := rfl
theorem f_199_51 : px_at 199 51 = some (.getfield 58, 3, 12, 29, .null) := rfl
theorem f_199_54 : px_at 199 54 = some (.iload_n 2, 1, 0, 0, .null) := rfl
theorem f_199_55 : px_at 199 55 = some (.aload_n 0, 1, 0, 0, .null) := rfl
theorem f_199_56 : px_at 199 56 = some (.getfield 58, 3, 12, 29, .null) := rfl
theorem f_199_59 : px_at 199 59 = some (.iload_n 2, 1, 0, 0, .null) := rfl
theorem f_199_60 : px_at 199 60 = some (.iconst 1, 1, 0, 0, .null) := rfl
theorem f_199_61 : px_at 199 61 = some (.iadd, 1, 0, 0, .null) := rfl
theorem f_199_62 : px_at 199 62 = some (.caload, 1, 0, 0, .null) := rfl
theorem f_199_63 : px_at 199 63 = some (.castore, 1, 0, 0, .null) := rfl
theorem f_199_64 : px_at 199 64 = some (.aload_n 0, 1, 0, 0, .null) := rfl
theorem f_199_65 : px_at 199 65 = some (.getfield 61, 3, 12, 30, .null) := rfl
theorem f_199_68 : px_at 199 68 = some (.iload_n 2, 1, 0, 0, .null) := rfl
theorem f_199_69 : px_at 199 69 = some (.aload_n 0, 1, 0, 0, .null) := rfl
theorem f_199_70 : px_at 199 70 = some (.getfield 61, 3, 12, 30, .null) := rfl
theorem f_199_73 : px_at 199 73 = some (.iload_n 2, 1, 0, 0, .null) := rfl
theorem f_199_74 : px_at 199 74 = some (.iconst 1, 1, 0, 0, .null) := rfl
theorem f_199_75 : px_at 199 75 = some (.iadd, 1, 0, 0, .null) := rfl
theorem f_199_76 : px_at 199 76 = some (.iaload, 1, 0, 0, .null) := rfl
theorem f_199_77 : px_at 199 77 = some (.iastore, 1, 0, 0, .null) := rfl
theorem f_199_78 : px_at 199 78 = some (.iinc 2 1, 3, 0, 0, .null) := rfl
theorem f_199_81 : px_at 199 81 = some (.goto (-53), 3, 28, 0, .null) := rfl
theorem f_199_84 : px_at 199 84 = some (.return_, 1, 0, 0, .null) := rfl
theorem f_199_85 : px_at 199 85 = some (.aload_n 0, 1, 0, 0, .null) := rfl
theorem f_199_86 : px_at 199 86 = some (.getfield 13, 3, 12, 3, .null) := rfl
theorem f_199_89 : px_at 199 89 = some (.iload_n 1, 1, 0, 0, .null) := rfl
theorem f_199_90 : px_at 199 90 = some (.caload, 1, 0, 0, .null) := rfl
theorem f_199_91 : px_at 199 91 = some (.istore_n 2, 1, 0, 0, .null) := rfl
theorem f_199_92 : px_at 199 92 = some (.iload_n 2, 1, 0, 0, .null) := rfl
theorem f_199_93 : px_at 199 93 = some (.bipush 102, 2, 0, 0, .null) := rfl
theorem f_199_95 : px_at 199 95 = some (.if_icmp .ne 7, 3, 102, 0, .null) := rfl
theorem f_199_98 : px_at 199 98 = some (.iconst 3, 1, 0, 0, .null) := rfl
theorem f_199_99 : px_at 199 99 = some (.goto 14, 3, 113, 0, .null) := rfl
theorem f_199_102 : px_at 199 102 = some (.iload_n 2, 1, 0, 0, .null) := rfl
theorem f_199_103 : px_at 199 103 = some (.bipush 109, 2, 0, 0, .null) := rfl
theorem f_199_105 : px_at 199 105 = some (.if_icmp .ne 7, 3, 112, 0, .null) := rfl
theorem f_199_108 : px_at 199 108 = some (.iconst 4, 1, 0, 0, .null) := rfl
theorem f_199_109 : px_at 199 109 = some (.goto 4, 3, 113, 0, .null) := rfl
theorem f_199_112 : px_at 199 112 = some (.iconst 1, 1, 0, 0, .null) := rfl
theorem f_199_113 : px_at 199 113 = some (.istore_n 3, 1, 0, 0, .null) := rfl
theorem f_199_114 : px_at 199 114 = some (.aload_n 0, 1, 0, 0, .null) := rfl
theorem f_199_115 : px_at 199 115 = some (.getfield 437, 3, 12, 70, .null) := rfl
theorem f_199_118 : px_at 199 118 = some (.iload_n 3, 1, 0, 0, .null) := rfl
theorem f_199_119 : px_at 199 119 = some (.iconst 1, 1, 0, 0, .null) := rfl
theorem f_199_120 : px_at 199 120 = some (.isub, 1, 0, 0, .null) := rfl
theorem f_199_121 : px_at 199 121 = some (.if_icmp .ge 72, 3, 193, 0, .null) := rfl
theorem f_199_124 : px_at 199 124 = some (.iconst 0, 1, 0, 0, .null) := rfl
theorem f_199_125 : px_at 199 125 = some (.istore 4, 2, 0, 0, .null) := rfl
theorem f_199_127 : px_at 199 127 = some (.iconst 0, 1, 0, 0, .null) := rfl
theorem f_199_128 : px_at 199 128 = some (.istore 5, 2, 0, 0, .null) := rfl
theorem f_199_130 : px_at 199 130 = some (.iload 5, 2, 0, 0, .null) := rfl
theorem f_199_132 : px_at 199 132 = some (.iload_n 3, 1, 0, 0, .null) := rfl
theorem f_199_133 : px_at 199 133 = some (.if_icmp .ge 57, 3, 190, 0, .null) := rfl
theorem f_199_136 : px_at 199 136 = some (.iload_n 2, 1, 0, 0, .null) := rfl
theorem f_199_137 : px_at 199 137 = some (.iload 5, 2, 0, 0, .null) := rfl
theorem f_199_139 : px_at 199 139 = some (.invokestatic 443, 3, 196, 2, .null) := rfl
theorem f_199_142 : px_at 199 142 = some (.aload_n 0, 1, 0, 0, .null) := rfl
theorem f_199_143 : px_at 199 143 = some (.getfield 16, 3, 12, 4, .null) := rfl
theorem f_199_146 : px_at 199 146 = some (.iload_n 1, 1, 0, 0, .null) := rfl
theorem f_199_147 : px_at 199 147 = some (.caload, 1, 0, 0, .null) := rfl
theorem f_199_148 : px_at 199 148 = some (.if_icmp .eq 36, 3, 184, 0, .null) := rfl
theorem f_199_151 : px_at 199 151 = some (.aload_n 0, 1, 0, 0, .null) := rfl
theorem f_199_152 : px_at 199 152 = some (.getfield 58, 3, 12, 29, .null) := rfl
theorem f_199_155 : px_at 199 155 = some (.iload_n 1, 1, 0, 0, .null) := rfl
theorem f_199_156 : px_at 199 156 = some (.iload 4, 2, 0, 0, .null) := rfl
theorem f_199_158 : px_at 199 158 = some (.aload_n 0, 1, 0, 0, .null) := rfl
theorem f_199_159 : px_at 199 159 = some (.getfield 437, 3, 12, 70, .null) := rfl
theorem f_199_162 : px_at 199 162 = some (.if_icmp .ne 12, 3, 174, 0, .null) := rfl
theorem f_199_165 : px_at 199 165 = some (.iload_n 2, 1, 0, 0, .null) := rfl
theorem f_199_166 : px_at 199 166 = some (.iload 5, 2, 0, 0, .null) := rfl
theorem f_199_168 : px_at 199 168 = some (.invokestatic 443, 3, 196, 2, .null) := rfl
theorem f_199_171 : px_at 199 171 = some (.goto 9, 3, 180, 0, .null) := rfl
theorem f_199_174 : px_at 199 174 = some (.aload_n 0, 1, 0, 0, .null) := rfl
theorem f_199_175 : px_at 199 175 = some (.getfield 58, 3, 12, 29, .null) := rfl
theorem f_199_178 : px_at 199 178 = some (.iload_n 1, 1, 0, 0, .null) := rfl
theorem f_199_179 : px_at 199 179 = some (.caload, 1, 0, 0, .null) := rfl
theorem f_199_180 : px_at 199 180 = some (.castore, 1, 0, 0, .null) := rfl
theorem f_199_181 : px_at 199 181 = some (.iinc 4 1, 3, 0, 0, .null) := rfl
theorem f_199_184 : px_at 199 184 = some (.iinc 5 1, 3, 0, 0, .null) := rfl
theorem f_199_187 : px_at 199 187 = some (.goto (-57), 3, 130, 0, .null) := rfl
theorem f_199_190 : px_at 199 190 = some (.goto 27, 3, 217, 0, .null) := rfl
theorem f_199_193 : px_at 199 193 = some (.aload_n 0, 1, 0, 0, .null) := rfl
theorem f_199_194 : px_at 199 194 = some (.getfield 61, 3, 12, 30, .null) := rfl
theorem f_199_197 : px_at 199 197 = some (.iload_n 1, 1, 0, 0, .null) := rfl
theorem f_199_198 : px_at 199 198 = some (.dup2, 1, 0, 0, .null) := rfl
theorem f_199_199 : px_at 199 199 = some (.iaload, 1, 0, 0, .null) := rfl
theorem f_199_200 : px_at 199 200 = some (.aload_n 0, 1, 0, 0, .null) := rfl
theorem f_199_201 : px_at 199 201 = some (.getfield 437, 3, 12, 70, .null) := rfl
theorem f_199_204 : px_at 199 204 = some (.iload_n 3, 1, 0, 0, .null) := rfl
theorem f_199_205 : px_at 199 205 = some (.iconst 1, 1, 0, 0, .null) := rfl
theorem f_199_206 : px_at 199 206 = some (.isub, 1, 0, 0, .null) := rfl
theorem f_199_207 : px_at 199 207 = some (.if_icmp .ne 7, 3, 214, 0, .null) := rfl
theorem f_199_210 : px_at 199 210 = some (.iconst 1, 1, 0, 0, .null) := rfl
theorem f_199_211 : px_at 199 211 = some (.goto 4, 3, 215, 0, .null) := rfl
theorem f_199_214 : px_at 199 214 = some (.iconst (-1), 1, 0, 0, .null) := rfl
theorem f_199_215 : px_at 199 215 = some (.iadd, 1, 0, 0, .null) := rfl
theorem f_199_216 : px_at 199 216 = some (.iastore, 1, 0, 0, .null) := rfl
theorem f_199_217 : px_at 199 217 = some (.return_, 1, 0, 0, .null) := rfl

theorem f_200_0 : px_at 200 0 = some (.aload_n 0, 1, 0, 0, .null) := rfl
theorem f_200_1 : px_at 200 1 = some (.iload_n 1, 1, 0, 0, .null) := rfl
theorem f_200_2 : px_at 200 2 = some (.invokevirtual 358, 3, 158, 1, .null) := rfl
theorem f_200_5 : px_at 200 5 = some (.aload_n 0, 1, 0, 0, .null) := rfl
theorem f_200_6 : px_at 200 6 = some (.iload_n 1, 1, 0, 0, .null) := rfl
theorem f_200_7 : px_at 200 7 = some (.invokevirtual 361, 3, 166, 1, .null) := rfl
theorem f_200_10 : px_at 200 10 = some (.iconst 1, 1, 0, 0, .null) := rfl
theorem f_200_11 : px_at 200 11 = some (.if_icmp .eq 5, 3, 16, 0, .null) := rfl
theorem f_200_14 : px_at 200 14 = some (.iconst 0, 1, 0, 0, .null) := rfl
theorem f_200_15 : px_at 200 15 = some (.ireturn, 1, 0, 0, .null) := rfl
theorem f_200_16 : px_at 200 16 = some (.aload_n 0, 1, 0, 0, .null) := rfl
theorem f_200_17 : px_at 200 17 = some (.invokevirtual 447, 3, 199, 1, .null) := rfl
theorem f_200_20 : px_at 200 20 = some (.aload_n 0, 1, 0, 0, .null) := rfl
theorem f_200_21 : px_at 200 21 = some (.iload_n 1, 1, 0, 0, .null) := rfl
theorem f_200_22 : px_at 200 22 = some (.invokevirtual 318, 3, 157, 1, .null) := rfl
theorem f_200_25 : px_at 200 25 = some (.aload_n 0, 1, 0, 0, .null) := rfl
theorem f_200_26 : px_at 200 26 = some (.iload_n 1, 1, 0, 0, .null) := rfl
theorem f_200_27 : px_at 200 27 = some (.invokevirtual 321, 3, 156, 1, .null) := rfl
theorem f_200_30 : px_at 200 30 = some (.aload_n 0, 1, 0, 0, .null) := rfl
theorem f_200_31 : px_at 200 31 = some (.iload_n 1, 1, 0, 0, .null) := rfl
theorem f_200_32 : px_at 200 32 = some (.invokevirtual 361, 3, 166, 1, .null) := rfl
theorem f_200_35 : px_at 200 35 = some (.iconst 1, 1, 0, 0, .null) := rfl
theorem f_200_36 : px_at 200 36 = some (.if_icmp .eq 7, 3, 43, 0, .null) := rfl
theorem f_200_39 : px_at 200 39 = some (.iconst 1, 1, 0, 0, .null) := rfl
theorem f_200_40 : px_at 200 40 = some (.goto 4, 3, 44, 0, .null) := rfl
theorem f_200_43 : px_at 200 43 = some (.iconst 0, 1, 0, 0, .null) := rfl
theorem f_200_44 : px_at 200 44 = some (.ireturn, 1, 0, 0, .null) := rfl

theorem f_201_0 : px_at 201 0 = some (.iload_n 1, 1, 0, 0, .null) := rfl
theorem f_201_1 : px_at 201 1 = some (.iconst 0, 1, 0, 0, .null) := rfl
theorem f_201_2 : px_at 201 2 = some (.aload_n 0, 1, 0, 0, .null) := rfl
theorem f_201_3 : px_at 201 3 = some (.invokevirtual 450, 3, 195, 1, .null) := rfl
theorem f_201_6 : px_at 201 6 = some (.iconst 1, 1, 0, 0, .null) := rfl
theorem f_201_7 : px_at 201 7 = some (.isub, 1, 0, 0, .null) := rfl
theorem f_201_8 : px_at 201 8 = some (.invokestatic 115, 3, 118, 2, .null) := rfl
theorem f_201_11 : px_at 201 11 = some (.ifCond .eq 12, 3, 23, 0, .null) := rfl
theorem f_201_14 : px_at 201 14 = some (.iload_n 2, 1, 0, 0, .null) := rfl
theorem f_201_15 : px_at 201 15 = some (.iconst 0, 1, 0, 0, .null) := rfl
theorem f_201_16 : px_at 201 16 = some (.iconst 4, 1, 0, 0, .null) := rfl
theorem f_201_17 : px_at 201 17 = some (.invokestatic 115, 3, 118, 2, .null) := rfl
theorem f_201_20 : px_at 201 20 = some (.ifCond .ne 5, 3, 25, 0, .null) := rfl
theorem f_201_23 : px_at 201 23 = some (.iconst (-1), 1, 0, 0, .null) := rfl
theorem f_201_24 : px_at 201 24 = some (.ireturn, 1, 0, 0, .null) := rfl
theorem f_201_25 : px_at 201 25 = some (.aload_n 0, 1, 0, 0, .null) := rfl
theorem f_201_26 : px_at 201 26 = some (.iload_n 1, 1, 0, 0, .null) := rfl
theorem f_201_27 : px_at 201 27 = some (.invokevirtual 453, 3, 197, 1, .null) := rfl
theorem f_201_30 : px_at 201 30 = some (.iload_n 2, 1, 0, 0, .null) := rfl
theorem f_201_31 : px_at 201 31 = some (.iconst 3, 1, 0, 0, .null) := rfl
theorem f_201_32 : px_at 201 32 = some (.if_icmp .ge 39, 3, 71, 0, .null) := rfl
theorem f_201_35 : px_at 201 35 = some (.iload_n 2, 1, 0, 0, .null) := rfl
theorem f_201_36 : px_at 201 36 = some (.ifCond .ne 10, 3, 46, 0, .null) := rfl
theorem f_201_39 : px_at 201 39 = some (.aload_n 0, 1, 0, 0, .null) := rfl
theorem f_201_40 : px_at 201 40 = some (.getfield 434, 3, 12, 69, .null) := rfl
theorem f_201_43 : px_at 201 43 = some (.goto 27, 3, 70, 0, .null) := rfl
theorem f_201_46 : px_at 201 46 = some (.iload_n 2, 1, 0, 0, .null) := rfl
theorem f_201_47 : px_at 201 47 = some (.iconst 1, 1, 0, 0, .null) := rfl
theorem f_201_48 : px_at 201 48 = some (.if_icmp .ne 10, 3, 58, 0, .null) := rfl
theorem f_201_51 : px_at 201 51 = some (.aload_n 0, 1, 0, 0, .null) := rfl
theorem f_201_52 : px_at 201 52 = some (.getfield 437, 3, 12, 70, .null) := rfl
theorem f_201_55 : px_at 201 55 = some (.goto 15, 3, 70, 0, .null) := rfl
theorem f_201_58 : px_at 201 58 = some (.aload_n 0, 1, 0, 0, .null) := rfl
theorem f_201_59 : px_at 201 59 = some (.invokevirtual 440, 3, 198, 1, .null) := rfl
theorem f_201_62 : px_at 201 62 = some (.ifCond .eq 7, 3, 69, 0, .null) := rfl
theorem f_201_65 : px_at 201 65 = some (.iconst 1, 1, 0, 0, .null) := rfl
theorem f_201_66 : px_at 201 66 = some (.goto 4, 3, 70, 0, .null) := rfl
theorem f_201_69 : px_at 201 69 = some (.iconst 0, 1, 0, 0, .null) := rfl
theorem f_201_70 : px_at 201 70 = some (.ireturn, 1, 0, 0, .null) := rfl
theorem f_201_71 : px_at 201 71 = some (.bipush (-3), 2, 0, 0, .null) := rfl
theorem f_201_73 : px_at 201 73 = some (.istore_n 3, 1, 0, 0, .null) := rfl
theorem f_201_74 : px_at 201 74 = some (.iconst 0, 1, 0, 0, .null) := rfl
theorem f_201_75 : px_at 201 75 = some (.istore 4, 2, 0, 0, .null) := rfl
theorem f_201_77 : px_at 201 77 = some (.iconst 0, 1, 0, 0, .null) := rfl
theorem f_201_78 : px_at 201 78 = some (.istore 5, 2, 0, 0, .null) := rfl
theorem f_201_80 : px_at 201 80 = some (.iload 5, 2, 0, 0, .null) := rfl
theorem f_201_82 : px_at 201 82 = some (.aload_n 0, 1, 0, 0, .null) := rfl
theorem f_201_83 : px_at 201 83 = some (.getfield 223, 3, 12, 6, .null) := rfl
theorem f_201_86 : px_at 201 86 = some (.if_icmp .ge 34, 3, 120, 0, .null) := rfl
theorem f_201_89 : px_at 201 89 = some (.aload_n 0, 1, 0, 0, .null) := rfl
theorem f_201_90 : px_at 201 90 = some (.iload 5, 2, 0, 0, .null) := rfl
theorem f_201_92 : px_at 201 92 = some (.invokevirtual 456, 3, 200, 1, .null) := rfl
theorem f_201_95 : px_at 201 95 = some (.ifCond .eq 19, 3, 114, 0, .null) := rfl
theorem f_201_98 : px_at 201 98 = some (.iload_n 3, 1, 0, 0, .null) := rfl
theorem f_201_99 : px_at 201 99 = some (.bipush (-3), 2, 0, 0, .null) := rfl
theorem f_201_101 : px_at 201 101 = some (.if_icmp .ne 8, 3, 109, 0, .null) := rfl
theorem f_201_104 : px_at 201 104 = some (.iload 5, 2, 0, 0, .null) := rfl
theorem f_201_106 : px_at 201 106 = some (.goto 4, 3, 110, 0, .null) := rfl
theorem f_201_109 : px_at 201 109 = some (.iload_n 3, 1, 0, 0, .null) := rfl
theorem f_201_110 : px_at 201 110 = some (.istore_n 3, 1, 0, 0, .null) := rfl
theorem f_201_111 : px_at 201 111 = some (.iinc 4 1, 3, 0, 0, .null) := rfl
theorem f_201_114 : px_at 201 114 = some (.iinc 5 1, 3, 0, 0, .null) := rfl
theorem f_201_117 : px_at 201 117 = some (.goto (-37), 3, 80, 0, .null) := rfl
theorem f_201_120 : px_at 201 120 = some (.iload_n 2, 1, 0, 0, .null) := rfl
theorem f_201_121 : px_at 201 121 = some (.iconst 3, 1, 0, 0, .null) := rfl
theorem f_201_122 : px_at 201 122 = some (.if_icmp .ne 7, 3, 129, 0, .null) := rfl
theorem f_201_125 : px_at 201 125 = some (.iload_n 3, 1, 0, 0, .null) := rfl
theorem f_201_126 : px_at 201 126 = some (.goto 5, 3, 131, 0, .null) := rfl
theorem f_201_129 : px_at 201 129 = some (.iload 4, 2, 0, 0, .null) := rfl
theorem f_201_131 : px_at 201 131 = some (.ireturn, 1, 0, 0, .null) := rfl

theorem f_202_0 : px_at 202 0 = some (.aload_n 0, 1, 0, 0, .null) := rfl
theorem f_202_1 : px_at 202 1 = some (.iload_n 1, 1, 0, 0, .null) := rfl
theorem f_202_2 : px_at 202 2 = some (.invokevirtual 355, 3, 167, 1, .null) := rfl
theorem f_202_5 : px_at 202 5 = some (.ifCond .ne 5, 3, 10, 0, .null) := rfl
theorem f_202_8 : px_at 202 8 = some (.iconst (-1), 1, 0, 0, .null) := rfl
theorem f_202_9 : px_at 202 9 = some (.ireturn, 1, 0, 0, .null) := rfl
theorem f_202_10 : px_at 202 10 = some (.iconst 0, 1, 0, 0, .null) := rfl
theorem f_202_11 : px_at 202 11 = some (.istore_n 2, 1, 0, 0, .null) := rfl
theorem f_202_12 : px_at 202 12 = some (.aload_n 0, 1, 0, 0, .null) := rfl
theorem f_202_13 : px_at 202 13 = some (.invokevirtual 450, 3, 195, 1, .null) := rfl
theorem f_202_16 : px_at 202 16 = some (.istore_n 3, 1, 0, 0, .null) := rfl
theorem f_202_17 : px_at 202 17 = some (.iconst 0, 1, 0, 0, .null) := rfl
theorem f_202_18 : px_at 202 18 = some (.istore 4, 2, 0, 0, .null) := rfl
theorem f_202_20 : px_at 202 20 = some (.iload 4, 2, 0, 0, .null) := rfl
theorem f_202_22 : px_at 202 22 = some (.iload_n 3, 1, 0, 0, .null) := rfl
theorem f_202_23 : px_at 202 23 = some (.if_icmp .ge 80, 3, 103, 0, .null) := rfl
theorem f_202_26 : px_at 202 26 = some (.aload_n 0, 1, 0, 0, .null) := rfl
theorem f_202_27 : px_at 202 27 = some (.iload 4, 2, 0, 0, .null) := rfl
theorem f_202_29 : px_at 202 29 = some (.invokevirtual 453, 3, 197, 1, .null) := rfl
theorem f_202_32 : px_at 202 32 = some (.aload_n 0, 1, 0, 0, .null) := rfl
theorem f_202_33 : px_at 202 33 = some (.iload_n 1, 1, 0, 0, .null) := rfl
theorem f_202_34 : px_at 202 34 = some (.invokevirtual 456, 3, 200, 1, .null) := rfl
theorem f_202_37 : px_at 202 37 = some (.istore 5, 2, 0, 0, .null) := rfl
theorem f_202_39 : px_at 202 39 = some (.iconst 0, 1, 0, 0, .null) := rfl
theorem f_202_40 : px_at 202 40 = some (.istore 6, 2, 0, 0, .null) := rfl
theorem f_202_42 : px_at 202 42 = some (.iload 6, 2, 0, 0, .null) := rfl
theorem f_202_44 : px_at 202 44 = some (.aload_n 0, 1, 0, 0, .null) := rfl
theorem f_202_45 : px_at 202 45 = some (.getfield 223, 3, 12, 6, .null) := rfl
theorem f_202_48 : px_at 202 48 = some (.if_icmp .ge 36, 3, 84, 0, .null) := rfl
theorem f_202_51 : px_at 202 51 = some (.iload 5, 2, 0, 0, .null) := rfl
theorem f_202_53 : px_at 202 53 = some (.ifCond .eq 31, 3, 84, 0, .null) := rfl
theorem f_202_56 : px_at 202 56 = some (.iload 6, 2, 0, 0, .null) := rfl
theorem f_202_58 : px_at 202 58 = some (.iload_n 1, 1, 0, 0, .null) := rfl
theorem f_202_59 : px_at 202 59 = some (.if_icmp .eq 12, 3, 71, 0, .null) := rfl
theorem f_202_62 : px_at 202 62 = some (.aload_n 0, 1, 0, 0, .null) := rfl
theorem f_202_63 : px_at 202 63 = some (.iload 6, 2, 0, 0, .null) := rfl
theorem f_202_65 : px_at 202 65 = some (.invokevirtual 456, 3, 200, 1, .null) := rfl
theorem f_202_68 : px_at 202 68 = some (.ifCond .ne 7, 3, 75, 0, .null) := rfl
theorem f_202_71 : px_at 202 71 = some (.iconst 1, 1, 0, 0, .null) := rfl
theorem f_202_72 : px_at 202 72 = some (.goto 4, 3, 76, 0, .null) := rfl
theorem f_202_75 : px_at 202 75 = some (.iconst 0, 1, 0, 0, .null) := rfl
theorem f_202_76 : px_at 202 76 = some (.istore 5, 2, 0, 0, .null) := rfl
theorem f_202_78 : px_at 202 78 = some (.iinc 6 1, 3, 0, 0, .null) := rfl
theorem f_202_81 : px_at 202 81 = some (.goto (-39), 3, 42, 0, .null) := rfl
theorem f_202_84 : px_at 202 84 = some (.iload_n 2, 1, 0, 0, .null) := rfl
theorem f_202_85 : px_at 202 85 = some (.iload 5, 2, 0, 0, .null) := rfl
theorem f_202_87 : px_at 202 87 = some (.ifCond .eq 7, 3, 94, 0, .null) := rfl
theorem f_202_90 : px_at 202 90 = some (.iconst 1, 1, 0, 0, .null) := rfl
theorem f_202_91 : px_at 202 91 = some (.goto 4, 3, 95, 0, .null) := rfl
theorem f_202_94 : px_at 202 94 = some (.iconst 0, 1, 0, 0, .null) := rfl
theorem f_202_95 : px_at 202 95 = some (.iadd, 1, 0, 0, .null) := rfl
theorem f_202_96 : px_at 202 96 = some (.istore_n 2, 1, 0, 0, .null) := rfl
theorem f_202_97 : px_at 202 97 = some (.iinc 4 1, 3, 0, 0, .null) := rfl
theorem f_202_100 : px_at 202 100 = some (.goto (-80), 3, 20, 0, .null) := rfl
theorem f_202_103 : px_at 202 103 = some (.iload_n 2, 1, 0, 0, .null) := rfl
theorem f_202_104 : px_at 202 104 = some (.ireturn, 1, 0, 0, .null) := rfl

theorem f_203_0 : px_at 203 0 = some (.iload_n 1, 1, 0, 0, .null) := rfl
theorem f_203_1 : px_at 203 1 = some (.tableswitch 51 0 3 #[31, 36, 41, 46], 31, 0, 0, .null) := rfl
theorem f_203_32 : px_at 203 32 = some (.aload_n 0, 1, 0, 0, .null) := rfl
theorem f_203_33 : px_at 203 33 = some (.getfield 220, 3, 12, 2, .null) := rfl
theorem f_203_36 : px_at 203 36 = some (.ireturn, 1, 0, 0, .null) := rfl
theorem f_203_37 : px_at 203 37 = some (.aload_n 0, 1, 0, 0, .null) := rfl
theorem f_203_38 : px_at 203 38 = some (.getfield 223, 3, 12, 6, .null) := rfl
theorem f_203_41 : px_at 203 41 = some (.ireturn, 1, 0, 0, .null) := rfl
theorem f_203_42 : px_at 203 42 = some (.aload_n 0, 1, 0, 0, .null) := rfl
theorem f_203_43 : px_at 203 43 = some (.getfield 121, 3, 12, 1, .null) := rfl
theorem f_203_46 : px_at 203 46 = some (.ireturn, 1, 0, 0, .null) := rfl
theorem f_203_47 : px_at 203 47 = some (.aload_n 0, 1, 0, 0, .null) := rfl
theorem f_203_48 : px_at 203 48 = some (.invokevirtual 450, 3, 195, 1, .null) := rfl
theorem f_203_51 : px_at 203 51 = some (.ireturn, 1, 0, 0, .null) := rfl
theorem f_203_52 : px_at 203 52 = some (.iconst (-1), 1, 0, 0, .null) := rfl
theorem f_203_53 : px_at 203 53 = some (.ireturn, 1, 0, 0, .null) := rfl

theorem f_204_0 : px_at 204 0 = some (.aload_n 0, 1, 0, 0, .null) := rfl
theorem f_204_1 : px_at 204 1 = some (.iload_n 1, 1, 0, 0, .null) := rfl
theorem f_204_2 : px_at 204 2 = some (.invokevirtual 355, 3, 167, 1, .null) := rfl
theorem f_204_5 : px_at 204 5 = some (.ifCond .eq 19, 3, 24, 0, .null) := rfl
theorem f_204_8 : px_at 204 8 = some (.iload_n 2, 1, 0, 0, .null) := rfl
theorem f_204_9 : px_at 204 9 = some (.iconst 0, 1, 0, 0, .null) := rfl
theorem f_204_10 : px_at 204 10 = some (.aload_n 0, 1, 0, 0, .null) := rfl
theorem f_204_11 : px_at 204 11 = some (.getfield 23, 3, 12, 7, .null) := rfl
theorem f_204_14 : px_at 204 14 = some (.iload_n 1, 1, 0, 0, .null) := rfl
theorem f_204_15 : px_at 204 15 = some (.iaload, 1, 0, 0, .null) := rfl
theorem f_204_16 : px_at 204 16 = some (.iconst 1, 1, 0, 0, .null) := rfl
theorem f_204_17 : px_at 204 17 = some (.isub, 1, 0, 0, .null) := rfl
theorem f_204_18 : px_at 204 18 = some (.invokestatic 115, 3, 118, 2, .null) := rfl
theorem f_204_21 : px_at 204 21 = some (.ifCond .ne 5, 3, 26, 0, .null) := rfl
theorem f_204_24 : px_at 204 24 = some (.iconst (-1), 1, 0, 0, .null) := rfl
theorem f_204_25 : px_at 204 25 = some (.ireturn, 1, 0, 0, .null) := rfl
theorem f_204_26 : px_at 204 26 = some (.bipush 24, 2, 0, 0, .null) := rfl
theorem f_204_28 : px_at 204 28 = some (.iload_n 1, 1, 0, 0, .null) := rfl
theorem f_204_29 : px_at 204 29 = some (.imul, 1, 0, 0, .null) := rfl
theorem f_204_30 : px_at 204 30 = some (.iload_n 2, 1, 0, 0, .null) := rfl
theorem f_204_31 : px_at 204 31 = some (.iadd, 1, 0, 0, .null) := rfl
theorem f_204_32 : px_at 204 32 = some (.istore 4, 2, 0, 0, .null) := rfl
theorem f_204_34 : px_at 204 34 = some (.iload_n 3, 1, 0, 0, .null) := rfl
theorem f_204_35 : px_at 204 35 = some (.tableswitch 61 0 3 #[29, 37, 45, 53], 29, 0, 0, .null) := rfl
theorem f_204_64 : px_at 204 64 = some (.aload_n 0, 1, 0, 0, .null) := rfl
theorem f_204_65 : px_at 204 65 = some (.getfield 26, 3, 12, 8, .null) := rfl
theorem f_204_68 : px_at 204 68 = some (.iload 4, 2, 0, 0, .null) := rfl
theorem f_204_70 : px_at 204 70 = some (.caload, 1, 0, 0, .null) := rfl
theorem f_204_71 : px_at 204 71 = some (.ireturn, 1, 0, 0, .null) := rfl
theorem f_204_72 : px_at 204 72 = some (.aload_n 0, 1, 0, 0, .null) := rfl
theorem f_204_73 : px_at 204 73 = some (.getfield 29, 3, 12, 9, .null) := rfl
theorem f_204_76 : px_at 204 76 = some (.iload 4, 2, 0, 0, .null) := rfl
theorem f_204_78 : px_at 204 78 = some (.baload, 1, 0, 0, .null) := rfl
theorem f_204_79 : px_at 204 79 = some (.ireturn, 1, 0, 0, .null) := rfl
theorem f_204_80 : px_at 204 80 = some (.aload_n 0, 1, 0, 0, .null) := rfl
theorem f_204_81 : px_at 204 81 = some (.getfield 33, 3, 12, 10, .null) := rfl
theorem f_204_84 : px_at 204 84 = some (.iload 4, 2, 0, 0, .null) := rfl
theorem f_204_86 : px_at 204 86 = some (.saload, 1, 0, 0, .null) := rfl
theorem f_204_87 : px_at 204 87 = some (.ireturn, 1, 0, 0, .null) := rfl
theorem f_204_88 : px_at 204 88 = some (.aload_n 0, 1, 0, 0, .null) := rfl
theorem f_204_89 : px_at 204 89 = some (.getfield 37, 3, 12, 11, .null) := rfl
theorem f_204_92 : px_at 204 92 = some (.iload 4, 2, 0, 0, .null) := rfl
theorem f_204_94 : px_at 204 94 = some (.saload, 1, 0, 0, .null) := rfl
theorem f_204_95 : px_at 204 95 = some (.ireturn, 1, 0, 0, .null) := rfl
theorem f_204_96 : px_at 204 96 = some (.iconst (-1), 1, 0, 0, .null) := rfl
theorem f_204_97 : px_at 204 97 = some (.ireturn, 1, 0, 0, .null) := rfl

theorem f_205_0 : px_at 205 0 = some (.iload_n 1, 1, 0, 0, .null) := rfl
theorem f_205_1 : px_at 205 1 = some (.iconst 0, 1, 0, 0, .null) := rfl
theorem f_205_2 : px_at 205 2 = some (.aload_n 0, 1, 0, 0, .null) := rfl
theorem f_205_3 : px_at 205 3 = some (.getfield 220, 3, 12, 2, .null) := rfl
theorem f_205_6 : px_at 205 6 = some (.iconst 1, 1, 0, 0, .null) := rfl
theorem f_205_7 : px_at 205 7 = some (.isub, 1, 0, 0, .null) := rfl
theorem f_205_8 : px_at 205 8 = some (.invokestatic 115, 3, 118, 2, .null) := rfl
theorem f_205_11 : px_at 205 11 = some (.ifCond .ne 5, 3, 16, 0, .null) := rfl
theorem f_205_14 : px_at 205 14 = some (.iconst (-1), 1, 0, 0, .null) := rfl
theorem f_205_15 : px_at 205 15 = some (.ireturn, 1, 0, 0, .null) := rfl
theorem f_205_16 : px_at 205 16 = some (.iload_n 2, 1, 0, 0, .null) := rfl
theorem f_205_17 : px_at 205 17 = some (.tableswitch 48 0 2 #[27, 34, 41], 27, 0, 0, .null) := rfl
theorem f_205_44 : px_at 205 44 = some (.aload_n 0, 1, 0, 0, .null) := rfl
theorem f_205_45 : px_at 205 45 = some (.getfield 13, 3, 12, 3, .null) := rfl
theorem f_205_48 : px_at 205 48 = some (.iload_n 1, 1, 0, 0, .null) := rfl
theorem f_205_49 : px_at 205 49 = some (.caload, 1, 0, 0, .null) := rfl
theorem f_205_50 : px_at 205 50 = some (.ireturn, 1, 0, 0, .null) := rfl
theorem f_205_51 : px_at 205 51 = some (.aload_n 0, 1, 0, 0, .null) := rfl
theorem f_205_52 : px_at 205 52 = some (.getfield 19, 3, 12, 5, .null) := rfl
theorem f_205_55 : px_at 205 55 = some (.iload_n 1, 1, 0, 0, .null) := rfl
theorem f_205_56 : px_at 205 56 = some (.iaload, 1, 0, 0, .null) := rfl
theorem f_205_57 : px_at 205 57 = some (.ireturn, 1, 0, 0, .null) := rfl
theorem f_205_58 : px_at 205 58 = some (.aload_n 0, 1, 0, 0, .null) := rfl
theorem f_205_59 : px_at 205 59 = some (.getfield 16, 3, 12, 4, .null) := rfl
theorem f_205_62 : px_at 205 62 = some (.iload_n 1, 1, 0, 0, .null) := rfl
theorem f_205_63 : px_at 205 63 = some (.caload, 1, 0, 0, .null) := rfl
theorem f_205_64 : px_at 205 64 = some (.ireturn, 1, 0, 0, .null) := rfl
theorem f_205_65 : px_at 205 65 = some (.iconst (-1), 1, 0, 0, .null) := rfl
theorem f_205_66 : px_at 205 66 = some (.ireturn, 1, 0, 0, .null) := rfl

theorem f_206_0 : px_at 206 0 = some (.iload_n 0, 1, 0, 0, .null) := rfl
theorem f_206_1 : px_at 206 1 = some (.iconst (-1), 1, 0, 0, .null) := rfl
theorem f_206_2 : px_at 206 2 = some (.ixor, 1, 0, 0, .null) := rfl
theorem f_206_3 : px_at 206 3 = some (.iload_n 0, 1, 0, 0, .null) := rfl
theorem f_206_4 : px_at 206 4 = some (.iconst 1, 1, 0, 0, .null) := rfl
theorem f_206_5 : px_at 206 5 = some (.isub, 1, 0, 0, .null) := rfl
theorem f_206_6 : px_at 206 6 = some (.iand, 1, 0, 0, .null) := rfl
theorem f_206_7 : px_at 206 7 = some (.istore_n 0, 1, 0, 0, .null) := rfl
theorem f_206_8 : px_at 206 8 = some (.iload_n 0, 1, 0, 0, .null) := rfl
theorem f_206_9 : px_at 206 9 = some (.ifCond .gt 8, 3, 17, 0, .null) := rfl
theorem f_206_12 : px_at 206 12 = some (.iload_n 0, 1, 0, 0, .null) := rfl
theorem f_206_13 : px_at 206 13 = some (.bipush 32, 2, 0, 0, .null) := rfl
theorem f_206_15 : px_at 206 15 = some (.iand, 1, 0, 0, .null) := rfl
theorem f_206_16 : px_at 206 16 = some (.ireturn, 1, 0, 0, .null) := rfl
theorem f_206_17 : px_at 206 17 = some (.iconst 1, 1, 0, 0, .null) := rfl
theorem f_206_18 : px_at 206 18 = some (.istore_n 1, 1, 0, 0, .null) := rfl
theorem f_206_19 : px_at 206 19 = some (.iload_n 0, 1, 0, 0, .null) := rfl
theorem f_206_20 : px_at 206 20 = some (.ldc_w 264, 3, 0, 0, .int (65536)) := rfl
theorem f_206_23 : px_at 206 23 = some (.if_icmp .le 11, 3, 34, 0, .null) := rfl
theorem f_206_26 : px_at 206 26 = some (.iinc 1 16, 3, 0, 0, .null) := rfl
theorem f_206_29 : px_at 206 29 = some (.iload_n 0, 1, 0, 0, .null) := rfl
theorem f_206_30 : px_at 206 30 = some (.bipush 16, 2, 0, 0, .null) := rfl
theorem f_206_32 : px_at 206 32 = some (.iushr, 1, 0, 0, .null) := rfl
theorem f_206_33 : px_at 206 33 = some (.istore_n 0, 1, 0, 0, .null) := rfl
theorem f_206_34 : px_at 206 34 = some (.iload_n 0, 1, 0, 0, .null) := rfl
theorem f_206_35 : px_at 206 35 = some (.sipush 256, 3, 0, 0, .null) := rfl
theorem f_206_38 : px_at 206 38 = some (.if_icmp .le 11, 3, 49, 0, .null) := rfl
theorem f_206_41 : px_at 206 41 = some (.iinc 1 8, 3, 0, 0, .null) := rfl
theorem f_206_44 : px_at 206 44 = some (.iload_n 0, 1, 0, 0, .null) := rfl
theorem f_206_45 : px_at 206 45 = some (.bipush 8, 2, 0, 0, .null) := rfl
theorem f_206_47 : px_at 206 47 = some (.iushr, 1, 0, 0, .null) := rfl
theorem f_206_48 : px_at 206 48 = some (.istore_n 0, 1, 0, 0, .null) := rfl
theorem f_206_49 : px_at 206 49 = some (.iload_n 0, 1, 0, 0, .null) := rfl
theorem f_206_50 : px_at 206 50 = some (.bipush 16, 2, 0, 0, .null) := rfl
theorem f_206_52 : px_at 206 52 = some (.if_icmp .le 10, 3, 62, 0, .null) := rfl
theorem f_206_55 : px_at 206 55 = some (.iinc 1 4, 3, 0, 0, .null) := rfl
theorem f_206_58 : px_at 206 58 = some (.iload_n 0, 1, 0, 0, .null) := rfl
theorem f_206_59 : px_at 206 59 = some (.iconst 4, 1, 0, 0, .null) := rfl
theorem f_206_60 : px_at 206 60 = some (.iushr, 1, 0, 0, .null) := rfl
theorem f_206_61 : px_at 206 61 = some (.istore_n 0, 1, 0, 0, .null) := rfl
theorem f_206_62 : px_at 206 62 = some (.iload_n 0, 1, 0, 0, .null) := rfl
theorem f_206_63 : px_at 206 63 = some (.iconst 4, 1, 0, 0, .null) := rfl
theorem f_206_64 : px_at 206 64 = some (.if_icmp .le 10, 3, 74, 0, .null) := rfl
theorem f_206_67 : px_at 206 67 = some (.iinc 1 2, 3, 0, 0, .null) := rfl
theorem f_206_70 : px_at 206 70 = some (.iload_n 0, 1, 0, 0, .null) := rfl
theorem f_206_71 : px_at 206 71 = some (.iconst 2, 1, 0, 0, .null) := rfl
theorem f_206_72 : px_at 206 72 = some (.iushr, 1, 0, 0, .null) := rfl
theorem f_206_73 : px_at 206 73 = some (.istore_n 0, 1, 0, 0, .null) := rfl
theorem f_206_74 : px_at 206 74 = some (.iload_n 1, 1, 0, 0, .null) := rfl
theorem f_206_75 : px_at 206 75 = some (.iload_n 0, 1, 0, 0, .null) := rfl
theorem f_206_76 : px_at 206 76 = some (.iconst 1, 1, 0, 0, .null) := rfl
theorem f_206_77 : px_at 206 77 = some (.iushr, 1, 0, 0, .null) := rfl
theorem f_206_78 : px_at 206 78 = some (.iadd, 1, 0, 0, .null) := rfl
theorem f_206_79 : px_at 206 79 = some (.ireturn, 1, 0, 0, .null) := rfl

theorem f_207_0 : px_at 207 0 = some (.iload_n 0, 1, 0, 0, .null) := rfl
theorem f_207_1 : px_at 207 1 = some (.iload_n 0, 1, 0, 0, .null) := rfl
theorem f_207_2 : px_at 207 2 = some (.iconst 1, 1, 0, 0, .null) := rfl
theorem f_207_3 : px_at 207 3 = some (.iushr, 1, 0, 0, .null) := rfl
theorem f_207_4 : px_at 207 4 = some (.ldc_w 265, 3, 0, 0, .int (1431655765)) := rfl
theorem f_207_7 : px_at 207 7 = some (.iand, 1, 0, 0, .null) := rfl
theorem f_207_8 : px_at 207 8 = some (.isub, 1, 0, 0, .null) := rfl
theorem f_207_9 : px_at 207 9 = some (.istore_n 0, 1, 0, 0, .null) := rfl
theorem f_207_10 : px_at 207 10 = some (.iload_n 0, 1, 0, 0, .null) := rfl
theorem f_207_11 : px_at 207 11 = some (.ldc_w 266, 3, 0, 0, .int (858993459)) := rfl
theorem f_207_14 : px_at 207 14 = some (.iand, 1, 0, 0, .null) := rfl
theorem f_207_15 : px_at 207 15 = some (.iload_n 0, 1, 0, 0, .null) := rfl
theorem f_207_16 : px_at 207 16 = some (.iconst 2, 1, 0, 0, .null) := rfl
theorem f_207_17 : px_at 207 17 = some (.iushr, 1, 0, 0, .null) := rfl
theorem f_207_18 : px_at 207 18 = some (.ldc_w 266, 3, 0, 0, .int (858993459)) := rfl
theorem f_207_21 : px_at 207 21 = some (.iand, 1, 0, 0, .null) := rfl
theorem f_207_22 : px_at 207 22 = some (.iadd, 1, 0, 0, .null) := rfl
theorem f_207_23 : px_at 207 23 = some (.istore_n 0, 1, 0, 0, .null) := rfl
theorem f_207_24 : px_at 207 24 = some (.iload_n 0, 1, 0, 0, .null) := rfl
theorem f_207_25 : px_at 207 25 = some (.iload_n 0, 1, 0, 0, .null) := rfl
theorem f_207_26 : px_at 207 26 = some (.iconst 4, 1, 0, 0, .null) := rfl
theorem f_207_27 : px_at 207 27 = some (.iushr, 1, 0, 0, .null) := rfl
theorem f_207_28 : px_at 207 28 = some (.iadd, 1, 0, 0, .null) := rfl
theorem f_207_29 : px_at 207 29 = some (.ldc_w 267, 3, 0, 0, .int (252645135)) := rfl
theorem f_207_32 : px_at 207 32 = some (.iand, 1, 0, 0, .null) := rfl
theorem f_207_33 : px_at 207 33 = some (.istore_n 0, 1, 0, 0, .null) := rfl
theorem f_207_34 : px_at 207 34 = some (.iload_n 0, 1, 0, 0, .null) := rfl
theorem f_207_35 : px_at 207 35 = some (.iload_n 0, 1, 0, 0, .null) := rfl
theorem f_207_36 : px_at 207 36 = some (.bipush 8, 2, 0, 0, .null) := rfl
theorem f_207_38 : px_at 207 38 = some (.iushr, 1, 0, 0, .null) := rfl
theorem f_207_39 : px_at 207 39 = some (.iadd, 1, 0, 0, .null) := rfl
theorem f_207_40 : px_at 207 40 = some (.istore_n 0, 1, 0, 0, .null) := rfl
theorem f_207_41 : px_at 207 41 = some (.iload_n 0, 1, 0, 0, .null) := rfl
theorem f_207_42 : px_at 207 42 = some (.iload_n 0, 1, 0, 0, .null) := rfl
theorem f_207_43 : px_at 207 43 = some (.bipush 16, 2, 0, 0, .null) := rfl
theorem f_207_45 : px_at 207 45 = some (.iushr, 1, 0, 0, .null) := rfl
theorem f_207_46 : px_at 207 46 = some (.iadd, 1, 0, 0, .null) := rfl
theorem f_207_47 : px_at 207 47 = some (.istore_n 0, 1, 0, 0, .null) := rfl
theorem f_207_48 : px_at 207 48 = some (.iload_n 0, 1, 0, 0, .null) := rfl
theorem f_207_49 : px_at 207 49 = some (.bipush 63, 2, 0, 0, .null) := rfl
theorem f_207_51 : px_at 207 51 = some (.iand, 1, 0, 0, .null) := rfl
theorem f_207_52 : px_at 207 52 = some (.ireturn, 1, 0, 0, .null) := rfl

theorem f_208_0 : px_at 208 0 = some (.aload_n 0, 1, 0, 0, .null) := rfl
theorem f_208_1 : px_at 208 1 = some (.getfield 9, 3, 40, 0, .null) := rfl
theorem f_208_4 : px_at 208 4 = some (.arraylength, 1, 0, 0, .null) := rfl
theorem f_208_5 : px_at 208 5 = some (.aload_n 0, 1, 0, 0, .null) := rfl
theorem f_208_6 : px_at 208 6 = some (.invokevirtual 335, 3, 212, 1, .null) := rfl
theorem f_208_9 : px_at 208 9 = some (.ishr, 1, 0, 0, .null) := rfl
theorem f_208_10 : px_at 208 10 = some (.ireturn, 1, 0, 0, .null) := rfl

theorem f_209_0 : px_at 209 0 = some (.aload_n 0, 1, 0, 0, .null) := rfl
theorem f_209_1 : px_at 209 1 = some (.invokevirtual 492, 3, 213, 1, .null) := rfl
theorem f_209_4 : px_at 209 4 = some (.ifCond .eq 12, 3, 16, 0, .null) := rfl
theorem f_209_7 : px_at 209 7 = some (.aload_n 0, 1, 0, 0, .null) := rfl
theorem f_209_8 : px_at 209 8 = some (.getfield 9, 3, 40, 0, .null) := rfl
theorem f_209_11 : px_at 209 11 = some (.iload_n 1, 1, 0, 0, .null) := rfl
theorem f_209_12 : px_at 209 12 = some (.invokestatic 495, 3, 215, 2, .null) := rfl
theorem f_209_15 : px_at 209 15 = some (.ireturn, 1, 0, 0, .null) := rfl
theorem f_209_16 : px_at 209 16 = some (.aload_n 0, 1, 0, 0, .null) := rfl
theorem f_209_17 : px_at 209 17 = some (.getfield 9, 3, 40, 0, .null) := rfl
theorem f_209_20 : px_at 209 20 = some (.iload_n 1, 1, 0, 0, .null) := rfl
theorem f_209_21 : px_at 209 21 = some (.invokestatic 498, 3, 0, 20, .null) := rfl
theorem f_209_24 : px_at 209 24 = some (.ireturn, 1, 0, 0, .null) := rfl

theorem f_210_0 : px_at 210 0 = some (.aload_n 0, 1, 0, 0, .null) := rfl
theorem f_210_1 : px_at 210 1 = some (.iload_n 1, 1, 0, 0, .null) := rfl
theorem f_210_2 : px_at 210 2 = some (.iconst 0, 1, 0, 0, .null) := rfl
theorem f_210_3 : px_at 210 3 = some (.invokevirtual 633, 3, 211, 1, .null) := rfl
theorem f_210_6 : px_at 210 6 = some (.ireturn, 1, 0, 0, .null) := rfl

theorem f_211_0 : px_at 211 0 = some (.aload_n 0, 1, 0, 0, .null) := rfl
theorem f_211_1 : px_at 211 1 = some (.invokevirtual 492, 3, 213, 1, .null) := rfl
theorem f_211_4 : px_at 211 4 = some (.ifCond .eq 19, 3, 23, 0, .null) := rfl
theorem f_211_7 : px_at 211 7 = some (.aload_n 0, 1, 0, 0, .null) := rfl
theorem f_211_8 : px_at 211 8 = some (.getfield 9, 3, 40, 0, .null) := rfl
theorem f_211_11 : px_at 211 11 = some (.iload_n 1, 1, 0, 0, .null) := rfl
theorem f_211_12 : px_at 211 12 = some (.iload_n 2, 1, 0, 0, .null) := rfl
theorem f_211_13 : px_at 211 13 = some (.aload_n 0, 1, 0, 0, .null) := rfl
theorem f_211_14 : px_at 211 14 = some (.invokevirtual 505, 3, 208, 1, .null) := rfl
theorem f_211_17 : px_at 211 17 = some (.invokestatic 637, 3, 217, 2, .null) := rfl
theorem f_211_20 : px_at 211 20 = some (.goto 16, 3, 36, 0, .null) := rfl
theorem f_211_23 : px_at 211 23 = some (.aload_n 0, 1, 0, 0, .null) := rfl
theorem f_211_24 : px_at 211 24 = some (.getfield 9, 3, 40, 0, .null) := rfl
theorem f_211_27 : px_at 211 27 = some (.iload_n 1, 1, 0, 0, .null) := rfl
theorem f_211_28 : px_at 211 28 = some (.iload_n 2, 1, 0, 0, .null) := rfl
theorem f_211_29 : px_at 211 29 = some (.aload_n 0, 1, 0, 0, .null) := rfl
theorem f_211_30 : px_at 211 30 = some (.invokevirtual 505, 3, 208, 1, .null) := rfl
theorem f_211_33 : px_at 211 33 = some (.invokestatic 640, 3, 0, 20, .null) := rfl
theorem f_211_36 : px_at 211 36 = some (.ireturn, 1, 0, 0, .null) := rfl

theorem f_212_0 : px_at 212 0 = some (.getstatic 38, 3, 0, 0, .int 1) := rfl
theorem f_212_3 : px_at 212 3 = some (.ifCond .eq 10, 3, 13, 0, .null) := rfl
theorem f_212_6 : px_at 212 6 = some (.aload_n 0, 1, 0, 0, .null) := rfl
theorem f_212_7 : px_at 212 7 = some (.getfield 15, 3, 40, 1, .null) := rfl
theorem f_212_10 : px_at 212 10 = some (.goto 4, 3, 14, 0, .null) := rfl
theorem f_212_13 : px_at 212 13 = some (.iconst 1, 1, 0, 0, .null) := rfl
theorem f_212_14 : px_at 212 14 = some (.ireturn, 1, 0, 0, .null) := rfl

theorem f_213_0 : px_at 213 0 = some (.getstatic 38, 3, 0, 0, .int 1) := rfl
theorem f_213_3 : px_at 213 3 = some (.ifCond .eq 14, 3, 17, 0, .null) := rfl
theorem f_213_6 : px_at 213 6 = some (.aload_n 0, 1, 0, 0, .null) := rfl
theorem f_213_7 : px_at 213 7 = some (.getfield 15, 3, 40, 1, .null) := rfl
theorem f_213_10 : px_at 213 10 = some (.ifCond .ne 7, 3, 17, 0, .null) := rfl
theorem f_213_13 : px_at 213 13 = some (.iconst 1, 1, 0, 0, .null) := rfl
theorem f_213_14 : px_at 213 14 = some (.goto 4, 3, 18, 0, .null) := rfl
theorem f_213_17 : px_at 213 17 = some (.iconst 0, 1, 0, 0, .null) := rfl
theorem f_213_18 : px_at 213 18 = some (.ireturn, 1, 0, 0, .null) := rfl

theorem f_214_0 : px_at 214 0 = some (.iload_n 0, 1, 0, 0, .null) := rfl
theorem f_214_1 : px_at 214 1 = some (.iload_n 1, 1, 0, 0, .null) := rfl
theorem f_214_2 : px_at 214 2 = some (.getstatic 1053, 3, 1, 0, .retAddr 0) := rfl
theorem f_214_5 : px_at 214 5 = some (.invokestatic 1059, 3, 219, 2, .null) := rfl
theorem f_214_8 : px_at 214 8 = some (.pop, 1, 0, 0, .null) := rfl
theorem f_214_9 : px_at 214 9 = some (.return_, 1, 0, 0, .null) := rfl

theorem f_215_0 : px_at 215 0 = some (.iload_n 1, 1, 0, 0, .null) := rfl
theorem f_215_1 : px_at 215 1 = some (.aload_n 0, 1, 0, 0, .null) := rfl
theorem f_215_2 : px_at 215 2 = some (.arraylength, 1, 0, 0, .null) := rfl
theorem f_215_3 : px_at 215 3 = some (.invokestatic 9, 3, 214, 2, .null) := rfl
theorem f_215_6 : px_at 215 6 = some (.aload_n 0, 1, 0, 0, .null) := rfl
theorem f_215_7 : px_at 215 7 = some (.iload_n 1, 1, 0, 0, .null) := rfl
theorem f_215_8 : px_at 215 8 = some (.baload, 1, 0, 0, .null) := rfl
theorem f_215_9 : px_at 215 9 = some (.sipush 255, 3, 0, 0, .null) := rfl
theorem f_215_12 : px_at 215 12 = some (.iand, 1, 0, 0, .null) := rfl
theorem f_215_13 : px_at 215 13 = some (.i2c, 1, 0, 0, .null) := rfl
theorem f_215_14 : px_at 215 14 = some (.ireturn, 1, 0, 0, .null) := rfl

theorem f_216_0 : px_at 216 0 = some (.iload_n 0, 1, 0, 0, .null) := rfl
theorem f_216_1 : px_at 216 1 = some (.ifCond .lt 14, 3, 15, 0, .null) := rfl
theorem f_216_4 : px_at 216 4 = some (.iload_n 0, 1, 0, 0, .null) := rfl
theorem f_216_5 : px_at 216 5 = some (.sipush 255, 3, 0, 0, .null) := rfl
theorem f_216_8 : px_at 216 8 = some (.if_icmp .gt 7, 3, 15, 0, .null) := rfl
theorem f_216_11 : px_at 216 11 = some (.iconst 1, 1, 0, 0, .null) := rfl
theorem f_216_12 : px_at 216 12 = some (.goto 4, 3, 16, 0, .null) := rfl
theorem f_216_15 : px_at 216 15 = some (.iconst 0, 1, 0, 0, .null) := rfl
theorem f_216_16 : px_at 216 16 = some (.ireturn, 1, 0, 0, .null) := rfl
