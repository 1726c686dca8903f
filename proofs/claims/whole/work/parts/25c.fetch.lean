theorem f_79_0 : px_at 79 0 = some (.bipush (-3), 2, 0, 0, .null) := rfl
theorem f_79_2 : px_at 79 2 = some (.istore_n 2, 1, 0, 0, .null) := rfl
theorem f_79_3 : px_at 79 3 = some (.iconst 0, 1, 0, 0, .null) := rfl
theorem f_79_4 : px_at 79 4 = some (.istore_n 3, 1, 0, 0, .null) := rfl
theorem f_79_5 : px_at 79 5 = some (.iload_n 3, 1, 0, 0, .null) := rfl
theorem f_79_6 : px_at 79 6 = some (.iconst 4, 1, 0, 0, .null) := rfl
theorem f_79_7 : px_at 79 7 = some (.if_icmp .ge 64, 3, 71, 0, .null) := rfl
theorem f_79_10 : px_at 79 10 = some (.aload_n 0, 1, 0, 0, .null) := rfl
theorem f_79_11 : px_at 79 11 = some (.getfield 19, 3, 9, 2, .null) := rfl
theorem f_79_14 : px_at 79 14 = some (.iload_n 3, 1, 0, 0, .null) := rfl
theorem f_79_15 : px_at 79 15 = some (.iaload, 1, 0, 0, .null) := rfl
theorem f_79_16 : px_at 79 16 = some (.iconst (-1), 1, 0, 0, .null) := rfl
theorem f_79_17 : px_at 79 17 = some (.if_icmp .eq 17, 3, 34, 0, .null) := rfl
theorem f_79_20 : px_at 79 20 = some (.aload_n 0, 1, 0, 0, .null) := rfl
theorem f_79_21 : px_at 79 21 = some (.getfield 19, 3, 9, 2, .null) := rfl
theorem f_79_24 : px_at 79 24 = some (.iload_n 3, 1, 0, 0, .null) := rfl
theorem f_79_25 : px_at 79 25 = some (.iaload, 1, 0, 0, .null) := rfl
theorem f_79_26 : px_at 79 26 = some (.iload_n 1, 1, 0, 0, .null) := rfl
theorem f_79_27 : px_at 79 27 = some (.if_icmp .gt 7, 3, 34, 0, .null) := rfl
theorem f_79_30 : px_at 79 30 = some (.iconst 1, 1, 0, 0, .null) := rfl
theorem f_79_31 : px_at 79 31 = some (.goto 4, 3, 35, 0, .null) := rfl
theorem f_79_34 : px_at 79 34 = some (.iconst 0, 1, 0, 0, .null) := rfl
theorem f_79_35 : px_at 79 35 = some (.istore 4, 2, 0, 0, .null) := rfl
theorem f_79_37 : px_at 79 37 = some (.iload 4, 2, 0, 0, .null) := rfl
theorem f_79_39 : px_at 79 39 = some (.ifCond .eq 26, 3, 65, 0, .null) := rfl
theorem f_79_42 : px_at 79 42 = some (.iload_n 2, 1, 0, 0, .null) := rfl
theorem f_79_43 : px_at 79 43 = some (.bipush (-3), 2, 0, 0, .null) := rfl
theorem f_79_45 : px_at 79 45 = some (.if_icmp .eq 18, 3, 63, 0, .null) := rfl
theorem f_79_48 : px_at 79 48 = some (.aload_n 0, 1, 0, 0, .null) := rfl
theorem f_79_49 : px_at 79 49 = some (.getfield 19, 3, 9, 2, .null) := rfl
theorem f_79_52 : px_at 79 52 = some (.iload_n 3, 1, 0, 0, .null) := rfl
theorem f_79_53 : px_at 79 53 = some (.iaload, 1, 0, 0, .null) := rfl
theorem f_79_54 : px_at 79 54 = some (.aload_n 0, 1, 0, 0, .null) := rfl
theorem f_79_55 : px_at 79 55 = some (.getfield 19, 3, 9, 2, .null) := rfl
theorem f_79_58 : px_at 79 58 = some (.iload_n 2, 1, 0, 0, .null) := rfl
theorem f_79_59 : px_at 79 59 = some (.iaload, 1, 0, 0, .null) := rfl
theorem f_79_60 : px_at 79 60 = some (.if_icmp .ge 5, 3, 65, 0, .null) := rfl
theorem f_79_63 : px_at 79 63 = some (.iload_n 3, 1, 0, 0, .null) := rfl
theorem f_79_64 : px_at 79 64 = some (.istore_n 2, 1, 0, 0, .null) := rfl
theorem f_79_65 : px_at 79 65 = some (.iinc 3 1, 3, 0, 0, .null) := rfl
theorem f_79_68 : px_at 79 68 = some (.goto (-63), 3, 5, 0, .null) := rfl
theorem f_79_71 : px_at 79 71 = some (.iload_n 2, 1, 0, 0, .null) := rfl
theorem f_79_72 : px_at 79 72 = some (.ireturn, 1, 0, 0, .null) := rfl

theorem f_80_0 : px_at 80 0 = some (.aload_n 0, 1, 0, 0, .null) := rfl
theorem f_80_1 : px_at 80 1 = some (.getfield 19, 3, 9, 2, .null) := rfl
theorem f_80_4 : px_at 80 4 = some (.iload_n 1, 1, 0, 0, .null) := rfl
theorem f_80_5 : px_at 80 5 = some (.iconst (-1), 1, 0, 0, .null) := rfl
theorem f_80_6 : px_at 80 6 = some (.iastore, 1, 0, 0, .null) := rfl
theorem f_80_7 : px_at 80 7 = some (.return_, 1, 0, 0, .null) := rfl

theorem f_82_0 : px_at 82 0 = some (.aload_n 0, 1, 0, 0, .null) := rfl
theorem f_82_1 : px_at 82 1 = some (.iconst 0, 1, 0, 0, .null) := rfl
theorem f_82_2 : px_at 82 2 = some (.putfield 9, 3, 10, 0, .null) := rfl
theorem f_82_5 : px_at 82 5 = some (.aload_n 0, 1, 0, 0, .null) := rfl
theorem f_82_6 : px_at 82 6 = some (.getfield 33, 3, 10, 5, .null) := rfl
theorem f_82_9 : px_at 82 9 = some (.iconst 0, 1, 0, 0, .null) := rfl
theorem f_82_10 : px_at 82 10 = some (.invokevirtual 55, 3, 40, 1, .null) := rfl
theorem f_82_13 : px_at 82 13 = some (.aload_n 0, 1, 0, 0, .null) := rfl
theorem f_82_14 : px_at 82 14 = some (.bipush 61, 2, 0, 0, .null) := rfl
theorem f_82_16 : px_at 82 16 = some (.putfield 37, 3, 10, 6, .null) := rfl
theorem f_82_19 : px_at 82 19 = some (.aload_n 0, 1, 0, 0, .null) := rfl
theorem f_82_20 : px_at 82 20 = some (.bipush (-4), 2, 0, 0, .null) := rfl
theorem f_82_22 : px_at 82 22 = some (.putfield 40, 3, 10, 7, .null) := rfl
theorem f_82_25 : px_at 82 25 = some (.aload_n 0, 1, 0, 0, .null) := rfl
theorem f_82_26 : px_at 82 26 = some (.iconst 0, 1, 0, 0, .null) := rfl
theorem f_82_27 : px_at 82 27 = some (.putfield 46, 3, 10, 9, .null) := rfl
theorem f_82_30 : px_at 82 30 = some (.aload_n 0, 1, 0, 0, .null) := rfl
theorem f_82_31 : px_at 82 31 = some (.iconst 0, 1, 0, 0, .null) := rfl
theorem f_82_32 : px_at 82 32 = some (.putfield 49, 3, 10, 10, .null) := rfl
theorem f_82_35 : px_at 82 35 = some (.return_, 1, 0, 0, .null) := rfl

theorem f_83_0 : px_at 83 0 = some (.aload_n 0, 1, 0, 0, .null) := rfl
theorem f_83_1 : px_at 83 1 = some (.getfield 9, 3, 10, 0, .null) := rfl
theorem f_83_4 : px_at 83 4 = some (.bipush 24, 2, 0, 0, .null) := rfl
theorem f_83_6 : px_at 83 6 = some (.if_icmp .ge 54, 3, 60, 0, .null) := rfl
theorem f_83_9 : px_at 83 9 = some (.aload_n 0, 1, 0, 0, .null) := rfl
theorem f_83_10 : px_at 83 10 = some (.getfield 15, 3, 10, 1, .null) := rfl
theorem f_83_13 : px_at 83 13 = some (.aload_n 0, 1, 0, 0, .null) := rfl
theorem f_83_14 : px_at 83 14 = some (.getfield 9, 3, 10, 0, .null) := rfl
theorem f_83_17 : px_at 83 17 = some (.iload_n 1, 1, 0, 0, .null) := rfl
theorem f_83_18 : px_at 83 18 = some (.iastore, 1, 0, 0, .null) := rfl
theorem f_83_19 : px_at 83 19 = some (.aload_n 0, 1, 0, 0, .null) := rfl
theorem f_83_20 : px_at 83 20 = some (.getfield 19, 3, 10, 2, .null) := rfl
theorem f_83_23 : px_at 83 23 = some (.aload_n 0, 1, 0, 0, .null) := rfl
theorem f_83_24 : px_at 83 24 = some (.getfield 9, 3, 10, 0, .null) := rfl
theorem f_83_27 : px_at 83 27 = some (.iload_n 2, 1, 0, 0, .null) := rfl
theorem f_83_28 : px_at 83 28 = some (.iastore, 1, 0, 0, .null) := rfl
theorem f_83_29 : px_at 83 29 = some (.aload_n 0, 1, 0, 0, .null) := rfl
theorem f_83_30 : px_at 83 30 = some (.getfield 22, 3, 10, 3, .null) := rfl
theorem f_83_33 : px_at 83 33 = some (.aload_n 0, 1, 0, 0, .null) := rfl
theorem f_83_34 : px_at 83 34 = some (.getfield 9, 3, 10, 0, .null) := rfl
theorem f_83_37 : px_at 83 37 = some (.iload_n 3, 1, 0, 0, .null) := rfl
theorem f_83_38 : px_at 83 38 = some (.iastore, 1, 0, 0, .null) := rfl
theorem f_83_39 : px_at 83 39 = some (.aload_n 0, 1, 0, 0, .null) := rfl
theorem f_83_40 : px_at 83 40 = some (.getfield 25, 3, 10, 4, .null) := rfl
theorem f_83_43 : px_at 83 43 = some (.aload_n 0, 1, 0, 0, .null) := rfl
theorem f_83_44 : px_at 83 44 = some (.getfield 9, 3, 10, 0, .null) := rfl
theorem f_83_47 : px_at 83 47 = some (.iload 4, 2, 0, 0, .null) := rfl
theorem f_83_49 : px_at 83 49 = some (.iastore, 1, 0, 0, .null) := rfl
theorem f_83_50 : px_at 83 50 = some (.aload_n 0, 1, 0, 0, .null) := rfl
theorem f_83_51 : px_at 83 51 = some (.dup, 1, 0, 0, .null) := rfl
theorem f_83_52 : px_at 83 52 = some (.getfield 9, 3, 10, 0, .null) := rfl
theorem f_83_55 : px_at 83 55 = some (.iconst 1, 1, 0, 0, .null) := rfl
theorem f_83_56 : px_at 83 56 = some (.iadd, 1, 0, 0, .null) := rfl
theorem f_83_57 : px_at 83 57 = some (.putfield 9, 3, 10, 0, .null) := rfl
theorem f_83_60 : px_at 83 60 = some (.return_, 1, 0, 0, .null) := rfl

theorem f_84_0 : px_at 84 0 = some (.iload_n 2, 1, 0, 0, .null) := rfl
theorem f_84_1 : px_at 84 1 = some (.ifCond .eq 33, 3, 34, 0, .null) := rfl
theorem f_84_4 : px_at 84 4 = some (.aload_n 0, 1, 0, 0, .null) := rfl
theorem f_84_5 : px_at 84 5 = some (.getfield 15, 3, 10, 1, .null) := rfl
theorem f_84_8 : px_at 84 8 = some (.iload_n 1, 1, 0, 0, .null) := rfl
theorem f_84_9 : px_at 84 9 = some (.iaload, 1, 0, 0, .null) := rfl
theorem f_84_10 : px_at 84 10 = some (.bipush 82, 2, 0, 0, .null) := rfl
theorem f_84_12 : px_at 84 12 = some (.if_icmp .eq 14, 3, 26, 0, .null) := rfl
theorem f_84_15 : px_at 84 15 = some (.aload_n 0, 1, 0, 0, .null) := rfl
theorem f_84_16 : px_at 84 16 = some (.getfield 15, 3, 10, 1, .null) := rfl
theorem f_84_19 : px_at 84 19 = some (.iload_n 1, 1, 0, 0, .null) := rfl
theorem f_84_20 : px_at 84 20 = some (.iaload, 1, 0, 0, .null) := rfl
theorem f_84_21 : px_at 84 21 = some (.bipush 72, 2, 0, 0, .null) := rfl
theorem f_84_23 : px_at 84 23 = some (.if_icmp .ne 7, 3, 30, 0, .null) := rfl
theorem f_84_26 : px_at 84 26 = some (.iconst 1, 1, 0, 0, .null) := rfl
theorem f_84_27 : px_at 84 27 = some (.goto 34, 3, 61, 0, .null) := rfl
theorem f_84_30 : px_at 84 30 = some (.iconst 0, 1, 0, 0, .null) := rfl
theorem f_84_31 : px_at 84 31 = some (.goto 30, 3, 61, 0, .null) := rfl
theorem f_84_34 : px_at 84 34 = some (.aload_n 0, 1, 0, 0, .null) := rfl
theorem f_84_35 : px_at 84 35 = some (.getfield 15, 3, 10, 1, .null) := rfl
theorem f_84_38 : px_at 84 38 = some (.iload_n 1, 1, 0, 0, .null) := rfl
theorem f_84_39 : px_at 84 39 = some (.iaload, 1, 0, 0, .null) := rfl
theorem f_84_40 : px_at 84 40 = some (.bipush 114, 2, 0, 0, .null) := rfl
theorem f_84_42 : px_at 84 42 = some (.if_icmp .eq 14, 3, 56, 0, .null) := rfl
theorem f_84_45 : px_at 84 45 = some (.aload_n 0, 1, 0, 0, .null) := rfl
theorem f_84_46 : px_at 84 46 = some (.getfield 15, 3, 10, 1, .null) := rfl
theorem f_84_49 : px_at 84 49 = some (.iload_n 1, 1, 0, 0, .null) := rfl
theorem f_84_50 : px_at 84 50 = some (.iaload, 1, 0, 0, .null) := rfl
theorem f_84_51 : px_at 84 51 = some (.bipush 104, 2, 0, 0, .null) := rfl
theorem f_84_53 : px_at 84 53 = some (.if_icmp .ne 7, 3, 60, 0, .null) := rfl
theorem f_84_56 : px_at 84 56 = some (.iconst 1, 1, 0, 0, .null) := rfl
theorem f_84_57 : px_at 84 57 = some (.goto 4, 3, 61, 0, .null) := rfl
theorem f_84_60 : px_at 84 60 = some (.iconst 0, 1, 0, 0, .null) := rfl
theorem f_84_61 : px_at 84 61 = some (.ireturn, 1, 0, 0, .null) := rfl

theorem f_85_0 : px_at 85 0 = some (.iconst 0, 1, 0, 0, .null) := rfl
theorem f_85_1 : px_at 85 1 = some (.istore_n 2, 1, 0, 0, .null) := rfl
theorem f_85_2 : px_at 85 2 = some (.iconst 0, 1, 0, 0, .null) := rfl
theorem f_85_3 : px_at 85 3 = some (.istore_n 3, 1, 0, 0, .null) := rfl
theorem f_85_4 : px_at 85 4 = some (.iload_n 3, 1, 0, 0, .null) := rfl
theorem f_85_5 : px_at 85 5 = some (.aload_n 0, 1, 0, 0, .null) := rfl
theorem f_85_6 : px_at 85 6 = some (.getfield 9, 3, 10, 0, .null) := rfl
theorem f_85_9 : px_at 85 9 = some (.if_icmp .ge 21, 3, 30, 0, .null) := rfl
theorem f_85_12 : px_at 85 12 = some (.aload_n 0, 1, 0, 0, .null) := rfl
theorem f_85_13 : px_at 85 13 = some (.iload_n 3, 1, 0, 0, .null) := rfl
theorem f_85_14 : px_at 85 14 = some (.iload_n 1, 1, 0, 0, .null) := rfl
theorem f_85_15 : px_at 85 15 = some (.invokevirtual 58, 3, 84, 1, .null) := rfl
theorem f_85_18 : px_at 85 18 = some (.ifCond .eq 6, 3, 24, 0, .null) := rfl
theorem f_85_21 : px_at 85 21 = some (.iinc 2 1, 3, 0, 0, .null) := rfl
theorem f_85_24 : px_at 85 24 = some (.iinc 3 1, 3, 0, 0, .null) := rfl
theorem f_85_27 : px_at 85 27 = some (.goto (-23), 3, 4, 0, .null) := rfl
theorem f_85_30 : px_at 85 30 = some (.iload_n 2, 1, 0, 0, .null) := rfl
theorem f_85_31 : px_at 85 31 = some (.ireturn, 1, 0, 0, .null) := rfl

theorem f_86_0 : px_at 86 0 = some (.iload_n 1, 1, 0, 0, .null) := rfl
theorem f_86_1 : px_at 86 1 = some (.istore_n 3, 1, 0, 0, .null) := rfl
theorem f_86_2 : px_at 86 2 = some (.iload_n 3, 1, 0, 0, .null) := rfl
theorem f_86_3 : px_at 86 3 = some (.aload_n 0, 1, 0, 0, .null) := rfl
theorem f_86_4 : px_at 86 4 = some (.getfield 9, 3, 10, 0, .null) := rfl
theorem f_86_7 : px_at 86 7 = some (.if_icmp .ge 20, 3, 27, 0, .null) := rfl
theorem f_86_10 : px_at 86 10 = some (.aload_n 0, 1, 0, 0, .null) := rfl
theorem f_86_11 : px_at 86 11 = some (.iload_n 3, 1, 0, 0, .null) := rfl
theorem f_86_12 : px_at 86 12 = some (.iload_n 2, 1, 0, 0, .null) := rfl
theorem f_86_13 : px_at 86 13 = some (.invokevirtual 58, 3, 84, 1, .null) := rfl
theorem f_86_16 : px_at 86 16 = some (.ifCond .eq 5, 3, 21, 0, .null) := rfl
theorem f_86_19 : px_at 86 19 = some (.iload_n 3, 1, 0, 0, .null) := rfl
theorem f_86_20 : px_at 86 20 = some (.ireturn, 1, 0, 0, .null) := rfl
theorem f_86_21 : px_at 86 21 = some (.iinc 3 1, 3, 0, 0, .null) := rfl
theorem f_86_24 : px_at 86 24 = some (.goto (-22), 3, 2, 0, .null) := rfl
theorem f_86_27 : px_at 86 27 = some (.aload_n 0, 1, 0, 0, .null) := rfl
theorem f_86_28 : px_at 86 28 = some (.getfield 9, 3, 10, 0, .null) := rfl
theorem f_86_31 : px_at 86 31 = some (.ireturn, 1, 0, 0, .null) := rfl

theorem f_87_0 : px_at 87 0 = some (.iconst 0, 1, 0, 0, .null) := rfl
theorem f_87_1 : px_at 87 1 = some (.istore_n 2, 1, 0, 0, .null) := rfl
theorem f_87_2 : px_at 87 2 = some (.iload_n 2, 1, 0, 0, .null) := rfl
theorem f_87_3 : px_at 87 3 = some (.aload_n 1, 1, 0, 0, .null) := rfl
theorem f_87_4 : px_at 87 4 = some (.getfield 62, 3, 3, 1, .null) := rfl
theorem f_87_7 : px_at 87 7 = some (.if_icmp .ge 21, 3, 28, 0, .null) := rfl
theorem f_87_10 : px_at 87 10 = some (.aload_n 0, 1, 0, 0, .null) := rfl
theorem f_87_11 : px_at 87 11 = some (.getfield 43, 3, 10, 8, .null) := rfl
theorem f_87_14 : px_at 87 14 = some (.iload_n 2, 1, 0, 0, .null) := rfl
theorem f_87_15 : px_at 87 15 = some (.aload_n 1, 1, 0, 0, .null) := rfl
theorem f_87_16 : px_at 87 16 = some (.getfield 65, 3, 3, 0, .null) := rfl
theorem f_87_19 : px_at 87 19 = some (.iload_n 2, 1, 0, 0, .null) := rfl
theorem f_87_20 : px_at 87 20 = some (.iaload, 1, 0, 0, .null) := rfl
theorem f_87_21 : px_at 87 21 = some (.iastore, 1, 0, 0, .null) := rfl
theorem f_87_22 : px_at 87 22 = some (.iinc 2 1, 3, 0, 0, .null) := rfl
theorem f_87_25 : px_at 87 25 = some (.goto (-23), 3, 2, 0, .null) := rfl
theorem f_87_28 : px_at 87 28 = some (.aload_n 0, 1, 0, 0, .null) := rfl
theorem f_87_29 : px_at 87 29 = some (.aload_n 1, 1, 0, 0, .null) := rfl
theorem f_87_30 : px_at 87 30 = some (.getfield 62, 3, 3, 1, .null) := rfl
theorem f_87_33 : px_at 87 33 = some (.putfield 40, 3, 10, 7, .null) := rfl
theorem f_87_36 : px_at 87 36 = some (.return_, 1, 0, 0, .null) := rfl

theorem f_88_0 : px_at 88 0 = some (.iload_n 2, 1, 0, 0, .null) := rfl
theorem f_88_1 : px_at 88 1 = some (.ifCond .ne 33, 3, 34, 0, .null) := rfl
theorem f_88_4 : px_at 88 4 = some (.aload_n 0, 1, 0, 0, .null) := rfl
theorem f_88_5 : px_at 88 5 = some (.getfield 49, 3, 10, 10, .null) := rfl
theorem f_88_8 : px_at 88 8 = some (.sipush 266, 3, 0, 0, .null) := rfl
theorem f_88_11 : px_at 88 11 = some (.if_icmp .ge 23, 3, 34, 0, .null) := rfl
theorem f_88_14 : px_at 88 14 = some (.aload_n 0, 1, 0, 0, .null) := rfl
theorem f_88_15 : px_at 88 15 = some (.getfield 52, 3, 10, 11, .null) := rfl
theorem f_88_18 : px_at 88 18 = some (.aload_n 0, 1, 0, 0, .null) := rfl
theorem f_88_19 : px_at 88 19 = some (.getfield 49, 3, 10, 10, .null) := rfl
theorem f_88_22 : px_at 88 22 = some (.iload_n 1, 1, 0, 0, .null) := rfl
theorem f_88_23 : px_at 88 23 = some (.iastore, 1, 0, 0, .null) := rfl
theorem f_88_24 : px_at 88 24 = some (.aload_n 0, 1, 0, 0, .null) := rfl
theorem f_88_25 : px_at 88 25 = some (.dup, 1, 0, 0, .null) := rfl
theorem f_88_26 : px_at 88 26 = some (.getfield 49, 3, 10, 10, .null) := rfl
theorem f_88_29 : px_at 88 29 = some (.iconst 1, 1, 0, 0, .null) := rfl
theorem f_88_30 : px_at 88 30 = some (.iadd, 1, 0, 0, .null) := rfl
theorem f_88_31 : px_at 88 31 = some (.putfield 49, 3, 10, 10, .null) := rfl
theorem f_88_34 : px_at 88 34 = some (.aload_n 0, 1, 0, 0, .null) := rfl
theorem f_88_35 : px_at 88 35 = some (.iload_n 1, 1, 0, 0, .null) := rfl
theorem f_88_36 : px_at 88 36 = some (.iconst 1, 1, 0, 0, .null) := rfl
theorem f_88_37 : px_at 88 37 = some (.iadd, 1, 0, 0, .null) := rfl
theorem f_88_38 : px_at 88 38 = some (.putfield 46, 3, 10, 9, .null) := rfl
theorem f_88_41 : px_at 88 41 = some (.return_, 1, 0, 0, .null) := rfl

theorem f_90_0 : px_at 90 0 = some (.iload_n 3, 1, 0, 0, .null) := rfl
theorem f_90_1 : px_at 90 1 = some (.iconst 1, 1, 0, 0, .null) := rfl
theorem f_90_2 : px_at 90 2 = some (.if_icmp .lt 9, 3, 11, 0, .null) := rfl
theorem f_90_5 : px_at 90 5 = some (.iload_n 3, 1, 0, 0, .null) := rfl
theorem f_90_6 : px_at 90 6 = some (.bipush 8, 2, 0, 0, .null) := rfl
theorem f_90_8 : px_at 90 8 = some (.if_icmp .le 5, 3, 13, 0, .null) := rfl
theorem f_90_11 : px_at 90 11 = some (.iconst (-1), 1, 0, 0, .null) := rfl
theorem f_90_12 : px_at 90 12 = some (.ireturn, 1, 0, 0, .null) := rfl
theorem f_90_13 : px_at 90 13 = some (.iconst 0, 1, 0, 0, .null) := rfl
theorem f_90_14 : px_at 90 14 = some (.istore 4, 2, 0, 0, .null) := rfl
theorem f_90_16 : px_at 90 16 = some (.iload 4, 2, 0, 0, .null) := rfl
theorem f_90_18 : px_at 90 18 = some (.iload_n 3, 1, 0, 0, .null) := rfl
theorem f_90_19 : px_at 90 19 = some (.if_icmp .ge 39, 3, 58, 0, .null) := rfl
theorem f_90_22 : px_at 90 22 = some (.lload_n 1, 1, 0, 0, .null) := rfl
theorem f_90_23 : px_at 90 23 = some (.bipush 8, 2, 0, 0, .null) := rfl
theorem f_90_25 : px_at 90 25 = some (.iload 4, 2, 0, 0, .null) := rfl
theorem f_90_27 : px_at 90 27 = some (.imul, 1, 0, 0, .null) := rfl
theorem f_90_28 : px_at 90 28 = some (.lushr, 1, 0, 0, .null) := rfl
theorem f_90_29 : px_at 90 29 = some (.l2i, 1, 0, 0, .null) := rfl
theorem f_90_30 : px_at 90 30 = some (.sipush 255, 3, 0, 0, .null) := rfl
theorem f_90_33 : px_at 90 33 = some (.iand, 1, 0, 0, .null) := rfl
theorem f_90_34 : px_at 90 34 = some (.istore 5, 2, 0, 0, .null) := rfl
theorem f_90_36 : px_at 90 36 = some (.iload 5, 2, 0, 0, .null) := rfl
theorem f_90_38 : px_at 90 38 = some (.bipush 32, 2, 0, 0, .null) := rfl
theorem f_90_40 : px_at 90 40 = some (.if_icmp .lt 10, 3, 50, 0, .null) := rfl
theorem f_90_43 : px_at 90 43 = some (.iload 5, 2, 0, 0, .null) := rfl
theorem f_90_45 : px_at 90 45 = some (.bipush 126, 2, 0, 0, .null) := rfl
theorem f_90_47 : px_at 90 47 = some (.if_icmp .le 5, 3, 52, 0, .null) := rfl
theorem f_90_50 : px_at 90 50 = some (.iconst (-1), 1, 0, 0, .null) := rfl
theorem f_90_51 : px_at 90 51 = some (.ireturn, 1, 0, 0, .null) := rfl
theorem f_90_52 : px_at 90 52 = some (.iinc 4 1, 3, 0, 0, .null) := rfl
theorem f_90_55 : px_at 90 55 = some (.goto (-39), 3, 16, 0, .null) := rfl
theorem f_90_58 : px_at 90 58 = some (.aload_n 0, 1, 0, 0, .null) := rfl
theorem f_90_59 : px_at 90 59 = some (.getfield 13, 3, 11, 1, .null) := rfl
theorem f_90_62 : px_at 90 62 = some (.iload_n 3, 1, 0, 0, .null) := rfl
theorem f_90_63 : px_at 90 63 = some (.iadd, 1, 0, 0, .null) := rfl
theorem f_90_64 : px_at 90 64 = some (.sipush 500, 3, 0, 0, .null) := rfl
theorem f_90_67 : px_at 90 67 = some (.if_icmp .le 6, 3, 73, 0, .null) := rfl
theorem f_90_70 : px_at 90 70 = some (.bipush (-2), 2, 0, 0, .null) := rfl
theorem f_90_72 : px_at 90 72 = some (.ireturn, 1, 0, 0, .null) := rfl
theorem f_90_73 : px_at 90 73 = some (.iconst 0, 1, 0, 0, .null) := rfl
theorem f_90_74 : px_at 90 74 = some (.istore 4, 2, 0, 0, .null) := rfl
theorem f_90_76 : px_at 90 76 = some (.iload 4, 2, 0, 0, .null) := rfl
theorem f_90_78 : px_at 90 78 = some (.iload_n 3, 1, 0, 0, .null) := rfl
theorem f_90_79 : px_at 90 79 = some (.if_icmp .ge 34, 3, 113, 0, .null) := rfl
theorem f_90_82 : px_at 90 82 = some (.aload_n 0, 1, 0, 0, .null) := rfl
theorem f_90_83 : px_at 90 83 = some (.getfield 9, 3, 11, 0, .null) := rfl
theorem f_90_86 : px_at 90 86 = some (.aload_n 0, 1, 0, 0, .null) := rfl
theorem f_90_87 : px_at 90 87 = some (.getfield 13, 3, 11, 1, .null) := rfl
theorem f_90_90 : px_at 90 90 = some (.iload 4, 2, 0, 0, .null) := rfl
theorem f_90_92 : px_at 90 92 = some (.iadd, 1, 0, 0, .null) := rfl
theorem f_90_93 : px_at 90 93 = some (.lload_n 1, 1, 0, 0, .null) := rfl
theorem f_90_94 : px_at 90 94 = some (.bipush 8, 2, 0, 0, .null) := rfl
theorem f_90_96 : px_at 90 96 = some (.iload 4, 2, 0, 0, .null) := rfl
theorem f_90_98 : px_at 90 98 = some (.imul, 1, 0, 0, .null) := rfl
theorem f_90_99 : px_at 90 99 = some (.lushr, 1, 0, 0, .null) := rfl
theorem f_90_100 : px_at 90 100 = some (.ldc2_w 98, 3, 0, 0, .long (255)) := rfl
theorem f_90_103 : px_at 90 103 = some (.land, 1, 0, 0, .null) := rfl
theorem f_90_104 : px_at 90 104 = some (.l2i, 1, 0, 0, .null) := rfl
theorem f_90_105 : px_at 90 105 = some (.i2c, 1, 0, 0, .null) := rfl
theorem f_90_106 : px_at 90 106 = some (.castore, 1, 0, 0, .null) := rfl
theorem f_90_107 : px_at 90 107 = some (.iinc 4 1, 3, 0, 0, .null) := rfl
theorem f_90_110 : px_at 90 110 = some (.goto (-34), 3, 76, 0, .null) := rfl
theorem f_90_113 : px_at 90 113 = some (.aload_n 0, 1, 0, 0, .null) := rfl
theorem f_90_114 : px_at 90 114 = some (.dup, 1, 0, 0, .null) := rfl
theorem f_90_115 : px_at 90 115 = some (.getfield 13, 3, 11, 1, .null) := rfl
theorem f_90_118 : px_at 90 118 = some (.iload_n 3, 1, 0, 0, .null) := rfl
theorem f_90_119 : px_at 90 119 = some (.iadd, 1, 0, 0, .null) := rfl
theorem f_90_120 : px_at 90 120 = some (.putfield 13, 3, 11, 1, .null) := rfl
theorem f_90_123 : px_at 90 123 = some (.aload_n 0, 1, 0, 0, .null) := rfl
theorem f_90_124 : px_at 90 124 = some (.getfield 13, 3, 11, 1, .null) := rfl
theorem f_90_127 : px_at 90 127 = some (.ireturn, 1, 0, 0, .null) := rfl

theorem f_91_0 : px_at 91 0 = some (.aload_n 0, 1, 0, 0, .null) := rfl
theorem f_91_1 : px_at 91 1 = some (.getfield 30, 3, 11, 4, .null) := rfl
theorem f_91_4 : px_at 91 4 = some (.aload_n 0, 1, 0, 0, .null) := rfl
theorem f_91_5 : px_at 91 5 = some (.getfield 9, 3, 11, 0, .null) := rfl
theorem f_91_8 : px_at 91 8 = some (.aload_n 0, 1, 0, 0, .null) := rfl
theorem f_91_9 : px_at 91 9 = some (.getfield 13, 3, 11, 1, .null) := rfl
theorem f_91_12 : px_at 91 12 = some (.aload_n 0, 1, 0, 0, .null) := rfl
theorem f_91_13 : px_at 91 13 = some (.getfield 24, 3, 11, 3, .null) := rfl
theorem f_91_16 : px_at 91 16 = some (.invokevirtual 100, 3, 25, 1, .null) := rfl
theorem f_91_19 : px_at 91 19 = some (.istore_n 1, 1, 0, 0, .null) := rfl
theorem f_91_20 : px_at 91 20 = some (.aload_n 0, 1, 0, 0, .null) := rfl
theorem f_91_21 : px_at 91 21 = some (.iconst 0, 1, 0, 0, .null) := rfl
theorem f_91_22 : px_at 91 22 = some (.putfield 13, 3, 11, 1, .null) := rfl
theorem f_91_25 : px_at 91 25 = some (.iload_n 1, 1, 0, 0, .null) := rfl
theorem f_91_26 : px_at 91 26 = some (.ifCond .ne 14, 3, 40, 0, .null) := rfl
theorem f_91_29 : px_at 91 29 = some (.bipush (-10), 2, 0, 0, .null) := rfl
theorem f_91_31 : px_at 91 31 = some (.aload_n 0, 1, 0, 0, .null) := rfl
theorem f_91_32 : px_at 91 32 = some (.getfield 30, 3, 11, 4, .null) := rfl
theorem f_91_35 : px_at 91 35 = some (.getfield 104, 3, 4, 3, .null) := rfl
theorem f_91_38 : px_at 91 38 = some (.isub, 1, 0, 0, .null) := rfl
theorem f_91_39 : px_at 91 39 = some (.ireturn, 1, 0, 0, .null) := rfl
theorem f_91_40 : px_at 91 40 = some (.aload_n 0, 1, 0, 0, .null) := rfl
theorem f_91_41 : px_at 91 41 = some (.getfield 20, 3, 11, 2, .null) := rfl
theorem f_91_44 : px_at 91 44 = some (.astore_n 2, 1, 0, 0, .null) := rfl
theorem f_91_45 : px_at 91 45 = some (.aload_n 0, 1, 0, 0, .null) := rfl
theorem f_91_46 : px_at 91 46 = some (.aload_n 0, 1, 0, 0, .null) := rfl
theorem f_91_47 : px_at 91 47 = some (.getfield 24, 3, 11, 3, .null) := rfl
theorem f_91_50 : px_at 91 50 = some (.putfield 20, 3, 11, 2, .null) := rfl
theorem f_91_53 : px_at 91 53 = some (.aload_n 0, 1, 0, 0, .null) := rfl
theorem f_91_54 : px_at 91 54 = some (.aload_n 2, 1, 0, 0, .null) := rfl
theorem f_91_55 : px_at 91 55 = some (.putfield 24, 3, 11, 3, .null) := rfl
theorem f_91_58 : px_at 91 58 = some (.aload_n 0, 1, 0, 0, .null) := rfl
theorem f_91_59 : px_at 91 59 = some (.getfield 37, 3, 11, 5, .null) := rfl
theorem f_91_62 : px_at 91 62 = some (.bipush (-3), 2, 0, 0, .null) := rfl
theorem f_91_64 : px_at 91 64 = some (.putfield 107, 3, 6, 9, .null) := rfl
theorem f_91_67 : px_at 91 67 = some (.aload_n 0, 1, 0, 0, .null) := rfl
theorem f_91_68 : px_at 91 68 = some (.iconst 0, 1, 0, 0, .null) := rfl
theorem f_91_69 : px_at 91 69 = some (.putfield 89, 3, 11, 14, .null) := rfl
theorem f_91_72 : px_at 91 72 = some (.aload_n 0, 1, 0, 0, .null) := rfl
theorem f_91_73 : px_at 91 73 = some (.iconst 0, 1, 0, 0, .null) := rfl
theorem f_91_74 : px_at 91 74 = some (.putfield 95, 3, 11, 16, .null) := rfl
theorem f_91_77 : px_at 91 77 = some (.aload_n 0, 1, 0, 0, .null) := rfl
theorem f_91_78 : px_at 91 78 = some (.getfield 20, 3, 11, 2, .null) := rfl
theorem f_91_81 : px_at 91 81 = some (.getfield 110, 3, 8, 2, .null) := rfl
theorem f_91_84 : px_at 91 84 = some (.ireturn, 1, 0, 0, .null) := rfl

theorem f_92_0 : px_at 92 0 = some (.iload_n 1, 1, 0, 0, .null) := rfl
theorem f_92_1 : px_at 92 1 = some (.tableswitch 66 0 3 #[31, 42, 50, 55], 31, 0, 0, .null) := rfl
theorem f_92_32 : px_at 92 32 = some (.aload_n 0, 1, 0, 0, .null) := rfl
theorem f_92_33 : px_at 92 33 = some (.getfield 20, 3, 11, 2, .null) := rfl
theorem f_92_36 : px_at 92 36 = some (.getfield 113, 3, 8, 0, .null) := rfl
theorem f_92_39 : px_at 92 39 = some (.getfield 116, 3, 0, 0, .null) := rfl
theorem f_92_42 : px_at 92 42 = some (.ireturn, 1, 0, 0, .null) := rfl
theorem f_92_43 : px_at 92 43 = some (.aload_n 0, 1, 0, 0, .null) := rfl
theorem f_92_44 : px_at 92 44 = some (.getfield 20, 3, 11, 2, .null) := rfl
theorem f_92_47 : px_at 92 47 = some (.getfield 110, 3, 8, 2, .null) := rfl
theorem f_92_50 : px_at 92 50 = some (.ireturn, 1, 0, 0, .null) := rfl
theorem f_92_51 : px_at 92 51 = some (.aload_n 0, 1, 0, 0, .null) := rfl
theorem f_92_52 : px_at 92 52 = some (.getfield 13, 3, 11, 1, .null) := rfl
theorem f_92_55 : px_at 92 55 = some (.ireturn, 1, 0, 0, .null) := rfl
theorem f_92_56 : px_at 92 56 = some (.aload_n 0, 1, 0, 0, .null) := rfl
theorem f_92_57 : px_at 92 57 = some (.getfield 20, 3, 11, 2, .null) := rfl
theorem f_92_60 : px_at 92 60 = some (.getfield 113, 3, 8, 0, .null) := rfl
theorem f_92_63 : px_at 92 63 = some (.invokevirtual 117, 3, 4, 1, .null) := rfl
theorem f_92_66 : px_at 92 66 = some (.ireturn, 1, 0, 0, .null) := rfl
theorem f_92_67 : px_at 92 67 = some (.iconst (-1), 1, 0, 0, .null) := rfl
theorem f_92_68 : px_at 92 68 = some (.ireturn, 1, 0, 0, .null) := rfl

theorem f_93_0 : px_at 93 0 = some (.aload_n 0, 1, 0, 0, .null) := rfl
theorem f_93_1 : px_at 93 1 = some (.iload_n 1, 1, 0, 0, .null) := rfl
theorem f_93_2 : px_at 93 2 = some (.invokevirtual 121, 3, 109, 1, .null) := rfl
theorem f_93_5 : px_at 93 5 = some (.ifCond .ne 5, 3, 10, 0, .null) := rfl
theorem f_93_8 : px_at 93 8 = some (.iconst (-1), 1, 0, 0, .null) := rfl
theorem f_93_9 : px_at 93 9 = some (.ireturn, 1, 0, 0, .null) := rfl
theorem f_93_10 : px_at 93 10 = some (.aload_n 0, 1, 0, 0, .null) := rfl
theorem f_93_11 : px_at 93 11 = some (.iload_n 1, 1, 0, 0, .null) := rfl
theorem f_93_12 : px_at 93 12 = some (.invokevirtual 125, 3, 110, 1, .null) := rfl
theorem f_93_15 : px_at 93 15 = some (.aload_n 0, 1, 0, 0, .null) := rfl
theorem f_93_16 : px_at 93 16 = some (.getfield 44, 3, 11, 6, .null) := rfl
theorem f_93_19 : px_at 93 19 = some (.aload_n 0, 1, 0, 0, .null) := rfl
theorem f_93_20 : px_at 93 20 = some (.getfield 20, 3, 11, 2, .null) := rfl
theorem f_93_23 : px_at 93 23 = some (.getfield 128, 3, 8, 1, .null) := rfl
theorem f_93_26 : px_at 93 26 = some (.iload_n 1, 1, 0, 0, .null) := rfl
theorem f_93_27 : px_at 93 27 = some (.aaload, 1, 0, 0, .null) := rfl
theorem f_93_28 : px_at 93 28 = some (.aload_n 0, 1, 0, 0, .null) := rfl
theorem f_93_29 : px_at 93 29 = some (.getfield 37, 3, 11, 5, .null) := rfl
theorem f_93_32 : px_at 93 32 = some (.invokevirtual 132, 3, 11, 1, .null) := rfl
theorem f_93_35 : px_at 93 35 = some (.ireturn, 1, 0, 0, .null) := rfl

theorem f_94_0 : px_at 94 0 = some (.aload_n 0, 1, 0, 0, .null) := rfl
theorem f_94_1 : px_at 94 1 = some (.iload_n 1, 1, 0, 0, .null) := rfl
theorem f_94_2 : px_at 94 2 = some (.invokevirtual 121, 3, 109, 1, .null) := rfl
theorem f_94_5 : px_at 94 5 = some (.ifCond .eq 12, 3, 17, 0, .null) := rfl
theorem f_94_8 : px_at 94 8 = some (.iload_n 2, 1, 0, 0, .null) := rfl
theorem f_94_9 : px_at 94 9 = some (.ifCond .lt 8, 3, 17, 0, .null) := rfl
theorem f_94_12 : px_at 94 12 = some (.iload_n 2, 1, 0, 0, .null) := rfl
theorem f_94_13 : px_at 94 13 = some (.iconst 4, 1, 0, 0, .null) := rfl
theorem f_94_14 : px_at 94 14 = some (.if_icmp .le 5, 3, 19, 0, .null) := rfl
theorem f_94_17 : px_at 94 17 = some (.iconst (-1), 1, 0, 0, .null) := rfl
theorem f_94_18 : px_at 94 18 = some (.ireturn, 1, 0, 0, .null) := rfl
theorem f_94_19 : px_at 94 19 = some (.aload_n 0, 1, 0, 0, .null) := rfl
theorem f_94_20 : px_at 94 20 = some (.iload_n 1, 1, 0, 0, .null) := rfl
theorem f_94_21 : px_at 94 21 = some (.invokevirtual 125, 3, 110, 1, .null) := rfl
theorem f_94_24 : px_at 94 24 = some (.iload_n 2, 1, 0, 0, .null) := rfl
theorem f_94_25 : px_at 94 25 = some (.tableswitch 79 0 3 #[31, 42, 53, 71], 31, 0, 0, .null) := rfl
theorem f_94_56 : px_at 94 56 = some (.aload_n 0, 1, 0, 0, .null) := rfl
theorem f_94_57 : px_at 94 57 = some (.getfield 37, 3, 11, 5, .null) := rfl
theorem f_94_60 : px_at 94 60 = some (.getfield 136, 3, 6, 3, .null) := rfl
theorem f_94_63 : px_at 94 63 = some (.getfield 139, 3, 5, 1, .null) := rfl
theorem f_94_66 : px_at 94 66 = some (.ireturn, 1, 0, 0, .null) := rfl
theorem f_94_67 : px_at 94 67 = some (.aload_n 0, 1, 0, 0, .null) := rfl
theorem f_94_68 : px_at 94 68 = some (.getfield 37, 3, 11, 5, .null) := rfl
theorem f_94_71 : px_at 94 71 = some (.getfield 140, 3, 6, 1, .null) := rfl
theorem f_94_74 : px_at 94 74 = some (.getfield 144, 3, 2, 3, .null) := rfl
theorem f_94_77 : px_at 94 77 = some (.ireturn, 1, 0, 0, .null) := rfl
theorem f_94_78 : px_at 94 78 = some (.aload_n 0, 1, 0, 0, .null) := rfl
theorem f_94_79 : px_at 94 79 = some (.getfield 37, 3, 11, 5, .null) := rfl
theorem f_94_82 : px_at 94 82 = some (.getfield 149, 3, 6, 7, .null) := rfl
theorem f_94_85 : px_at 94 85 = some (.bipush (-3), 2, 0, 0, .null) := rfl
theorem f_94_87 : px_at 94 87 = some (.if_icmp .ne 7, 3, 94, 0, .null) := rfl
theorem f_94_90 : px_at 94 90 = some (.iconst 0, 1, 0, 0, .null) := rfl
theorem f_94_91 : px_at 94 91 = some (.goto 4, 3, 95, 0, .null) := rfl
theorem f_94_94 : px_at 94 94 = some (.iconst 1, 1, 0, 0, .null) := rfl
theorem f_94_95 : px_at 94 95 = some (.ireturn, 1, 0, 0, .null) := rfl
theorem f_94_96 : px_at 94 96 = some (.aload_n 0, 1, 0, 0, .null) := rfl
theorem f_94_97 : px_at 94 97 = some (.getfield 37, 3, 11, 5, .null) := rfl
theorem f_94_100 : px_at 94 100 = some (.getfield 149, 3, 6, 7, .null) := rfl
theorem f_94_103 : px_at 94 103 = some (.ireturn, 1, 0, 0, .null) := rfl
theorem f_94_104 : px_at 94 104 = some (.aload_n 0, 1, 0, 0, .null) := rfl
theorem f_94_105 : px_at 94 105 = some (.getfield 37, 3, 11, 5, .null) := rfl
theorem f_94_108 : px_at 94 108 = some (.getfield 152, 3, 6, 8, .null) := rfl
theorem f_94_111 : px_at 94 111 = some (.ireturn, 1, 0, 0, .null) := rfl

theorem f_95_0 : px_at 95 0 = some (.aload_n 0, 1, 0, 0, .null) := rfl
theorem f_95_1 : px_at 95 1 = some (.iload_n 1, 1, 0, 0, .null) := rfl
theorem f_95_2 : px_at 95 2 = some (.invokevirtual 121, 3, 109, 1, .null) := rfl
theorem f_95_5 : px_at 95 5 = some (.ifCond .eq 12, 3, 17, 0, .null) := rfl
theorem f_95_8 : px_at 95 8 = some (.iload_n 3, 1, 0, 0, .null) := rfl
theorem f_95_9 : px_at 95 9 = some (.ifCond .lt 8, 3, 17, 0, .null) := rfl
theorem f_95_12 : px_at 95 12 = some (.iload_n 3, 1, 0, 0, .null) := rfl
theorem f_95_13 : px_at 95 13 = some (.iconst 2, 1, 0, 0, .null) := rfl
theorem f_95_14 : px_at 95 14 = some (.if_icmp .le 5, 3, 19, 0, .null) := rfl
theorem f_95_17 : px_at 95 17 = some (.iconst (-1), 1, 0, 0, .null) := rfl
theorem f_95_18 : px_at 95 18 = some (.ireturn, 1, 0, 0, .null) := rfl
theorem f_95_19 : px_at 95 19 = some (.aload_n 0, 1, 0, 0, .null) := rfl
theorem f_95_20 : px_at 95 20 = some (.iload_n 1, 1, 0, 0, .null) := rfl
theorem f_95_21 : px_at 95 21 = some (.invokevirtual 125, 3, 110, 1, .null) := rfl
theorem f_95_24 : px_at 95 24 = some (.iload_n 2, 1, 0, 0, .null) := rfl
theorem f_95_25 : px_at 95 25 = some (.ifCond .lt 17, 3, 42, 0, .null) := rfl
theorem f_95_28 : px_at 95 28 = some (.iload_n 2, 1, 0, 0, .null) := rfl
theorem f_95_29 : px_at 95 29 = some (.aload_n 0, 1, 0, 0, .null) := rfl
theorem f_95_30 : px_at 95 30 = some (.getfield 37, 3, 11, 5, .null) := rfl
theorem f_95_33 : px_at 95 33 = some (.getfield 136, 3, 6, 3, .null) := rfl
theorem f_95_36 : px_at 95 36 = some (.getfield 139, 3, 5, 1, .null) := rfl
theorem f_95_39 : px_at 95 39 = some (.if_icmp .lt 5, 3, 44, 0, .null) := rfl
theorem f_95_42 : px_at 95 42 = some (.iconst 0, 1, 0, 0, .null) := rfl
theorem f_95_43 : px_at 95 43 = some (.ireturn, 1, 0, 0, .null) := rfl
theorem f_95_44 : px_at 95 44 = some (.iload_n 3, 1, 0, 0, .null) := rfl
theorem f_95_45 : px_at 95 45 = some (.lookupswitch 51 #[(0, 27), (1, 39)], 27, 0, 0, .null) := rfl
theorem f_95_72 : px_at 95 72 = some (.aload_n 0, 1, 0, 0, .null) := rfl
theorem f_95_73 : px_at 95 73 = some (.getfield 37, 3, 11, 5, .null) := rfl
theorem f_95_76 : px_at 95 76 = some (.getfield 136, 3, 6, 3, .null) := rfl
theorem f_95_79 : px_at 95 79 = some (.iload_n 2, 1, 0, 0, .null) := rfl
theorem f_95_80 : px_at 95 80 = some (.invokevirtual 155, 3, 41, 1, .null) := rfl
theorem f_95_83 : px_at 95 83 = some (.ireturn, 1, 0, 0, .null) := rfl
theorem f_95_84 : px_at 95 84 = some (.aload_n 0, 1, 0, 0, .null) := rfl
theorem f_95_85 : px_at 95 85 = some (.getfield 37, 3, 11, 5, .null) := rfl
theorem f_95_88 : px_at 95 88 = some (.getfield 136, 3, 6, 3, .null) := rfl
theorem f_95_91 : px_at 95 91 = some (.iload_n 2, 1, 0, 0, .null) := rfl
theorem f_95_92 : px_at 95 92 = some (.invokevirtual 159, 3, 42, 1, .null) := rfl
theorem f_95_95 : px_at 95 95 = some (.ireturn, 1, 0, 0, .null) := rfl
theorem f_95_96 : px_at 95 96 = some (.aload_n 0, 1, 0, 0, .null) := rfl
theorem f_95_97 : px_at 95 97 = some (.getfield 37, 3, 11, 5, .null) := rfl
theorem f_95_100 : px_at 95 100 = some (.getfield 136, 3, 6, 3, .null) := rfl
theorem f_95_103 : px_at 95 103 = some (.iload_n 2, 1, 0, 0, .null) := rfl
theorem f_95_104 : px_at 95 104 = some (.invokevirtual 162, 3, 43, 1, .null) := rfl
theorem f_95_107 : px_at 95 107 = some (.ireturn, 1, 0, 0, .null) := rfl

theorem f_96_0 : px_at 96 0 = some (.aload_n 0, 1, 0, 0, .null) := rfl
theorem f_96_1 : px_at 96 1 = some (.iload_n 1, 1, 0, 0, .null) := rfl
theorem f_96_2 : px_at 96 2 = some (.invokevirtual 121, 3, 109, 1, .null) := rfl
theorem f_96_5 : px_at 96 5 = some (.ifCond .ne 5, 3, 10, 0, .null) := rfl
theorem f_96_8 : px_at 96 8 = some (.iconst (-1), 1, 0, 0, .null) := rfl
theorem f_96_9 : px_at 96 9 = some (.ireturn, 1, 0, 0, .null) := rfl
theorem f_96_10 : px_at 96 10 = some (.aload_n 0, 1, 0, 0, .null) := rfl
theorem f_96_11 : px_at 96 11 = some (.iload_n 1, 1, 0, 0, .null) := rfl
theorem f_96_12 : px_at 96 12 = some (.invokevirtual 125, 3, 110, 1, .null) := rfl
theorem f_96_15 : px_at 96 15 = some (.aload_n 0, 1, 0, 0, .null) := rfl
theorem f_96_16 : px_at 96 16 = some (.getfield 44, 3, 11, 6, .null) := rfl
theorem f_96_19 : px_at 96 19 = some (.aload_n 0, 1, 0, 0, .null) := rfl
theorem f_96_20 : px_at 96 20 = some (.getfield 20, 3, 11, 2, .null) := rfl
theorem f_96_23 : px_at 96 23 = some (.getfield 128, 3, 8, 1, .null) := rfl
theorem f_96_26 : px_at 96 26 = some (.iload_n 1, 1, 0, 0, .null) := rfl
theorem f_96_27 : px_at 96 27 = some (.aaload, 1, 0, 0, .null) := rfl
theorem f_96_28 : px_at 96 28 = some (.aload_n 0, 1, 0, 0, .null) := rfl
theorem f_96_29 : px_at 96 29 = some (.getfield 37, 3, 11, 5, .null) := rfl
theorem f_96_32 : px_at 96 32 = some (.getfield 136, 3, 6, 3, .null) := rfl
theorem f_96_35 : px_at 96 35 = some (.invokevirtual 165, 3, 10, 1, .null) := rfl
theorem f_96_38 : px_at 96 38 = some (.ireturn, 1, 0, 0, .null) := rfl

theorem f_97_0 : px_at 97 0 = some (.aload_n 0, 1, 0, 0, .null) := rfl
theorem f_97_1 : px_at 97 1 = some (.iload_n 1, 1, 0, 0, .null) := rfl
theorem f_97_2 : px_at 97 2 = some (.invokevirtual 121, 3, 109, 1, .null) := rfl
theorem f_97_5 : px_at 97 5 = some (.ifCond .eq 12, 3, 17, 0, .null) := rfl
theorem f_97_8 : px_at 97 8 = some (.iload_n 2, 1, 0, 0, .null) := rfl
theorem f_97_9 : px_at 97 9 = some (.ifCond .lt 8, 3, 17, 0, .null) := rfl
theorem f_97_12 : px_at 97 12 = some (.iload_n 2, 1, 0, 0, .null) := rfl
theorem f_97_13 : px_at 97 13 = some (.iconst 3, 1, 0, 0, .null) := rfl
theorem f_97_14 : px_at 97 14 = some (.if_icmp .le 5, 3, 19, 0, .null) := rfl
theorem f_97_17 : px_at 97 17 = some (.iconst (-1), 1, 0, 0, .null) := rfl
theorem f_97_18 : px_at 97 18 = some (.ireturn, 1, 0, 0, .null) := rfl
theorem f_97_19 : px_at 97 19 = some (.aload_n 0, 1, 0, 0, .null) := rfl
theorem f_97_20 : px_at 97 20 = some (.iload_n 1, 1, 0, 0, .null) := rfl
theorem f_97_21 : px_at 97 21 = some (.invokevirtual 169, 3, 111, 1, .null) := rfl
theorem f_97_24 : px_at 97 24 = some (.aload_n 0, 1, 0, 0, .null) := rfl
theorem f_97_25 : px_at 97 25 = some (.getfield 61, 3, 11, 9, .null) := rfl
theorem f_97_28 : px_at 97 28 = some (.getfield 172, 3, 7, 1, .null) := rfl
theorem f_97_31 : px_at 97 31 = some (.iload_n 2, 1, 0, 0, .null) := rfl
theorem f_97_32 : px_at 97 32 = some (.iaload, 1, 0, 0, .null) := rfl
theorem f_97_33 : px_at 97 33 = some (.ireturn, 1, 0, 0, .null) := rfl

theorem f_98_0 : px_at 98 0 = some (.aload_n 0, 1, 0, 0, .null) := rfl
theorem f_98_1 : px_at 98 1 = some (.iload_n 1, 1, 0, 0, .null) := rfl
theorem f_98_2 : px_at 98 2 = some (.invokevirtual 121, 3, 109, 1, .null) := rfl
theorem f_98_5 : px_at 98 5 = some (.ifCond .eq 12, 3, 17, 0, .null) := rfl
theorem f_98_8 : px_at 98 8 = some (.iload_n 2, 1, 0, 0, .null) := rfl
theorem f_98_9 : px_at 98 9 = some (.ifCond .lt 8, 3, 17, 0, .null) := rfl
theorem f_98_12 : px_at 98 12 = some (.iload_n 2, 1, 0, 0, .null) := rfl
theorem f_98_13 : px_at 98 13 = some (.iconst 3, 1, 0, 0, .null) := rfl
theorem f_98_14 : px_at 98 14 = some (.if_icmp .le 5, 3, 19, 0, .null) := rfl
theorem f_98_17 : px_at 98 17 = some (.iconst (-1), 1, 0, 0, .null) := rfl
theorem f_98_18 : px_at 98 18 = some (.ireturn, 1, 0, 0, .null) := rfl
theorem f_98_19 : px_at 98 19 = some (.aload_n 0, 1, 0, 0, .null) := rfl
theorem f_98_20 : px_at 98 20 = some (.iload_n 1, 1, 0, 0, .null) := rfl
theorem f_98_21 : px_at 98 21 = some (.invokevirtual 169, 3, 111, 1, .null) := rfl
theorem f_98_24 : px_at 98 24 = some (.iload_n 3, 1, 0, 0, .null) := rfl
theorem f_98_25 : px_at 98 25 = some (.ifCond .lt 16, 3, 41, 0, .null) := rfl
theorem f_98_28 : px_at 98 28 = some (.iload_n 3, 1, 0, 0, .null) := rfl
theorem f_98_29 : px_at 98 29 = some (.aload_n 0, 1, 0, 0, .null) := rfl
theorem f_98_30 : px_at 98 30 = some (.getfield 61, 3, 11, 9, .null) := rfl
theorem f_98_33 : px_at 98 33 = some (.getfield 172, 3, 7, 1, .null) := rfl
theorem f_98_36 : px_at 98 36 = some (.iload_n 2, 1, 0, 0, .null) := rfl
theorem f_98_37 : px_at 98 37 = some (.iaload, 1, 0, 0, .null) := rfl
theorem f_98_38 : px_at 98 38 = some (.if_icmp .lt 8, 3, 46, 0, .null) := rfl
theorem f_98_41 : px_at 98 41 = some (.bipush (-3), 2, 0, 0, .null) := rfl
theorem f_98_43 : px_at 98 43 = some (.goto 12, 3, 55, 0, .null) := rfl
theorem f_98_46 : px_at 98 46 = some (.aload_n 0, 1, 0, 0, .null) := rfl
theorem f_98_47 : px_at 98 47 = some (.getfield 61, 3, 11, 9, .null) := rfl
theorem f_98_50 : px_at 98 50 = some (.getfield 175, 3, 7, 0, .null) := rfl
theorem f_98_53 : px_at 98 53 = some (.iload_n 3, 1, 0, 0, .null) := rfl
theorem f_98_54 : px_at 98 54 = some (.iaload, 1, 0, 0, .null) := rfl
theorem f_98_55 : px_at 98 55 = some (.ireturn, 1, 0, 0, .null) := rfl

theorem f_99_0 : px_at 99 0 = some (.aload_n 0, 1, 0, 0, .null) := rfl
theorem f_99_1 : px_at 99 1 = some (.iload_n 1, 1, 0, 0, .null) := rfl
theorem f_99_2 : px_at 99 2 = some (.invokevirtual 121, 3, 109, 1, .null) := rfl
theorem f_99_5 : px_at 99 5 = some (.ifCond .eq 7, 3, 12, 0, .null) := rfl
theorem f_99_8 : px_at 99 8 = some (.iload_n 2, 1, 0, 0, .null) := rfl
theorem f_99_9 : px_at 99 9 = some (.ifCond .ge 5, 3, 14, 0, .null) := rfl
theorem f_99_12 : px_at 99 12 = some (.iconst (-1), 1, 0, 0, .null) := rfl
theorem f_99_13 : px_at 99 13 = some (.ireturn, 1, 0, 0, .null) := rfl
theorem f_99_14 : px_at 99 14 = some (.aload_n 0, 1, 0, 0, .null) := rfl
theorem f_99_15 : px_at 99 15 = some (.getfield 20, 3, 11, 2, .null) := rfl
theorem f_99_18 : px_at 99 18 = some (.getfield 128, 3, 8, 1, .null) := rfl
theorem f_99_21 : px_at 99 21 = some (.iload_n 1, 1, 0, 0, .null) := rfl
theorem f_99_22 : px_at 99 22 = some (.aaload, 1, 0, 0, .null) := rfl
theorem f_99_23 : px_at 99 23 = some (.astore_n 3, 1, 0, 0, .null) := rfl
theorem f_99_24 : px_at 99 24 = some (.aload_n 3, 1, 0, 0, .null) := rfl
theorem f_99_25 : px_at 99 25 = some (.iconst 1, 1, 0, 0, .null) := rfl
theorem f_99_26 : px_at 99 26 = some (.invokevirtual 178, 3, 85, 1, .null) := rfl
theorem f_99_29 : px_at 99 29 = some (.istore 4, 2, 0, 0, .null) := rfl
theorem f_99_31 : px_at 99 31 = some (.aload_n 3, 1, 0, 0, .null) := rfl
theorem f_99_32 : px_at 99 32 = some (.iconst 0, 1, 0, 0, .null) := rfl
theorem f_99_33 : px_at 99 33 = some (.invokevirtual 178, 3, 85, 1, .null) := rfl
theorem f_99_36 : px_at 99 36 = some (.iload 4, 2, 0, 0, .null) := rfl
theorem f_99_38 : px_at 99 38 = some (.iadd, 1, 0, 0, .null) := rfl
theorem f_99_39 : px_at 99 39 = some (.istore 5, 2, 0, 0, .null) := rfl
theorem f_99_41 : px_at 99 41 = some (.iload_n 2, 1, 0, 0, .null) := rfl
theorem f_99_42 : px_at 99 42 = some (.iload 5, 2, 0, 0, .null) := rfl
theorem f_99_44 : px_at 99 44 = some (.ishr, 1, 0, 0, .null) := rfl
theorem f_99_45 : px_at 99 45 = some (.ifCond .ne 12, 3, 57, 0, .null) := rfl
theorem f_99_48 : px_at 99 48 = some (.iload_n 2, 1, 0, 0, .null) := rfl
theorem f_99_49 : px_at 99 49 = some (.invokestatic 184, 3, 207, 2, .null) := rfl
theorem f_99_52 : px_at 99 52 = some (.iload 4, 2, 0, 0, .null) := rfl
theorem f_99_54 : px_at 99 54 = some (.if_icmp .eq 5, 3, 59, 0, .null) := rfl
theorem f_99_57 : px_at 99 57 = some (.iconst (-1), 1, 0, 0, .null) := rfl
theorem f_99_58 : px_at 99 58 = some (.ireturn, 1, 0, 0, .null) := rfl
theorem f_99_59 : px_at 99 59 = some (.aload_n 0, 1, 0, 0, .null) := rfl
theorem f_99_60 : px_at 99 60 = some (.aload_n 3, 1, 0, 0, .null) := rfl
theorem f_99_61 : px_at 99 61 = some (.invokevirtual 189, 3, 112, 1, .null) := rfl
theorem f_99_64 : px_at 99 64 = some (.aload_n 0, 1, 0, 0, .null) := rfl
theorem f_99_65 : px_at 99 65 = some (.aload_n 3, 1, 0, 0, .null) := rfl
theorem f_99_66 : px_at 99 66 = some (.iload_n 2, 1, 0, 0, .null) := rfl
theorem f_99_67 : px_at 99 67 = some (.invokevirtual 193, 3, 113, 1, .null) := rfl
theorem f_99_70 : px_at 99 70 = some (.ifCond .eq 7, 3, 77, 0, .null) := rfl
theorem f_99_73 : px_at 99 73 = some (.iconst 1, 1, 0, 0, .null) := rfl
theorem f_99_74 : px_at 99 74 = some (.goto 4, 3, 78, 0, .null) := rfl
theorem f_99_77 : px_at 99 77 = some (.iconst 0, 1, 0, 0, .null) := rfl
theorem f_99_78 : px_at 99 78 = some (.ireturn, 1, 0, 0, .null) := rfl

theorem f_100_0 : px_at 100 0 = some (.aload_n 0, 1, 0, 0, .null) := rfl
theorem f_100_1 : px_at 100 1 = some (.iload_n 1, 1, 0, 0, .null) := rfl
theorem f_100_2 : px_at 100 2 = some (.invokevirtual 121, 3, 109, 1, .null) := rfl
theorem f_100_5 : px_at 100 5 = some (.ifCond .eq 12, 3, 17, 0, .null) := rfl
theorem f_100_8 : px_at 100 8 = some (.iload_n 2, 1, 0, 0, .null) := rfl
theorem f_100_9 : px_at 100 9 = some (.ifCond .lt 8, 3, 17, 0, .null) := rfl
theorem f_100_12 : px_at 100 12 = some (.iload_n 2, 1, 0, 0, .null) := rfl
theorem f_100_13 : px_at 100 13 = some (.iconst 3, 1, 0, 0, .null) := rfl
theorem f_100_14 : px_at 100 14 = some (.if_icmp .le 5, 3, 19, 0, .null) := rfl
theorem f_100_17 : px_at 100 17 = some (.iconst (-1), 1, 0, 0, .null) := rfl
theorem f_100_18 : px_at 100 18 = some (.ireturn, 1, 0, 0, .null) := rfl
theorem f_100_19 : px_at 100 19 = some (.iload_n 3, 1, 0, 0, .null) := rfl
theorem f_100_20 : px_at 100 20 = some (.ifCond .ge 6, 3, 26, 0, .null) := rfl
theorem f_100_23 : px_at 100 23 = some (.bipush (-3), 2, 0, 0, .null) := rfl
theorem f_100_25 : px_at 100 25 = some (.ireturn, 1, 0, 0, .null) := rfl
theorem f_100_26 : px_at 100 26 = some (.aload_n 0, 1, 0, 0, .null) := rfl
theorem f_100_27 : px_at 100 27 = some (.iload_n 1, 1, 0, 0, .null) := rfl
theorem f_100_28 : px_at 100 28 = some (.invokevirtual 169, 3, 111, 1, .null) := rfl
theorem f_100_31 : px_at 100 31 = some (.aload_n 0, 1, 0, 0, .null) := rfl
theorem f_100_32 : px_at 100 32 = some (.getfield 20, 3, 11, 2, .null) := rfl
theorem f_100_35 : px_at 100 35 = some (.getfield 128, 3, 8, 1, .null) := rfl
theorem f_100_38 : px_at 100 38 = some (.iload_n 1, 1, 0, 0, .null) := rfl
theorem f_100_39 : px_at 100 39 = some (.aaload, 1, 0, 0, .null) := rfl
theorem f_100_40 : px_at 100 40 = some (.astore 4, 2, 0, 0, .null) := rfl
theorem f_100_42 : px_at 100 42 = some (.aload_n 0, 1, 0, 0, .null) := rfl
theorem f_100_43 : px_at 100 43 = some (.getfield 61, 3, 11, 9, .null) := rfl
theorem f_100_46 : px_at 100 46 = some (.getfield 172, 3, 7, 1, .null) := rfl
theorem f_100_49 : px_at 100 49 = some (.iload_n 2, 1, 0, 0, .null) := rfl
theorem f_100_50 : px_at 100 50 = some (.iaload, 1, 0, 0, .null) := rfl
theorem f_100_51 : px_at 100 51 = some (.istore 5, 2, 0, 0, .null) := rfl
theorem f_100_53 : px_at 100 53 = some (.aload 4, 2, 0, 0, .null) := rfl
theorem f_100_55 : px_at 100 55 = some (.getfield 197, 3, 10, 10, .null) := rfl
theorem f_100_58 : px_at 100 58 = some (.iload_n 3, 1, 0, 0, .null) := rfl
theorem f_100_59 : px_at 100 59 = some (.if_icmp .gt 19, 3, 78, 0, .null) := rfl
theorem f_100_62 : px_at 100 62 = some (.aload 4, 2, 0, 0, .null) := rfl
theorem f_100_64 : px_at 100 64 = some (.getfield 200, 3, 10, 9, .null) := rfl
theorem f_100_67 : px_at 100 67 = some (.iload 5, 2, 0, 0, .null) := rfl
theorem f_100_69 : px_at 100 69 = some (.if_icmp .ge 9, 3, 78, 0, .null) := rfl
theorem f_100_72 : px_at 100 72 = some (.aload_n 0, 1, 0, 0, .null) := rfl
theorem f_100_73 : px_at 100 73 = some (.aload 4, 2, 0, 0, .null) := rfl
theorem f_100_75 : px_at 100 75 = some (.invokevirtual 189, 3, 112, 1, .null) := rfl
theorem f_100_78 : px_at 100 78 = some (.aload 4, 2, 0, 0, .null) := rfl
theorem f_100_80 : px_at 100 80 = some (.getfield 200, 3, 10, 9, .null) := rfl
theorem f_100_83 : px_at 100 83 = some (.istore 6, 2, 0, 0, .null) := rfl
theorem f_100_85 : px_at 100 85 = some (.iload 6, 2, 0, 0, .null) := rfl
theorem f_100_87 : px_at 100 87 = some (.iload 5, 2, 0, 0, .null) := rfl
theorem f_100_89 : px_at 100 89 = some (.if_icmp .ge 41, 3, 130, 0, .null) := rfl
theorem f_100_92 : px_at 100 92 = some (.aload 4, 2, 0, 0, .null) := rfl
theorem f_100_94 : px_at 100 94 = some (.getfield 197, 3, 10, 10, .null) := rfl
theorem f_100_97 : px_at 100 97 = some (.iload_n 3, 1, 0, 0, .null) := rfl
theorem f_100_98 : px_at 100 98 = some (.if_icmp .gt 32, 3, 130, 0, .null) := rfl
theorem f_100_101 : px_at 100 101 = some (.aload 4, 2, 0, 0, .null) := rfl
theorem f_100_103 : px_at 100 103 = some (.iload 6, 2, 0, 0, .null) := rfl
theorem f_100_105 : px_at 100 105 = some (.aload_n 0, 1, 0, 0, .null) := rfl
theorem f_100_106 : px_at 100 106 = some (.aload 4, 2, 0, 0, .null) := rfl
theorem f_100_108 : px_at 100 108 = some (.aload_n 0, 1, 0, 0, .null) := rfl
theorem f_100_109 : px_at 100 109 = some (.getfield 61, 3, 11, 9, .null) := rfl
theorem f_100_112 : px_at 100 112 = some (.getfield 175, 3, 7, 0, .null) := rfl
theorem f_100_115 : px_at 100 115 = some (.iload 6, 2, 0, 0, .null) := rfl
theorem f_100_117 : px_at 100 117 = some (.iaload, 1, 0, 0, .null) := rfl
theorem f_100_118 : px_at 100 118 = some (.invokevirtual 193, 3, 113, 1, .null) := rfl
theorem f_100_121 : px_at 100 121 = some (.invokevirtual 203, 3, 88, 1, .null) := rfl
theorem f_100_124 : px_at 100 124 = some (.iinc 6 1, 3, 0, 0, .null) := rfl
theorem f_100_127 : px_at 100 127 = some (.goto (-42), 3, 85, 0, .null) := rfl
theorem f_100_130 : px_at 100 130 = some (.iload_n 3, 1, 0, 0, .null) := rfl
theorem f_100_131 : px_at 100 131 = some (.aload 4, 2, 0, 0, .null) := rfl
theorem f_100_133 : px_at 100 133 = some (.getfield 197, 3, 10, 10, .null) := rfl
theorem f_100_136 : px_at 100 136 = some (.if_icmp .ge 25, 3, 161, 0, .null) := rfl
theorem f_100_139 : px_at 100 139 = some (.aload 4, 2, 0, 0, .null) := rfl
theorem f_100_141 : px_at 100 141 = some (.getfield 207, 3, 10, 11, .null) := rfl
theorem f_100_144 : px_at 100 144 = some (.iload_n 3, 1, 0, 0, .null) := rfl
theorem f_100_145 : px_at 100 145 = some (.iaload, 1, 0, 0, .null) := rfl
theorem f_100_146 : px_at 100 146 = some (.iload 5, 2, 0, 0, .null) := rfl
theorem f_100_148 : px_at 100 148 = some (.if_icmp .ge 13, 3, 161, 0, .null) := rfl
theorem f_100_151 : px_at 100 151 = some (.aload 4, 2, 0, 0, .null) := rfl
theorem f_100_153 : px_at 100 153 = some (.getfield 207, 3, 10, 11, .null) := rfl
theorem f_100_156 : px_at 100 156 = some (.iload_n 3, 1, 0, 0, .null) := rfl
theorem f_100_157 : px_at 100 157 = some (.iaload, 1, 0, 0, .null) := rfl
theorem f_100_158 : px_at 100 158 = some (.goto 5, 3, 163, 0, .null) := rfl
theorem f_100_161 : px_at 100 161 = some (.bipush (-3), 2, 0, 0, .null) := rfl
theorem f_100_163 : px_at 100 163 = some (.ireturn, 1, 0, 0, .null) := rfl

theorem f_101_0 : px_at 101 0 = some (.aload_n 0, 1, 0, 0, .null) := rfl
theorem f_101_1 : px_at 101 1 = some (.iload_n 1, 1, 0, 0, .null) := rfl
theorem f_101_2 : px_at 101 2 = some (.invokevirtual 121, 3, 109, 1, .null) := rfl
theorem f_101_5 : px_at 101 5 = some (.ifCond .ne 5, 3, 10, 0, .null) := rfl
theorem f_101_8 : px_at 101 8 = some (.iconst (-1), 1, 0, 0, .null) := rfl
theorem f_101_9 : px_at 101 9 = some (.ireturn, 1, 0, 0, .null) := rfl
theorem f_101_10 : px_at 101 10 = some (.aload_n 0, 1, 0, 0, .null) := rfl
theorem f_101_11 : px_at 101 11 = some (.getfield 20, 3, 11, 2, .null) := rfl
theorem f_101_14 : px_at 101 14 = some (.getfield 128, 3, 8, 1, .null) := rfl
theorem f_101_17 : px_at 101 17 = some (.iload_n 1, 1, 0, 0, .null) := rfl
theorem f_101_18 : px_at 101 18 = some (.aaload, 1, 0, 0, .null) := rfl
theorem f_101_19 : px_at 101 19 = some (.iconst 0, 1, 0, 0, .null) := rfl
theorem f_101_20 : px_at 101 20 = some (.invokevirtual 178, 3, 85, 1, .null) := rfl
theorem f_101_23 : px_at 101 23 = some (.istore_n 3, 1, 0, 0, .null) := rfl
theorem f_101_24 : px_at 101 24 = some (.aload_n 0, 1, 0, 0, .null) := rfl
theorem f_101_25 : px_at 101 25 = some (.getfield 20, 3, 11, 2, .null) := rfl
theorem f_101_28 : px_at 101 28 = some (.getfield 128, 3, 8, 1, .null) := rfl
theorem f_101_31 : px_at 101 31 = some (.iload_n 1, 1, 0, 0, .null) := rfl
theorem f_101_32 : px_at 101 32 = some (.aaload, 1, 0, 0, .null) := rfl
theorem f_101_33 : px_at 101 33 = some (.iconst 1, 1, 0, 0, .null) := rfl
theorem f_101_34 : px_at 101 34 = some (.invokevirtual 178, 3, 85, 1, .null) := rfl
theorem f_101_37 : px_at 101 37 = some (.istore 4, 2, 0, 0, .null) := rfl
theorem f_101_39 : px_at 101 39 = some (.iload_n 3, 1, 0, 0, .null) := rfl
theorem f_101_40 : px_at 101 40 = some (.iload 4, 2, 0, 0, .null) := rfl
theorem f_101_42 : px_at 101 42 = some (.iadd, 1, 0, 0, .null) := rfl
theorem f_101_43 : px_at 101 43 = some (.istore 5, 2, 0, 0, .null) := rfl
theorem f_101_45 : px_at 101 45 = some (.iload_n 2, 1, 0, 0, .null) := rfl
theorem f_101_46 : px_at 101 46 = some (.istore 6, 2, 0, 0, .null) := rfl
theorem f_101_48 : px_at 101 48 = some (.iconst 0, 1, 0, 0, .null) := rfl
theorem f_101_49 : px_at 101 49 = some (.istore 7, 2, 0, 0, .null) := rfl
theorem f_101_51 : px_at 101 51 = some (.iconst 0, 1, 0, 0, .null) := rfl
theorem f_101_52 : px_at 101 52 = some (.istore 8, 2, 0, 0, .null) := rfl
theorem f_101_54 : px_at 101 54 = some (.iload 8, 2, 0, 0, .null) := rfl
theorem f_101_56 : px_at 101 56 = some (.iload 5, 2, 0, 0, .null) := rfl
theorem f_101_58 : px_at 101 58 = some (.if_icmp .ge 81, 3, 139, 0, .null) := rfl
theorem f_101_61 : px_at 101 61 = some (.iload_n 3, 1, 0, 0, .null) := rfl
theorem f_101_62 : px_at 101 62 = some (.ifCond .ne 7, 3, 69, 0, .null) := rfl
theorem f_101_65 : px_at 101 65 = some (.iconst 1, 1, 0, 0, .null) := rfl
theorem f_101_66 : px_at 101 66 = some (.goto 4, 3, 70, 0, .null) := rfl
theorem f_101_69 : px_at 101 69 = some (.iconst 0, 1, 0, 0, .null) := rfl
theorem f_101_70 : px_at 101 70 = some (.istore 9, 2, 0, 0, .null) := rfl
theorem f_101_72 : px_at 101 72 = some (.iload_n 3, 1, 0, 0, .null) := rfl
theorem f_101_73 : px_at 101 73 = some (.ifCond .le 37, 3, 110, 0, .null) := rfl
theorem f_101_76 : px_at 101 76 = some (.iload 4, 2, 0, 0, .null) := rfl
theorem f_101_78 : px_at 101 78 = some (.ifCond .le 32, 3, 110, 0, .null) := rfl
theorem f_101_81 : px_at 101 81 = some (.iload 6, 2, 0, 0, .null) := rfl
theorem f_101_83 : px_at 101 83 = some (.ldc 210, 2, 0, 0, .int (1103515245)) := rfl
theorem f_101_85 : px_at 101 85 = some (.imul, 1, 0, 0, .null) := rfl
theorem f_101_86 : px_at 101 86 = some (.sipush 12345, 3, 0, 0, .null) := rfl
theorem f_101_89 : px_at 101 89 = some (.iadd, 1, 0, 0, .null) := rfl
theorem f_101_90 : px_at 101 90 = some (.istore 6, 2, 0, 0, .null) := rfl
theorem f_101_92 : px_at 101 92 = some (.iload 6, 2, 0, 0, .null) := rfl
theorem f_101_94 : px_at 101 94 = some (.bipush 16, 2, 0, 0, .null) := rfl
theorem f_101_96 : px_at 101 96 = some (.ishr, 1, 0, 0, .null) := rfl
theorem f_101_97 : px_at 101 97 = some (.iconst 1, 1, 0, 0, .null) := rfl
theorem f_101_98 : px_at 101 98 = some (.iand, 1, 0, 0, .null) := rfl
theorem f_101_99 : px_at 101 99 = some (.iconst 1, 1, 0, 0, .null) := rfl
theorem f_101_100 : px_at 101 100 = some (.if_icmp .ne 7, 3, 107, 0, .null) := rfl
theorem f_101_103 : px_at 101 103 = some (.iconst 1, 1, 0, 0, .null) := rfl
theorem f_101_104 : px_at 101 104 = some (.goto 4, 3, 108, 0, .null) := rfl
theorem f_101_107 : px_at 101 107 = some (.iconst 0, 1, 0, 0, .null) := rfl
theorem f_101_108 : px_at 101 108 = some (.istore 9, 2, 0, 0, .null) := rfl
theorem f_101_110 : px_at 101 110 = some (.iload 9, 2, 0, 0, .null) := rfl
theorem f_101_112 : px_at 101 112 = some (.ifCond .eq 18, 3, 130, 0, .null) := rfl
theorem f_101_115 : px_at 101 115 = some (.iload 7, 2, 0, 0, .null) := rfl
theorem f_101_117 : px_at 101 117 = some (.iconst 1, 1, 0, 0, .null) := rfl
theorem f_101_118 : px_at 101 118 = some (.iload 8, 2, 0, 0, .null) := rfl
theorem f_101_120 : px_at 101 120 = some (.ishl, 1, 0, 0, .null) := rfl
theorem f_101_121 : px_at 101 121 = some (.ior, 1, 0, 0, .null) := rfl
theorem f_101_122 : px_at 101 122 = some (.istore 7, 2, 0, 0, .null) := rfl
theorem f_101_124 : px_at 101 124 = some (.iinc 4 (-1), 3, 0, 0, .null) := rfl
theorem f_101_127 : px_at 101 127 = some (.goto 6, 3, 133, 0, .null) := rfl
theorem f_101_130 : px_at 101 130 = some (.iinc 3 (-1), 3, 0, 0, .null) := rfl
theorem f_101_133 : px_at 101 133 = some (.iinc 8 1, 3, 0, 0, .null) := rfl
theorem f_101_136 : px_at 101 136 = some (.goto (-82), 3, 54, 0, .null) := rfl
theorem f_101_139 : px_at 101 139 = some (.iload 7, 2, 0, 0, .null) := rfl
theorem f_101_141 : px_at 101 141 = some (.ireturn, 1, 0, 0, .null) := rfl

theorem f_102_0 : px_at 102 0 = some (.aload_n 0, 1, 0, 0, .null) := rfl
theorem f_102_1 : px_at 102 1 = some (.iload_n 1, 1, 0, 0, .null) := rfl
theorem f_102_2 : px_at 102 2 = some (.invokevirtual 121, 3, 109, 1, .null) := rfl
theorem f_102_5 : px_at 102 5 = some (.ifCond .ne 5, 3, 10, 0, .null) := rfl
theorem f_102_8 : px_at 102 8 = some (.iconst (-1), 1, 0, 0, .null) := rfl
theorem f_102_9 : px_at 102 9 = some (.ireturn, 1, 0, 0, .null) := rfl
theorem f_102_10 : px_at 102 10 = some (.aload_n 0, 1, 0, 0, .null) := rfl
theorem f_102_11 : px_at 102 11 = some (.aload_n 0, 1, 0, 0, .null) := rfl
theorem f_102_12 : px_at 102 12 = some (.getfield 20, 3, 11, 2, .null) := rfl
theorem f_102_15 : px_at 102 15 = some (.getfield 128, 3, 8, 1, .null) := rfl
theorem f_102_18 : px_at 102 18 = some (.iload_n 1, 1, 0, 0, .null) := rfl
theorem f_102_19 : px_at 102 19 = some (.aaload, 1, 0, 0, .null) := rfl
theorem f_102_20 : px_at 102 20 = some (.invokevirtual 211, 3, 114, 1, .null) := rfl
theorem f_102_23 : px_at 102 23 = some (.aload_n 0, 1, 0, 0, .null) := rfl
theorem f_102_24 : px_at 102 24 = some (.getfield 20, 3, 11, 2, .null) := rfl
theorem f_102_27 : px_at 102 27 = some (.getfield 128, 3, 8, 1, .null) := rfl
theorem f_102_30 : px_at 102 30 = some (.iload_n 1, 1, 0, 0, .null) := rfl
theorem f_102_31 : px_at 102 31 = some (.aaload, 1, 0, 0, .null) := rfl
theorem f_102_32 : px_at 102 32 = some (.getfield 214, 3, 10, 7, .null) := rfl
theorem f_102_35 : px_at 102 35 = some (.ireturn, 1, 0, 0, .null) := rfl

theorem f_103_0 : px_at 103 0 = some (.aload_n 0, 1, 0, 0, .null) := rfl
theorem f_103_1 : px_at 103 1 = some (.iload_n 1, 1, 0, 0, .null) := rfl
theorem f_103_2 : px_at 103 2 = some (.invokevirtual 121, 3, 109, 1, .null) := rfl
theorem f_103_5 : px_at 103 5 = some (.ifCond .ne 5, 3, 10, 0, .null) := rfl
theorem f_103_8 : px_at 103 8 = some (.iconst (-1), 1, 0, 0, .null) := rfl
theorem f_103_9 : px_at 103 9 = some (.ireturn, 1, 0, 0, .null) := rfl
theorem f_103_10 : px_at 103 10 = some (.aload_n 0, 1, 0, 0, .null) := rfl
theorem f_103_11 : px_at 103 11 = some (.getfield 20, 3, 11, 2, .null) := rfl
theorem f_103_14 : px_at 103 14 = some (.getfield 128, 3, 8, 1, .null) := rfl
theorem f_103_17 : px_at 103 17 = some (.iload_n 1, 1, 0, 0, .null) := rfl
theorem f_103_18 : px_at 103 18 = some (.aaload, 1, 0, 0, .null) := rfl
theorem f_103_19 : px_at 103 19 = some (.astore_n 3, 1, 0, 0, .null) := rfl
theorem f_103_20 : px_at 103 20 = some (.aload_n 0, 1, 0, 0, .null) := rfl
theorem f_103_21 : px_at 103 21 = some (.aload_n 3, 1, 0, 0, .null) := rfl
theorem f_103_22 : px_at 103 22 = some (.invokevirtual 211, 3, 114, 1, .null) := rfl
theorem f_103_25 : px_at 103 25 = some (.aload_n 3, 1, 0, 0, .null) := rfl
theorem f_103_26 : px_at 103 26 = some (.getfield 214, 3, 10, 7, .null) := rfl
theorem f_103_29 : px_at 103 29 = some (.bipush (-2), 2, 0, 0, .null) := rfl
theorem f_103_31 : px_at 103 31 = some (.if_icmp .ne 6, 3, 37, 0, .null) := rfl
theorem f_103_34 : px_at 103 34 = some (.bipush (-2), 2, 0, 0, .null) := rfl
theorem f_103_36 : px_at 103 36 = some (.ireturn, 1, 0, 0, .null) := rfl
theorem f_103_37 : px_at 103 37 = some (.iload_n 2, 1, 0, 0, .null) := rfl
theorem f_103_38 : px_at 103 38 = some (.ifCond .lt 11, 3, 49, 0, .null) := rfl
theorem f_103_41 : px_at 103 41 = some (.iload_n 2, 1, 0, 0, .null) := rfl
theorem f_103_42 : px_at 103 42 = some (.aload_n 3, 1, 0, 0, .null) := rfl
theorem f_103_43 : px_at 103 43 = some (.getfield 214, 3, 10, 7, .null) := rfl
theorem f_103_46 : px_at 103 46 = some (.if_icmp .lt 8, 3, 54, 0, .null) := rfl
theorem f_103_49 : px_at 103 49 = some (.bipush (-3), 2, 0, 0, .null) := rfl
theorem f_103_51 : px_at 103 51 = some (.goto 9, 3, 60, 0, .null) := rfl
theorem f_103_54 : px_at 103 54 = some (.aload_n 3, 1, 0, 0, .null) := rfl
theorem f_103_55 : px_at 103 55 = some (.getfield 217, 3, 10, 8, .null) := rfl
theorem f_103_58 : px_at 103 58 = some (.iload_n 2, 1, 0, 0, .null) := rfl
theorem f_103_59 : px_at 103 59 = some (.iaload, 1, 0, 0, .null) := rfl
theorem f_103_60 : px_at 103 60 = some (.ireturn, 1, 0, 0, .null) := rfl

theorem f_104_0 : px_at 104 0 = some (.iload_n 1, 1, 0, 0, .null) := rfl
theorem f_104_1 : px_at 104 1 = some (.ifCond .lt 26, 3, 27, 0, .null) := rfl
theorem f_104_4 : px_at 104 4 = some (.iload_n 1, 1, 0, 0, .null) := rfl
theorem f_104_5 : px_at 104 5 = some (.aload_n 0, 1, 0, 0, .null) := rfl
theorem f_104_6 : px_at 104 6 = some (.getfield 20, 3, 11, 2, .null) := rfl
theorem f_104_9 : px_at 104 9 = some (.getfield 113, 3, 8, 0, .null) := rfl
theorem f_104_12 : px_at 104 12 = some (.getfield 116, 3, 0, 0, .null) := rfl
theorem f_104_15 : px_at 104 15 = some (.if_icmp .ge 12, 3, 27, 0, .null) := rfl
theorem f_104_18 : px_at 104 18 = some (.iload_n 2, 1, 0, 0, .null) := rfl
theorem f_104_19 : px_at 104 19 = some (.ifCond .lt 8, 3, 27, 0, .null) := rfl
theorem f_104_22 : px_at 104 22 = some (.iload_n 2, 1, 0, 0, .null) := rfl
theorem f_104_23 : px_at 104 23 = some (.iconst 5, 1, 0, 0, .null) := rfl
theorem f_104_24 : px_at 104 24 = some (.if_icmp .lt 5, 3, 29, 0, .null) := rfl
theorem f_104_27 : px_at 104 27 = some (.iconst (-1), 1, 0, 0, .null) := rfl
theorem f_104_28 : px_at 104 28 = some (.ireturn, 1, 0, 0, .null) := rfl
theorem f_104_29 : px_at 104 29 = some (.aload_n 0, 1, 0, 0, .null) := rfl
theorem f_104_30 : px_at 104 30 = some (.invokevirtual 220, 3, 115, 1, .null) := rfl
theorem f_104_33 : px_at 104 33 = some (.aload_n 0, 1, 0, 0, .null) := rfl
theorem f_104_34 : px_at 104 34 = some (.getfield 92, 3, 11, 15, .null) := rfl
theorem f_104_37 : px_at 104 37 = some (.iload_n 1, 1, 0, 0, .null) := rfl
theorem f_104_38 : px_at 104 38 = some (.iconst 5, 1, 0, 0, .null) := rfl
theorem f_104_39 : px_at 104 39 = some (.imul, 1, 0, 0, .null) := rfl
theorem f_104_40 : px_at 104 40 = some (.iload_n 2, 1, 0, 0, .null) := rfl
theorem f_104_41 : px_at 104 41 = some (.iadd, 1, 0, 0, .null) := rfl
theorem f_104_42 : px_at 104 42 = some (.iaload, 1, 0, 0, .null) := rfl
theorem f_104_43 : px_at 104 43 = some (.ireturn, 1, 0, 0, .null) := rfl

theorem f_105_0 : px_at 105 0 = some (.iload_n 1, 1, 0, 0, .null) := rfl
theorem f_105_1 : px_at 105 1 = some (.ifCond .lt 26, 3, 27, 0, .null) := rfl
theorem f_105_4 : px_at 105 4 = some (.iload_n 1, 1, 0, 0, .null) := rfl
theorem f_105_5 : px_at 105 5 = some (.aload_n 0, 1, 0, 0, .null) := rfl
theorem f_105_6 : px_at 105 6 = some (.getfield 20, 3, 11, 2, .null) := rfl
theorem f_105_9 : px_at 105 9 = some (.getfield 113, 3, 8, 0, .null) := rfl
theorem f_105_12 : px_at 105 12 = some (.invokevirtual 117, 3, 4, 1, .null) := rfl
theorem f_105_15 : px_at 105 15 = some (.if_icmp .ge 12, 3, 27, 0, .null) := rfl
theorem f_105_18 : px_at 105 18 = some (.iload_n 2, 1, 0, 0, .null) := rfl
theorem f_105_19 : px_at 105 19 = some (.ifCond .lt 8, 3, 27, 0, .null) := rfl
theorem f_105_22 : px_at 105 22 = some (.iload_n 2, 1, 0, 0, .null) := rfl
theorem f_105_23 : px_at 105 23 = some (.iconst 4, 1, 0, 0, .null) := rfl
theorem f_105_24 : px_at 105 24 = some (.if_icmp .le 5, 3, 29, 0, .null) := rfl
theorem f_105_27 : px_at 105 27 = some (.iconst (-1), 1, 0, 0, .null) := rfl
theorem f_105_28 : px_at 105 28 = some (.ireturn, 1, 0, 0, .null) := rfl
theorem f_105_29 : px_at 105 29 = some (.aload_n 0, 1, 0, 0, .null) := rfl
theorem f_105_30 : px_at 105 30 = some (.getfield 20, 3, 11, 2, .null) := rfl
theorem f_105_33 : px_at 105 33 = some (.getfield 113, 3, 8, 0, .null) := rfl
theorem f_105_36 : px_at 105 36 = some (.iload_n 1, 1, 0, 0, .null) := rfl
theorem f_105_37 : px_at 105 37 = some (.invokevirtual 223, 3, 5, 1, .null) := rfl
theorem f_105_40 : px_at 105 40 = some (.istore_n 3, 1, 0, 0, .null) := rfl
theorem f_105_41 : px_at 105 41 = some (.aload_n 0, 1, 0, 0, .null) := rfl
theorem f_105_42 : px_at 105 42 = some (.getfield 20, 3, 11, 2, .null) := rfl
theorem f_105_45 : px_at 105 45 = some (.getfield 113, 3, 8, 0, .null) := rfl
theorem f_105_48 : px_at 105 48 = some (.iload_n 1, 1, 0, 0, .null) := rfl
theorem f_105_49 : px_at 105 49 = some (.invokevirtual 226, 3, 6, 1, .null) := rfl
theorem f_105_52 : px_at 105 52 = some (.istore 4, 2, 0, 0, .null) := rfl
theorem f_105_54 : px_at 105 54 = some (.iload_n 2, 1, 0, 0, .null) := rfl
theorem f_105_55 : px_at 105 55 = some (.tableswitch 86 0 3 #[29, 31, 34, 58], 29, 0, 0, .null) := rfl
theorem f_105_84 : px_at 105 84 = some (.iload_n 3, 1, 0, 0, .null) := rfl
theorem f_105_85 : px_at 105 85 = some (.ireturn, 1, 0, 0, .null) := rfl
theorem f_105_86 : px_at 105 86 = some (.iload 4, 2, 0, 0, .null) := rfl
theorem f_105_88 : px_at 105 88 = some (.ireturn, 1, 0, 0, .null) := rfl
theorem f_105_89 : px_at 105 89 = some (.iload 4, 2, 0, 0, .null) := rfl
theorem f_105_91 : px_at 105 91 = some (.aload_n 0, 1, 0, 0, .null) := rfl
theorem f_105_92 : px_at 105 92 = some (.getfield 20, 3, 11, 2, .null) := rfl
theorem f_105_95 : px_at 105 95 = some (.getfield 113, 3, 8, 0, .null) := rfl
theorem f_105_98 : px_at 105 98 = some (.iload_n 3, 1, 0, 0, .null) := rfl
theorem f_105_99 : px_at 105 99 = some (.invokevirtual 229, 3, 3, 1, .null) := rfl
theorem f_105_102 : px_at 105 102 = some (.iconst 1, 1, 0, 0, .null) := rfl
theorem f_105_103 : px_at 105 103 = some (.isub, 1, 0, 0, .null) := rfl
theorem f_105_104 : px_at 105 104 = some (.if_icmp .ne 7, 3, 111, 0, .null) := rfl
theorem f_105_107 : px_at 105 107 = some (.iconst 1, 1, 0, 0, .null) := rfl
theorem f_105_108 : px_at 105 108 = some (.goto 4, 3, 112, 0, .null) := rfl
theorem f_105_111 : px_at 105 111 = some (.iconst 0, 1, 0, 0, .null) := rfl
theorem f_105_112 : px_at 105 112 = some (.ireturn, 1, 0, 0, .null) := rfl
theorem f_105_113 : px_at 105 113 = some (.aload_n 0, 1, 0, 0, .null) := rfl
theorem f_105_114 : px_at 105 114 = some (.invokevirtual 232, 3, 116, 1, .null) := rfl
theorem f_105_117 : px_at 105 117 = some (.aload_n 0, 1, 0, 0, .null) := rfl
theorem f_105_118 : px_at 105 118 = some (.getfield 85, 3, 11, 13, .null) := rfl
theorem f_105_121 : px_at 105 121 = some (.iload_n 1, 1, 0, 0, .null) := rfl
theorem f_105_122 : px_at 105 122 = some (.iaload, 1, 0, 0, .null) := rfl
theorem f_105_123 : px_at 105 123 = some (.ifCond .ne 8, 3, 131, 0, .null) := rfl
theorem f_105_126 : px_at 105 126 = some (.bipush (-3), 2, 0, 0, .null) := rfl
theorem f_105_128 : px_at 105 128 = some (.goto 12, 3, 140, 0, .null) := rfl
theorem f_105_131 : px_at 105 131 = some (.aload_n 0, 1, 0, 0, .null) := rfl
theorem f_105_132 : px_at 105 132 = some (.getfield 85, 3, 11, 13, .null) := rfl
theorem f_105_135 : px_at 105 135 = some (.iload_n 1, 1, 0, 0, .null) := rfl
theorem f_105_136 : px_at 105 136 = some (.iaload, 1, 0, 0, .null) := rfl
theorem f_105_137 : px_at 105 137 = some (.invokestatic 235, 3, 206, 2, .null) := rfl
theorem f_105_140 : px_at 105 140 = some (.ireturn, 1, 0, 0, .null) := rfl
theorem f_105_141 : px_at 105 141 = some (.aload_n 0, 1, 0, 0, .null) := rfl
theorem f_105_142 : px_at 105 142 = some (.invokevirtual 232, 3, 116, 1, .null) := rfl
theorem f_105_145 : px_at 105 145 = some (.aload_n 0, 1, 0, 0, .null) := rfl
theorem f_105_146 : px_at 105 146 = some (.getfield 85, 3, 11, 13, .null) := rfl
theorem f_105_149 : px_at 105 149 = some (.iload_n 1, 1, 0, 0, .null) := rfl
theorem f_105_150 : px_at 105 150 = some (.iaload, 1, 0, 0, .null) := rfl
theorem f_105_151 : px_at 105 151 = some (.invokestatic 184, 3, 207, 2, .null) := rfl
theorem f_105_154 : px_at 105 154 = some (.ireturn, 1, 0, 0, .null) := rfl

theorem f_106_0 : px_at 106 0 = some (.aload_n 0, 1, 0, 0, .null) := rfl
theorem f_106_1 : px_at 106 1 = some (.iload_n 1, 1, 0, 0, .null) := rfl
theorem f_106_2 : px_at 106 2 = some (.invokevirtual 121, 3, 109, 1, .null) := rfl
theorem f_106_5 : px_at 106 5 = some (.ifCond .ne 5, 3, 10, 0, .null) := rfl
theorem f_106_8 : px_at 106 8 = some (.iconst (-1), 1, 0, 0, .null) := rfl
theorem f_106_9 : px_at 106 9 = some (.ireturn, 1, 0, 0, .null) := rfl
theorem f_106_10 : px_at 106 10 = some (.aload_n 0, 1, 0, 0, .null) := rfl
theorem f_106_11 : px_at 106 11 = some (.invokevirtual 232, 3, 116, 1, .null) := rfl
theorem f_106_14 : px_at 106 14 = some (.aload_n 0, 1, 0, 0, .null) := rfl
theorem f_106_15 : px_at 106 15 = some (.getfield 20, 3, 11, 2, .null) := rfl
theorem f_106_18 : px_at 106 18 = some (.getfield 113, 3, 8, 0, .null) := rfl
theorem f_106_21 : px_at 106 21 = some (.invokevirtual 117, 3, 4, 1, .null) := rfl
theorem f_106_24 : px_at 106 24 = some (.istore_n 2, 1, 0, 0, .null) := rfl
theorem f_106_25 : px_at 106 25 = some (.iconst 0, 1, 0, 0, .null) := rfl
theorem f_106_26 : px_at 106 26 = some (.istore_n 3, 1, 0, 0, .null) := rfl
theorem f_106_27 : px_at 106 27 = some (.iconst 0, 1, 0, 0, .null) := rfl
theorem f_106_28 : px_at 106 28 = some (.istore 4, 2, 0, 0, .null) := rfl
theorem f_106_30 : px_at 106 30 = some (.iload 4, 2, 0, 0, .null) := rfl
theorem f_106_32 : px_at 106 32 = some (.iload_n 2, 1, 0, 0, .null) := rfl
theorem f_106_33 : px_at 106 33 = some (.if_icmp .ge 32, 3, 65, 0, .null) := rfl
theorem f_106_36 : px_at 106 36 = some (.iload 4, 2, 0, 0, .null) := rfl
theorem f_106_38 : px_at 106 38 = some (.bipush 30, 2, 0, 0, .null) := rfl
theorem f_106_40 : px_at 106 40 = some (.if_icmp .ge 25, 3, 65, 0, .null) := rfl
theorem f_106_43 : px_at 106 43 = some (.aload_n 0, 1, 0, 0, .null) := rfl
theorem f_106_44 : px_at 106 44 = some (.getfield 85, 3, 11, 13, .null) := rfl
theorem f_106_47 : px_at 106 47 = some (.iload 4, 2, 0, 0, .null) := rfl
theorem f_106_49 : px_at 106 49 = some (.iaload, 1, 0, 0, .null) := rfl
theorem f_106_50 : px_at 106 50 = some (.iconst 1, 1, 0, 0, .null) := rfl
theorem f_106_51 : px_at 106 51 = some (.iload_n 1, 1, 0, 0, .null) := rfl
theorem f_106_52 : px_at 106 52 = some (.ishl, 1, 0, 0, .null) := rfl
theorem f_106_53 : px_at 106 53 = some (.if_icmp .ne 6, 3, 59, 0, .null) := rfl
theorem f_106_56 : px_at 106 56 = some (.iinc 3 1, 3, 0, 0, .null) := rfl
theorem f_106_59 : px_at 106 59 = some (.iinc 4 1, 3, 0, 0, .null) := rfl
theorem f_106_62 : px_at 106 62 = some (.goto (-32), 3, 30, 0, .null) := rfl
theorem f_106_65 : px_at 106 65 = some (.iload_n 3, 1, 0, 0, .null) := rfl
theorem f_106_66 : px_at 106 66 = some (.ireturn, 1, 0, 0, .null) := rfl

theorem f_107_0 : px_at 107 0 = some (.aload_n 0, 1, 0, 0, .null) := rfl
theorem f_107_1 : px_at 107 1 = some (.iload_n 1, 1, 0, 0, .null) := rfl
theorem f_107_2 : px_at 107 2 = some (.invokevirtual 121, 3, 109, 1, .null) := rfl
theorem f_107_5 : px_at 107 5 = some (.ifCond .eq 23, 3, 28, 0, .null) := rfl
theorem f_107_8 : px_at 107 8 = some (.iload_n 2, 1, 0, 0, .null) := rfl
theorem f_107_9 : px_at 107 9 = some (.ifCond .lt 19, 3, 28, 0, .null) := rfl
theorem f_107_12 : px_at 107 12 = some (.iload_n 2, 1, 0, 0, .null) := rfl
theorem f_107_13 : px_at 107 13 = some (.aload_n 0, 1, 0, 0, .null) := rfl
theorem f_107_14 : px_at 107 14 = some (.getfield 20, 3, 11, 2, .null) := rfl
theorem f_107_17 : px_at 107 17 = some (.getfield 128, 3, 8, 1, .null) := rfl
theorem f_107_20 : px_at 107 20 = some (.iload_n 1, 1, 0, 0, .null) := rfl
theorem f_107_21 : px_at 107 21 = some (.aaload, 1, 0, 0, .null) := rfl
theorem f_107_22 : px_at 107 22 = some (.getfield 238, 3, 10, 0, .null) := rfl
theorem f_107_25 : px_at 107 25 = some (.if_icmp .lt 5, 3, 30, 0, .null) := rfl
theorem f_107_28 : px_at 107 28 = some (.iconst (-1), 1, 0, 0, .null) := rfl
theorem f_107_29 : px_at 107 29 = some (.ireturn, 1, 0, 0, .null) := rfl
theorem f_107_30 : px_at 107 30 = some (.aload_n 0, 1, 0, 0, .null) := rfl
theorem f_107_31 : px_at 107 31 = some (.getfield 20, 3, 11, 2, .null) := rfl
theorem f_107_34 : px_at 107 34 = some (.getfield 128, 3, 8, 1, .null) := rfl
theorem f_107_37 : px_at 107 37 = some (.iload_n 1, 1, 0, 0, .null) := rfl
theorem f_107_38 : px_at 107 38 = some (.aaload, 1, 0, 0, .null) := rfl
theorem f_107_39 : px_at 107 39 = some (.astore 4, 2, 0, 0, .null) := rfl
theorem f_107_41 : px_at 107 41 = some (.iload_n 3, 1, 0, 0, .null) := rfl
theorem f_107_42 : px_at 107 42 = some (.tableswitch 62 0 3 #[30, 38, 46, 54], 30, 0, 0, .null) := rfl
theorem f_107_72 : px_at 107 72 = some (.aload 4, 2, 0, 0, .null) := rfl
theorem f_107_74 : px_at 107 74 = some (.getfield 239, 3, 10, 1, .null) := rfl
theorem f_107_77 : px_at 107 77 = some (.iload_n 2, 1, 0, 0, .null) := rfl
theorem f_107_78 : px_at 107 78 = some (.iaload, 1, 0, 0, .null) := rfl
theorem f_107_79 : px_at 107 79 = some (.ireturn, 1, 0, 0, .null) := rfl
theorem f_107_80 : px_at 107 80 = some (.aload 4, 2, 0, 0, .null) := rfl
theorem f_107_82 : px_at 107 82 = some (.getfield 242, 3, 10, 2, .null) := rfl
theorem f_107_85 : px_at 107 85 = some (.iload_n 2, 1, 0, 0, .null) := rfl
theorem f_107_86 : px_at 107 86 = some (.iaload, 1, 0, 0, .null) := rfl
theorem f_107_87 : px_at 107 87 = some (.ireturn, 1, 0, 0, .null) := rfl
theorem f_107_88 : px_at 107 88 = some (.aload 4, 2, 0, 0, .null) := rfl
theorem f_107_90 : px_at 107 90 = some (.getfield 245, 3, 10, 3, .null) := rfl
theorem f_107_93 : px_at 107 93 = some (.iload_n 2, 1, 0, 0, .null) := rfl
theorem f_107_94 : px_at 107 94 = some (.iaload, 1, 0, 0, .null) := rfl
theorem f_107_95 : px_at 107 95 = some (.ireturn, 1, 0, 0, .null) := rfl
theorem f_107_96 : px_at 107 96 = some (.aload 4, 2, 0, 0, .null) := rfl
theorem f_107_98 : px_at 107 98 = some (.getfield 248, 3, 10, 4, .null) := rfl
theorem f_107_101 : px_at 107 101 = some (.iload_n 2, 1, 0, 0, .null) := rfl
theorem f_107_102 : px_at 107 102 = some (.iaload, 1, 0, 0, .null) := rfl
theorem f_107_103 : px_at 107 103 = some (.ireturn, 1, 0, 0, .null) := rfl
theorem f_107_104 : px_at 107 104 = some (.iconst (-1), 1, 0, 0, .null) := rfl
theorem f_107_105 : px_at 107 105 = some (.ireturn, 1, 0, 0, .null) := rfl

theorem f_108_0 : px_at 108 0 = some (.iload_n 1, 1, 0, 0, .null) := rfl
theorem f_108_1 : px_at 108 1 = some (.ifCond .lt 17, 3, 18, 0, .null) := rfl
theorem f_108_4 : px_at 108 4 = some (.iload_n 1, 1, 0, 0, .null) := rfl
theorem f_108_5 : px_at 108 5 = some (.aload_n 0, 1, 0, 0, .null) := rfl
theorem f_108_6 : px_at 108 6 = some (.getfield 20, 3, 11, 2, .null) := rfl
theorem f_108_9 : px_at 108 9 = some (.getfield 113, 3, 8, 0, .null) := rfl
theorem f_108_12 : px_at 108 12 = some (.getfield 116, 3, 0, 0, .null) := rfl
theorem f_108_15 : px_at 108 15 = some (.if_icmp .lt 5, 3, 20, 0, .null) := rfl
theorem f_108_18 : px_at 108 18 = some (.iconst (-1), 1, 0, 0, .null) := rfl
theorem f_108_19 : px_at 108 19 = some (.ireturn, 1, 0, 0, .null) := rfl
theorem f_108_20 : px_at 108 20 = some (.iload_n 2, 1, 0, 0, .null) := rfl
theorem f_108_21 : px_at 108 21 = some (.tableswitch 66 0 2 #[27, 40, 53], 27, 0, 0, .null) := rfl
theorem f_108_48 : px_at 108 48 = some (.aload_n 0, 1, 0, 0, .null) := rfl
theorem f_108_49 : px_at 108 49 = some (.getfield 20, 3, 11, 2, .null) := rfl
theorem f_108_52 : px_at 108 52 = some (.getfield 113, 3, 8, 0, .null) := rfl
theorem f_108_55 : px_at 108 55 = some (.getfield 251, 3, 0, 1, .null) := rfl
theorem f_108_58 : px_at 108 58 = some (.iload_n 1, 1, 0, 0, .null) := rfl
theorem f_108_59 : px_at 108 59 = some (.iaload, 1, 0, 0, .null) := rfl
theorem f_108_60 : px_at 108 60 = some (.ireturn, 1, 0, 0, .null) := rfl
theorem f_108_61 : px_at 108 61 = some (.aload_n 0, 1, 0, 0, .null) := rfl
theorem f_108_62 : px_at 108 62 = some (.getfield 20, 3, 11, 2, .null) := rfl
theorem f_108_65 : px_at 108 65 = some (.getfield 113, 3, 8, 0, .null) := rfl
theorem f_108_68 : px_at 108 68 = some (.getfield 252, 3, 0, 3, .null) := rfl
theorem f_108_71 : px_at 108 71 = some (.iload_n 1, 1, 0, 0, .null) := rfl
theorem f_108_72 : px_at 108 72 = some (.iaload, 1, 0, 0, .null) := rfl
theorem f_108_73 : px_at 108 73 = some (.ireturn, 1, 0, 0, .null) := rfl
theorem f_108_74 : px_at 108 74 = some (.aload_n 0, 1, 0, 0, .null) := rfl
theorem f_108_75 : px_at 108 75 = some (.getfield 20, 3, 11, 2, .null) := rfl
theorem f_108_78 : px_at 108 78 = some (.getfield 113, 3, 8, 0, .null) := rfl
theorem f_108_81 : px_at 108 81 = some (.getfield 255, 3, 0, 2, .null) := rfl
theorem f_108_84 : px_at 108 84 = some (.iload_n 1, 1, 0, 0, .null) := rfl
theorem f_108_85 : px_at 108 85 = some (.iaload, 1, 0, 0, .null) := rfl
theorem f_108_86 : px_at 108 86 = some (.ireturn, 1, 0, 0, .null) := rfl
theorem f_108_87 : px_at 108 87 = some (.iconst (-1), 1, 0, 0, .null) := rfl
theorem f_108_88 : px_at 108 88 = some (.ireturn, 1, 0, 0, .null) := rfl

theorem f_109_0 : px_at 109 0 = some (.iload_n 1, 1, 0, 0, .null) := rfl
theorem f_109_1 : px_at 109 1 = some (.ifCond .lt 18, 3, 19, 0, .null) := rfl
theorem f_109_4 : px_at 109 4 = some (.iload_n 1, 1, 0, 0, .null) := rfl
theorem f_109_5 : px_at 109 5 = some (.aload_n 0, 1, 0, 0, .null) := rfl
theorem f_109_6 : px_at 109 6 = some (.getfield 20, 3, 11, 2, .null) := rfl
theorem f_109_9 : px_at 109 9 = some (.getfield 110, 3, 8, 2, .null) := rfl
theorem f_109_12 : px_at 109 12 = some (.if_icmp .ge 7, 3, 19, 0, .null) := rfl
theorem f_109_15 : px_at 109 15 = some (.iconst 1, 1, 0, 0, .null) := rfl
theorem f_109_16 : px_at 109 16 = some (.goto 4, 3, 20, 0, .null) := rfl
theorem f_109_19 : px_at 109 19 = some (.iconst 0, 1, 0, 0, .null) := rfl
theorem f_109_20 : px_at 109 20 = some (.ireturn, 1, 0, 0, .null) := rfl

theorem f_110_0 : px_at 110 0 = some (.aload_n 0, 1, 0, 0, .null) := rfl
theorem f_110_1 : px_at 110 1 = some (.getfield 37, 3, 11, 5, .null) := rfl
theorem f_110_4 : px_at 110 4 = some (.getfield 107, 3, 6, 9, .null) := rfl
theorem f_110_7 : px_at 110 7 = some (.iload_n 1, 1, 0, 0, .null) := rfl
theorem f_110_8 : px_at 110 8 = some (.if_icmp .eq 54, 3, 62, 0, .null) := rfl
theorem f_110_11 : px_at 110 11 = some (.aload_n 0, 1, 0, 0, .null) := rfl
theorem f_110_12 : px_at 110 12 = some (.getfield 51, 3, 11, 7, .null) := rfl
theorem f_110_15 : px_at 110 15 = some (.aload_n 0, 1, 0, 0, .null) := rfl
theorem f_110_16 : px_at 110 16 = some (.getfield 20, 3, 11, 2, .null) := rfl
theorem f_110_19 : px_at 110 19 = some (.getfield 128, 3, 8, 1, .null) := rfl
theorem f_110_22 : px_at 110 22 = some (.iload_n 1, 1, 0, 0, .null) := rfl
theorem f_110_23 : px_at 110 23 = some (.aaload, 1, 0, 0, .null) := rfl
theorem f_110_24 : px_at 110 24 = some (.invokevirtual 258, 3, 20, 1, .null) := rfl
theorem f_110_27 : px_at 110 27 = some (.aload_n 0, 1, 0, 0, .null) := rfl
theorem f_110_28 : px_at 110 28 = some (.getfield 37, 3, 11, 5, .null) := rfl
theorem f_110_31 : px_at 110 31 = some (.aload_n 0, 1, 0, 0, .null) := rfl
theorem f_110_32 : px_at 110 32 = some (.getfield 20, 3, 11, 2, .null) := rfl
theorem f_110_35 : px_at 110 35 = some (.getfield 113, 3, 8, 0, .null) := rfl
theorem f_110_38 : px_at 110 38 = some (.aload_n 0, 1, 0, 0, .null) := rfl
theorem f_110_39 : px_at 110 39 = some (.getfield 20, 3, 11, 2, .null) := rfl
theorem f_110_42 : px_at 110 42 = some (.getfield 128, 3, 8, 1, .null) := rfl
theorem f_110_45 : px_at 110 45 = some (.iload_n 1, 1, 0, 0, .null) := rfl
theorem f_110_46 : px_at 110 46 = some (.aaload, 1, 0, 0, .null) := rfl
theorem f_110_47 : px_at 110 47 = some (.aload_n 0, 1, 0, 0, .null) := rfl
theorem f_110_48 : px_at 110 48 = some (.getfield 51, 3, 11, 7, .null) := rfl
theorem f_110_51 : px_at 110 51 = some (.invokevirtual 261, 3, 48, 1, .null) := rfl
theorem f_110_54 : px_at 110 54 = some (.aload_n 0, 1, 0, 0, .null) := rfl
theorem f_110_55 : px_at 110 55 = some (.getfield 37, 3, 11, 5, .null) := rfl
theorem f_110_58 : px_at 110 58 = some (.iload_n 1, 1, 0, 0, .null) := rfl
theorem f_110_59 : px_at 110 59 = some (.putfield 107, 3, 6, 9, .null) := rfl
theorem f_110_62 : px_at 110 62 = some (.return_, 1, 0, 0, .null) := rfl

theorem f_111_0 : px_at 111 0 = some (.aload_n 0, 1, 0, 0, .null) := rfl
theorem f_111_1 : px_at 111 1 = some (.getfield 61, 3, 11, 9, .null) := rfl
theorem f_111_4 : px_at 111 4 = some (.aload_n 0, 1, 0, 0, .null) := rfl
theorem f_111_5 : px_at 111 5 = some (.getfield 20, 3, 11, 2, .null) := rfl
theorem f_111_8 : px_at 111 8 = some (.getfield 128, 3, 8, 1, .null) := rfl
theorem f_111_11 : px_at 111 11 = some (.iload_n 1, 1, 0, 0, .null) := rfl
theorem f_111_12 : px_at 111 12 = some (.aaload, 1, 0, 0, .null) := rfl
theorem f_111_13 : px_at 111 13 = some (.iconst 0, 1, 0, 0, .null) := rfl
theorem f_111_14 : px_at 111 14 = some (.invokevirtual 178, 3, 85, 1, .null) := rfl
theorem f_111_17 : px_at 111 17 = some (.aload_n 0, 1, 0, 0, .null) := rfl
theorem f_111_18 : px_at 111 18 = some (.getfield 20, 3, 11, 2, .null) := rfl
theorem f_111_21 : px_at 111 21 = some (.getfield 128, 3, 8, 1, .null) := rfl
theorem f_111_24 : px_at 111 24 = some (.iload_n 1, 1, 0, 0, .null) := rfl
theorem f_111_25 : px_at 111 25 = some (.aaload, 1, 0, 0, .null) := rfl
theorem f_111_26 : px_at 111 26 = some (.iconst 1, 1, 0, 0, .null) := rfl
theorem f_111_27 : px_at 111 27 = some (.invokevirtual 178, 3, 85, 1, .null) := rfl
theorem f_111_30 : px_at 111 30 = some (.invokevirtual 265, 3, 61, 1, .null) := rfl
theorem f_111_33 : px_at 111 33 = some (.return_, 1, 0, 0, .null) := rfl

theorem f_112_0 : px_at 112 0 = some (.aload_n 0, 1, 0, 0, .null) := rfl
theorem f_112_1 : px_at 112 1 = some (.getfield 51, 3, 11, 7, .null) := rfl
theorem f_112_4 : px_at 112 4 = some (.aload_n 1, 1, 0, 0, .null) := rfl
theorem f_112_5 : px_at 112 5 = some (.invokevirtual 269, 3, 21, 1, .null) := rfl
theorem f_112_8 : px_at 112 8 = some (.aload_n 0, 1, 0, 0, .null) := rfl
theorem f_112_9 : px_at 112 9 = some (.getfield 37, 3, 11, 5, .null) := rfl
theorem f_112_12 : px_at 112 12 = some (.aload_n 0, 1, 0, 0, .null) := rfl
theorem f_112_13 : px_at 112 13 = some (.getfield 20, 3, 11, 2, .null) := rfl
theorem f_112_16 : px_at 112 16 = some (.getfield 113, 3, 8, 0, .null) := rfl
theorem f_112_19 : px_at 112 19 = some (.aload_n 1, 1, 0, 0, .null) := rfl
theorem f_112_20 : px_at 112 20 = some (.aload_n 0, 1, 0, 0, .null) := rfl
theorem f_112_21 : px_at 112 21 = some (.getfield 51, 3, 11, 7, .null) := rfl
theorem f_112_24 : px_at 112 24 = some (.invokevirtual 261, 3, 48, 1, .null) := rfl
theorem f_112_27 : px_at 112 27 = some (.aload_n 0, 1, 0, 0, .null) := rfl
theorem f_112_28 : px_at 112 28 = some (.getfield 77, 3, 11, 11, .null) := rfl
theorem f_112_31 : px_at 112 31 = some (.aload_n 0, 1, 0, 0, .null) := rfl
theorem f_112_32 : px_at 112 32 = some (.getfield 37, 3, 11, 5, .null) := rfl
theorem f_112_35 : px_at 112 35 = some (.getfield 136, 3, 6, 3, .null) := rfl
theorem f_112_38 : px_at 112 38 = some (.invokevirtual 272, 3, 44, 1, .null) := rfl
theorem f_112_41 : px_at 112 41 = some (.aload_n 0, 1, 0, 0, .null) := rfl
theorem f_112_42 : px_at 112 42 = some (.aload_n 0, 1, 0, 0, .null) := rfl
theorem f_112_43 : px_at 112 43 = some (.getfield 37, 3, 11, 5, .null) := rfl
theorem f_112_46 : px_at 112 46 = some (.getfield 149, 3, 6, 7, .null) := rfl
theorem f_112_49 : px_at 112 49 = some (.bipush (-3), 2, 0, 0, .null) := rfl
theorem f_112_51 : px_at 112 51 = some (.if_icmp .eq 7, 3, 58, 0, .null) := rfl
theorem f_112_54 : px_at 112 54 = some (.iconst 1, 1, 0, 0, .null) := rfl
theorem f_112_55 : px_at 112 55 = some (.goto 4, 3, 59, 0, .null) := rfl
theorem f_112_58 : px_at 112 58 = some (.iconst 0, 1, 0, 0, .null) := rfl
theorem f_112_59 : px_at 112 59 = some (.putfield 81, 3, 11, 12, .null) := rfl
theorem f_112_62 : px_at 112 62 = some (.return_, 1, 0, 0, .null) := rfl

theorem f_113_0 : px_at 113 0 = some (.aload_n 0, 1, 0, 0, .null) := rfl
theorem f_113_1 : px_at 113 1 = some (.getfield 51, 3, 11, 7, .null) := rfl
theorem f_113_4 : px_at 113 4 = some (.aload_n 1, 1, 0, 0, .null) := rfl
theorem f_113_5 : px_at 113 5 = some (.iload_n 2, 1, 0, 0, .null) := rfl
theorem f_113_6 : px_at 113 6 = some (.invokevirtual 276, 3, 22, 1, .null) := rfl
theorem f_113_9 : px_at 113 9 = some (.aload_n 0, 1, 0, 0, .null) := rfl
theorem f_113_10 : px_at 113 10 = some (.getfield 37, 3, 11, 5, .null) := rfl
theorem f_113_13 : px_at 113 13 = some (.aload_n 0, 1, 0, 0, .null) := rfl
theorem f_113_14 : px_at 113 14 = some (.getfield 20, 3, 11, 2, .null) := rfl
theorem f_113_17 : px_at 113 17 = some (.getfield 113, 3, 8, 0, .null) := rfl
theorem f_113_20 : px_at 113 20 = some (.aload_n 1, 1, 0, 0, .null) := rfl
theorem f_113_21 : px_at 113 21 = some (.aload_n 0, 1, 0, 0, .null) := rfl
theorem f_113_22 : px_at 113 22 = some (.getfield 51, 3, 11, 7, .null) := rfl
theorem f_113_25 : px_at 113 25 = some (.invokevirtual 261, 3, 48, 1, .null) := rfl
theorem f_113_28 : px_at 113 28 = some (.aload_n 0, 1, 0, 0, .null) := rfl
theorem f_113_29 : px_at 113 29 = some (.getfield 37, 3, 11, 5, .null) := rfl
theorem f_113_32 : px_at 113 32 = some (.getfield 149, 3, 6, 7, .null) := rfl
theorem f_113_35 : px_at 113 35 = some (.bipush (-3), 2, 0, 0, .null) := rfl
theorem f_113_37 : px_at 113 37 = some (.if_icmp .eq 7, 3, 44, 0, .null) := rfl
theorem f_113_40 : px_at 113 40 = some (.iconst 1, 1, 0, 0, .null) := rfl
theorem f_113_41 : px_at 113 41 = some (.goto 4, 3, 45, 0, .null) := rfl
theorem f_113_44 : px_at 113 44 = some (.iconst 0, 1, 0, 0, .null) := rfl
theorem f_113_45 : px_at 113 45 = some (.istore_n 3, 1, 0, 0, .null) := rfl
theorem f_113_46 : px_at 113 46 = some (.iload_n 3, 1, 0, 0, .null) := rfl
theorem f_113_47 : px_at 113 47 = some (.aload_n 0, 1, 0, 0, .null) := rfl
theorem f_113_48 : px_at 113 48 = some (.getfield 81, 3, 11, 12, .null) := rfl
theorem f_113_51 : px_at 113 51 = some (.if_icmp .ne 28, 3, 79, 0, .null) := rfl
theorem f_113_54 : px_at 113 54 = some (.aload_n 0, 1, 0, 0, .null) := rfl
theorem f_113_55 : px_at 113 55 = some (.getfield 44, 3, 11, 6, .null) := rfl
theorem f_113_58 : px_at 113 58 = some (.aload_n 0, 1, 0, 0, .null) := rfl
theorem f_113_59 : px_at 113 59 = some (.getfield 77, 3, 11, 11, .null) := rfl
theorem f_113_62 : px_at 113 62 = some (.aload_n 0, 1, 0, 0, .null) := rfl
theorem f_113_63 : px_at 113 63 = some (.getfield 37, 3, 11, 5, .null) := rfl
theorem f_113_66 : px_at 113 66 = some (.getfield 136, 3, 6, 3, .null) := rfl
theorem f_113_69 : px_at 113 69 = some (.invokevirtual 280, 3, 12, 1, .null) := rfl
theorem f_113_72 : px_at 113 72 = some (.ifCond .eq 7, 3, 79, 0, .null) := rfl
theorem f_113_75 : px_at 113 75 = some (.iconst 1, 1, 0, 0, .null) := rfl
theorem f_113_76 : px_at 113 76 = some (.goto 4, 3, 80, 0, .null) := rfl
theorem f_113_79 : px_at 113 79 = some (.iconst 0, 1, 0, 0, .null) := rfl
theorem f_113_80 : px_at 113 80 = some (.ireturn, 1, 0, 0, .null) := rfl
