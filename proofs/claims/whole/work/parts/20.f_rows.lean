theorem f_39_0 : px_at 39 0 = some (.aload_n 0, 1, 0, 0, .null) := rfl
theorem f_39_1 : px_at 39 1 = some (.getfield 9, 3, 5, 1, .null) := rfl
theorem f_39_4 : px_at 39 4 = some (.aload_n 0, 1, 0, 0, .null) := rfl
theorem f_39_5 : px_at 39 5 = some (.getfield 21, 3, 5, 0, .null) := rfl
theorem f_39_8 : px_at 39 8 = some (.arraylength, 1, 0, 0, .null) := rfl
theorem f_39_9 : px_at 39 9 = some (.if_icmp .ge 44, 3, 53, 0, .null) := rfl
theorem f_39_12 : px_at 39 12 = some (.iload_n 2, 1, 0, 0, .null) := rfl
theorem f_39_13 : px_at 39 13 = some (.i2l, 1, 0, 0, .null) := rfl
theorem f_39_14 : px_at 39 14 = some (.ldc2_w 27, 3, 0, 0, .long (-2147483648)) := rfl
theorem f_39_17 : px_at 39 17 = some (.lsub, 1, 0, 0, .null) := rfl
theorem f_39_18 : px_at 39 18 = some (.lstore 4, 2, 0, 0, .null) := rfl
theorem f_39_20 : px_at 39 20 = some (.aload_n 0, 1, 0, 0, .null) := rfl
theorem f_39_21 : px_at 39 21 = some (.getfield 21, 3, 5, 0, .null) := rfl
theorem f_39_24 : px_at 39 24 = some (.aload_n 0, 1, 0, 0, .null) := rfl
theorem f_39_25 : px_at 39 25 = some (.getfield 9, 3, 5, 1, .null) := rfl
theorem f_39_28 : px_at 39 28 = some (.iload_n 1, 1, 0, 0, .null) := rfl
theorem f_39_29 : px_at 39 29 = some (.i2l, 1, 0, 0, .null) := rfl
theorem f_39_30 : px_at 39 30 = some (.bipush 45, 2, 0, 0, .null) := rfl
theorem f_39_32 : px_at 39 32 = some (.lshl, 1, 0, 0, .null) := rfl
theorem f_39_33 : px_at 39 33 = some (.lload 4, 2, 0, 0, .null) := rfl
theorem f_39_35 : px_at 39 35 = some (.bipush 13, 2, 0, 0, .null) := rfl
theorem f_39_37 : px_at 39 37 = some (.lshl, 1, 0, 0, .null) := rfl
theorem f_39_38 : px_at 39 38 = some (.lor, 1, 0, 0, .null) := rfl
theorem f_39_39 : px_at 39 39 = some (.iload_n 3, 1, 0, 0, .null) := rfl
theorem f_39_40 : px_at 39 40 = some (.i2l, 1, 0, 0, .null) := rfl
theorem f_39_41 : px_at 39 41 = some (.lor, 1, 0, 0, .null) := rfl
theorem f_39_42 : px_at 39 42 = some (.lastore, 1, 0, 0, .null) := rfl
theorem f_39_43 : px_at 39 43 = some (.aload_n 0, 1, 0, 0, .null) := rfl
theorem f_39_44 : px_at 39 44 = some (.dup, 1, 0, 0, .null) := rfl
theorem f_39_45 : px_at 39 45 = some (.getfield 9, 3, 5, 1, .null) := rfl
theorem f_39_48 : px_at 39 48 = some (.iconst 1, 1, 0, 0, .null) := rfl
theorem f_39_49 : px_at 39 49 = some (.iadd, 1, 0, 0, .null) := rfl
theorem f_39_50 : px_at 39 50 = some (.putfield 9, 3, 5, 1, .null) := rfl
theorem f_39_53 : px_at 39 53 = some (.return_, 1, 0, 0, .null) := rfl

theorem f_40_0 : px_at 40 0 = some (.aload_n 0, 1, 0, 0, .null) := rfl
theorem f_40_1 : px_at 40 1 = some (.iconst 0, 1, 0, 0, .null) := rfl
theorem f_40_2 : px_at 40 2 = some (.aload_n 0, 1, 0, 0, .null) := rfl
theorem f_40_3 : px_at 40 3 = some (.getfield 9, 3, 5, 1, .null) := rfl
theorem f_40_6 : px_at 40 6 = some (.iload_n 1, 1, 0, 0, .null) := rfl
theorem f_40_7 : px_at 40 7 = some (.invokestatic 29, 3, 0, 12, .null) := rfl
theorem f_40_10 : px_at 40 10 = some (.invokestatic 15, 3, 0, 11, .null) := rfl
theorem f_40_13 : px_at 40 13 = some (.putfield 9, 3, 5, 1, .null) := rfl
theorem f_40_16 : px_at 40 16 = some (.return_, 1, 0, 0, .null) := rfl

theorem f_41_0 : px_at 41 0 = some (.iload_n 1, 1, 0, 0, .null) := rfl
theorem f_41_1 : px_at 41 1 = some (.ifCond .lt 11, 3, 12, 0, .null) := rfl
theorem f_41_4 : px_at 41 4 = some (.iload_n 1, 1, 0, 0, .null) := rfl
theorem f_41_5 : px_at 41 5 = some (.aload_n 0, 1, 0, 0, .null) := rfl
theorem f_41_6 : px_at 41 6 = some (.getfield 9, 3, 5, 1, .null) := rfl
theorem f_41_9 : px_at 41 9 = some (.if_icmp .lt 7, 3, 16, 0, .null) := rfl
theorem f_41_12 : px_at 41 12 = some (.iconst 0, 1, 0, 0, .null) := rfl
theorem f_41_13 : px_at 41 13 = some (.goto 13, 3, 26, 0, .null) := rfl
theorem f_41_16 : px_at 41 16 = some (.aload_n 0, 1, 0, 0, .null) := rfl
theorem f_41_17 : px_at 41 17 = some (.getfield 21, 3, 5, 0, .null) := rfl
theorem f_41_20 : px_at 41 20 = some (.iload_n 1, 1, 0, 0, .null) := rfl
theorem f_41_21 : px_at 41 21 = some (.laload, 1, 0, 0, .null) := rfl
theorem f_41_22 : px_at 41 22 = some (.bipush 45, 2, 0, 0, .null) := rfl
theorem f_41_24 : px_at 41 24 = some (.lshr, 1, 0, 0, .null) := rfl
theorem f_41_25 : px_at 41 25 = some (.l2i, 1, 0, 0, .null) := rfl
theorem f_41_26 : px_at 41 26 = some (.ireturn, 1, 0, 0, .null) := rfl

theorem f_42_0 : px_at 42 0 = some (.iload_n 1, 1, 0, 0, .null) := rfl
theorem f_42_1 : px_at 42 1 = some (.ifCond .lt 11, 3, 12, 0, .null) := rfl
theorem f_42_4 : px_at 42 4 = some (.iload_n 1, 1, 0, 0, .null) := rfl
theorem f_42_5 : px_at 42 5 = some (.aload_n 0, 1, 0, 0, .null) := rfl
theorem f_42_6 : px_at 42 6 = some (.getfield 9, 3, 5, 1, .null) := rfl
theorem f_42_9 : px_at 42 9 = some (.if_icmp .lt 7, 3, 16, 0, .null) := rfl
theorem f_42_12 : px_at 42 12 = some (.iconst 0, 1, 0, 0, .null) := rfl
theorem f_42_13 : px_at 42 13 = some (.goto 16, 3, 29, 0, .null) := rfl
theorem f_42_16 : px_at 42 16 = some (.aload_n 0, 1, 0, 0, .null) := rfl
theorem f_42_17 : px_at 42 17 = some (.getfield 21, 3, 5, 0, .null) := rfl
theorem f_42_20 : px_at 42 20 = some (.iload_n 1, 1, 0, 0, .null) := rfl
theorem f_42_21 : px_at 42 21 = some (.laload, 1, 0, 0, .null) := rfl
theorem f_42_22 : px_at 42 22 = some (.bipush 13, 2, 0, 0, .null) := rfl
theorem f_42_24 : px_at 42 24 = some (.lshr, 1, 0, 0, .null) := rfl
theorem f_42_25 : px_at 42 25 = some (.l2i, 1, 0, 0, .null) := rfl
theorem f_42_26 : px_at 42 26 = some (.ldc 32, 2, 0, 0, .int (-2147483648)) := rfl
theorem f_42_28 : px_at 42 28 = some (.iadd, 1, 0, 0, .null) := rfl
theorem f_42_29 : px_at 42 29 = some (.ireturn, 1, 0, 0, .null) := rfl

theorem f_43_0 : px_at 43 0 = some (.iload_n 1, 1, 0, 0, .null) := rfl
theorem f_43_1 : px_at 43 1 = some (.ifCond .lt 11, 3, 12, 0, .null) := rfl
theorem f_43_4 : px_at 43 4 = some (.iload_n 1, 1, 0, 0, .null) := rfl
theorem f_43_5 : px_at 43 5 = some (.aload_n 0, 1, 0, 0, .null) := rfl
theorem f_43_6 : px_at 43 6 = some (.getfield 9, 3, 5, 1, .null) := rfl
theorem f_43_9 : px_at 43 9 = some (.if_icmp .lt 7, 3, 16, 0, .null) := rfl
theorem f_43_12 : px_at 43 12 = some (.iconst 0, 1, 0, 0, .null) := rfl
theorem f_43_13 : px_at 43 13 = some (.goto 14, 3, 27, 0, .null) := rfl
theorem f_43_16 : px_at 43 16 = some (.aload_n 0, 1, 0, 0, .null) := rfl
theorem f_43_17 : px_at 43 17 = some (.getfield 21, 3, 5, 0, .null) := rfl
theorem f_43_20 : px_at 43 20 = some (.iload_n 1, 1, 0, 0, .null) := rfl
theorem f_43_21 : px_at 43 21 = some (.laload, 1, 0, 0, .null) := rfl
theorem f_43_22 : px_at 43 22 = some (.l2i, 1, 0, 0, .null) := rfl
theorem f_43_23 : px_at 43 23 = some (.sipush 8191, 3, 0, 0, .null) := rfl
theorem f_43_26 : px_at 43 26 = some (.iand, 1, 0, 0, .null) := rfl
theorem f_43_27 : px_at 43 27 = some (.ireturn, 1, 0, 0, .null) := rfl

theorem f_45_0 : px_at 45 0 = some (.aload_n 0, 1, 0, 0, .null) := rfl
theorem f_45_1 : px_at 45 1 = some (.getfield 9, 3, 5, 1, .null) := rfl
theorem f_45_4 : px_at 45 4 = some (.aload_n 1, 1, 0, 0, .null) := rfl
theorem f_45_5 : px_at 45 5 = some (.getfield 9, 3, 5, 1, .null) := rfl
theorem f_45_8 : px_at 45 8 = some (.invokestatic 29, 3, 0, 12, .null) := rfl
theorem f_45_11 : px_at 45 11 = some (.istore_n 2, 1, 0, 0, .null) := rfl
theorem f_45_12 : px_at 45 12 = some (.iconst 0, 1, 0, 0, .null) := rfl
theorem f_45_13 : px_at 45 13 = some (.istore_n 3, 1, 0, 0, .null) := rfl
theorem f_45_14 : px_at 45 14 = some (.iload_n 3, 1, 0, 0, .null) := rfl
theorem f_45_15 : px_at 45 15 = some (.iload_n 2, 1, 0, 0, .null) := rfl
theorem f_45_16 : px_at 45 16 = some (.if_icmp .ge 27, 3, 43, 0, .null) := rfl
theorem f_45_19 : px_at 45 19 = some (.aload_n 0, 1, 0, 0, .null) := rfl
theorem f_45_20 : px_at 45 20 = some (.getfield 21, 3, 5, 0, .null) := rfl
theorem f_45_23 : px_at 45 23 = some (.iload_n 3, 1, 0, 0, .null) := rfl
theorem f_45_24 : px_at 45 24 = some (.laload, 1, 0, 0, .null) := rfl
theorem f_45_25 : px_at 45 25 = some (.aload_n 1, 1, 0, 0, .null) := rfl
theorem f_45_26 : px_at 45 26 = some (.getfield 21, 3, 5, 0, .null) := rfl
theorem f_45_29 : px_at 45 29 = some (.iload_n 3, 1, 0, 0, .null) := rfl
theorem f_45_30 : px_at 45 30 = some (.laload, 1, 0, 0, .null) := rfl
theorem f_45_31 : px_at 45 31 = some (.lcmp, 1, 0, 0, .null) := rfl
theorem f_45_32 : px_at 45 32 = some (.ifCond .eq 5, 3, 37, 0, .null) := rfl
theorem f_45_35 : px_at 45 35 = some (.iload_n 3, 1, 0, 0, .null) := rfl
theorem f_45_36 : px_at 45 36 = some (.ireturn, 1, 0, 0, .null) := rfl
theorem f_45_37 : px_at 45 37 = some (.iinc 3 1, 3, 0, 0, .null) := rfl
theorem f_45_40 : px_at 45 40 = some (.goto (-26), 3, 14, 0, .null) := rfl
theorem f_45_43 : px_at 45 43 = some (.aload_n 0, 1, 0, 0, .null) := rfl
theorem f_45_44 : px_at 45 44 = some (.getfield 9, 3, 5, 1, .null) := rfl
theorem f_45_47 : px_at 45 47 = some (.aload_n 1, 1, 0, 0, .null) := rfl
theorem f_45_48 : px_at 45 48 = some (.getfield 9, 3, 5, 1, .null) := rfl
theorem f_45_51 : px_at 45 51 = some (.if_icmp .ne 8, 3, 59, 0, .null) := rfl
theorem f_45_54 : px_at 45 54 = some (.bipush (-3), 2, 0, 0, .null) := rfl
theorem f_45_56 : px_at 45 56 = some (.goto 4, 3, 60, 0, .null) := rfl
theorem f_45_59 : px_at 45 59 = some (.iload_n 2, 1, 0, 0, .null) := rfl
theorem f_45_60 : px_at 45 60 = some (.ireturn, 1, 0, 0, .null) := rfl

theorem f_44_0 : px_at 44 0 = some (.aload_n 0, 1, 0, 0, .null) := rfl
theorem f_44_1 : px_at 44 1 = some (.iconst 0, 1, 0, 0, .null) := rfl
theorem f_44_2 : px_at 44 2 = some (.putfield 9, 3, 5, 1, .null) := rfl
theorem f_44_5 : px_at 44 5 = some (.iconst 0, 1, 0, 0, .null) := rfl
theorem f_44_6 : px_at 44 6 = some (.istore_n 2, 1, 0, 0, .null) := rfl
theorem f_44_7 : px_at 44 7 = some (.iload_n 2, 1, 0, 0, .null) := rfl
theorem f_44_8 : px_at 44 8 = some (.aload_n 1, 1, 0, 0, .null) := rfl
theorem f_44_9 : px_at 44 9 = some (.getfield 9, 3, 5, 1, .null) := rfl
theorem f_44_12 : px_at 44 12 = some (.if_icmp .ge 90, 3, 102, 0, .null) := rfl
theorem f_44_15 : px_at 44 15 = some (.iload_n 2, 1, 0, 0, .null) := rfl
theorem f_44_16 : px_at 44 16 = some (.aload_n 0, 1, 0, 0, .null) := rfl
theorem f_44_17 : px_at 44 17 = some (.getfield 21, 3, 5, 0, .null) := rfl
theorem f_44_20 : px_at 44 20 = some (.arraylength, 1, 0, 0, .null) := rfl
theorem f_44_21 : px_at 44 21 = some (.if_icmp .ge 81, 3, 102, 0, .null) := rfl
theorem f_44_24 : px_at 44 24 = some (.aload_n 1, 1, 0, 0, .null) := rfl
theorem f_44_25 : px_at 44 25 = some (.getfield 21, 3, 5, 0, .null) := rfl
theorem f_44_28 : px_at 44 28 = some (.iload_n 2, 1, 0, 0, .null) := rfl
theorem f_44_29 : px_at 44 29 = some (.laload, 1, 0, 0, .null) := rfl
theorem f_44_30 : px_at 44 30 = some (.lstore_n 3, 1, 0, 0, .null) := rfl
theorem f_44_31 : px_at 44 31 = some (.aload_n 0, 1, 0, 0, .null) := rfl
theorem f_44_32 : px_at 44 32 = some (.getfield 9, 3, 5, 1, .null) := rfl
theorem f_44_35 : px_at 44 35 = some (.istore 5, 2, 0, 0, .null) := rfl
theorem f_44_37 : px_at 44 37 = some (.iload 5, 2, 0, 0, .null) := rfl
theorem f_44_39 : px_at 44 39 = some (.ifCond .le 39, 3, 78, 0, .null) := rfl
theorem f_44_42 : px_at 44 42 = some (.aload_n 0, 1, 0, 0, .null) := rfl
theorem f_44_43 : px_at 44 43 = some (.getfield 21, 3, 5, 0, .null) := rfl
theorem f_44_46 : px_at 44 46 = some (.iload 5, 2, 0, 0, .null) := rfl
theorem f_44_48 : px_at 44 48 = some (.iconst 1, 1, 0, 0, .null) := rfl
theorem f_44_49 : px_at 44 49 = some (.isub, 1, 0, 0, .null) := rfl
theorem f_44_50 : px_at 44 50 = some (.laload, 1, 0, 0, .null) := rfl
theorem f_44_51 : px_at 44 51 = some (.lload_n 3, 1, 0, 0, .null) := rfl
theorem f_44_52 : px_at 44 52 = some (.lcmp, 1, 0, 0, .null) := rfl
theorem f_44_53 : px_at 44 53 = some (.ifCond .le 25, 3, 78, 0, .null) := rfl
theorem f_44_56 : px_at 44 56 = some (.aload_n 0, 1, 0, 0, .null) := rfl
theorem f_44_57 : px_at 44 57 = some (.getfield 21, 3, 5, 0, .null) := rfl
theorem f_44_60 : px_at 44 60 = some (.iload 5, 2, 0, 0, .null) := rfl
theorem f_44_62 : px_at 44 62 = some (.aload_n 0, 1, 0, 0, .null) := rfl
theorem f_44_63 : px_at 44 63 = some (.getfield 21, 3, 5, 0, .null) := rfl
theorem f_44_66 : px_at 44 66 = some (.iload 5, 2, 0, 0, .null) := rfl
theorem f_44_68 : px_at 44 68 = some (.iconst 1, 1, 0, 0, .null) := rfl
theorem f_44_69 : px_at 44 69 = some (.isub, 1, 0, 0, .null) := rfl
theorem f_44_70 : px_at 44 70 = some (.laload, 1, 0, 0, .null) := rfl
theorem f_44_71 : px_at 44 71 = some (.lastore, 1, 0, 0, .null) := rfl
theorem f_44_72 : px_at 44 72 = some (.iinc 5 (-1), 3, 0, 0, .null) := rfl
theorem f_44_75 : px_at 44 75 = some (.goto (-38), 3, 37, 0, .null) := rfl
theorem f_44_78 : px_at 44 78 = some (.aload_n 0, 1, 0, 0, .null) := rfl
theorem f_44_79 : px_at 44 79 = some (.getfield 21, 3, 5, 0, .null) := rfl
theorem f_44_82 : px_at 44 82 = some (.iload 5, 2, 0, 0, .null) := rfl
theorem f_44_84 : px_at 44 84 = some (.lload_n 3, 1, 0, 0, .null) := rfl
theorem f_44_85 : px_at 44 85 = some (.lastore, 1, 0, 0, .null) := rfl
theorem f_44_86 : px_at 44 86 = some (.aload_n 0, 1, 0, 0, .null) := rfl
theorem f_44_87 : px_at 44 87 = some (.dup, 1, 0, 0, .null) := rfl
theorem f_44_88 : px_at 44 88 = some (.getfield 9, 3, 5, 1, .null) := rfl
theorem f_44_91 : px_at 44 91 = some (.iconst 1, 1, 0, 0, .null) := rfl
theorem f_44_92 : px_at 44 92 = some (.iadd, 1, 0, 0, .null) := rfl
theorem f_44_93 : px_at 44 93 = some (.putfield 9, 3, 5, 1, .null) := rfl
theorem f_44_96 : px_at 44 96 = some (.iinc 2 1, 3, 0, 0, .null) := rfl
theorem f_44_99 : px_at 44 99 = some (.goto (-92), 3, 7, 0, .null) := rfl
theorem f_44_102 : px_at 44 102 = some (.return_, 1, 0, 0, .null) := rfl
