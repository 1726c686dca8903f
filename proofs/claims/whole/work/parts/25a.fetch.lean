theorem f_1_0 : px_at 1 0 = some (.aload_n 0, 1, 0, 0, .null) := rfl
theorem f_1_1 : px_at 1 1 = some (.getfield 9, 3, 0, 0, .null) := rfl
theorem f_1_4 : px_at 1 4 = some (.bipush 6, 2, 0, 0, .null) := rfl
theorem f_1_6 : px_at 1 6 = some (.if_icmp .ge 43, 3, 49, 0, .null) := rfl
theorem f_1_9 : px_at 1 9 = some (.aload_n 0, 1, 0, 0, .null) := rfl
theorem f_1_10 : px_at 1 10 = some (.getfield 15, 3, 0, 1, .null) := rfl
theorem f_1_13 : px_at 1 13 = some (.aload_n 0, 1, 0, 0, .null) := rfl
theorem f_1_14 : px_at 1 14 = some (.getfield 9, 3, 0, 0, .null) := rfl
theorem f_1_17 : px_at 1 17 = some (.iload_n 1, 1, 0, 0, .null) := rfl
theorem f_1_18 : px_at 1 18 = some (.iastore, 1, 0, 0, .null) := rfl
theorem f_1_19 : px_at 1 19 = some (.aload_n 0, 1, 0, 0, .null) := rfl
theorem f_1_20 : px_at 1 20 = some (.getfield 19, 3, 0, 2, .null) := rfl
theorem f_1_23 : px_at 1 23 = some (.aload_n 0, 1, 0, 0, .null) := rfl
theorem f_1_24 : px_at 1 24 = some (.getfield 9, 3, 0, 0, .null) := rfl
theorem f_1_27 : px_at 1 27 = some (.iload_n 2, 1, 0, 0, .null) := rfl
theorem f_1_28 : px_at 1 28 = some (.iastore, 1, 0, 0, .null) := rfl
theorem f_1_29 : px_at 1 29 = some (.aload_n 0, 1, 0, 0, .null) := rfl
theorem f_1_30 : px_at 1 30 = some (.getfield 22, 3, 0, 3, .null) := rfl
theorem f_1_33 : px_at 1 33 = some (.aload_n 0, 1, 0, 0, .null) := rfl
theorem f_1_34 : px_at 1 34 = some (.getfield 9, 3, 0, 0, .null) := rfl
theorem f_1_37 : px_at 1 37 = some (.iload_n 3, 1, 0, 0, .null) := rfl
theorem f_1_38 : px_at 1 38 = some (.iastore, 1, 0, 0, .null) := rfl
theorem f_1_39 : px_at 1 39 = some (.aload_n 0, 1, 0, 0, .null) := rfl
theorem f_1_40 : px_at 1 40 = some (.dup, 1, 0, 0, .null) := rfl
theorem f_1_41 : px_at 1 41 = some (.getfield 9, 3, 0, 0, .null) := rfl
theorem f_1_44 : px_at 1 44 = some (.iconst 1, 1, 0, 0, .null) := rfl
theorem f_1_45 : px_at 1 45 = some (.iadd, 1, 0, 0, .null) := rfl
theorem f_1_46 : px_at 1 46 = some (.putfield 9, 3, 0, 0, .null) := rfl
theorem f_1_49 : px_at 1 49 = some (.return_, 1, 0, 0, .null) := rfl

theorem f_2_0 : px_at 2 0 = some (.aload_n 0, 1, 0, 0, .null) := rfl
theorem f_2_1 : px_at 2 1 = some (.getfield 15, 3, 0, 1, .null) := rfl
theorem f_2_4 : px_at 2 4 = some (.iload_n 1, 1, 0, 0, .null) := rfl
theorem f_2_5 : px_at 2 5 = some (.iaload, 1, 0, 0, .null) := rfl
theorem f_2_6 : px_at 2 6 = some (.bipush 102, 2, 0, 0, .null) := rfl
theorem f_2_8 : px_at 2 8 = some (.if_icmp .ne 7, 3, 15, 0, .null) := rfl
theorem f_2_11 : px_at 2 11 = some (.iconst 2, 1, 0, 0, .null) := rfl
theorem f_2_12 : px_at 2 12 = some (.goto 19, 3, 31, 0, .null) := rfl
theorem f_2_15 : px_at 2 15 = some (.aload_n 0, 1, 0, 0, .null) := rfl
theorem f_2_16 : px_at 2 16 = some (.getfield 15, 3, 0, 1, .null) := rfl
theorem f_2_19 : px_at 2 19 = some (.iload_n 1, 1, 0, 0, .null) := rfl
theorem f_2_20 : px_at 2 20 = some (.iaload, 1, 0, 0, .null) := rfl
theorem f_2_21 : px_at 2 21 = some (.bipush 109, 2, 0, 0, .null) := rfl
theorem f_2_23 : px_at 2 23 = some (.if_icmp .ne 7, 3, 30, 0, .null) := rfl
theorem f_2_26 : px_at 2 26 = some (.iconst 3, 1, 0, 0, .null) := rfl
theorem f_2_27 : px_at 2 27 = some (.goto 4, 3, 31, 0, .null) := rfl
theorem f_2_30 : px_at 2 30 = some (.iconst 0, 1, 0, 0, .null) := rfl
theorem f_2_31 : px_at 2 31 = some (.ireturn, 1, 0, 0, .null) := rfl

theorem f_3_0 : px_at 3 0 = some (.aload_n 0, 1, 0, 0, .null) := rfl
theorem f_3_1 : px_at 3 1 = some (.getfield 15, 3, 0, 1, .null) := rfl
theorem f_3_4 : px_at 3 4 = some (.iload_n 1, 1, 0, 0, .null) := rfl
theorem f_3_5 : px_at 3 5 = some (.iaload, 1, 0, 0, .null) := rfl
theorem f_3_6 : px_at 3 6 = some (.lookupswitch 46 #[(100, 44), (102, 42), (109, 42), (115, 44)], 42, 0, 0, .null) := rfl
theorem f_3_48 : px_at 3 48 = some (.iconst 5, 1, 0, 0, .null) := rfl
theorem f_3_49 : px_at 3 49 = some (.ireturn, 1, 0, 0, .null) := rfl
theorem f_3_50 : px_at 3 50 = some (.iconst 1, 1, 0, 0, .null) := rfl
theorem f_3_51 : px_at 3 51 = some (.ireturn, 1, 0, 0, .null) := rfl
theorem f_3_52 : px_at 3 52 = some (.iconst 2, 1, 0, 0, .null) := rfl
theorem f_3_53 : px_at 3 53 = some (.ireturn, 1, 0, 0, .null) := rfl

theorem f_4_0 : px_at 4 0 = some (.iconst 0, 1, 0, 0, .null) := rfl
theorem f_4_1 : px_at 4 1 = some (.istore_n 1, 1, 0, 0, .null) := rfl
theorem f_4_2 : px_at 4 2 = some (.iconst 0, 1, 0, 0, .null) := rfl
theorem f_4_3 : px_at 4 3 = some (.istore_n 2, 1, 0, 0, .null) := rfl
theorem f_4_4 : px_at 4 4 = some (.iload_n 2, 1, 0, 0, .null) := rfl
theorem f_4_5 : px_at 4 5 = some (.aload_n 0, 1, 0, 0, .null) := rfl
theorem f_4_6 : px_at 4 6 = some (.getfield 9, 3, 0, 0, .null) := rfl
theorem f_4_9 : px_at 4 9 = some (.if_icmp .ge 17, 3, 26, 0, .null) := rfl
theorem f_4_12 : px_at 4 12 = some (.iload_n 1, 1, 0, 0, .null) := rfl
theorem f_4_13 : px_at 4 13 = some (.aload_n 0, 1, 0, 0, .null) := rfl
theorem f_4_14 : px_at 4 14 = some (.iload_n 2, 1, 0, 0, .null) := rfl
theorem f_4_15 : px_at 4 15 = some (.invokevirtual 25, 3, 3, 1, .null) := rfl
theorem f_4_18 : px_at 4 18 = some (.iadd, 1, 0, 0, .null) := rfl
theorem f_4_19 : px_at 4 19 = some (.istore_n 1, 1, 0, 0, .null) := rfl
theorem f_4_20 : px_at 4 20 = some (.iinc 2 1, 3, 0, 0, .null) := rfl
theorem f_4_23 : px_at 4 23 = some (.goto (-19), 3, 4, 0, .null) := rfl
theorem f_4_26 : px_at 4 26 = some (.iload_n 1, 1, 0, 0, .null) := rfl
theorem f_4_27 : px_at 4 27 = some (.ireturn, 1, 0, 0, .null) := rfl

theorem f_5_0 : px_at 5 0 = some (.iconst 0, 1, 0, 0, .null) := rfl
theorem f_5_1 : px_at 5 1 = some (.istore_n 2, 1, 0, 0, .null) := rfl
theorem f_5_2 : px_at 5 2 = some (.iconst 0, 1, 0, 0, .null) := rfl
theorem f_5_3 : px_at 5 3 = some (.istore_n 3, 1, 0, 0, .null) := rfl
theorem f_5_4 : px_at 5 4 = some (.iload_n 3, 1, 0, 0, .null) := rfl
theorem f_5_5 : px_at 5 5 = some (.aload_n 0, 1, 0, 0, .null) := rfl
theorem f_5_6 : px_at 5 6 = some (.getfield 9, 3, 0, 0, .null) := rfl
theorem f_5_9 : px_at 5 9 = some (.if_icmp .ge 24, 3, 33, 0, .null) := rfl
theorem f_5_12 : px_at 5 12 = some (.iload_n 2, 1, 0, 0, .null) := rfl
theorem f_5_13 : px_at 5 13 = some (.aload_n 0, 1, 0, 0, .null) := rfl
theorem f_5_14 : px_at 5 14 = some (.iload_n 3, 1, 0, 0, .null) := rfl
theorem f_5_15 : px_at 5 15 = some (.invokevirtual 25, 3, 3, 1, .null) := rfl
theorem f_5_18 : px_at 5 18 = some (.iadd, 1, 0, 0, .null) := rfl
theorem f_5_19 : px_at 5 19 = some (.istore_n 2, 1, 0, 0, .null) := rfl
theorem f_5_20 : px_at 5 20 = some (.iload_n 1, 1, 0, 0, .null) := rfl
theorem f_5_21 : px_at 5 21 = some (.iload_n 2, 1, 0, 0, .null) := rfl
theorem f_5_22 : px_at 5 22 = some (.if_icmp .ge 5, 3, 27, 0, .null) := rfl
theorem f_5_25 : px_at 5 25 = some (.iload_n 3, 1, 0, 0, .null) := rfl
theorem f_5_26 : px_at 5 26 = some (.ireturn, 1, 0, 0, .null) := rfl
theorem f_5_27 : px_at 5 27 = some (.iinc 3 1, 3, 0, 0, .null) := rfl
theorem f_5_30 : px_at 5 30 = some (.goto (-26), 3, 4, 0, .null) := rfl
theorem f_5_33 : px_at 5 33 = some (.bipush (-3), 2, 0, 0, .null) := rfl
theorem f_5_35 : px_at 5 35 = some (.ireturn, 1, 0, 0, .null) := rfl

theorem f_6_0 : px_at 6 0 = some (.iload_n 1, 1, 0, 0, .null) := rfl
theorem f_6_1 : px_at 6 1 = some (.istore_n 2, 1, 0, 0, .null) := rfl
theorem f_6_2 : px_at 6 2 = some (.iconst 0, 1, 0, 0, .null) := rfl
theorem f_6_3 : px_at 6 3 = some (.istore_n 3, 1, 0, 0, .null) := rfl
theorem f_6_4 : px_at 6 4 = some (.iload_n 3, 1, 0, 0, .null) := rfl
theorem f_6_5 : px_at 6 5 = some (.aload_n 0, 1, 0, 0, .null) := rfl
theorem f_6_6 : px_at 6 6 = some (.getfield 9, 3, 0, 0, .null) := rfl
theorem f_6_9 : px_at 6 9 = some (.if_icmp .ge 26, 3, 35, 0, .null) := rfl
theorem f_6_12 : px_at 6 12 = some (.iload_n 2, 1, 0, 0, .null) := rfl
theorem f_6_13 : px_at 6 13 = some (.aload_n 0, 1, 0, 0, .null) := rfl
theorem f_6_14 : px_at 6 14 = some (.iload_n 3, 1, 0, 0, .null) := rfl
theorem f_6_15 : px_at 6 15 = some (.invokevirtual 25, 3, 3, 1, .null) := rfl
theorem f_6_18 : px_at 6 18 = some (.if_icmp .lt 17, 3, 35, 0, .null) := rfl
theorem f_6_21 : px_at 6 21 = some (.iload_n 2, 1, 0, 0, .null) := rfl
theorem f_6_22 : px_at 6 22 = some (.aload_n 0, 1, 0, 0, .null) := rfl
theorem f_6_23 : px_at 6 23 = some (.iload_n 3, 1, 0, 0, .null) := rfl
theorem f_6_24 : px_at 6 24 = some (.invokevirtual 25, 3, 3, 1, .null) := rfl
theorem f_6_27 : px_at 6 27 = some (.isub, 1, 0, 0, .null) := rfl
theorem f_6_28 : px_at 6 28 = some (.istore_n 2, 1, 0, 0, .null) := rfl
theorem f_6_29 : px_at 6 29 = some (.iinc 3 1, 3, 0, 0, .null) := rfl
theorem f_6_32 : px_at 6 32 = some (.goto (-28), 3, 4, 0, .null) := rfl
theorem f_6_35 : px_at 6 35 = some (.iload_n 2, 1, 0, 0, .null) := rfl
theorem f_6_36 : px_at 6 36 = some (.ireturn, 1, 0, 0, .null) := rfl

theorem f_7_0 : px_at 7 0 = some (.aload_n 1, 1, 0, 0, .null) := rfl
theorem f_7_1 : px_at 7 1 = some (.iload_n 2, 1, 0, 0, .null) := rfl
theorem f_7_2 : px_at 7 2 = some (.invokevirtual 29, 3, 5, 1, .null) := rfl
theorem f_7_5 : px_at 7 5 = some (.istore_n 3, 1, 0, 0, .null) := rfl
theorem f_7_6 : px_at 7 6 = some (.aload_n 1, 1, 0, 0, .null) := rfl
theorem f_7_7 : px_at 7 7 = some (.iload_n 2, 1, 0, 0, .null) := rfl
theorem f_7_8 : px_at 7 8 = some (.invokevirtual 32, 3, 6, 1, .null) := rfl
theorem f_7_11 : px_at 7 11 = some (.istore 4, 2, 0, 0, .null) := rfl
theorem f_7_13 : px_at 7 13 = some (.aload_n 0, 1, 0, 0, .null) := rfl
theorem f_7_14 : px_at 7 14 = some (.iconst 0, 1, 0, 0, .null) := rfl
theorem f_7_15 : px_at 7 15 = some (.putfield 9, 3, 0, 0, .null) := rfl
theorem f_7_18 : px_at 7 18 = some (.iconst 0, 1, 0, 0, .null) := rfl
theorem f_7_19 : px_at 7 19 = some (.istore 5, 2, 0, 0, .null) := rfl
theorem f_7_21 : px_at 7 21 = some (.iload 5, 2, 0, 0, .null) := rfl
theorem f_7_23 : px_at 7 23 = some (.aload_n 1, 1, 0, 0, .null) := rfl
theorem f_7_24 : px_at 7 24 = some (.getfield 9, 3, 0, 0, .null) := rfl
theorem f_7_27 : px_at 7 27 = some (.if_icmp .ge 65, 3, 92, 0, .null) := rfl
theorem f_7_30 : px_at 7 30 = some (.iload 5, 2, 0, 0, .null) := rfl
theorem f_7_32 : px_at 7 32 = some (.iload_n 3, 1, 0, 0, .null) := rfl
theorem f_7_33 : px_at 7 33 = some (.if_icmp .eq 31, 3, 64, 0, .null) := rfl
theorem f_7_36 : px_at 7 36 = some (.aload_n 0, 1, 0, 0, .null) := rfl
theorem f_7_37 : px_at 7 37 = some (.aload_n 1, 1, 0, 0, .null) := rfl
theorem f_7_38 : px_at 7 38 = some (.getfield 15, 3, 0, 1, .null) := rfl
theorem f_7_41 : px_at 7 41 = some (.iload 5, 2, 0, 0, .null) := rfl
theorem f_7_43 : px_at 7 43 = some (.iaload, 1, 0, 0, .null) := rfl
theorem f_7_44 : px_at 7 44 = some (.aload_n 1, 1, 0, 0, .null) := rfl
theorem f_7_45 : px_at 7 45 = some (.getfield 19, 3, 0, 2, .null) := rfl
theorem f_7_48 : px_at 7 48 = some (.iload 5, 2, 0, 0, .null) := rfl
theorem f_7_50 : px_at 7 50 = some (.iaload, 1, 0, 0, .null) := rfl
theorem f_7_51 : px_at 7 51 = some (.aload_n 1, 1, 0, 0, .null) := rfl
theorem f_7_52 : px_at 7 52 = some (.getfield 22, 3, 0, 3, .null) := rfl
theorem f_7_55 : px_at 7 55 = some (.iload 5, 2, 0, 0, .null) := rfl
theorem f_7_57 : px_at 7 57 = some (.iaload, 1, 0, 0, .null) := rfl
theorem f_7_58 : px_at 7 58 = some (.invokevirtual 35, 3, 1, 1, .null) := rfl
theorem f_7_61 : px_at 7 61 = some (.goto 25, 3, 86, 0, .null) := rfl
theorem f_7_64 : px_at 7 64 = some (.iload 4, 2, 0, 0, .null) := rfl
theorem f_7_66 : px_at 7 66 = some (.aload_n 1, 1, 0, 0, .null) := rfl
theorem f_7_67 : px_at 7 67 = some (.iload 5, 2, 0, 0, .null) := rfl
theorem f_7_69 : px_at 7 69 = some (.invokevirtual 25, 3, 3, 1, .null) := rfl
theorem f_7_72 : px_at 7 72 = some (.iconst 1, 1, 0, 0, .null) := rfl
theorem f_7_73 : px_at 7 73 = some (.isub, 1, 0, 0, .null) := rfl
theorem f_7_74 : px_at 7 74 = some (.if_icmp .ge 12, 3, 86, 0, .null) := rfl
theorem f_7_77 : px_at 7 77 = some (.aload_n 0, 1, 0, 0, .null) := rfl
theorem f_7_78 : px_at 7 78 = some (.aload_n 1, 1, 0, 0, .null) := rfl
theorem f_7_79 : px_at 7 79 = some (.iload 5, 2, 0, 0, .null) := rfl
theorem f_7_81 : px_at 7 81 = some (.iload 4, 2, 0, 0, .null) := rfl
theorem f_7_83 : px_at 7 83 = some (.invokevirtual 39, 3, 8, 1, .null) := rfl
theorem f_7_86 : px_at 7 86 = some (.iinc 5 1, 3, 0, 0, .null) := rfl
theorem f_7_89 : px_at 7 89 = some (.goto (-68), 3, 21, 0, .null) := rfl
theorem f_7_92 : px_at 7 92 = some (.return_, 1, 0, 0, .null) := rfl

theorem f_8_0 : px_at 8 0 = some (.aload_n 1, 1, 0, 0, .null) := rfl
theorem f_8_1 : px_at 8 1 = some (.iload_n 2, 1, 0, 0, .null) := rfl
theorem f_8_2 : px_at 8 2 = some (.invokevirtual 43, 3, 2, 1, .null) := rfl
theorem f_8_5 : px_at 8 5 = some (.istore 4, 2, 0, 0, .null) := rfl
theorem f_8_7 : px_at 8 7 = some (.iload_n 3, 1, 0, 0, .null) := rfl
theorem f_8_8 : px_at 8 8 = some (.iload 4, 2, 0, 0, .null) := rfl
theorem f_8_10 : px_at 8 10 = some (.if_icmp .ge 88, 3, 98, 0, .null) := rfl
theorem f_8_13 : px_at 8 13 = some (.aload_n 1, 1, 0, 0, .null) := rfl
theorem f_8_14 : px_at 8 14 = some (.getfield 15, 3, 0, 1, .null) := rfl
theorem f_8_17 : px_at 8 17 = some (.iload_n 2, 1, 0, 0, .null) := rfl
theorem f_8_18 : px_at 8 18 = some (.iaload, 1, 0, 0, .null) := rfl
theorem f_8_19 : px_at 8 19 = some (.bipush 102, 2, 0, 0, .null) := rfl
theorem f_8_21 : px_at 8 21 = some (.if_icmp .ne 8, 3, 29, 0, .null) := rfl
theorem f_8_24 : px_at 8 24 = some (.ldc 46, 2, 0, 0, .ref 1) := rfl
theorem f_8_26 : px_at 8 26 = some (.goto 5, 3, 31, 0, .null) := rfl
theorem f_8_29 : px_at 8 29 = some (.ldc 48, 2, 0, 0, .ref 2) := rfl
theorem f_8_31 : px_at 8 31 = some (.astore 5, 2, 0, 0, .null) := rfl
theorem f_8_33 : px_at 8 33 = some (.iload_n 3, 1, 0, 0, .null) := rfl
theorem f_8_34 : px_at 8 34 = some (.aload 5, 2, 0, 0, .null) := rfl
theorem f_8_36 : px_at 8 36 = some (.aload_n 1, 1, 0, 0, .null) := rfl
theorem f_8_37 : px_at 8 37 = some (.getfield 19, 3, 0, 2, .null) := rfl
theorem f_8_40 : px_at 8 40 = some (.iload_n 2, 1, 0, 0, .null) := rfl
theorem f_8_41 : px_at 8 41 = some (.iaload, 1, 0, 0, .null) := rfl
theorem f_8_42 : px_at 8 42 = some (.i2c, 1, 0, 0, .null) := rfl
theorem f_8_43 : px_at 8 43 = some (.invokevirtual 50, 3, 210, 1, .null) := rfl
theorem f_8_46 : px_at 8 46 = some (.if_icmp .ge 7, 3, 53, 0, .null) := rfl
theorem f_8_49 : px_at 8 49 = some (.iload_n 3, 1, 0, 0, .null) := rfl
theorem f_8_50 : px_at 8 50 = some (.goto 6, 3, 56, 0, .null) := rfl
theorem f_8_53 : px_at 8 53 = some (.iload_n 3, 1, 0, 0, .null) := rfl
theorem f_8_54 : px_at 8 54 = some (.iconst 1, 1, 0, 0, .null) := rfl
theorem f_8_55 : px_at 8 55 = some (.iadd, 1, 0, 0, .null) := rfl
theorem f_8_56 : px_at 8 56 = some (.istore 6, 2, 0, 0, .null) := rfl
theorem f_8_58 : px_at 8 58 = some (.aload_n 0, 1, 0, 0, .null) := rfl
theorem f_8_59 : px_at 8 59 = some (.aload_n 1, 1, 0, 0, .null) := rfl
theorem f_8_60 : px_at 8 60 = some (.getfield 15, 3, 0, 1, .null) := rfl
theorem f_8_63 : px_at 8 63 = some (.iload_n 2, 1, 0, 0, .null) := rfl
theorem f_8_64 : px_at 8 64 = some (.iaload, 1, 0, 0, .null) := rfl
theorem f_8_65 : px_at 8 65 = some (.iload 6, 2, 0, 0, .null) := rfl
theorem f_8_67 : px_at 8 67 = some (.aload 5, 2, 0, 0, .null) := rfl
theorem f_8_69 : px_at 8 69 = some (.invokevirtual 55, 3, 208, 1, .null) := rfl
theorem f_8_72 : px_at 8 72 = some (.if_icmp .ge 13, 3, 85, 0, .null) := rfl
theorem f_8_75 : px_at 8 75 = some (.aload 5, 2, 0, 0, .null) := rfl
theorem f_8_77 : px_at 8 77 = some (.iload 6, 2, 0, 0, .null) := rfl
theorem f_8_79 : px_at 8 79 = some (.invokevirtual 59, 3, 209, 1, .null) := rfl
theorem f_8_82 : px_at 8 82 = some (.goto 4, 3, 86, 0, .null) := rfl
theorem f_8_85 : px_at 8 85 = some (.iconst 0, 1, 0, 0, .null) := rfl
theorem f_8_86 : px_at 8 86 = some (.aload_n 1, 1, 0, 0, .null) := rfl
theorem f_8_87 : px_at 8 87 = some (.getfield 22, 3, 0, 3, .null) := rfl
theorem f_8_90 : px_at 8 90 = some (.iload_n 2, 1, 0, 0, .null) := rfl
theorem f_8_91 : px_at 8 91 = some (.iaload, 1, 0, 0, .null) := rfl
theorem f_8_92 : px_at 8 92 = some (.invokevirtual 35, 3, 1, 1, .null) := rfl
theorem f_8_95 : px_at 8 95 = some (.goto 37, 3, 132, 0, .null) := rfl
theorem f_8_98 : px_at 8 98 = some (.aload_n 0, 1, 0, 0, .null) := rfl
theorem f_8_99 : px_at 8 99 = some (.aload_n 1, 1, 0, 0, .null) := rfl
theorem f_8_100 : px_at 8 100 = some (.getfield 15, 3, 0, 1, .null) := rfl
theorem f_8_103 : px_at 8 103 = some (.iload_n 2, 1, 0, 0, .null) := rfl
theorem f_8_104 : px_at 8 104 = some (.iaload, 1, 0, 0, .null) := rfl
theorem f_8_105 : px_at 8 105 = some (.aload_n 1, 1, 0, 0, .null) := rfl
theorem f_8_106 : px_at 8 106 = some (.getfield 19, 3, 0, 2, .null) := rfl
theorem f_8_109 : px_at 8 109 = some (.iload_n 2, 1, 0, 0, .null) := rfl
theorem f_8_110 : px_at 8 110 = some (.iaload, 1, 0, 0, .null) := rfl
theorem f_8_111 : px_at 8 111 = some (.aload_n 1, 1, 0, 0, .null) := rfl
theorem f_8_112 : px_at 8 112 = some (.getfield 22, 3, 0, 3, .null) := rfl
theorem f_8_115 : px_at 8 115 = some (.iload_n 2, 1, 0, 0, .null) := rfl
theorem f_8_116 : px_at 8 116 = some (.iaload, 1, 0, 0, .null) := rfl
theorem f_8_117 : px_at 8 117 = some (.iload_n 3, 1, 0, 0, .null) := rfl
theorem f_8_118 : px_at 8 118 = some (.iload 4, 2, 0, 0, .null) := rfl
theorem f_8_120 : px_at 8 120 = some (.if_icmp .ne 7, 3, 127, 0, .null) := rfl
theorem f_8_123 : px_at 8 123 = some (.iconst 1, 1, 0, 0, .null) := rfl
theorem f_8_124 : px_at 8 124 = some (.goto 4, 3, 128, 0, .null) := rfl
theorem f_8_127 : px_at 8 127 = some (.iconst (-1), 1, 0, 0, .null) := rfl
theorem f_8_128 : px_at 8 128 = some (.iadd, 1, 0, 0, .null) := rfl
theorem f_8_129 : px_at 8 129 = some (.invokevirtual 35, 3, 1, 1, .null) := rfl
theorem f_8_132 : px_at 8 132 = some (.return_, 1, 0, 0, .null) := rfl

theorem f_10_0 : px_at 10 0 = some (.aload_n 1, 1, 0, 0, .null) := rfl
theorem f_10_1 : px_at 10 1 = some (.getfield 23, 3, 10, 6, .null) := rfl
theorem f_10_4 : px_at 10 4 = some (.bipush 126, 2, 0, 0, .null) := rfl
theorem f_10_6 : px_at 10 6 = some (.if_icmp .eq 12, 3, 18, 0, .null) := rfl
theorem f_10_9 : px_at 10 9 = some (.aload_n 2, 1, 0, 0, .null) := rfl
theorem f_10_10 : px_at 10 10 = some (.aload_n 1, 1, 0, 0, .null) := rfl
theorem f_10_11 : px_at 10 11 = some (.getfield 29, 3, 10, 5, .null) := rfl
theorem f_10_14 : px_at 10 14 = some (.invokevirtual 32, 3, 45, 1, .null) := rfl
theorem f_10_17 : px_at 10 17 = some (.ireturn, 1, 0, 0, .null) := rfl
theorem f_10_18 : px_at 10 18 = some (.aload_n 0, 1, 0, 0, .null) := rfl
theorem f_10_19 : px_at 10 19 = some (.getfield 14, 3, 1, 0, .null) := rfl
theorem f_10_22 : px_at 10 22 = some (.aload_n 2, 1, 0, 0, .null) := rfl
theorem f_10_23 : px_at 10 23 = some (.invokevirtual 36, 3, 44, 1, .null) := rfl
theorem f_10_26 : px_at 10 26 = some (.aload_n 0, 1, 0, 0, .null) := rfl
theorem f_10_27 : px_at 10 27 = some (.getfield 20, 3, 1, 1, .null) := rfl
theorem f_10_30 : px_at 10 30 = some (.aload_n 1, 1, 0, 0, .null) := rfl
theorem f_10_31 : px_at 10 31 = some (.getfield 29, 3, 10, 5, .null) := rfl
theorem f_10_34 : px_at 10 34 = some (.invokevirtual 36, 3, 44, 1, .null) := rfl
theorem f_10_37 : px_at 10 37 = some (.aload_n 0, 1, 0, 0, .null) := rfl
theorem f_10_38 : px_at 10 38 = some (.getfield 14, 3, 1, 0, .null) := rfl
theorem f_10_41 : px_at 10 41 = some (.aload_n 0, 1, 0, 0, .null) := rfl
theorem f_10_42 : px_at 10 42 = some (.getfield 20, 3, 1, 1, .null) := rfl
theorem f_10_45 : px_at 10 45 = some (.invokevirtual 32, 3, 45, 1, .null) := rfl
theorem f_10_48 : px_at 10 48 = some (.ireturn, 1, 0, 0, .null) := rfl

theorem f_11_0 : px_at 11 0 = some (.aload_n 2, 1, 0, 0, .null) := rfl
theorem f_11_1 : px_at 11 1 = some (.getfield 40, 3, 6, 7, .null) := rfl
theorem f_11_4 : px_at 11 4 = some (.bipush (-3), 2, 0, 0, .null) := rfl
theorem f_11_6 : px_at 11 6 = some (.if_icmp .eq 7, 3, 13, 0, .null) := rfl
theorem f_11_9 : px_at 11 9 = some (.iconst 1, 1, 0, 0, .null) := rfl
theorem f_11_10 : px_at 11 10 = some (.goto 4, 3, 14, 0, .null) := rfl
theorem f_11_13 : px_at 11 13 = some (.iconst 0, 1, 0, 0, .null) := rfl
theorem f_11_14 : px_at 11 14 = some (.istore_n 3, 1, 0, 0, .null) := rfl
theorem f_11_15 : px_at 11 15 = some (.aload_n 0, 1, 0, 0, .null) := rfl
theorem f_11_16 : px_at 11 16 = some (.aload_n 1, 1, 0, 0, .null) := rfl
theorem f_11_17 : px_at 11 17 = some (.aload_n 2, 1, 0, 0, .null) := rfl
theorem f_11_18 : px_at 11 18 = some (.getfield 45, 3, 6, 3, .null) := rfl
theorem f_11_21 : px_at 11 21 = some (.invokevirtual 48, 3, 10, 1, .null) := rfl
theorem f_11_24 : px_at 11 24 = some (.bipush (-3), 2, 0, 0, .null) := rfl
theorem f_11_26 : px_at 11 26 = some (.if_icmp .ne 7, 3, 33, 0, .null) := rfl
theorem f_11_29 : px_at 11 29 = some (.iconst 1, 1, 0, 0, .null) := rfl
theorem f_11_30 : px_at 11 30 = some (.goto 4, 3, 34, 0, .null) := rfl
theorem f_11_33 : px_at 11 33 = some (.iconst 0, 1, 0, 0, .null) := rfl
theorem f_11_34 : px_at 11 34 = some (.istore 4, 2, 0, 0, .null) := rfl
theorem f_11_36 : px_at 11 36 = some (.aload_n 1, 1, 0, 0, .null) := rfl
theorem f_11_37 : px_at 11 37 = some (.getfield 23, 3, 10, 6, .null) := rfl
theorem f_11_40 : px_at 11 40 = some (.bipush 33, 2, 0, 0, .null) := rfl
theorem f_11_42 : px_at 11 42 = some (.if_icmp .ne 18, 3, 60, 0, .null) := rfl
theorem f_11_45 : px_at 11 45 = some (.iload_n 3, 1, 0, 0, .null) := rfl
theorem f_11_46 : px_at 11 46 = some (.ifCond .eq 12, 3, 58, 0, .null) := rfl
theorem f_11_49 : px_at 11 49 = some (.iload 4, 2, 0, 0, .null) := rfl
theorem f_11_51 : px_at 11 51 = some (.ifCond .eq 7, 3, 58, 0, .null) := rfl
theorem f_11_54 : px_at 11 54 = some (.iconst 1, 1, 0, 0, .null) := rfl
theorem f_11_55 : px_at 11 55 = some (.goto 4, 3, 59, 0, .null) := rfl
theorem f_11_58 : px_at 11 58 = some (.iconst 0, 1, 0, 0, .null) := rfl
theorem f_11_59 : px_at 11 59 = some (.ireturn, 1, 0, 0, .null) := rfl
theorem f_11_60 : px_at 11 60 = some (.iload_n 3, 1, 0, 0, .null) := rfl
theorem f_11_61 : px_at 11 61 = some (.ifCond .eq 7, 3, 68, 0, .null) := rfl
theorem f_11_64 : px_at 11 64 = some (.iconst 2, 1, 0, 0, .null) := rfl
theorem f_11_65 : px_at 11 65 = some (.goto 13, 3, 78, 0, .null) := rfl
theorem f_11_68 : px_at 11 68 = some (.iload 4, 2, 0, 0, .null) := rfl
theorem f_11_70 : px_at 11 70 = some (.ifCond .eq 7, 3, 77, 0, .null) := rfl
theorem f_11_73 : px_at 11 73 = some (.iconst 1, 1, 0, 0, .null) := rfl
theorem f_11_74 : px_at 11 74 = some (.goto 4, 3, 78, 0, .null) := rfl
theorem f_11_77 : px_at 11 77 = some (.iconst 0, 1, 0, 0, .null) := rfl
theorem f_11_78 : px_at 11 78 = some (.ireturn, 1, 0, 0, .null) := rfl

theorem f_12_0 : px_at 12 0 = some (.aload_n 1, 1, 0, 0, .null) := rfl
theorem f_12_1 : px_at 12 1 = some (.getfield 51, 3, 5, 1, .null) := rfl
theorem f_12_4 : px_at 12 4 = some (.aload_n 2, 1, 0, 0, .null) := rfl
theorem f_12_5 : px_at 12 5 = some (.getfield 51, 3, 5, 1, .null) := rfl
theorem f_12_8 : px_at 12 8 = some (.if_icmp .eq 5, 3, 13, 0, .null) := rfl
theorem f_12_11 : px_at 12 11 = some (.iconst 0, 1, 0, 0, .null) := rfl
theorem f_12_12 : px_at 12 12 = some (.ireturn, 1, 0, 0, .null) := rfl
theorem f_12_13 : px_at 12 13 = some (.aload_n 0, 1, 0, 0, .null) := rfl
theorem f_12_14 : px_at 12 14 = some (.getfield 14, 3, 1, 0, .null) := rfl
theorem f_12_17 : px_at 12 17 = some (.aload_n 2, 1, 0, 0, .null) := rfl
theorem f_12_18 : px_at 12 18 = some (.invokevirtual 36, 3, 44, 1, .null) := rfl
theorem f_12_21 : px_at 12 21 = some (.aload_n 0, 1, 0, 0, .null) := rfl
theorem f_12_22 : px_at 12 22 = some (.getfield 14, 3, 1, 0, .null) := rfl
theorem f_12_25 : px_at 12 25 = some (.aload_n 1, 1, 0, 0, .null) := rfl
theorem f_12_26 : px_at 12 26 = some (.invokevirtual 32, 3, 45, 1, .null) := rfl
theorem f_12_29 : px_at 12 29 = some (.bipush (-3), 2, 0, 0, .null) := rfl
theorem f_12_31 : px_at 12 31 = some (.if_icmp .ne 7, 3, 38, 0, .null) := rfl
theorem f_12_34 : px_at 12 34 = some (.iconst 1, 1, 0, 0, .null) := rfl
theorem f_12_35 : px_at 12 35 = some (.goto 4, 3, 39, 0, .null) := rfl
theorem f_12_38 : px_at 12 38 = some (.iconst 0, 1, 0, 0, .null) := rfl
theorem f_12_39 : px_at 12 39 = some (.ireturn, 1, 0, 0, .null) := rfl

theorem f_14_0 : px_at 14 0 = some (.aload_n 0, 1, 0, 0, .null) := rfl
theorem f_14_1 : px_at 14 1 = some (.iconst (-1), 1, 0, 0, .null) := rfl
theorem f_14_2 : px_at 14 2 = some (.putfield 9, 3, 2, 0, .null) := rfl
theorem f_14_5 : px_at 14 5 = some (.aload_n 0, 1, 0, 0, .null) := rfl
theorem f_14_6 : px_at 14 6 = some (.iconst (-1), 1, 0, 0, .null) := rfl
theorem f_14_7 : px_at 14 7 = some (.putfield 15, 3, 2, 1, .null) := rfl
theorem f_14_10 : px_at 14 10 = some (.aload_n 0, 1, 0, 0, .null) := rfl
theorem f_14_11 : px_at 14 11 = some (.iconst (-1), 1, 0, 0, .null) := rfl
theorem f_14_12 : px_at 14 12 = some (.putfield 18, 3, 2, 2, .null) := rfl
theorem f_14_15 : px_at 14 15 = some (.aload_n 0, 1, 0, 0, .null) := rfl
theorem f_14_16 : px_at 14 16 = some (.iconst 0, 1, 0, 0, .null) := rfl
theorem f_14_17 : px_at 14 17 = some (.putfield 21, 3, 2, 3, .null) := rfl
theorem f_14_20 : px_at 14 20 = some (.iconst 0, 1, 0, 0, .null) := rfl
theorem f_14_21 : px_at 14 21 = some (.istore_n 2, 1, 0, 0, .null) := rfl
theorem f_14_22 : px_at 14 22 = some (.iload_n 2, 1, 0, 0, .null) := rfl
theorem f_14_23 : px_at 14 23 = some (.iload_n 1, 1, 0, 0, .null) := rfl
theorem f_14_24 : px_at 14 24 = some (.if_icmp .ge 24, 3, 48, 0, .null) := rfl
theorem f_14_27 : px_at 14 27 = some (.iload_n 2, 1, 0, 0, .null) := rfl
theorem f_14_28 : px_at 14 28 = some (.bipush 6, 2, 0, 0, .null) := rfl
theorem f_14_30 : px_at 14 30 = some (.if_icmp .ge 18, 3, 48, 0, .null) := rfl
theorem f_14_33 : px_at 14 33 = some (.aload_n 0, 1, 0, 0, .null) := rfl
theorem f_14_34 : px_at 14 34 = some (.getfield 26, 3, 2, 4, .null) := rfl
theorem f_14_37 : px_at 14 37 = some (.iload_n 2, 1, 0, 0, .null) := rfl
theorem f_14_38 : px_at 14 38 = some (.aaload, 1, 0, 0, .null) := rfl
theorem f_14_39 : px_at 14 39 = some (.invokevirtual 31, 3, 69, 1, .null) := rfl
theorem f_14_42 : px_at 14 42 = some (.iinc 2 1, 3, 0, 0, .null) := rfl
theorem f_14_45 : px_at 14 45 = some (.goto (-23), 3, 22, 0, .null) := rfl
theorem f_14_48 : px_at 14 48 = some (.return_, 1, 0, 0, .null) := rfl

theorem f_15_0 : px_at 15 0 = some (.aload_n 0, 1, 0, 0, .null) := rfl
theorem f_15_1 : px_at 15 1 = some (.aload_n 1, 1, 0, 0, .null) := rfl
theorem f_15_2 : px_at 15 2 = some (.getfield 9, 3, 2, 0, .null) := rfl
theorem f_15_5 : px_at 15 5 = some (.putfield 9, 3, 2, 0, .null) := rfl
theorem f_15_8 : px_at 15 8 = some (.aload_n 0, 1, 0, 0, .null) := rfl
theorem f_15_9 : px_at 15 9 = some (.aload_n 1, 1, 0, 0, .null) := rfl
theorem f_15_10 : px_at 15 10 = some (.getfield 15, 3, 2, 1, .null) := rfl
theorem f_15_13 : px_at 15 13 = some (.putfield 15, 3, 2, 1, .null) := rfl
theorem f_15_16 : px_at 15 16 = some (.aload_n 0, 1, 0, 0, .null) := rfl
theorem f_15_17 : px_at 15 17 = some (.aload_n 1, 1, 0, 0, .null) := rfl
theorem f_15_18 : px_at 15 18 = some (.getfield 18, 3, 2, 2, .null) := rfl
theorem f_15_21 : px_at 15 21 = some (.putfield 18, 3, 2, 2, .null) := rfl
theorem f_15_24 : px_at 15 24 = some (.aload_n 0, 1, 0, 0, .null) := rfl
theorem f_15_25 : px_at 15 25 = some (.aload_n 1, 1, 0, 0, .null) := rfl
theorem f_15_26 : px_at 15 26 = some (.getfield 21, 3, 2, 3, .null) := rfl
theorem f_15_29 : px_at 15 29 = some (.putfield 21, 3, 2, 3, .null) := rfl
theorem f_15_32 : px_at 15 32 = some (.iconst 0, 1, 0, 0, .null) := rfl
theorem f_15_33 : px_at 15 33 = some (.istore_n 3, 1, 0, 0, .null) := rfl
theorem f_15_34 : px_at 15 34 = some (.iload_n 3, 1, 0, 0, .null) := rfl
theorem f_15_35 : px_at 15 35 = some (.iload_n 2, 1, 0, 0, .null) := rfl
theorem f_15_36 : px_at 15 36 = some (.if_icmp .ge 30, 3, 66, 0, .null) := rfl
theorem f_15_39 : px_at 15 39 = some (.iload_n 3, 1, 0, 0, .null) := rfl
theorem f_15_40 : px_at 15 40 = some (.bipush 6, 2, 0, 0, .null) := rfl
theorem f_15_42 : px_at 15 42 = some (.if_icmp .ge 24, 3, 66, 0, .null) := rfl
theorem f_15_45 : px_at 15 45 = some (.aload_n 0, 1, 0, 0, .null) := rfl
theorem f_15_46 : px_at 15 46 = some (.getfield 26, 3, 2, 4, .null) := rfl
theorem f_15_49 : px_at 15 49 = some (.iload_n 3, 1, 0, 0, .null) := rfl
theorem f_15_50 : px_at 15 50 = some (.aaload, 1, 0, 0, .null) := rfl
theorem f_15_51 : px_at 15 51 = some (.aload_n 1, 1, 0, 0, .null) := rfl
theorem f_15_52 : px_at 15 52 = some (.getfield 26, 3, 2, 4, .null) := rfl
theorem f_15_55 : px_at 15 55 = some (.iload_n 3, 1, 0, 0, .null) := rfl
theorem f_15_56 : px_at 15 56 = some (.aaload, 1, 0, 0, .null) := rfl
theorem f_15_57 : px_at 15 57 = some (.invokevirtual 34, 3, 70, 1, .null) := rfl
theorem f_15_60 : px_at 15 60 = some (.iinc 3 1, 3, 0, 0, .null) := rfl
theorem f_15_63 : px_at 15 63 = some (.goto (-29), 3, 34, 0, .null) := rfl
theorem f_15_66 : px_at 15 66 = some (.return_, 1, 0, 0, .null) := rfl

theorem f_16_0 : px_at 16 0 = some (.iload_n 1, 1, 0, 0, .null) := rfl
theorem f_16_1 : px_at 16 1 = some (.ifCond .eq 18, 3, 19, 0, .null) := rfl
theorem f_16_4 : px_at 16 4 = some (.aload_n 0, 1, 0, 0, .null) := rfl
theorem f_16_5 : px_at 16 5 = some (.aload_n 0, 1, 0, 0, .null) := rfl
theorem f_16_6 : px_at 16 6 = some (.getfield 15, 3, 2, 1, .null) := rfl
theorem f_16_9 : px_at 16 9 = some (.iload_n 2, 1, 0, 0, .null) := rfl
theorem f_16_10 : px_at 16 10 = some (.invokestatic 38, 3, 0, 11, .null) := rfl
theorem f_16_13 : px_at 16 13 = some (.putfield 15, 3, 2, 1, .null) := rfl
theorem f_16_16 : px_at 16 16 = some (.goto 15, 3, 31, 0, .null) := rfl
theorem f_16_19 : px_at 16 19 = some (.aload_n 0, 1, 0, 0, .null) := rfl
theorem f_16_20 : px_at 16 20 = some (.aload_n 0, 1, 0, 0, .null) := rfl
theorem f_16_21 : px_at 16 21 = some (.getfield 9, 3, 2, 0, .null) := rfl
theorem f_16_24 : px_at 16 24 = some (.iload_n 2, 1, 0, 0, .null) := rfl
theorem f_16_25 : px_at 16 25 = some (.invokestatic 38, 3, 0, 11, .null) := rfl
theorem f_16_28 : px_at 16 28 = some (.putfield 9, 3, 2, 0, .null) := rfl
theorem f_16_31 : px_at 16 31 = some (.return_, 1, 0, 0, .null) := rfl

theorem f_17_0 : px_at 17 0 = some (.iload_n 1, 1, 0, 0, .null) := rfl
theorem f_17_1 : px_at 17 1 = some (.ifCond .eq 19, 3, 20, 0, .null) := rfl
theorem f_17_4 : px_at 17 4 = some (.iload_n 2, 1, 0, 0, .null) := rfl
theorem f_17_5 : px_at 17 5 = some (.ifCond .eq 15, 3, 20, 0, .null) := rfl
theorem f_17_8 : px_at 17 8 = some (.aload_n 0, 1, 0, 0, .null) := rfl
theorem f_17_9 : px_at 17 9 = some (.getfield 9, 3, 2, 0, .null) := rfl
theorem f_17_12 : px_at 17 12 = some (.aload_n 0, 1, 0, 0, .null) := rfl
theorem f_17_13 : px_at 17 13 = some (.getfield 15, 3, 2, 1, .null) := rfl
theorem f_17_16 : px_at 17 16 = some (.invokestatic 44, 3, 0, 12, .null) := rfl
theorem f_17_19 : px_at 17 19 = some (.ireturn, 1, 0, 0, .null) := rfl
theorem f_17_20 : px_at 17 20 = some (.iload_n 1, 1, 0, 0, .null) := rfl
theorem f_17_21 : px_at 17 21 = some (.ifCond .eq 10, 3, 31, 0, .null) := rfl
theorem f_17_24 : px_at 17 24 = some (.aload_n 0, 1, 0, 0, .null) := rfl
theorem f_17_25 : px_at 17 25 = some (.getfield 9, 3, 2, 0, .null) := rfl
theorem f_17_28 : px_at 17 28 = some (.goto 15, 3, 43, 0, .null) := rfl
theorem f_17_31 : px_at 17 31 = some (.iload_n 2, 1, 0, 0, .null) := rfl
theorem f_17_32 : px_at 17 32 = some (.ifCond .eq 10, 3, 42, 0, .null) := rfl
theorem f_17_35 : px_at 17 35 = some (.aload_n 0, 1, 0, 0, .null) := rfl
theorem f_17_36 : px_at 17 36 = some (.getfield 15, 3, 2, 1, .null) := rfl
theorem f_17_39 : px_at 17 39 = some (.goto 4, 3, 43, 0, .null) := rfl
theorem f_17_42 : px_at 17 42 = some (.iconst (-1), 1, 0, 0, .null) := rfl
theorem f_17_43 : px_at 17 43 = some (.ireturn, 1, 0, 0, .null) := rfl

theorem f_19_0 : px_at 19 0 = some (.aload_n 0, 1, 0, 0, .null) := rfl
theorem f_19_1 : px_at 19 1 = some (.getfield 15, 3, 3, 1, .null) := rfl
theorem f_19_4 : px_at 19 4 = some (.bipush 24, 2, 0, 0, .null) := rfl
theorem f_19_6 : px_at 19 6 = some (.if_icmp .ge 23, 3, 29, 0, .null) := rfl
theorem f_19_9 : px_at 19 9 = some (.aload_n 0, 1, 0, 0, .null) := rfl
theorem f_19_10 : px_at 19 10 = some (.getfield 9, 3, 3, 0, .null) := rfl
theorem f_19_13 : px_at 19 13 = some (.aload_n 0, 1, 0, 0, .null) := rfl
theorem f_19_14 : px_at 19 14 = some (.getfield 15, 3, 3, 1, .null) := rfl
theorem f_19_17 : px_at 19 17 = some (.iload_n 1, 1, 0, 0, .null) := rfl
theorem f_19_18 : px_at 19 18 = some (.iastore, 1, 0, 0, .null) := rfl
theorem f_19_19 : px_at 19 19 = some (.aload_n 0, 1, 0, 0, .null) := rfl
theorem f_19_20 : px_at 19 20 = some (.dup, 1, 0, 0, .null) := rfl
theorem f_19_21 : px_at 19 21 = some (.getfield 15, 3, 3, 1, .null) := rfl
theorem f_19_24 : px_at 19 24 = some (.iconst 1, 1, 0, 0, .null) := rfl
theorem f_19_25 : px_at 19 25 = some (.iadd, 1, 0, 0, .null) := rfl
theorem f_19_26 : px_at 19 26 = some (.putfield 15, 3, 3, 1, .null) := rfl
theorem f_19_29 : px_at 19 29 = some (.return_, 1, 0, 0, .null) := rfl

theorem f_20_0 : px_at 20 0 = some (.aload_n 0, 1, 0, 0, .null) := rfl
theorem f_20_1 : px_at 20 1 = some (.iconst 0, 1, 0, 0, .null) := rfl
theorem f_20_2 : px_at 20 2 = some (.putfield 15, 3, 3, 1, .null) := rfl
theorem f_20_5 : px_at 20 5 = some (.iconst 0, 1, 0, 0, .null) := rfl
theorem f_20_6 : px_at 20 6 = some (.istore_n 2, 1, 0, 0, .null) := rfl
theorem f_20_7 : px_at 20 7 = some (.iload_n 2, 1, 0, 0, .null) := rfl
theorem f_20_8 : px_at 20 8 = some (.aload_n 1, 1, 0, 0, .null) := rfl
theorem f_20_9 : px_at 20 9 = some (.getfield 19, 3, 10, 0, .null) := rfl
theorem f_20_12 : px_at 20 12 = some (.if_icmp .ge 14, 3, 26, 0, .null) := rfl
theorem f_20_15 : px_at 20 15 = some (.aload_n 0, 1, 0, 0, .null) := rfl
theorem f_20_16 : px_at 20 16 = some (.iload_n 2, 1, 0, 0, .null) := rfl
theorem f_20_17 : px_at 20 17 = some (.invokevirtual 22, 3, 19, 1, .null) := rfl
theorem f_20_20 : px_at 20 20 = some (.iinc 2 1, 3, 0, 0, .null) := rfl
theorem f_20_23 : px_at 20 23 = some (.goto (-16), 3, 7, 0, .null) := rfl
theorem f_20_26 : px_at 20 26 = some (.return_, 1, 0, 0, .null) := rfl

theorem f_21_0 : px_at 21 0 = some (.aload_n 0, 1, 0, 0, .null) := rfl
theorem f_21_1 : px_at 21 1 = some (.iconst 0, 1, 0, 0, .null) := rfl
theorem f_21_2 : px_at 21 2 = some (.putfield 15, 3, 3, 1, .null) := rfl
theorem f_21_5 : px_at 21 5 = some (.iconst 0, 1, 0, 0, .null) := rfl
theorem f_21_6 : px_at 21 6 = some (.istore_n 2, 1, 0, 0, .null) := rfl
theorem f_21_7 : px_at 21 7 = some (.iload_n 2, 1, 0, 0, .null) := rfl
theorem f_21_8 : px_at 21 8 = some (.aload_n 1, 1, 0, 0, .null) := rfl
theorem f_21_9 : px_at 21 9 = some (.getfield 19, 3, 10, 0, .null) := rfl
theorem f_21_12 : px_at 21 12 = some (.if_icmp .ge 32, 3, 44, 0, .null) := rfl
theorem f_21_15 : px_at 21 15 = some (.aload_n 1, 1, 0, 0, .null) := rfl
theorem f_21_16 : px_at 21 16 = some (.iload_n 2, 1, 0, 0, .null) := rfl
theorem f_21_17 : px_at 21 17 = some (.iconst 0, 1, 0, 0, .null) := rfl
theorem f_21_18 : px_at 21 18 = some (.invokevirtual 26, 3, 84, 1, .null) := rfl
theorem f_21_21 : px_at 21 21 = some (.ifCond .ne 12, 3, 33, 0, .null) := rfl
theorem f_21_24 : px_at 21 24 = some (.aload_n 1, 1, 0, 0, .null) := rfl
theorem f_21_25 : px_at 21 25 = some (.iload_n 2, 1, 0, 0, .null) := rfl
theorem f_21_26 : px_at 21 26 = some (.iconst 1, 1, 0, 0, .null) := rfl
theorem f_21_27 : px_at 21 27 = some (.invokevirtual 26, 3, 84, 1, .null) := rfl
theorem f_21_30 : px_at 21 30 = some (.ifCond .eq 8, 3, 38, 0, .null) := rfl
theorem f_21_33 : px_at 21 33 = some (.aload_n 0, 1, 0, 0, .null) := rfl
theorem f_21_34 : px_at 21 34 = some (.iload_n 2, 1, 0, 0, .null) := rfl
theorem f_21_35 : px_at 21 35 = some (.invokevirtual 22, 3, 19, 1, .null) := rfl
theorem f_21_38 : px_at 21 38 = some (.iinc 2 1, 3, 0, 0, .null) := rfl
theorem f_21_41 : px_at 21 41 = some (.goto (-34), 3, 7, 0, .null) := rfl
theorem f_21_44 : px_at 21 44 = some (.return_, 1, 0, 0, .null) := rfl

theorem f_22_0 : px_at 22 0 = some (.aload_n 1, 1, 0, 0, .null) := rfl
theorem f_22_1 : px_at 22 1 = some (.iconst 0, 1, 0, 0, .null) := rfl
theorem f_22_2 : px_at 22 2 = some (.invokevirtual 30, 3, 85, 1, .null) := rfl
theorem f_22_5 : px_at 22 5 = some (.aload_n 1, 1, 0, 0, .null) := rfl
theorem f_22_6 : px_at 22 6 = some (.iconst 1, 1, 0, 0, .null) := rfl
theorem f_22_7 : px_at 22 7 = some (.invokevirtual 30, 3, 85, 1, .null) := rfl
theorem f_22_10 : px_at 22 10 = some (.iadd, 1, 0, 0, .null) := rfl
theorem f_22_11 : px_at 22 11 = some (.istore_n 3, 1, 0, 0, .null) := rfl
theorem f_22_12 : px_at 22 12 = some (.iconst 0, 1, 0, 0, .null) := rfl
theorem f_22_13 : px_at 22 13 = some (.istore 4, 2, 0, 0, .null) := rfl
theorem f_22_15 : px_at 22 15 = some (.iconst 0, 1, 0, 0, .null) := rfl
theorem f_22_16 : px_at 22 16 = some (.istore 5, 2, 0, 0, .null) := rfl
theorem f_22_18 : px_at 22 18 = some (.aload_n 0, 1, 0, 0, .null) := rfl
theorem f_22_19 : px_at 22 19 = some (.iconst 0, 1, 0, 0, .null) := rfl
theorem f_22_20 : px_at 22 20 = some (.putfield 15, 3, 3, 1, .null) := rfl
theorem f_22_23 : px_at 22 23 = some (.iconst 0, 1, 0, 0, .null) := rfl
theorem f_22_24 : px_at 22 24 = some (.istore 6, 2, 0, 0, .null) := rfl
theorem f_22_26 : px_at 22 26 = some (.iload 6, 2, 0, 0, .null) := rfl
theorem f_22_28 : px_at 22 28 = some (.iload_n 3, 1, 0, 0, .null) := rfl
theorem f_22_29 : px_at 22 29 = some (.if_icmp .ge 81, 3, 110, 0, .null) := rfl
theorem f_22_32 : px_at 22 32 = some (.iload_n 2, 1, 0, 0, .null) := rfl
theorem f_22_33 : px_at 22 33 = some (.iload 6, 2, 0, 0, .null) := rfl
theorem f_22_35 : px_at 22 35 = some (.ishr, 1, 0, 0, .null) := rfl
theorem f_22_36 : px_at 22 36 = some (.iconst 1, 1, 0, 0, .null) := rfl
theorem f_22_37 : px_at 22 37 = some (.iand, 1, 0, 0, .null) := rfl
theorem f_22_38 : px_at 22 38 = some (.iconst 1, 1, 0, 0, .null) := rfl
theorem f_22_39 : px_at 22 39 = some (.if_icmp .ne 7, 3, 46, 0, .null) := rfl
theorem f_22_42 : px_at 22 42 = some (.iconst 1, 1, 0, 0, .null) := rfl
theorem f_22_43 : px_at 22 43 = some (.goto 4, 3, 47, 0, .null) := rfl
theorem f_22_46 : px_at 22 46 = some (.iconst 0, 1, 0, 0, .null) := rfl
theorem f_22_47 : px_at 22 47 = some (.istore 7, 2, 0, 0, .null) := rfl
theorem f_22_49 : px_at 22 49 = some (.aload_n 1, 1, 0, 0, .null) := rfl
theorem f_22_50 : px_at 22 50 = some (.iload 7, 2, 0, 0, .null) := rfl
theorem f_22_52 : px_at 22 52 = some (.ifCond .eq 8, 3, 60, 0, .null) := rfl
theorem f_22_55 : px_at 22 55 = some (.iload 5, 2, 0, 0, .null) := rfl
theorem f_22_57 : px_at 22 57 = some (.goto 5, 3, 62, 0, .null) := rfl
theorem f_22_60 : px_at 22 60 = some (.iload 4, 2, 0, 0, .null) := rfl
theorem f_22_62 : px_at 22 62 = some (.iload 7, 2, 0, 0, .null) := rfl
theorem f_22_64 : px_at 22 64 = some (.invokevirtual 34, 3, 86, 1, .null) := rfl
theorem f_22_67 : px_at 22 67 = some (.istore 8, 2, 0, 0, .null) := rfl
theorem f_22_69 : px_at 22 69 = some (.iload 8, 2, 0, 0, .null) := rfl
theorem f_22_71 : px_at 22 71 = some (.aload_n 1, 1, 0, 0, .null) := rfl
theorem f_22_72 : px_at 22 72 = some (.getfield 19, 3, 10, 0, .null) := rfl
theorem f_22_75 : px_at 22 75 = some (.if_icmp .ge 9, 3, 84, 0, .null) := rfl
theorem f_22_78 : px_at 22 78 = some (.aload_n 0, 1, 0, 0, .null) := rfl
theorem f_22_79 : px_at 22 79 = some (.iload 8, 2, 0, 0, .null) := rfl
theorem f_22_81 : px_at 22 81 = some (.invokevirtual 22, 3, 19, 1, .null) := rfl
theorem f_22_84 : px_at 22 84 = some (.iload 7, 2, 0, 0, .null) := rfl
theorem f_22_86 : px_at 22 86 = some (.ifCond .eq 12, 3, 98, 0, .null) := rfl
theorem f_22_89 : px_at 22 89 = some (.iload 8, 2, 0, 0, .null) := rfl
theorem f_22_91 : px_at 22 91 = some (.iconst 1, 1, 0, 0, .null) := rfl
theorem f_22_92 : px_at 22 92 = some (.iadd, 1, 0, 0, .null) := rfl
theorem f_22_93 : px_at 22 93 = some (.istore 5, 2, 0, 0, .null) := rfl
theorem f_22_95 : px_at 22 95 = some (.goto 9, 3, 104, 0, .null) := rfl
theorem f_22_98 : px_at 22 98 = some (.iload 8, 2, 0, 0, .null) := rfl
theorem f_22_100 : px_at 22 100 = some (.iconst 1, 1, 0, 0, .null) := rfl
theorem f_22_101 : px_at 22 101 = some (.iadd, 1, 0, 0, .null) := rfl
theorem f_22_102 : px_at 22 102 = some (.istore 4, 2, 0, 0, .null) := rfl
theorem f_22_104 : px_at 22 104 = some (.iinc 6 1, 3, 0, 0, .null) := rfl
theorem f_22_107 : px_at 22 107 = some (.goto (-81), 3, 26, 0, .null) := rfl
theorem f_22_110 : px_at 22 110 = some (.return_, 1, 0, 0, .null) := rfl

theorem f_23_0 : px_at 23 0 = some (.aload_n 1, 1, 0, 0, .null) := rfl
theorem f_23_1 : px_at 23 1 = some (.getfield 15, 3, 3, 1, .null) := rfl
theorem f_23_4 : px_at 23 4 = some (.istore_n 3, 1, 0, 0, .null) := rfl
theorem f_23_5 : px_at 23 5 = some (.aload_n 0, 1, 0, 0, .null) := rfl
theorem f_23_6 : px_at 23 6 = some (.iconst 0, 1, 0, 0, .null) := rfl
theorem f_23_7 : px_at 23 7 = some (.putfield 15, 3, 3, 1, .null) := rfl
theorem f_23_10 : px_at 23 10 = some (.iconst 0, 1, 0, 0, .null) := rfl
theorem f_23_11 : px_at 23 11 = some (.istore 4, 2, 0, 0, .null) := rfl
theorem f_23_13 : px_at 23 13 = some (.iload 4, 2, 0, 0, .null) := rfl
theorem f_23_15 : px_at 23 15 = some (.iload_n 3, 1, 0, 0, .null) := rfl
theorem f_23_16 : px_at 23 16 = some (.if_icmp .ge 26, 3, 42, 0, .null) := rfl
theorem f_23_19 : px_at 23 19 = some (.iload 4, 2, 0, 0, .null) := rfl
theorem f_23_21 : px_at 23 21 = some (.iload_n 2, 1, 0, 0, .null) := rfl
theorem f_23_22 : px_at 23 22 = some (.if_icmp .eq 14, 3, 36, 0, .null) := rfl
theorem f_23_25 : px_at 23 25 = some (.aload_n 0, 1, 0, 0, .null) := rfl
theorem f_23_26 : px_at 23 26 = some (.aload_n 1, 1, 0, 0, .null) := rfl
theorem f_23_27 : px_at 23 27 = some (.getfield 9, 3, 3, 0, .null) := rfl
theorem f_23_30 : px_at 23 30 = some (.iload 4, 2, 0, 0, .null) := rfl
theorem f_23_32 : px_at 23 32 = some (.iaload, 1, 0, 0, .null) := rfl
theorem f_23_33 : px_at 23 33 = some (.invokevirtual 22, 3, 19, 1, .null) := rfl
theorem f_23_36 : px_at 23 36 = some (.iinc 4 1, 3, 0, 0, .null) := rfl
theorem f_23_39 : px_at 23 39 = some (.goto (-26), 3, 13, 0, .null) := rfl
theorem f_23_42 : px_at 23 42 = some (.return_, 1, 0, 0, .null) := rfl

theorem f_25_0 : px_at 25 0 = some (.aload_n 0, 1, 0, 0, .null) := rfl
theorem f_25_1 : px_at 25 1 = some (.aload_n 1, 1, 0, 0, .null) := rfl
theorem f_25_2 : px_at 25 2 = some (.putfield 9, 3, 4, 0, .null) := rfl
theorem f_25_5 : px_at 25 5 = some (.aload_n 0, 1, 0, 0, .null) := rfl
theorem f_25_6 : px_at 25 6 = some (.iload_n 2, 1, 0, 0, .null) := rfl
theorem f_25_7 : px_at 25 7 = some (.aload_n 1, 1, 0, 0, .null) := rfl
theorem f_25_8 : px_at 25 8 = some (.arraylength, 1, 0, 0, .null) := rfl
theorem f_25_9 : px_at 25 9 = some (.invokestatic 25, 3, 0, 12, .null) := rfl
theorem f_25_12 : px_at 25 12 = some (.putfield 15, 3, 4, 1, .null) := rfl
theorem f_25_15 : px_at 25 15 = some (.aload_n 0, 1, 0, 0, .null) := rfl
theorem f_25_16 : px_at 25 16 = some (.iconst 0, 1, 0, 0, .null) := rfl
theorem f_25_17 : px_at 25 17 = some (.putfield 22, 3, 4, 3, .null) := rfl
theorem f_25_20 : px_at 25 20 = some (.aload_n 3, 1, 0, 0, .null) := rfl
theorem f_25_21 : px_at 25 21 = some (.invokevirtual 31, 3, 67, 1, .null) := rfl
theorem f_25_24 : px_at 25 24 = some (.aload_n 0, 1, 0, 0, .null) := rfl
theorem f_25_25 : px_at 25 25 = some (.bipush 74, 2, 0, 0, .null) := rfl
theorem f_25_27 : px_at 25 27 = some (.invokevirtual 36, 3, 27, 1, .null) := rfl
theorem f_25_30 : px_at 25 30 = some (.ifCond .eq 42, 3, 72, 0, .null) := rfl
theorem f_25_33 : px_at 25 33 = some (.aload_n 0, 1, 0, 0, .null) := rfl
theorem f_25_34 : px_at 25 34 = some (.aload_n 3, 1, 0, 0, .null) := rfl
theorem f_25_35 : px_at 25 35 = some (.getfield 40, 3, 8, 0, .null) := rfl
theorem f_25_38 : px_at 25 38 = some (.invokevirtual 44, 3, 28, 1, .null) := rfl
theorem f_25_41 : px_at 25 41 = some (.ifCond .eq 31, 3, 72, 0, .null) := rfl
theorem f_25_44 : px_at 25 44 = some (.aload_n 0, 1, 0, 0, .null) := rfl
theorem f_25_45 : px_at 25 45 = some (.bipush 59, 2, 0, 0, .null) := rfl
theorem f_25_47 : px_at 25 47 = some (.invokevirtual 36, 3, 27, 1, .null) := rfl
theorem f_25_50 : px_at 25 50 = some (.ifCond .eq 22, 3, 72, 0, .null) := rfl
theorem f_25_53 : px_at 25 53 = some (.aload_n 0, 1, 0, 0, .null) := rfl
theorem f_25_54 : px_at 25 54 = some (.aload_n 3, 1, 0, 0, .null) := rfl
theorem f_25_55 : px_at 25 55 = some (.invokevirtual 48, 3, 30, 1, .null) := rfl
theorem f_25_58 : px_at 25 58 = some (.ifCond .eq 14, 3, 72, 0, .null) := rfl
theorem f_25_61 : px_at 25 61 = some (.aload_n 0, 1, 0, 0, .null) := rfl
theorem f_25_62 : px_at 25 62 = some (.invokevirtual 52, 3, 26, 1, .null) := rfl
theorem f_25_65 : px_at 25 65 = some (.ifCond .ne 7, 3, 72, 0, .null) := rfl
theorem f_25_68 : px_at 25 68 = some (.iconst 1, 1, 0, 0, .null) := rfl
theorem f_25_69 : px_at 25 69 = some (.goto 4, 3, 73, 0, .null) := rfl
theorem f_25_72 : px_at 25 72 = some (.iconst 0, 1, 0, 0, .null) := rfl
theorem f_25_73 : px_at 25 73 = some (.ireturn, 1, 0, 0, .null) := rfl

theorem f_26_0 : px_at 26 0 = some (.aload_n 0, 1, 0, 0, .null) := rfl
theorem f_26_1 : px_at 26 1 = some (.getfield 22, 3, 4, 3, .null) := rfl
theorem f_26_4 : px_at 26 4 = some (.aload_n 0, 1, 0, 0, .null) := rfl
theorem f_26_5 : px_at 26 5 = some (.getfield 15, 3, 4, 1, .null) := rfl
theorem f_26_8 : px_at 26 8 = some (.if_icmp .ge 30, 3, 38, 0, .null) := rfl
theorem f_26_11 : px_at 26 11 = some (.aload_n 0, 1, 0, 0, .null) := rfl
theorem f_26_12 : px_at 26 12 = some (.getfield 9, 3, 4, 0, .null) := rfl
theorem f_26_15 : px_at 26 15 = some (.aload_n 0, 1, 0, 0, .null) := rfl
theorem f_26_16 : px_at 26 16 = some (.getfield 22, 3, 4, 3, .null) := rfl
theorem f_26_19 : px_at 26 19 = some (.caload, 1, 0, 0, .null) := rfl
theorem f_26_20 : px_at 26 20 = some (.bipush 32, 2, 0, 0, .null) := rfl
theorem f_26_22 : px_at 26 22 = some (.if_icmp .ne 16, 3, 38, 0, .null) := rfl
theorem f_26_25 : px_at 26 25 = some (.aload_n 0, 1, 0, 0, .null) := rfl
theorem f_26_26 : px_at 26 26 = some (.dup, 1, 0, 0, .null) := rfl
theorem f_26_27 : px_at 26 27 = some (.getfield 22, 3, 4, 3, .null) := rfl
theorem f_26_30 : px_at 26 30 = some (.iconst 1, 1, 0, 0, .null) := rfl
theorem f_26_31 : px_at 26 31 = some (.iadd, 1, 0, 0, .null) := rfl
theorem f_26_32 : px_at 26 32 = some (.putfield 22, 3, 4, 3, .null) := rfl
theorem f_26_35 : px_at 26 35 = some (.goto (-35), 3, 0, 0, .null) := rfl
theorem f_26_38 : px_at 26 38 = some (.aload_n 0, 1, 0, 0, .null) := rfl
theorem f_26_39 : px_at 26 39 = some (.getfield 22, 3, 4, 3, .null) := rfl
theorem f_26_42 : px_at 26 42 = some (.aload_n 0, 1, 0, 0, .null) := rfl
theorem f_26_43 : px_at 26 43 = some (.getfield 15, 3, 4, 1, .null) := rfl
theorem f_26_46 : px_at 26 46 = some (.if_icmp .ge 15, 3, 61, 0, .null) := rfl
theorem f_26_49 : px_at 26 49 = some (.aload_n 0, 1, 0, 0, .null) := rfl
theorem f_26_50 : px_at 26 50 = some (.getfield 9, 3, 4, 0, .null) := rfl
theorem f_26_53 : px_at 26 53 = some (.aload_n 0, 1, 0, 0, .null) := rfl
theorem f_26_54 : px_at 26 54 = some (.getfield 22, 3, 4, 3, .null) := rfl
theorem f_26_57 : px_at 26 57 = some (.caload, 1, 0, 0, .null) := rfl
theorem f_26_58 : px_at 26 58 = some (.goto 4, 3, 62, 0, .null) := rfl
theorem f_26_61 : px_at 26 61 = some (.iconst 0, 1, 0, 0, .null) := rfl
theorem f_26_62 : px_at 26 62 = some (.ireturn, 1, 0, 0, .null) := rfl

theorem f_27_0 : px_at 27 0 = some (.aload_n 0, 1, 0, 0, .null) := rfl
theorem f_27_1 : px_at 27 1 = some (.invokevirtual 52, 3, 26, 1, .null) := rfl
theorem f_27_4 : px_at 27 4 = some (.iload_n 1, 1, 0, 0, .null) := rfl
theorem f_27_5 : px_at 27 5 = some (.if_icmp .eq 5, 3, 10, 0, .null) := rfl
theorem f_27_8 : px_at 27 8 = some (.iconst 0, 1, 0, 0, .null) := rfl
theorem f_27_9 : px_at 27 9 = some (.ireturn, 1, 0, 0, .null) := rfl
theorem f_27_10 : px_at 27 10 = some (.aload_n 0, 1, 0, 0, .null) := rfl
theorem f_27_11 : px_at 27 11 = some (.dup, 1, 0, 0, .null) := rfl
theorem f_27_12 : px_at 27 12 = some (.getfield 22, 3, 4, 3, .null) := rfl
theorem f_27_15 : px_at 27 15 = some (.iconst 1, 1, 0, 0, .null) := rfl
theorem f_27_16 : px_at 27 16 = some (.iadd, 1, 0, 0, .null) := rfl
theorem f_27_17 : px_at 27 17 = some (.putfield 22, 3, 4, 3, .null) := rfl
theorem f_27_20 : px_at 27 20 = some (.iconst 1, 1, 0, 0, .null) := rfl
theorem f_27_21 : px_at 27 21 = some (.ireturn, 1, 0, 0, .null) := rfl

theorem f_28_0 : px_at 28 0 = some (.iconst 0, 1, 0, 0, .null) := rfl
theorem f_28_1 : px_at 28 1 = some (.istore_n 2, 1, 0, 0, .null) := rfl
theorem f_28_2 : px_at 28 2 = some (.iconst 0, 1, 0, 0, .null) := rfl
theorem f_28_3 : px_at 28 3 = some (.istore_n 3, 1, 0, 0, .null) := rfl
theorem f_28_4 : px_at 28 4 = some (.iload_n 3, 1, 0, 0, .null) := rfl
theorem f_28_5 : px_at 28 5 = some (.bipush 6, 2, 0, 0, .null) := rfl
theorem f_28_7 : px_at 28 7 = some (.if_icmp .ge 71, 3, 78, 0, .null) := rfl
theorem f_28_10 : px_at 28 10 = some (.aload_n 0, 1, 0, 0, .null) := rfl
theorem f_28_11 : px_at 28 11 = some (.invokevirtual 52, 3, 26, 1, .null) := rfl
theorem f_28_14 : px_at 28 14 = some (.istore 4, 2, 0, 0, .null) := rfl
theorem f_28_16 : px_at 28 16 = some (.ldc 56, 2, 0, 0, .ref 3) := rfl
theorem f_28_18 : px_at 28 18 = some (.iload 4, 2, 0, 0, .null) := rfl
theorem f_28_20 : px_at 28 20 = some (.invokevirtual 58, 3, 210, 1, .null) := rfl
theorem f_28_23 : px_at 28 23 = some (.ifCond .lt 15, 3, 38, 0, .null) := rfl
theorem f_28_26 : px_at 28 26 = some (.iload 4, 2, 0, 0, .null) := rfl
theorem f_28_28 : px_at 28 28 = some (.bipush 116, 2, 0, 0, .null) := rfl
theorem f_28_30 : px_at 28 30 = some (.if_icmp .ne 10, 3, 40, 0, .null) := rfl
theorem f_28_33 : px_at 28 33 = some (.iload_n 2, 1, 0, 0, .null) := rfl
theorem f_28_34 : px_at 28 34 = some (.iconst 2, 1, 0, 0, .null) := rfl
theorem f_28_35 : px_at 28 35 = some (.if_icmp .ne 5, 3, 40, 0, .null) := rfl
theorem f_28_38 : px_at 28 38 = some (.iconst 1, 1, 0, 0, .null) := rfl
theorem f_28_39 : px_at 28 39 = some (.ireturn, 1, 0, 0, .null) := rfl
theorem f_28_40 : px_at 28 40 = some (.aload_n 0, 1, 0, 0, .null) := rfl
theorem f_28_41 : px_at 28 41 = some (.dup, 1, 0, 0, .null) := rfl
theorem f_28_42 : px_at 28 42 = some (.getfield 22, 3, 4, 3, .null) := rfl
theorem f_28_45 : px_at 28 45 = some (.iconst 1, 1, 0, 0, .null) := rfl
theorem f_28_46 : px_at 28 46 = some (.iadd, 1, 0, 0, .null) := rfl
theorem f_28_47 : px_at 28 47 = some (.putfield 22, 3, 4, 3, .null) := rfl
theorem f_28_50 : px_at 28 50 = some (.iload 4, 2, 0, 0, .null) := rfl
theorem f_28_52 : px_at 28 52 = some (.bipush 116, 2, 0, 0, .null) := rfl
theorem f_28_54 : px_at 28 54 = some (.if_icmp .ne 6, 3, 60, 0, .null) := rfl
theorem f_28_57 : px_at 28 57 = some (.iinc 2 1, 3, 0, 0, .null) := rfl
theorem f_28_60 : px_at 28 60 = some (.aload_n 0, 1, 0, 0, .null) := rfl
theorem f_28_61 : px_at 28 61 = some (.aload_n 1, 1, 0, 0, .null) := rfl
theorem f_28_62 : px_at 28 62 = some (.iload 4, 2, 0, 0, .null) := rfl
theorem f_28_64 : px_at 28 64 = some (.invokevirtual 64, 3, 29, 1, .null) := rfl
theorem f_28_67 : px_at 28 67 = some (.ifCond .ne 5, 3, 72, 0, .null) := rfl
theorem f_28_70 : px_at 28 70 = some (.iconst 0, 1, 0, 0, .null) := rfl
theorem f_28_71 : px_at 28 71 = some (.ireturn, 1, 0, 0, .null) := rfl
theorem f_28_72 : px_at 28 72 = some (.iinc 3 1, 3, 0, 0, .null) := rfl
theorem f_28_75 : px_at 28 75 = some (.goto (-71), 3, 4, 0, .null) := rfl
theorem f_28_78 : px_at 28 78 = some (.iconst 1, 1, 0, 0, .null) := rfl
theorem f_28_79 : px_at 28 79 = some (.ireturn, 1, 0, 0, .null) := rfl

theorem f_29_0 : px_at 29 0 = some (.iconst 0, 1, 0, 0, .null) := rfl
theorem f_29_1 : px_at 29 1 = some (.istore_n 3, 1, 0, 0, .null) := rfl
theorem f_29_2 : px_at 29 2 = some (.iload_n 2, 1, 0, 0, .null) := rfl
theorem f_29_3 : px_at 29 3 = some (.bipush 102, 2, 0, 0, .null) := rfl
theorem f_29_5 : px_at 29 5 = some (.if_icmp .eq 9, 3, 14, 0, .null) := rfl
theorem f_29_8 : px_at 29 8 = some (.iload_n 2, 1, 0, 0, .null) := rfl
theorem f_29_9 : px_at 29 9 = some (.bipush 109, 2, 0, 0, .null) := rfl
theorem f_29_11 : px_at 29 11 = some (.if_icmp .ne 44, 3, 55, 0, .null) := rfl
theorem f_29_14 : px_at 29 14 = some (.aload_n 0, 1, 0, 0, .null) := rfl
theorem f_29_15 : px_at 29 15 = some (.invokevirtual 52, 3, 26, 1, .null) := rfl
theorem f_29_18 : px_at 29 18 = some (.istore_n 3, 1, 0, 0, .null) := rfl
theorem f_29_19 : px_at 29 19 = some (.iload_n 2, 1, 0, 0, .null) := rfl
theorem f_29_20 : px_at 29 20 = some (.bipush 102, 2, 0, 0, .null) := rfl
theorem f_29_22 : px_at 29 22 = some (.if_icmp .ne 8, 3, 30, 0, .null) := rfl
theorem f_29_25 : px_at 29 25 = some (.ldc 68, 2, 0, 0, .ref 4) := rfl
theorem f_29_27 : px_at 29 27 = some (.goto 5, 3, 32, 0, .null) := rfl
theorem f_29_30 : px_at 29 30 = some (.ldc 70, 2, 0, 0, .ref 5) := rfl
theorem f_29_32 : px_at 29 32 = some (.astore 4, 2, 0, 0, .null) := rfl
theorem f_29_34 : px_at 29 34 = some (.aload 4, 2, 0, 0, .null) := rfl
theorem f_29_36 : px_at 29 36 = some (.iload_n 3, 1, 0, 0, .null) := rfl
theorem f_29_37 : px_at 29 37 = some (.invokevirtual 58, 3, 210, 1, .null) := rfl
theorem f_29_40 : px_at 29 40 = some (.ifCond .ge 5, 3, 45, 0, .null) := rfl
theorem f_29_43 : px_at 29 43 = some (.iconst 0, 1, 0, 0, .null) := rfl
theorem f_29_44 : px_at 29 44 = some (.ireturn, 1, 0, 0, .null) := rfl
theorem f_29_45 : px_at 29 45 = some (.aload_n 0, 1, 0, 0, .null) := rfl
theorem f_29_46 : px_at 29 46 = some (.dup, 1, 0, 0, .null) := rfl
theorem f_29_47 : px_at 29 47 = some (.getfield 22, 3, 4, 3, .null) := rfl
theorem f_29_50 : px_at 29 50 = some (.iconst 1, 1, 0, 0, .null) := rfl
theorem f_29_51 : px_at 29 51 = some (.iadd, 1, 0, 0, .null) := rfl
theorem f_29_52 : px_at 29 52 = some (.putfield 22, 3, 4, 3, .null) := rfl
theorem f_29_55 : px_at 29 55 = some (.aload_n 0, 1, 0, 0, .null) := rfl
theorem f_29_56 : px_at 29 56 = some (.iconst 0, 1, 0, 0, .null) := rfl
theorem f_29_57 : px_at 29 57 = some (.putfield 19, 3, 4, 2, .null) := rfl
theorem f_29_60 : px_at 29 60 = some (.iconst 1, 1, 0, 0, .null) := rfl
theorem f_29_61 : px_at 29 61 = some (.istore 4, 2, 0, 0, .null) := rfl
theorem f_29_63 : px_at 29 63 = some (.iload_n 2, 1, 0, 0, .null) := rfl
theorem f_29_64 : px_at 29 64 = some (.bipush 119, 2, 0, 0, .null) := rfl
theorem f_29_66 : px_at 29 66 = some (.if_icmp .eq 9, 3, 75, 0, .null) := rfl
theorem f_29_69 : px_at 29 69 = some (.iload_n 2, 1, 0, 0, .null) := rfl
theorem f_29_70 : px_at 29 70 = some (.bipush 116, 2, 0, 0, .null) := rfl
theorem f_29_72 : px_at 29 72 = some (.if_icmp .ne 27, 3, 99, 0, .null) := rfl
theorem f_29_75 : px_at 29 75 = some (.aload_n 0, 1, 0, 0, .null) := rfl
theorem f_29_76 : px_at 29 76 = some (.invokevirtual 72, 3, 36, 1, .null) := rfl
theorem f_29_79 : px_at 29 79 = some (.ifCond .eq 14, 3, 93, 0, .null) := rfl
theorem f_29_82 : px_at 29 82 = some (.aload_n 0, 1, 0, 0, .null) := rfl
theorem f_29_83 : px_at 29 83 = some (.getfield 19, 3, 4, 2, .null) := rfl
theorem f_29_86 : px_at 29 86 = some (.ifCond .le 7, 3, 93, 0, .null) := rfl
theorem f_29_89 : px_at 29 89 = some (.iconst 1, 1, 0, 0, .null) := rfl
theorem f_29_90 : px_at 29 90 = some (.goto 4, 3, 94, 0, .null) := rfl
theorem f_29_93 : px_at 29 93 = some (.iconst 0, 1, 0, 0, .null) := rfl
theorem f_29_94 : px_at 29 94 = some (.istore 4, 2, 0, 0, .null) := rfl
theorem f_29_96 : px_at 29 96 = some (.goto 21, 3, 117, 0, .null) := rfl
theorem f_29_99 : px_at 29 99 = some (.iload_n 2, 1, 0, 0, .null) := rfl
theorem f_29_100 : px_at 29 100 = some (.bipush 100, 2, 0, 0, .null) := rfl
theorem f_29_102 : px_at 29 102 = some (.if_icmp .eq 15, 3, 117, 0, .null) := rfl
theorem f_29_105 : px_at 29 105 = some (.iload_n 2, 1, 0, 0, .null) := rfl
theorem f_29_106 : px_at 29 106 = some (.bipush 115, 2, 0, 0, .null) := rfl
theorem f_29_108 : px_at 29 108 = some (.if_icmp .eq 9, 3, 117, 0, .null) := rfl
theorem f_29_111 : px_at 29 111 = some (.aload_n 0, 1, 0, 0, .null) := rfl
theorem f_29_112 : px_at 29 112 = some (.invokevirtual 76, 3, 35, 1, .null) := rfl
theorem f_29_115 : px_at 29 115 = some (.istore 4, 2, 0, 0, .null) := rfl
theorem f_29_117 : px_at 29 117 = some (.iload 4, 2, 0, 0, .null) := rfl
theorem f_29_119 : px_at 29 119 = some (.ifCond .eq 13, 3, 132, 0, .null) := rfl
theorem f_29_122 : px_at 29 122 = some (.aload_n 1, 1, 0, 0, .null) := rfl
theorem f_29_123 : px_at 29 123 = some (.iload_n 2, 1, 0, 0, .null) := rfl
theorem f_29_124 : px_at 29 124 = some (.iload_n 3, 1, 0, 0, .null) := rfl
theorem f_29_125 : px_at 29 125 = some (.aload_n 0, 1, 0, 0, .null) := rfl
theorem f_29_126 : px_at 29 126 = some (.getfield 19, 3, 4, 2, .null) := rfl
theorem f_29_129 : px_at 29 129 = some (.invokevirtual 79, 3, 1, 1, .null) := rfl
theorem f_29_132 : px_at 29 132 = some (.iload 4, 2, 0, 0, .null) := rfl
theorem f_29_134 : px_at 29 134 = some (.ireturn, 1, 0, 0, .null) := rfl

theorem f_30_0 : px_at 30 0 = some (.iconst 0, 1, 0, 0, .null) := rfl
theorem f_30_1 : px_at 30 1 = some (.istore_n 2, 1, 0, 0, .null) := rfl
theorem f_30_2 : px_at 30 2 = some (.iload_n 2, 1, 0, 0, .null) := rfl
theorem f_30_3 : px_at 30 3 = some (.bipush 8, 2, 0, 0, .null) := rfl
theorem f_30_5 : px_at 30 5 = some (.if_icmp .ge 82, 3, 87, 0, .null) := rfl
theorem f_30_8 : px_at 30 8 = some (.aload_n 0, 1, 0, 0, .null) := rfl
theorem f_30_9 : px_at 30 9 = some (.bipush 67, 2, 0, 0, .null) := rfl
theorem f_30_11 : px_at 30 11 = some (.invokevirtual 36, 3, 27, 1, .null) := rfl
theorem f_30_14 : px_at 30 14 = some (.ifCond .ne 5, 3, 19, 0, .null) := rfl
theorem f_30_17 : px_at 30 17 = some (.iconst 1, 1, 0, 0, .null) := rfl
theorem f_30_18 : px_at 30 18 = some (.ireturn, 1, 0, 0, .null) := rfl
theorem f_30_19 : px_at 30 19 = some (.aload_n 1, 1, 0, 0, .null) := rfl
theorem f_30_20 : px_at 30 20 = some (.getfield 85, 3, 8, 1, .null) := rfl
theorem f_30_23 : px_at 30 23 = some (.iload_n 2, 1, 0, 0, .null) := rfl
theorem f_30_24 : px_at 30 24 = some (.aaload, 1, 0, 0, .null) := rfl
theorem f_30_25 : px_at 30 25 = some (.astore_n 3, 1, 0, 0, .null) := rfl
theorem f_30_26 : px_at 30 26 = some (.aload_n 3, 1, 0, 0, .null) := rfl
theorem f_30_27 : px_at 30 27 = some (.invokevirtual 89, 3, 82, 1, .null) := rfl
theorem f_30_30 : px_at 30 30 = some (.aload_n 0, 1, 0, 0, .null) := rfl
theorem f_30_31 : px_at 30 31 = some (.aload_n 3, 1, 0, 0, .null) := rfl
theorem f_30_32 : px_at 30 32 = some (.invokevirtual 92, 3, 31, 1, .null) := rfl
theorem f_30_35 : px_at 30 35 = some (.ifCond .eq 37, 3, 72, 0, .null) := rfl
theorem f_30_38 : px_at 30 38 = some (.aload_n 0, 1, 0, 0, .null) := rfl
theorem f_30_39 : px_at 30 39 = some (.bipush 58, 2, 0, 0, .null) := rfl
theorem f_30_41 : px_at 30 41 = some (.invokevirtual 36, 3, 27, 1, .null) := rfl
theorem f_30_44 : px_at 30 44 = some (.ifCond .eq 28, 3, 72, 0, .null) := rfl
theorem f_30_47 : px_at 30 47 = some (.aload_n 0, 1, 0, 0, .null) := rfl
theorem f_30_48 : px_at 30 48 = some (.aload_n 3, 1, 0, 0, .null) := rfl
theorem f_30_49 : px_at 30 49 = some (.invokevirtual 96, 3, 33, 1, .null) := rfl
theorem f_30_52 : px_at 30 52 = some (.ifCond .eq 20, 3, 72, 0, .null) := rfl
theorem f_30_55 : px_at 30 55 = some (.aload_n 0, 1, 0, 0, .null) := rfl
theorem f_30_56 : px_at 30 56 = some (.aload_n 3, 1, 0, 0, .null) := rfl
theorem f_30_57 : px_at 30 57 = some (.invokevirtual 99, 3, 34, 1, .null) := rfl
theorem f_30_60 : px_at 30 60 = some (.ifCond .eq 12, 3, 72, 0, .null) := rfl
theorem f_30_63 : px_at 30 63 = some (.aload_n 0, 1, 0, 0, .null) := rfl
theorem f_30_64 : px_at 30 64 = some (.bipush 59, 2, 0, 0, .null) := rfl
theorem f_30_66 : px_at 30 66 = some (.invokevirtual 36, 3, 27, 1, .null) := rfl
theorem f_30_69 : px_at 30 69 = some (.ifCond .ne 5, 3, 74, 0, .null) := rfl
theorem f_30_72 : px_at 30 72 = some (.iconst 0, 1, 0, 0, .null) := rfl
theorem f_30_73 : px_at 30 73 = some (.ireturn, 1, 0, 0, .null) := rfl
theorem f_30_74 : px_at 30 74 = some (.aload_n 1, 1, 0, 0, .null) := rfl
theorem f_30_75 : px_at 30 75 = some (.iload_n 2, 1, 0, 0, .null) := rfl
theorem f_30_76 : px_at 30 76 = some (.iconst 1, 1, 0, 0, .null) := rfl
theorem f_30_77 : px_at 30 77 = some (.iadd, 1, 0, 0, .null) := rfl
theorem f_30_78 : px_at 30 78 = some (.putfield 102, 3, 8, 2, .null) := rfl
theorem f_30_81 : px_at 30 81 = some (.iinc 2 1, 3, 0, 0, .null) := rfl
theorem f_30_84 : px_at 30 84 = some (.goto (-82), 3, 2, 0, .null) := rfl
theorem f_30_87 : px_at 30 87 = some (.iconst 1, 1, 0, 0, .null) := rfl
theorem f_30_88 : px_at 30 88 = some (.ireturn, 1, 0, 0, .null) := rfl

theorem f_31_0 : px_at 31 0 = some (.iconst 0, 1, 0, 0, .null) := rfl
theorem f_31_1 : px_at 31 1 = some (.istore_n 2, 1, 0, 0, .null) := rfl
theorem f_31_2 : px_at 31 2 = some (.iload_n 2, 1, 0, 0, .null) := rfl
theorem f_31_3 : px_at 31 3 = some (.bipush 24, 2, 0, 0, .null) := rfl
theorem f_31_5 : px_at 31 5 = some (.if_icmp .ge 46, 3, 51, 0, .null) := rfl
theorem f_31_8 : px_at 31 8 = some (.aload_n 0, 1, 0, 0, .null) := rfl
theorem f_31_9 : px_at 31 9 = some (.invokevirtual 52, 3, 26, 1, .null) := rfl
theorem f_31_12 : px_at 31 12 = some (.istore_n 3, 1, 0, 0, .null) := rfl
theorem f_31_13 : px_at 31 13 = some (.ldc 105, 2, 0, 0, .ref 6) := rfl
theorem f_31_15 : px_at 31 15 = some (.iload_n 3, 1, 0, 0, .null) := rfl
theorem f_31_16 : px_at 31 16 = some (.invokevirtual 58, 3, 210, 1, .null) := rfl
theorem f_31_19 : px_at 31 19 = some (.ifCond .ge 5, 3, 24, 0, .null) := rfl
theorem f_31_22 : px_at 31 22 = some (.iconst 1, 1, 0, 0, .null) := rfl
theorem f_31_23 : px_at 31 23 = some (.ireturn, 1, 0, 0, .null) := rfl
theorem f_31_24 : px_at 31 24 = some (.aload_n 0, 1, 0, 0, .null) := rfl
theorem f_31_25 : px_at 31 25 = some (.dup, 1, 0, 0, .null) := rfl
theorem f_31_26 : px_at 31 26 = some (.getfield 22, 3, 4, 3, .null) := rfl
theorem f_31_29 : px_at 31 29 = some (.iconst 1, 1, 0, 0, .null) := rfl
theorem f_31_30 : px_at 31 30 = some (.iadd, 1, 0, 0, .null) := rfl
theorem f_31_31 : px_at 31 31 = some (.putfield 22, 3, 4, 3, .null) := rfl
theorem f_31_34 : px_at 31 34 = some (.aload_n 0, 1, 0, 0, .null) := rfl
theorem f_31_35 : px_at 31 35 = some (.aload_n 1, 1, 0, 0, .null) := rfl
theorem f_31_36 : px_at 31 36 = some (.iload_n 3, 1, 0, 0, .null) := rfl
theorem f_31_37 : px_at 31 37 = some (.invokevirtual 107, 3, 32, 1, .null) := rfl
theorem f_31_40 : px_at 31 40 = some (.ifCond .ne 5, 3, 45, 0, .null) := rfl
theorem f_31_43 : px_at 31 43 = some (.iconst 0, 1, 0, 0, .null) := rfl
theorem f_31_44 : px_at 31 44 = some (.ireturn, 1, 0, 0, .null) := rfl
theorem f_31_45 : px_at 31 45 = some (.iinc 2 1, 3, 0, 0, .null) := rfl
theorem f_31_48 : px_at 31 48 = some (.goto (-46), 3, 2, 0, .null) := rfl
theorem f_31_51 : px_at 31 51 = some (.iconst 1, 1, 0, 0, .null) := rfl
theorem f_31_52 : px_at 31 52 = some (.ireturn, 1, 0, 0, .null) := rfl

theorem f_32_0 : px_at 32 0 = some (.bipush (-3), 2, 0, 0, .null) := rfl
theorem f_32_2 : px_at 32 2 = some (.istore_n 3, 1, 0, 0, .null) := rfl
theorem f_32_3 : px_at 32 3 = some (.iconst 0, 1, 0, 0, .null) := rfl
theorem f_32_4 : px_at 32 4 = some (.istore 4, 2, 0, 0, .null) := rfl
theorem f_32_6 : px_at 32 6 = some (.bipush (-3), 2, 0, 0, .null) := rfl
theorem f_32_8 : px_at 32 8 = some (.istore 5, 2, 0, 0, .null) := rfl
theorem f_32_10 : px_at 32 10 = some (.iload_n 2, 1, 0, 0, .null) := rfl
theorem f_32_11 : px_at 32 11 = some (.bipush 114, 2, 0, 0, .null) := rfl
theorem f_32_13 : px_at 32 13 = some (.if_icmp .eq 9, 3, 22, 0, .null) := rfl
theorem f_32_16 : px_at 32 16 = some (.iload_n 2, 1, 0, 0, .null) := rfl
theorem f_32_17 : px_at 32 17 = some (.bipush 82, 2, 0, 0, .null) := rfl
theorem f_32_19 : px_at 32 19 = some (.if_icmp .ne 44, 3, 63, 0, .null) := rfl
theorem f_32_22 : px_at 32 22 = some (.ldc 111, 2, 0, 0, .ref 7) := rfl
theorem f_32_24 : px_at 32 24 = some (.aload_n 0, 1, 0, 0, .null) := rfl
theorem f_32_25 : px_at 32 25 = some (.invokevirtual 52, 3, 26, 1, .null) := rfl
theorem f_32_28 : px_at 32 28 = some (.invokevirtual 58, 3, 210, 1, .null) := rfl
theorem f_32_31 : px_at 32 31 = some (.istore_n 3, 1, 0, 0, .null) := rfl
theorem f_32_32 : px_at 32 32 = some (.iload_n 3, 1, 0, 0, .null) := rfl
theorem f_32_33 : px_at 32 33 = some (.ifCond .ge 5, 3, 38, 0, .null) := rfl
theorem f_32_36 : px_at 32 36 = some (.iconst 0, 1, 0, 0, .null) := rfl
theorem f_32_37 : px_at 32 37 = some (.ireturn, 1, 0, 0, .null) := rfl
theorem f_32_38 : px_at 32 38 = some (.aload_n 0, 1, 0, 0, .null) := rfl
theorem f_32_39 : px_at 32 39 = some (.dup, 1, 0, 0, .null) := rfl
theorem f_32_40 : px_at 32 40 = some (.getfield 22, 3, 4, 3, .null) := rfl
theorem f_32_43 : px_at 32 43 = some (.iconst 1, 1, 0, 0, .null) := rfl
theorem f_32_44 : px_at 32 44 = some (.iadd, 1, 0, 0, .null) := rfl
theorem f_32_45 : px_at 32 45 = some (.putfield 22, 3, 4, 3, .null) := rfl
theorem f_32_48 : px_at 32 48 = some (.aload_n 0, 1, 0, 0, .null) := rfl
theorem f_32_49 : px_at 32 49 = some (.invokevirtual 76, 3, 35, 1, .null) := rfl
theorem f_32_52 : px_at 32 52 = some (.ifCond .ne 5, 3, 57, 0, .null) := rfl
theorem f_32_55 : px_at 32 55 = some (.iconst 0, 1, 0, 0, .null) := rfl
theorem f_32_56 : px_at 32 56 = some (.ireturn, 1, 0, 0, .null) := rfl
theorem f_32_57 : px_at 32 57 = some (.aload_n 0, 1, 0, 0, .null) := rfl
theorem f_32_58 : px_at 32 58 = some (.getfield 19, 3, 4, 2, .null) := rfl
theorem f_32_61 : px_at 32 61 = some (.istore 4, 2, 0, 0, .null) := rfl
theorem f_32_63 : px_at 32 63 = some (.iload_n 2, 1, 0, 0, .null) := rfl
theorem f_32_64 : px_at 32 64 = some (.bipush 107, 2, 0, 0, .null) := rfl
theorem f_32_66 : px_at 32 66 = some (.if_icmp .eq 24, 3, 90, 0, .null) := rfl
theorem f_32_69 : px_at 32 69 = some (.iload_n 2, 1, 0, 0, .null) := rfl
theorem f_32_70 : px_at 32 70 = some (.bipush 120, 2, 0, 0, .null) := rfl
theorem f_32_72 : px_at 32 72 = some (.if_icmp .eq 18, 3, 90, 0, .null) := rfl
theorem f_32_75 : px_at 32 75 = some (.aload_n 0, 1, 0, 0, .null) := rfl
theorem f_32_76 : px_at 32 76 = some (.invokevirtual 72, 3, 36, 1, .null) := rfl
theorem f_32_79 : px_at 32 79 = some (.ifCond .ne 5, 3, 84, 0, .null) := rfl
theorem f_32_82 : px_at 32 82 = some (.iconst 0, 1, 0, 0, .null) := rfl
theorem f_32_83 : px_at 32 83 = some (.ireturn, 1, 0, 0, .null) := rfl
theorem f_32_84 : px_at 32 84 = some (.aload_n 0, 1, 0, 0, .null) := rfl
theorem f_32_85 : px_at 32 85 = some (.getfield 19, 3, 4, 2, .null) := rfl
theorem f_32_88 : px_at 32 88 = some (.istore 5, 2, 0, 0, .null) := rfl
theorem f_32_90 : px_at 32 90 = some (.aload_n 1, 1, 0, 0, .null) := rfl
theorem f_32_91 : px_at 32 91 = some (.iload_n 2, 1, 0, 0, .null) := rfl
theorem f_32_92 : px_at 32 92 = some (.iload_n 3, 1, 0, 0, .null) := rfl
theorem f_32_93 : px_at 32 93 = some (.iload 4, 2, 0, 0, .null) := rfl
theorem f_32_95 : px_at 32 95 = some (.iload 5, 2, 0, 0, .null) := rfl
theorem f_32_97 : px_at 32 97 = some (.invokevirtual 113, 3, 83, 1, .null) := rfl
theorem f_32_100 : px_at 32 100 = some (.iconst 1, 1, 0, 0, .null) := rfl
theorem f_32_101 : px_at 32 101 = some (.ireturn, 1, 0, 0, .null) := rfl

theorem f_33_0 : px_at 33 0 = some (.iconst 0, 1, 0, 0, .null) := rfl
theorem f_33_1 : px_at 33 1 = some (.istore_n 2, 1, 0, 0, .null) := rfl
theorem f_33_2 : px_at 33 2 = some (.iload_n 2, 1, 0, 0, .null) := rfl
theorem f_33_3 : px_at 33 3 = some (.bipush 16, 2, 0, 0, .null) := rfl
theorem f_33_5 : px_at 33 5 = some (.if_icmp .ge 73, 3, 78, 0, .null) := rfl
theorem f_33_8 : px_at 33 8 = some (.ldc 111, 2, 0, 0, .ref 7) := rfl
theorem f_33_10 : px_at 33 10 = some (.aload_n 0, 1, 0, 0, .null) := rfl
theorem f_33_11 : px_at 33 11 = some (.invokevirtual 52, 3, 26, 1, .null) := rfl
theorem f_33_14 : px_at 33 14 = some (.invokevirtual 58, 3, 210, 1, .null) := rfl
theorem f_33_17 : px_at 33 17 = some (.istore_n 3, 1, 0, 0, .null) := rfl
theorem f_33_18 : px_at 33 18 = some (.iload_n 3, 1, 0, 0, .null) := rfl
theorem f_33_19 : px_at 33 19 = some (.ifCond .ge 5, 3, 24, 0, .null) := rfl
theorem f_33_22 : px_at 33 22 = some (.iconst 1, 1, 0, 0, .null) := rfl
theorem f_33_23 : px_at 33 23 = some (.ireturn, 1, 0, 0, .null) := rfl
theorem f_33_24 : px_at 33 24 = some (.aload_n 0, 1, 0, 0, .null) := rfl
theorem f_33_25 : px_at 33 25 = some (.dup, 1, 0, 0, .null) := rfl
theorem f_33_26 : px_at 33 26 = some (.getfield 22, 3, 4, 3, .null) := rfl
theorem f_33_29 : px_at 33 29 = some (.iconst 1, 1, 0, 0, .null) := rfl
theorem f_33_30 : px_at 33 30 = some (.iadd, 1, 0, 0, .null) := rfl
theorem f_33_31 : px_at 33 31 = some (.putfield 22, 3, 4, 3, .null) := rfl
theorem f_33_34 : px_at 33 34 = some (.aload_n 0, 1, 0, 0, .null) := rfl
theorem f_33_35 : px_at 33 35 = some (.invokevirtual 76, 3, 35, 1, .null) := rfl
theorem f_33_38 : px_at 33 38 = some (.ifCond .ne 5, 3, 43, 0, .null) := rfl
theorem f_33_41 : px_at 33 41 = some (.iconst 0, 1, 0, 0, .null) := rfl
theorem f_33_42 : px_at 33 42 = some (.ireturn, 1, 0, 0, .null) := rfl
theorem f_33_43 : px_at 33 43 = some (.aload_n 0, 1, 0, 0, .null) := rfl
theorem f_33_44 : px_at 33 44 = some (.getfield 19, 3, 4, 2, .null) := rfl
theorem f_33_47 : px_at 33 47 = some (.istore 4, 2, 0, 0, .null) := rfl
theorem f_33_49 : px_at 33 49 = some (.aload_n 0, 1, 0, 0, .null) := rfl
theorem f_33_50 : px_at 33 50 = some (.invokevirtual 72, 3, 36, 1, .null) := rfl
theorem f_33_53 : px_at 33 53 = some (.ifCond .ne 5, 3, 58, 0, .null) := rfl
theorem f_33_56 : px_at 33 56 = some (.iconst 0, 1, 0, 0, .null) := rfl
theorem f_33_57 : px_at 33 57 = some (.ireturn, 1, 0, 0, .null) := rfl
theorem f_33_58 : px_at 33 58 = some (.aload_n 1, 1, 0, 0, .null) := rfl
theorem f_33_59 : px_at 33 59 = some (.getfield 117, 3, 10, 5, .null) := rfl
theorem f_33_62 : px_at 33 62 = some (.iload_n 3, 1, 0, 0, .null) := rfl
theorem f_33_63 : px_at 33 63 = some (.iload 4, 2, 0, 0, .null) := rfl
theorem f_33_65 : px_at 33 65 = some (.aload_n 0, 1, 0, 0, .null) := rfl
theorem f_33_66 : px_at 33 66 = some (.getfield 19, 3, 4, 2, .null) := rfl
theorem f_33_69 : px_at 33 69 = some (.invokevirtual 121, 3, 39, 1, .null) := rfl
theorem f_33_72 : px_at 33 72 = some (.iinc 2 1, 3, 0, 0, .null) := rfl
theorem f_33_75 : px_at 33 75 = some (.goto (-73), 3, 2, 0, .null) := rfl
theorem f_33_78 : px_at 33 78 = some (.iconst 1, 1, 0, 0, .null) := rfl
theorem f_33_79 : px_at 33 79 = some (.ireturn, 1, 0, 0, .null) := rfl

theorem f_34_0 : px_at 34 0 = some (.aload_n 0, 1, 0, 0, .null) := rfl
theorem f_34_1 : px_at 34 1 = some (.invokevirtual 52, 3, 26, 1, .null) := rfl
theorem f_34_4 : px_at 34 4 = some (.istore_n 2, 1, 0, 0, .null) := rfl
theorem f_34_5 : px_at 34 5 = some (.ldc 126, 2, 0, 0, .ref 8) := rfl
theorem f_34_7 : px_at 34 7 = some (.iload_n 2, 1, 0, 0, .null) := rfl
theorem f_34_8 : px_at 34 8 = some (.invokevirtual 58, 3, 210, 1, .null) := rfl
theorem f_34_11 : px_at 34 11 = some (.ifCond .ge 5, 3, 16, 0, .null) := rfl
theorem f_34_14 : px_at 34 14 = some (.iconst 0, 1, 0, 0, .null) := rfl
theorem f_34_15 : px_at 34 15 = some (.ireturn, 1, 0, 0, .null) := rfl
theorem f_34_16 : px_at 34 16 = some (.aload_n 0, 1, 0, 0, .null) := rfl
theorem f_34_17 : px_at 34 17 = some (.dup, 1, 0, 0, .null) := rfl
theorem f_34_18 : px_at 34 18 = some (.getfield 22, 3, 4, 3, .null) := rfl
theorem f_34_21 : px_at 34 21 = some (.iconst 1, 1, 0, 0, .null) := rfl
theorem f_34_22 : px_at 34 22 = some (.iadd, 1, 0, 0, .null) := rfl
theorem f_34_23 : px_at 34 23 = some (.putfield 22, 3, 4, 3, .null) := rfl
theorem f_34_26 : px_at 34 26 = some (.aload_n 1, 1, 0, 0, .null) := rfl
theorem f_34_27 : px_at 34 27 = some (.iload_n 2, 1, 0, 0, .null) := rfl
theorem f_34_28 : px_at 34 28 = some (.putfield 128, 3, 10, 6, .null) := rfl
theorem f_34_31 : px_at 34 31 = some (.iconst 1, 1, 0, 0, .null) := rfl
theorem f_34_32 : px_at 34 32 = some (.ireturn, 1, 0, 0, .null) := rfl

theorem f_35_0 : px_at 35 0 = some (.aload_n 0, 1, 0, 0, .null) := rfl
theorem f_35_1 : px_at 35 1 = some (.invokevirtual 52, 3, 26, 1, .null) := rfl
theorem f_35_4 : px_at 35 4 = some (.bipush 45, 2, 0, 0, .null) := rfl
theorem f_35_6 : px_at 35 6 = some (.if_icmp .ne 7, 3, 13, 0, .null) := rfl
theorem f_35_9 : px_at 35 9 = some (.iconst 1, 1, 0, 0, .null) := rfl
theorem f_35_10 : px_at 35 10 = some (.goto 4, 3, 14, 0, .null) := rfl
theorem f_35_13 : px_at 35 13 = some (.iconst 0, 1, 0, 0, .null) := rfl
theorem f_35_14 : px_at 35 14 = some (.istore_n 1, 1, 0, 0, .null) := rfl
theorem f_35_15 : px_at 35 15 = some (.iload_n 1, 1, 0, 0, .null) := rfl
theorem f_35_16 : px_at 35 16 = some (.ifCond .eq 13, 3, 29, 0, .null) := rfl
theorem f_35_19 : px_at 35 19 = some (.aload_n 0, 1, 0, 0, .null) := rfl
theorem f_35_20 : px_at 35 20 = some (.dup, 1, 0, 0, .null) := rfl
theorem f_35_21 : px_at 35 21 = some (.getfield 22, 3, 4, 3, .null) := rfl
theorem f_35_24 : px_at 35 24 = some (.iconst 1, 1, 0, 0, .null) := rfl
theorem f_35_25 : px_at 35 25 = some (.iadd, 1, 0, 0, .null) := rfl
theorem f_35_26 : px_at 35 26 = some (.putfield 22, 3, 4, 3, .null) := rfl
theorem f_35_29 : px_at 35 29 = some (.aload_n 0, 1, 0, 0, .null) := rfl
theorem f_35_30 : px_at 35 30 = some (.invokevirtual 131, 3, 37, 1, .null) := rfl
theorem f_35_33 : px_at 35 33 = some (.istore_n 2, 1, 0, 0, .null) := rfl
theorem f_35_34 : px_at 35 34 = some (.iload_n 1, 1, 0, 0, .null) := rfl
theorem f_35_35 : px_at 35 35 = some (.ifCond .eq 12, 3, 47, 0, .null) := rfl
theorem f_35_38 : px_at 35 38 = some (.aload_n 0, 1, 0, 0, .null) := rfl
theorem f_35_39 : px_at 35 39 = some (.aload_n 0, 1, 0, 0, .null) := rfl
theorem f_35_40 : px_at 35 40 = some (.getfield 19, 3, 4, 2, .null) := rfl
theorem f_35_43 : px_at 35 43 = some (.ineg, 1, 0, 0, .null) := rfl
theorem f_35_44 : px_at 35 44 = some (.putfield 19, 3, 4, 2, .null) := rfl
theorem f_35_47 : px_at 35 47 = some (.iload_n 2, 1, 0, 0, .null) := rfl
theorem f_35_48 : px_at 35 48 = some (.ireturn, 1, 0, 0, .null) := rfl

theorem f_36_0 : px_at 36 0 = some (.aload_n 0, 1, 0, 0, .null) := rfl
theorem f_36_1 : px_at 36 1 = some (.invokevirtual 52, 3, 26, 1, .null) := rfl
theorem f_36_4 : px_at 36 4 = some (.pop, 1, 0, 0, .null) := rfl
theorem f_36_5 : px_at 36 5 = some (.aload_n 0, 1, 0, 0, .null) := rfl
theorem f_36_6 : px_at 36 6 = some (.invokevirtual 131, 3, 37, 1, .null) := rfl
theorem f_36_9 : px_at 36 9 = some (.ireturn, 1, 0, 0, .null) := rfl

theorem f_37_0 : px_at 37 0 = some (.iconst 0, 1, 0, 0, .null) := rfl
theorem f_37_1 : px_at 37 1 = some (.istore_n 1, 1, 0, 0, .null) := rfl
theorem f_37_2 : px_at 37 2 = some (.aload_n 0, 1, 0, 0, .null) := rfl
theorem f_37_3 : px_at 37 3 = some (.iconst 0, 1, 0, 0, .null) := rfl
theorem f_37_4 : px_at 37 4 = some (.putfield 19, 3, 4, 2, .null) := rfl
theorem f_37_7 : px_at 37 7 = some (.iload_n 1, 1, 0, 0, .null) := rfl
theorem f_37_8 : px_at 37 8 = some (.iconst 3, 1, 0, 0, .null) := rfl
theorem f_37_9 : px_at 37 9 = some (.if_icmp .ge 82, 3, 91, 0, .null) := rfl
theorem f_37_12 : px_at 37 12 = some (.aload_n 0, 1, 0, 0, .null) := rfl
theorem f_37_13 : px_at 37 13 = some (.getfield 22, 3, 4, 3, .null) := rfl
theorem f_37_16 : px_at 37 16 = some (.aload_n 0, 1, 0, 0, .null) := rfl
theorem f_37_17 : px_at 37 17 = some (.getfield 15, 3, 4, 1, .null) := rfl
theorem f_37_20 : px_at 37 20 = some (.if_icmp .ge 71, 3, 91, 0, .null) := rfl
theorem f_37_23 : px_at 37 23 = some (.aload_n 0, 1, 0, 0, .null) := rfl
theorem f_37_24 : px_at 37 24 = some (.getfield 9, 3, 4, 0, .null) := rfl
theorem f_37_27 : px_at 37 27 = some (.aload_n 0, 1, 0, 0, .null) := rfl
theorem f_37_28 : px_at 37 28 = some (.getfield 22, 3, 4, 3, .null) := rfl
theorem f_37_31 : px_at 37 31 = some (.caload, 1, 0, 0, .null) := rfl
theorem f_37_32 : px_at 37 32 = some (.bipush 48, 2, 0, 0, .null) := rfl
theorem f_37_34 : px_at 37 34 = some (.if_icmp .lt 57, 3, 91, 0, .null) := rfl
theorem f_37_37 : px_at 37 37 = some (.aload_n 0, 1, 0, 0, .null) := rfl
theorem f_37_38 : px_at 37 38 = some (.getfield 9, 3, 4, 0, .null) := rfl
theorem f_37_41 : px_at 37 41 = some (.aload_n 0, 1, 0, 0, .null) := rfl
theorem f_37_42 : px_at 37 42 = some (.getfield 22, 3, 4, 3, .null) := rfl
theorem f_37_45 : px_at 37 45 = some (.caload, 1, 0, 0, .null) := rfl
theorem f_37_46 : px_at 37 46 = some (.bipush 57, 2, 0, 0, .null) := rfl
theorem f_37_48 : px_at 37 48 = some (.if_icmp .gt 43, 3, 91, 0, .null) := rfl
theorem f_37_51 : px_at 37 51 = some (.aload_n 0, 1, 0, 0, .null) := rfl
theorem f_37_52 : px_at 37 52 = some (.aload_n 0, 1, 0, 0, .null) := rfl
theorem f_37_53 : px_at 37 53 = some (.getfield 19, 3, 4, 2, .null) := rfl
theorem f_37_56 : px_at 37 56 = some (.bipush 10, 2, 0, 0, .null) := rfl
theorem f_37_58 : px_at 37 58 = some (.imul, 1, 0, 0, .null) := rfl
theorem f_37_59 : px_at 37 59 = some (.aload_n 0, 1, 0, 0, .null) := rfl
theorem f_37_60 : px_at 37 60 = some (.getfield 9, 3, 4, 0, .null) := rfl
theorem f_37_63 : px_at 37 63 = some (.aload_n 0, 1, 0, 0, .null) := rfl
theorem f_37_64 : px_at 37 64 = some (.getfield 22, 3, 4, 3, .null) := rfl
theorem f_37_67 : px_at 37 67 = some (.caload, 1, 0, 0, .null) := rfl
theorem f_37_68 : px_at 37 68 = some (.bipush 48, 2, 0, 0, .null) := rfl
theorem f_37_70 : px_at 37 70 = some (.isub, 1, 0, 0, .null) := rfl
theorem f_37_71 : px_at 37 71 = some (.iadd, 1, 0, 0, .null) := rfl
theorem f_37_72 : px_at 37 72 = some (.putfield 19, 3, 4, 2, .null) := rfl
theorem f_37_75 : px_at 37 75 = some (.aload_n 0, 1, 0, 0, .null) := rfl
theorem f_37_76 : px_at 37 76 = some (.dup, 1, 0, 0, .null) := rfl
theorem f_37_77 : px_at 37 77 = some (.getfield 22, 3, 4, 3, .null) := rfl
theorem f_37_80 : px_at 37 80 = some (.iconst 1, 1, 0, 0, .null) := rfl
theorem f_37_81 : px_at 37 81 = some (.iadd, 1, 0, 0, .null) := rfl
theorem f_37_82 : px_at 37 82 = some (.putfield 22, 3, 4, 3, .null) := rfl
theorem f_37_85 : px_at 37 85 = some (.iinc 1 1, 3, 0, 0, .null) := rfl
theorem f_37_88 : px_at 37 88 = some (.goto (-81), 3, 7, 0, .null) := rfl
theorem f_37_91 : px_at 37 91 = some (.iload_n 1, 1, 0, 0, .null) := rfl
theorem f_37_92 : px_at 37 92 = some (.ifCond .le 7, 3, 99, 0, .null) := rfl
theorem f_37_95 : px_at 37 95 = some (.iconst 1, 1, 0, 0, .null) := rfl
theorem f_37_96 : px_at 37 96 = some (.goto 4, 3, 100, 0, .null) := rfl
theorem f_37_99 : px_at 37 99 = some (.iconst 0, 1, 0, 0, .null) := rfl
theorem f_37_100 : px_at 37 100 = some (.ireturn, 1, 0, 0, .null) := rfl

theorem f_47_0 : px_at 47 0 = some (.iconst 0, 1, 0, 0, .null) := rfl
theorem f_47_1 : px_at 47 1 = some (.istore_n 1, 1, 0, 0, .null) := rfl
theorem f_47_2 : px_at 47 2 = some (.iload_n 1, 1, 0, 0, .null) := rfl
theorem f_47_3 : px_at 47 3 = some (.aload_n 0, 1, 0, 0, .null) := rfl
theorem f_47_4 : px_at 47 4 = some (.getfield 57, 3, 6, 10, .null) := rfl
theorem f_47_7 : px_at 47 7 = some (.arraylength, 1, 0, 0, .null) := rfl
theorem f_47_8 : px_at 47 8 = some (.if_icmp .ge 16, 3, 24, 0, .null) := rfl
theorem f_47_11 : px_at 47 11 = some (.aload_n 0, 1, 0, 0, .null) := rfl
theorem f_47_12 : px_at 47 12 = some (.getfield 57, 3, 6, 10, .null) := rfl
theorem f_47_15 : px_at 47 15 = some (.iload_n 1, 1, 0, 0, .null) := rfl
theorem f_47_16 : px_at 47 16 = some (.iconst 0, 1, 0, 0, .null) := rfl
theorem f_47_17 : px_at 47 17 = some (.iastore, 1, 0, 0, .null) := rfl
theorem f_47_18 : px_at 47 18 = some (.iinc 1 1, 3, 0, 0, .null) := rfl
theorem f_47_21 : px_at 47 21 = some (.goto (-19), 3, 2, 0, .null) := rfl
theorem f_47_24 : px_at 47 24 = some (.return_, 1, 0, 0, .null) := rfl

theorem f_48_0 : px_at 48 0 = some (.aload_n 0, 1, 0, 0, .null) := rfl
theorem f_48_1 : px_at 48 1 = some (.aload_n 1, 1, 0, 0, .null) := rfl
theorem f_48_2 : px_at 48 2 = some (.aload_n 2, 1, 0, 0, .null) := rfl
theorem f_48_3 : px_at 48 3 = some (.aload_n 3, 1, 0, 0, .null) := rfl
theorem f_48_4 : px_at 48 4 = some (.invokevirtual 61, 3, 49, 1, .null) := rfl
theorem f_48_7 : px_at 48 7 = some (.iconst 0, 1, 0, 0, .null) := rfl
theorem f_48_8 : px_at 48 8 = some (.istore 4, 2, 0, 0, .null) := rfl
theorem f_48_10 : px_at 48 10 = some (.iconst 0, 1, 0, 0, .null) := rfl
theorem f_48_11 : px_at 48 11 = some (.istore 5, 2, 0, 0, .null) := rfl
theorem f_48_13 : px_at 48 13 = some (.iload 5, 2, 0, 0, .null) := rfl
theorem f_48_15 : px_at 48 15 = some (.aload_n 3, 1, 0, 0, .null) := rfl
theorem f_48_16 : px_at 48 16 = some (.getfield 65, 3, 3, 1, .null) := rfl
theorem f_48_19 : px_at 48 19 = some (.if_icmp .ge 141, 3, 160, 0, .null) := rfl
theorem f_48_22 : px_at 48 22 = some (.aload_n 0, 1, 0, 0, .null) := rfl
theorem f_48_23 : px_at 48 23 = some (.getfield 48, 3, 6, 7, .null) := rfl
theorem f_48_26 : px_at 48 26 = some (.bipush (-3), 2, 0, 0, .null) := rfl
theorem f_48_28 : px_at 48 28 = some (.if_icmp .ne 132, 3, 160, 0, .null) := rfl
theorem f_48_31 : px_at 48 31 = some (.aload_n 3, 1, 0, 0, .null) := rfl
theorem f_48_32 : px_at 48 32 = some (.getfield 70, 3, 3, 0, .null) := rfl
theorem f_48_35 : px_at 48 35 = some (.iload 5, 2, 0, 0, .null) := rfl
theorem f_48_37 : px_at 48 37 = some (.iaload, 1, 0, 0, .null) := rfl
theorem f_48_38 : px_at 48 38 = some (.istore 6, 2, 0, 0, .null) := rfl
theorem f_48_40 : px_at 48 40 = some (.aload_n 2, 1, 0, 0, .null) := rfl
theorem f_48_41 : px_at 48 41 = some (.getfield 73, 3, 10, 1, .null) := rfl
theorem f_48_44 : px_at 48 44 = some (.iload 6, 2, 0, 0, .null) := rfl
theorem f_48_46 : px_at 48 46 = some (.iaload, 1, 0, 0, .null) := rfl
theorem f_48_47 : px_at 48 47 = some (.bipush 120, 2, 0, 0, .null) := rfl
theorem f_48_49 : px_at 48 49 = some (.if_icmp .ne 75, 3, 124, 0, .null) := rfl
theorem f_48_52 : px_at 48 52 = some (.aload_n 0, 1, 0, 0, .null) := rfl
theorem f_48_53 : px_at 48 53 = some (.dup, 1, 0, 0, .null) := rfl
theorem f_48_54 : px_at 48 54 = some (.getfield 51, 3, 6, 8, .null) := rfl
theorem f_48_57 : px_at 48 57 = some (.iconst 1, 1, 0, 0, .null) := rfl
theorem f_48_58 : px_at 48 58 = some (.iadd, 1, 0, 0, .null) := rfl
theorem f_48_59 : px_at 48 59 = some (.putfield 51, 3, 6, 8, .null) := rfl
theorem f_48_62 : px_at 48 62 = some (.aload_n 0, 1, 0, 0, .null) := rfl
theorem f_48_63 : px_at 48 63 = some (.invokevirtual 78, 3, 50, 1, .null) := rfl
theorem f_48_66 : px_at 48 66 = some (.iload 4, 2, 0, 0, .null) := rfl
theorem f_48_68 : px_at 48 68 = some (.istore 7, 2, 0, 0, .null) := rfl
theorem f_48_70 : px_at 48 70 = some (.iload 7, 2, 0, 0, .null) := rfl
theorem f_48_72 : px_at 48 72 = some (.iload 5, 2, 0, 0, .null) := rfl
theorem f_48_74 : px_at 48 74 = some (.if_icmp .ge 47, 3, 121, 0, .null) := rfl
theorem f_48_77 : px_at 48 77 = some (.aload_n 0, 1, 0, 0, .null) := rfl
theorem f_48_78 : px_at 48 78 = some (.getfield 48, 3, 6, 7, .null) := rfl
theorem f_48_81 : px_at 48 81 = some (.bipush (-3), 2, 0, 0, .null) := rfl
theorem f_48_83 : px_at 48 83 = some (.if_icmp .ne 38, 3, 121, 0, .null) := rfl
theorem f_48_86 : px_at 48 86 = some (.aload_n 2, 1, 0, 0, .null) := rfl
theorem f_48_87 : px_at 48 87 = some (.getfield 73, 3, 10, 1, .null) := rfl
theorem f_48_90 : px_at 48 90 = some (.aload_n 3, 1, 0, 0, .null) := rfl
theorem f_48_91 : px_at 48 91 = some (.getfield 70, 3, 3, 0, .null) := rfl
theorem f_48_94 : px_at 48 94 = some (.iload 7, 2, 0, 0, .null) := rfl
theorem f_48_96 : px_at 48 96 = some (.iaload, 1, 0, 0, .null) := rfl
theorem f_48_97 : px_at 48 97 = some (.iaload, 1, 0, 0, .null) := rfl
theorem f_48_98 : px_at 48 98 = some (.bipush 120, 2, 0, 0, .null) := rfl
theorem f_48_100 : px_at 48 100 = some (.if_icmp .eq 15, 3, 115, 0, .null) := rfl
theorem f_48_103 : px_at 48 103 = some (.aload_n 0, 1, 0, 0, .null) := rfl
theorem f_48_104 : px_at 48 104 = some (.aload_n 2, 1, 0, 0, .null) := rfl
theorem f_48_105 : px_at 48 105 = some (.aload_n 3, 1, 0, 0, .null) := rfl
theorem f_48_106 : px_at 48 106 = some (.getfield 70, 3, 3, 0, .null) := rfl
theorem f_48_109 : px_at 48 109 = some (.iload 7, 2, 0, 0, .null) := rfl
theorem f_48_111 : px_at 48 111 = some (.iaload, 1, 0, 0, .null) := rfl
theorem f_48_112 : px_at 48 112 = some (.invokevirtual 81, 3, 51, 1, .null) := rfl
theorem f_48_115 : px_at 48 115 = some (.iinc 7 1, 3, 0, 0, .null) := rfl
theorem f_48_118 : px_at 48 118 = some (.goto (-48), 3, 70, 0, .null) := rfl
theorem f_48_121 : px_at 48 121 = some (.goto 33, 3, 154, 0, .null) := rfl
theorem f_48_124 : px_at 48 124 = some (.aload_n 0, 1, 0, 0, .null) := rfl
theorem f_48_125 : px_at 48 125 = some (.aload_n 2, 1, 0, 0, .null) := rfl
theorem f_48_126 : px_at 48 126 = some (.iload 6, 2, 0, 0, .null) := rfl
theorem f_48_128 : px_at 48 128 = some (.invokevirtual 81, 3, 51, 1, .null) := rfl
theorem f_48_131 : px_at 48 131 = some (.aload_n 2, 1, 0, 0, .null) := rfl
theorem f_48_132 : px_at 48 132 = some (.getfield 73, 3, 10, 1, .null) := rfl
theorem f_48_135 : px_at 48 135 = some (.iload 6, 2, 0, 0, .null) := rfl
theorem f_48_137 : px_at 48 137 = some (.iaload, 1, 0, 0, .null) := rfl
theorem f_48_138 : px_at 48 138 = some (.bipush 107, 2, 0, 0, .null) := rfl
theorem f_48_140 : px_at 48 140 = some (.if_icmp .ne 10, 3, 150, 0, .null) := rfl
theorem f_48_143 : px_at 48 143 = some (.iload 5, 2, 0, 0, .null) := rfl
theorem f_48_145 : px_at 48 145 = some (.iconst 1, 1, 0, 0, .null) := rfl
theorem f_48_146 : px_at 48 146 = some (.iadd, 1, 0, 0, .null) := rfl
theorem f_48_147 : px_at 48 147 = some (.goto 5, 3, 152, 0, .null) := rfl
theorem f_48_150 : px_at 48 150 = some (.iload 4, 2, 0, 0, .null) := rfl
theorem f_48_152 : px_at 48 152 = some (.istore 4, 2, 0, 0, .null) := rfl
theorem f_48_154 : px_at 48 154 = some (.iinc 5 1, 3, 0, 0, .null) := rfl
theorem f_48_157 : px_at 48 157 = some (.goto (-144), 3, 13, 0, .null) := rfl
theorem f_48_160 : px_at 48 160 = some (.aload_n 0, 1, 0, 0, .null) := rfl
theorem f_48_161 : px_at 48 161 = some (.getfield 48, 3, 6, 7, .null) := rfl
theorem f_48_164 : px_at 48 164 = some (.bipush (-3), 2, 0, 0, .null) := rfl
theorem f_48_166 : px_at 48 166 = some (.if_icmp .ne 10, 3, 176, 0, .null) := rfl
theorem f_48_169 : px_at 48 169 = some (.aload_n 0, 1, 0, 0, .null) := rfl
theorem f_48_170 : px_at 48 170 = some (.sipush 5000, 3, 0, 0, .null) := rfl
theorem f_48_173 : px_at 48 173 = some (.invokevirtual 85, 3, 52, 1, .null) := rfl
theorem f_48_176 : px_at 48 176 = some (.aload_n 0, 1, 0, 0, .null) := rfl
theorem f_48_177 : px_at 48 177 = some (.getfield 48, 3, 6, 7, .null) := rfl
theorem f_48_180 : px_at 48 180 = some (.bipush (-3), 2, 0, 0, .null) := rfl
theorem f_48_182 : px_at 48 182 = some (.if_icmp .ne 14, 3, 196, 0, .null) := rfl
theorem f_48_185 : px_at 48 185 = some (.aload_n 0, 1, 0, 0, .null) := rfl
theorem f_48_186 : px_at 48 186 = some (.aload_n 0, 1, 0, 0, .null) := rfl
theorem f_48_187 : px_at 48 187 = some (.getfield 33, 3, 6, 3, .null) := rfl
theorem f_48_190 : px_at 48 190 = some (.getfield 88, 3, 5, 1, .null) := rfl
theorem f_48_193 : px_at 48 193 = some (.putfield 37, 3, 6, 4, .null) := rfl
theorem f_48_196 : px_at 48 196 = some (.aload_n 0, 1, 0, 0, .null) := rfl
theorem f_48_197 : px_at 48 197 = some (.getfield 33, 3, 6, 3, .null) := rfl
theorem f_48_200 : px_at 48 200 = some (.aload_n 0, 1, 0, 0, .null) := rfl
theorem f_48_201 : px_at 48 201 = some (.getfield 37, 3, 6, 4, .null) := rfl
theorem f_48_204 : px_at 48 204 = some (.invokevirtual 89, 3, 40, 1, .null) := rfl
theorem f_48_207 : px_at 48 207 = some (.return_, 1, 0, 0, .null) := rfl
