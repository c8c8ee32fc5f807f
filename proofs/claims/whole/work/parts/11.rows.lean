theorem t0_0 : g_at 0 0 = some (.aload_n 0, 0, 0, 0) := by decide +kernel
theorem t0_1 : g_at 0 1 = some (.invokespecial 3, 999, 0, 0) := by decide +kernel
theorem t0_4 : g_at 0 4 = some (.aload_n 0, 0, 0, 0) := by decide +kernel
theorem t0_5 : g_at 0 5 = some (.bipush (120), 0, 0, 120) := by decide +kernel
theorem t0_7 : g_at 0 7 = some (.newarray .int, 0, 0, 0) := by decide +kernel
theorem t0_9 : g_at 0 9 = some (.putfield 9, 2, 0, 0) := by decide +kernel
theorem t0_12 : g_at 0 12 = some (.return_, 0, 0, 0) := by decide +kernel
theorem t1_0 : g_at 1 0 = some (.aload_n 0, 0, 0, 0) := by decide +kernel
theorem t1_1 : g_at 1 1 = some (.invokespecial 3, 999, 0, 0) := by decide +kernel
theorem t1_4 : g_at 1 4 = some (.aload_n 0, 0, 0, 0) := by decide +kernel
theorem t1_5 : g_at 1 5 = some (.bipush (26), 0, 0, 26) := by decide +kernel
theorem t1_7 : g_at 1 7 = some (.newarray .int, 0, 0, 0) := by decide +kernel
theorem t1_9 : g_at 1 9 = some (.putfield 9, 0, 6, 0) := by decide +kernel
theorem t1_12 : g_at 1 12 = some (.aload_n 0, 0, 0, 0) := by decide +kernel
theorem t1_13 : g_at 1 13 = some (.bipush (26), 0, 0, 26) := by decide +kernel
theorem t1_15 : g_at 1 15 = some (.newarray .int, 0, 0, 0) := by decide +kernel
theorem t1_17 : g_at 1 17 = some (.putfield 15, 0, 7, 0) := by decide +kernel
theorem t1_20 : g_at 1 20 = some (.aload_n 0, 0, 0, 0) := by decide +kernel
theorem t1_21 : g_at 1 21 = some (.bipush (26), 0, 0, 26) := by decide +kernel
theorem t1_23 : g_at 1 23 = some (.newarray .int, 0, 0, 0) := by decide +kernel
theorem t1_25 : g_at 1 25 = some (.putfield 18, 0, 8, 0) := by decide +kernel
theorem t1_28 : g_at 1 28 = some (.return_, 0, 0, 0) := by decide +kernel
theorem t2_0 : g_at 2 0 = some (.aload_n 0, 0, 0, 0) := by decide +kernel
theorem t2_1 : g_at 2 1 = some (.invokespecial 3, 999, 0, 0) := by decide +kernel
theorem t2_4 : g_at 2 4 = some (.aload_n 0, 0, 0, 0) := by decide +kernel
theorem t2_5 : g_at 2 5 = some (.iconst 3, 0, 0, 3) := by decide +kernel
theorem t2_6 : g_at 2 6 = some (.putfield 9, 1, 0, 0) := by decide +kernel
theorem t2_9 : g_at 2 9 = some (.aload_n 0, 0, 0, 0) := by decide +kernel
theorem t2_10 : g_at 2 10 = some (.bipush (8), 0, 0, 8) := by decide +kernel
theorem t2_12 : g_at 2 12 = some (.newarray .int, 0, 0, 0) := by decide +kernel
theorem t2_14 : g_at 2 14 = some (.putfield 15, 1, 6, 0) := by decide +kernel
theorem t2_17 : g_at 2 17 = some (.aload_n 0, 0, 0, 0) := by decide +kernel
theorem t2_18 : g_at 2 18 = some (.bipush (8), 0, 0, 8) := by decide +kernel
theorem t2_20 : g_at 2 20 = some (.newarray .int, 0, 0, 0) := by decide +kernel
theorem t2_22 : g_at 2 22 = some (.putfield 19, 1, 7, 0) := by decide +kernel
theorem t2_25 : g_at 2 25 = some (.aload_n 0, 0, 0, 0) := by decide +kernel
theorem t2_26 : g_at 2 26 = some (.bipush (8), 0, 0, 8) := by decide +kernel
theorem t2_28 : g_at 2 28 = some (.newarray .int, 0, 0, 0) := by decide +kernel
theorem t2_30 : g_at 2 30 = some (.putfield 22, 1, 8, 0) := by decide +kernel
theorem t2_33 : g_at 2 33 = some (.aload_n 0, 0, 0, 0) := by decide +kernel
theorem t2_34 : g_at 2 34 = some (.bipush (8), 0, 0, 8) := by decide +kernel
theorem t2_36 : g_at 2 36 = some (.newarray .int, 0, 0, 0) := by decide +kernel
theorem t2_38 : g_at 2 38 = some (.putfield 25, 1, 9, 0) := by decide +kernel
theorem t2_41 : g_at 2 41 = some (.aload_n 0, 0, 0, 0) := by decide +kernel
theorem t2_42 : g_at 2 42 = some (.sipush (256), 0, 0, 256) := by decide +kernel
theorem t2_45 : g_at 2 45 = some (.newarray .int, 0, 0, 0) := by decide +kernel
theorem t2_47 : g_at 2 47 = some (.putfield 28, 1, 10, 0) := by decide +kernel
theorem t2_50 : g_at 2 50 = some (.aload_n 0, 0, 0, 0) := by decide +kernel
theorem t2_51 : g_at 2 51 = some (.sipush (256), 0, 0, 256) := by decide +kernel
theorem t2_54 : g_at 2 54 = some (.newarray .int, 0, 0, 0) := by decide +kernel
theorem t2_56 : g_at 2 56 = some (.putfield 31, 1, 11, 0) := by decide +kernel
theorem t2_59 : g_at 2 59 = some (.aload_n 0, 0, 0, 0) := by decide +kernel
theorem t2_60 : g_at 2 60 = some (.sipush (256), 0, 0, 256) := by decide +kernel
theorem t2_63 : g_at 2 63 = some (.newarray .int, 0, 0, 0) := by decide +kernel
theorem t2_65 : g_at 2 65 = some (.putfield 34, 1, 12, 0) := by decide +kernel
theorem t2_68 : g_at 2 68 = some (.aload_n 0, 0, 0, 0) := by decide +kernel
theorem t2_69 : g_at 2 69 = some (.bipush (6), 0, 0, 6) := by decide +kernel
theorem t2_71 : g_at 2 71 = some (.newarray .int, 0, 0, 0) := by decide +kernel
theorem t2_73 : g_at 2 73 = some (.putfield 37, 1, 13, 0) := by decide +kernel
theorem t2_76 : g_at 2 76 = some (.return_, 0, 0, 0) := by decide +kernel
theorem t3_0 : g_at 3 0 = some (.aload_n 0, 0, 0, 0) := by decide +kernel
theorem t3_1 : g_at 3 1 = some (.getfield 33, 3, 6, 0) := by decide +kernel
theorem t3_4 : g_at 3 4 = some (.iconst 0, 0, 0, 0) := by decide +kernel
theorem t3_5 : g_at 3 5 = some (.iload_n 1, 0, 0, 0) := by decide +kernel
theorem t3_6 : g_at 3 6 = some (.iastore, 0, 0, 0) := by decide +kernel
theorem t3_7 : g_at 3 7 = some (.aload_n 0, 0, 0, 0) := by decide +kernel
theorem t3_8 : g_at 3 8 = some (.getfield 33, 3, 6, 0) := by decide +kernel
theorem t3_11 : g_at 3 11 = some (.iconst 1, 0, 0, 1) := by decide +kernel
theorem t3_12 : g_at 3 12 = some (.iload_n 2, 0, 0, 0) := by decide +kernel
theorem t3_13 : g_at 3 13 = some (.iastore, 0, 0, 0) := by decide +kernel
theorem t3_14 : g_at 3 14 = some (.aload_n 0, 0, 0, 0) := by decide +kernel
theorem t3_15 : g_at 3 15 = some (.getfield 33, 3, 6, 0) := by decide +kernel
theorem t3_18 : g_at 3 18 = some (.iconst 2, 0, 0, 2) := by decide +kernel
theorem t3_19 : g_at 3 19 = some (.iload_n 3, 0, 0, 0) := by decide +kernel
theorem t3_20 : g_at 3 20 = some (.iastore, 0, 0, 0) := by decide +kernel
theorem t3_21 : g_at 3 21 = some (.return_, 0, 0, 0) := by decide +kernel
theorem t4_0 : g_at 4 0 = some (.aload_n 0, 0, 0, 0) := by decide +kernel
theorem t4_1 : g_at 4 1 = some (.aload_n 0, 0, 0, 0) := by decide +kernel
theorem t4_2 : g_at 4 2 = some (.getfield 26, 3, 2, 0) := by decide +kernel
theorem t4_5 : g_at 4 5 = some (.getfield 73, 1, 4, 0) := by decide +kernel
theorem t4_8 : g_at 4 8 = some (.putfield 95, 3, 4, 0) := by decide +kernel
theorem t4_11 : g_at 4 11 = some (.aload_n 0, 0, 0, 0) := by decide +kernel
theorem t4_12 : g_at 4 12 = some (.aload_n 0, 0, 0, 0) := by decide +kernel
theorem t4_13 : g_at 4 13 = some (.getfield 26, 3, 2, 0) := by decide +kernel
theorem t4_16 : g_at 4 16 = some (.getfield 222, 1, 5, 0) := by decide +kernel
theorem t4_19 : g_at 4 19 = some (.putfield 102, 3, 5, 0) := by decide +kernel
theorem t4_22 : g_at 4 22 = some (.aload_n 0, 0, 0, 0) := by decide +kernel
theorem t4_23 : g_at 4 23 = some (.iconst 1, 0, 0, 1) := by decide +kernel
theorem t4_24 : g_at 4 24 = some (.iconst 2, 0, 0, 2) := by decide +kernel
theorem t4_25 : g_at 4 25 = some (.iconst 3, 0, 0, 3) := by decide +kernel
theorem t4_26 : g_at 4 26 = some (.invokevirtual 155, 3, 3, 0) := by decide +kernel
theorem t4_29 : g_at 4 29 = some (.aload_n 0, 0, 0, 0) := by decide +kernel
theorem t4_30 : g_at 4 30 = some (.iconst 0, 0, 0, 0) := by decide +kernel
theorem t4_31 : g_at 4 31 = some (.putfield 159, 3, 8, 0) := by decide +kernel
theorem t4_34 : g_at 4 34 = some (.aload_n 0, 0, 0, 0) := by decide +kernel
theorem t4_35 : g_at 4 35 = some (.iconst 0, 0, 0, 0) := by decide +kernel
theorem t4_36 : g_at 4 36 = some (.putfield 146, 3, 10, 0) := by decide +kernel
theorem t4_39 : g_at 4 39 = some (.aload_n 0, 0, 0, 0) := by decide +kernel
theorem t4_40 : g_at 4 40 = some (.iconst 0, 0, 0, 0) := by decide +kernel
theorem t4_41 : g_at 4 41 = some (.putfield 193, 3, 14, 0) := by decide +kernel
theorem t4_44 : g_at 4 44 = some (.aload_n 0, 0, 0, 0) := by decide +kernel
theorem t4_45 : g_at 4 45 = some (.iconst 0, 0, 0, 0) := by decide +kernel
theorem t4_46 : g_at 4 46 = some (.putfield 219, 3, 12, 0) := by decide +kernel
theorem t4_49 : g_at 4 49 = some (.return_, 0, 0, 0) := by decide +kernel
theorem t5_0 : g_at 5 0 = some (.aload_n 0, 0, 0, 0) := by decide +kernel
theorem t5_1 : g_at 5 1 = some (.invokespecial 3, 999, 0, 0) := by decide +kernel
theorem t5_4 : g_at 5 4 = some (.aload_n 0, 0, 0, 0) := by decide +kernel
theorem t5_5 : g_at 5 5 = some (.new 9, 2, 0, 0) := by decide +kernel
theorem t5_8 : g_at 5 8 = some (.dup, 0, 0, 0) := by decide +kernel
theorem t5_9 : g_at 5 9 = some (.invokespecial 11, 0, 0, 0) := by decide +kernel
theorem t5_12 : g_at 5 12 = some (.putfield 12, 3, 0, 0) := by decide +kernel
theorem t5_15 : g_at 5 15 = some (.aload_n 0, 0, 0, 0) := by decide +kernel
theorem t5_16 : g_at 5 16 = some (.new 16, 0, 0, 0) := by decide +kernel
theorem t5_19 : g_at 5 19 = some (.dup, 0, 0, 0) := by decide +kernel
theorem t5_20 : g_at 5 20 = some (.invokespecial 18, 1, 0, 0) := by decide +kernel
theorem t5_23 : g_at 5 23 = some (.putfield 19, 3, 1, 0) := by decide +kernel
theorem t5_26 : g_at 5 26 = some (.aload_n 0, 0, 0, 0) := by decide +kernel
theorem t5_27 : g_at 5 27 = some (.new 23, 1, 0, 0) := by decide +kernel
theorem t5_30 : g_at 5 30 = some (.dup, 0, 0, 0) := by decide +kernel
theorem t5_31 : g_at 5 31 = some (.invokespecial 25, 2, 0, 0) := by decide +kernel
theorem t5_34 : g_at 5 34 = some (.putfield 26, 3, 2, 0) := by decide +kernel
theorem t5_37 : g_at 5 37 = some (.aload_n 0, 0, 0, 0) := by decide +kernel
theorem t5_38 : g_at 5 38 = some (.new 23, 1, 0, 0) := by decide +kernel
theorem t5_41 : g_at 5 41 = some (.dup, 0, 0, 0) := by decide +kernel
theorem t5_42 : g_at 5 42 = some (.invokespecial 25, 2, 0, 0) := by decide +kernel
theorem t5_45 : g_at 5 45 = some (.putfield 30, 3, 3, 0) := by decide +kernel
theorem t5_48 : g_at 5 48 = some (.aload_n 0, 0, 0, 0) := by decide +kernel
theorem t5_49 : g_at 5 49 = some (.iconst 3, 0, 0, 3) := by decide +kernel
theorem t5_50 : g_at 5 50 = some (.newarray .int, 0, 0, 0) := by decide +kernel
theorem t5_52 : g_at 5 52 = some (.putfield 33, 3, 6, 0) := by decide +kernel
theorem t5_55 : g_at 5 55 = some (.aload_n 0, 0, 0, 0) := by decide +kernel
theorem t5_56 : g_at 5 56 = some (.bipush (12), 0, 0, 12) := by decide +kernel
theorem t5_58 : g_at 5 58 = some (.newarray .int, 0, 0, 0) := by decide +kernel
theorem t5_60 : g_at 5 60 = some (.putfield 37, 3, 7, 0) := by decide +kernel
theorem t5_63 : g_at 5 63 = some (.aload_n 0, 0, 0, 0) := by decide +kernel
theorem t5_64 : g_at 5 64 = some (.bipush (10), 0, 0, 10) := by decide +kernel
theorem t5_66 : g_at 5 66 = some (.newarray .int, 0, 0, 0) := by decide +kernel
theorem t5_68 : g_at 5 68 = some (.putfield 40, 3, 9, 0) := by decide +kernel
theorem t5_71 : g_at 5 71 = some (.aload_n 0, 0, 0, 0) := by decide +kernel
theorem t5_72 : g_at 5 72 = some (.iconst 2, 0, 0, 2) := by decide +kernel
theorem t5_73 : g_at 5 73 = some (.newarray .int, 0, 0, 0) := by decide +kernel
theorem t5_75 : g_at 5 75 = some (.putfield 43, 3, 11, 0) := by decide +kernel
theorem t5_78 : g_at 5 78 = some (.aload_n 0, 0, 0, 0) := by decide +kernel
theorem t5_79 : g_at 5 79 = some (.bipush (6), 0, 0, 6) := by decide +kernel
theorem t5_81 : g_at 5 81 = some (.newarray .int, 0, 0, 0) := by decide +kernel
theorem t5_83 : g_at 5 83 = some (.putfield 46, 3, 13, 0) := by decide +kernel
theorem t5_86 : g_at 5 86 = some (.aload_n 0, 0, 0, 0) := by decide +kernel
theorem t5_87 : g_at 5 87 = some (.sipush (256), 0, 0, 256) := by decide +kernel
theorem t5_90 : g_at 5 90 = some (.newarray .int, 0, 0, 0) := by decide +kernel
theorem t5_92 : g_at 5 92 = some (.putfield 49, 3, 15, 0) := by decide +kernel
theorem t5_95 : g_at 5 95 = some (.aload_n 0, 0, 0, 0) := by decide +kernel
theorem t5_96 : g_at 5 96 = some (.invokevirtual 52, 4, 0, 0) := by decide +kernel
theorem t5_99 : g_at 5 99 = some (.return_, 0, 0, 0) := by decide +kernel
theorem t6_0 : g_at 6 0 = some (.iconst 0, 0, 0, 0) := by decide +kernel
theorem t6_1 : g_at 6 1 = some (.istore_n 1, 0, 0, 0) := by decide +kernel
theorem t6_2 : g_at 6 2 = some (.iload_n 1, 0, 0, 0) := by decide +kernel
theorem t6_3 : g_at 6 3 = some (.bipush (36), 0, 0, 36) := by decide +kernel
theorem t6_5 : g_at 6 5 = some (.if_icmp .ge (16), 21, 0, 0) := by decide +kernel
theorem t6_8 : g_at 6 8 = some (.aload_n 0, 0, 0, 0) := by decide +kernel
theorem t6_9 : g_at 6 9 = some (.getfield 16, 4, 9, 0) := by decide +kernel
theorem t6_12 : g_at 6 12 = some (.iload_n 1, 0, 0, 0) := by decide +kernel
theorem t6_13 : g_at 6 13 = some (.iconst 0, 0, 0, 0) := by decide +kernel
theorem t6_14 : g_at 6 14 = some (.iastore, 0, 0, 0) := by decide +kernel
theorem t6_15 : g_at 6 15 = some (.iinc 1 (1), 0, 0, 1) := by decide +kernel
theorem t6_18 : g_at 6 18 = some (.goto (-16), 2, 0, 0) := by decide +kernel
theorem t6_21 : g_at 6 21 = some (.aload_n 0, 0, 0, 0) := by decide +kernel
theorem t6_22 : g_at 6 22 = some (.getfield 16, 4, 9, 0) := by decide +kernel
theorem t6_25 : g_at 6 25 = some (.iconst 0, 0, 0, 0) := by decide +kernel
theorem t6_26 : g_at 6 26 = some (.iconst 3, 0, 0, 3) := by decide +kernel
theorem t6_27 : g_at 6 27 = some (.iastore, 0, 0, 0) := by decide +kernel
theorem t6_28 : g_at 6 28 = some (.aload_n 0, 0, 0, 0) := by decide +kernel
theorem t6_29 : g_at 6 29 = some (.getfield 19, 4, 10, 0) := by decide +kernel
theorem t6_32 : g_at 6 32 = some (.iconst 0, 0, 0, 0) := by decide +kernel
theorem t6_33 : g_at 6 33 = some (.iconst 0, 0, 0, 0) := by decide +kernel
theorem t6_34 : g_at 6 34 = some (.iastore, 0, 0, 0) := by decide +kernel
theorem t6_35 : g_at 6 35 = some (.aload_n 0, 0, 0, 0) := by decide +kernel
theorem t6_36 : g_at 6 36 = some (.getfield 19, 4, 10, 0) := by decide +kernel
theorem t6_39 : g_at 6 39 = some (.iconst 1, 0, 0, 1) := by decide +kernel
theorem t6_40 : g_at 6 40 = some (.iconst 0, 0, 0, 0) := by decide +kernel
theorem t6_41 : g_at 6 41 = some (.iastore, 0, 0, 0) := by decide +kernel
theorem t6_42 : g_at 6 42 = some (.aload_n 0, 0, 0, 0) := by decide +kernel
theorem t6_43 : g_at 6 43 = some (.getfield 19, 4, 10, 0) := by decide +kernel
theorem t6_46 : g_at 6 46 = some (.iconst 2, 0, 0, 2) := by decide +kernel
theorem t6_47 : g_at 6 47 = some (.iconst 1, 0, 0, 1) := by decide +kernel
theorem t6_48 : g_at 6 48 = some (.iastore, 0, 0, 0) := by decide +kernel
theorem t6_49 : g_at 6 49 = some (.aload_n 0, 0, 0, 0) := by decide +kernel
theorem t6_50 : g_at 6 50 = some (.getfield 19, 4, 10, 0) := by decide +kernel
theorem t6_53 : g_at 6 53 = some (.iconst 3, 0, 0, 3) := by decide +kernel
theorem t6_54 : g_at 6 54 = some (.iconst 2, 0, 0, 2) := by decide +kernel
theorem t6_55 : g_at 6 55 = some (.iastore, 0, 0, 0) := by decide +kernel
theorem t6_56 : g_at 6 56 = some (.aload_n 0, 0, 0, 0) := by decide +kernel
theorem t6_57 : g_at 6 57 = some (.getfield 19, 4, 10, 0) := by decide +kernel
theorem t6_60 : g_at 6 60 = some (.iconst 4, 0, 0, 4) := by decide +kernel
theorem t6_61 : g_at 6 61 = some (.iconst 3, 0, 0, 3) := by decide +kernel
theorem t6_62 : g_at 6 62 = some (.iastore, 0, 0, 0) := by decide +kernel
theorem t6_63 : g_at 6 63 = some (.return_, 0, 0, 0) := by decide +kernel
theorem t7_0 : g_at 7 0 = some (.iconst 0, 0, 0, 0) := by decide +kernel
theorem t7_1 : g_at 7 1 = some (.istore_n 1, 0, 0, 0) := by decide +kernel
theorem t7_2 : g_at 7 2 = some (.iload_n 1, 0, 0, 0) := by decide +kernel
theorem t7_3 : g_at 7 3 = some (.bipush (36), 0, 0, 36) := by decide +kernel
theorem t7_5 : g_at 7 5 = some (.if_icmp .ge (21), 26, 0, 0) := by decide +kernel
theorem t7_8 : g_at 7 8 = some (.aload_n 0, 0, 0, 0) := by decide +kernel
theorem t7_9 : g_at 7 9 = some (.getfield 13, 4, 8, 0) := by decide +kernel
theorem t7_12 : g_at 7 12 = some (.iload_n 1, 0, 0, 0) := by decide +kernel
theorem t7_13 : g_at 7 13 = some (.aload_n 0, 0, 0, 0) := by decide +kernel
theorem t7_14 : g_at 7 14 = some (.getfield 16, 4, 9, 0) := by decide +kernel
theorem t7_17 : g_at 7 17 = some (.iload_n 1, 0, 0, 0) := by decide +kernel
theorem t7_18 : g_at 7 18 = some (.iaload, 0, 0, 0) := by decide +kernel
theorem t7_19 : g_at 7 19 = some (.iastore, 0, 0, 0) := by decide +kernel
theorem t7_20 : g_at 7 20 = some (.iinc 1 (1), 0, 0, 1) := by decide +kernel
theorem t7_23 : g_at 7 23 = some (.goto (-21), 2, 0, 0) := by decide +kernel
theorem t7_26 : g_at 7 26 = some (.iconst 0, 0, 0, 0) := by decide +kernel
theorem t7_27 : g_at 7 27 = some (.istore_n 1, 0, 0, 0) := by decide +kernel
theorem t7_28 : g_at 7 28 = some (.iload_n 1, 0, 0, 0) := by decide +kernel
theorem t7_29 : g_at 7 29 = some (.iconst 5, 0, 0, 5) := by decide +kernel
theorem t7_30 : g_at 7 30 = some (.if_icmp .ge (21), 51, 0, 0) := by decide +kernel
theorem t7_33 : g_at 7 33 = some (.aload_n 0, 0, 0, 0) := by decide +kernel
theorem t7_34 : g_at 7 34 = some (.getfield 22, 4, 11, 0) := by decide +kernel
theorem t7_37 : g_at 7 37 = some (.iload_n 1, 0, 0, 0) := by decide +kernel
theorem t7_38 : g_at 7 38 = some (.aload_n 0, 0, 0, 0) := by decide +kernel
theorem t7_39 : g_at 7 39 = some (.getfield 19, 4, 10, 0) := by decide +kernel
theorem t7_42 : g_at 7 42 = some (.iload_n 1, 0, 0, 0) := by decide +kernel
theorem t7_43 : g_at 7 43 = some (.iaload, 0, 0, 0) := by decide +kernel
theorem t7_44 : g_at 7 44 = some (.iastore, 0, 0, 0) := by decide +kernel
theorem t7_45 : g_at 7 45 = some (.iinc 1 (1), 0, 0, 1) := by decide +kernel
theorem t7_48 : g_at 7 48 = some (.goto (-20), 28, 0, 0) := by decide +kernel
theorem t7_51 : g_at 7 51 = some (.aload_n 0, 0, 0, 0) := by decide +kernel
theorem t7_52 : g_at 7 52 = some (.iconst 0, 0, 0, 0) := by decide +kernel
theorem t7_53 : g_at 7 53 = some (.putfield 70, 4, 2, 0) := by decide +kernel
theorem t7_56 : g_at 7 56 = some (.aload_n 0, 0, 0, 0) := by decide +kernel
theorem t7_57 : g_at 7 57 = some (.iconst 0, 0, 0, 0) := by decide +kernel
theorem t7_58 : g_at 7 58 = some (.putfield 141, 4, 17, 0) := by decide +kernel
theorem t7_61 : g_at 7 61 = some (.aload_n 0, 0, 0, 0) := by decide +kernel
theorem t7_62 : g_at 7 62 = some (.iconst 0, 0, 0, 0) := by decide +kernel
theorem t7_63 : g_at 7 63 = some (.putfield 144, 4, 20, 0) := by decide +kernel
theorem t7_66 : g_at 7 66 = some (.aload_n 0, 0, 0, 0) := by decide +kernel
theorem t7_67 : g_at 7 67 = some (.iconst 0, 0, 0, 0) := by decide +kernel
theorem t7_68 : g_at 7 68 = some (.putfield 147, 4, 13, 0) := by decide +kernel
theorem t7_71 : g_at 7 71 = some (.aload_n 0, 0, 0, 0) := by decide +kernel
theorem t7_72 : g_at 7 72 = some (.getfield 31, 4, 15, 0) := by decide +kernel
theorem t7_75 : g_at 7 75 = some (.iconst 0, 0, 0, 0) := by decide +kernel
theorem t7_76 : g_at 7 76 = some (.iconst 0, 0, 0, 0) := by decide +kernel
theorem t7_77 : g_at 7 77 = some (.bastore, 0, 0, 0) := by decide +kernel
theorem t7_78 : g_at 7 78 = some (.aload_n 0, 0, 0, 0) := by decide +kernel
theorem t7_79 : g_at 7 79 = some (.getfield 31, 4, 15, 0) := by decide +kernel
theorem t7_82 : g_at 7 82 = some (.iconst 1, 0, 0, 1) := by decide +kernel
theorem t7_83 : g_at 7 83 = some (.iconst 0, 0, 0, 0) := by decide +kernel
theorem t7_84 : g_at 7 84 = some (.bastore, 0, 0, 0) := by decide +kernel
theorem t7_85 : g_at 7 85 = some (.return_, 0, 0, 0) := by decide +kernel
theorem t8_0 : g_at 8 0 = some (.aload_n 0, 0, 0, 0) := by decide +kernel
theorem t8_1 : g_at 8 1 = some (.invokespecial 1, 999, 0, 0) := by decide +kernel
theorem t8_4 : g_at 8 4 = some (.aload_n 0, 0, 0, 0) := by decide +kernel
theorem t8_5 : g_at 8 5 = some (.bipush (120), 0, 0, 120) := by decide +kernel
theorem t8_7 : g_at 8 7 = some (.newarray .int, 0, 0, 0) := by decide +kernel
theorem t8_9 : g_at 8 9 = some (.putfield 7, 4, 1, 0) := by decide +kernel
theorem t8_12 : g_at 8 12 = some (.aload_n 0, 0, 0, 0) := by decide +kernel
theorem t8_13 : g_at 8 13 = some (.bipush (36), 0, 0, 36) := by decide +kernel
theorem t8_15 : g_at 8 15 = some (.newarray .int, 0, 0, 0) := by decide +kernel
theorem t8_17 : g_at 8 17 = some (.putfield 13, 4, 8, 0) := by decide +kernel
theorem t8_20 : g_at 8 20 = some (.aload_n 0, 0, 0, 0) := by decide +kernel
theorem t8_21 : g_at 8 21 = some (.bipush (36), 0, 0, 36) := by decide +kernel
theorem t8_23 : g_at 8 23 = some (.newarray .int, 0, 0, 0) := by decide +kernel
theorem t8_25 : g_at 8 25 = some (.putfield 16, 4, 9, 0) := by decide +kernel
theorem t8_28 : g_at 8 28 = some (.aload_n 0, 0, 0, 0) := by decide +kernel
theorem t8_29 : g_at 8 29 = some (.iconst 5, 0, 0, 5) := by decide +kernel
theorem t8_30 : g_at 8 30 = some (.newarray .int, 0, 0, 0) := by decide +kernel
theorem t8_32 : g_at 8 32 = some (.putfield 19, 4, 10, 0) := by decide +kernel
theorem t8_35 : g_at 8 35 = some (.aload_n 0, 0, 0, 0) := by decide +kernel
theorem t8_36 : g_at 8 36 = some (.iconst 5, 0, 0, 5) := by decide +kernel
theorem t8_37 : g_at 8 37 = some (.newarray .int, 0, 0, 0) := by decide +kernel
theorem t8_39 : g_at 8 39 = some (.putfield 22, 4, 11, 0) := by decide +kernel
theorem t8_42 : g_at 8 42 = some (.aload_n 0, 0, 0, 0) := by decide +kernel
theorem t8_43 : g_at 8 43 = some (.bipush (50), 0, 0, 50) := by decide +kernel
theorem t8_45 : g_at 8 45 = some (.newarray .int, 0, 0, 0) := by decide +kernel
theorem t8_47 : g_at 8 47 = some (.putfield 25, 4, 12, 0) := by decide +kernel
theorem t8_50 : g_at 8 50 = some (.aload_n 0, 0, 0, 0) := by decide +kernel
theorem t8_51 : g_at 8 51 = some (.bipush (10), 0, 0, 10) := by decide +kernel
theorem t8_53 : g_at 8 53 = some (.newarray .int, 0, 0, 0) := by decide +kernel
theorem t8_55 : g_at 8 55 = some (.putfield 28, 4, 14, 0) := by decide +kernel
theorem t8_58 : g_at 8 58 = some (.aload_n 0, 0, 0, 0) := by decide +kernel
theorem t8_59 : g_at 8 59 = some (.iconst 2, 0, 0, 2) := by decide +kernel
theorem t8_60 : g_at 8 60 = some (.newarray .boolean, 1, 0, 0) := by decide +kernel
theorem t8_62 : g_at 8 62 = some (.putfield 31, 4, 15, 0) := by decide +kernel
theorem t8_65 : g_at 8 65 = some (.aload_n 0, 0, 0, 0) := by decide +kernel
theorem t8_66 : g_at 8 66 = some (.bipush (12), 0, 0, 12) := by decide +kernel
theorem t8_68 : g_at 8 68 = some (.newarray .int, 0, 0, 0) := by decide +kernel
theorem t8_70 : g_at 8 70 = some (.putfield 35, 4, 16, 0) := by decide +kernel
theorem t8_73 : g_at 8 73 = some (.aload_n 0, 0, 0, 0) := by decide +kernel
theorem t8_74 : g_at 8 74 = some (.bipush (6), 0, 0, 6) := by decide +kernel
theorem t8_76 : g_at 8 76 = some (.newarray .int, 0, 0, 0) := by decide +kernel
theorem t8_78 : g_at 8 78 = some (.putfield 38, 4, 18, 0) := by decide +kernel
theorem t8_81 : g_at 8 81 = some (.aload_n 0, 0, 0, 0) := by decide +kernel
theorem t8_82 : g_at 8 82 = some (.bipush (6), 0, 0, 6) := by decide +kernel
theorem t8_84 : g_at 8 84 = some (.newarray .int, 0, 0, 0) := by decide +kernel
theorem t8_86 : g_at 8 86 = some (.putfield 41, 4, 19, 0) := by decide +kernel
theorem t8_89 : g_at 8 89 = some (.aload_n 0, 0, 0, 0) := by decide +kernel
theorem t8_90 : g_at 8 90 = some (.bipush (6), 0, 0, 6) := by decide +kernel
theorem t8_92 : g_at 8 92 = some (.newarray .int, 0, 0, 0) := by decide +kernel
theorem t8_94 : g_at 8 94 = some (.putfield 44, 4, 21, 0) := by decide +kernel
theorem t8_97 : g_at 8 97 = some (.aload_n 0, 0, 0, 0) := by decide +kernel
theorem t8_98 : g_at 8 98 = some (.sipush (256), 0, 0, 256) := by decide +kernel
theorem t8_101 : g_at 8 101 = some (.newarray .int, 0, 0, 0) := by decide +kernel
theorem t8_103 : g_at 8 103 = some (.putfield 47, 4, 22, 0) := by decide +kernel
theorem t8_106 : g_at 8 106 = some (.aload_n 0, 0, 0, 0) := by decide +kernel
theorem t8_107 : g_at 8 107 = some (.sipush (256), 0, 0, 256) := by decide +kernel
theorem t8_110 : g_at 8 110 = some (.newarray .boolean, 1, 0, 0) := by decide +kernel
theorem t8_112 : g_at 8 112 = some (.putfield 50, 4, 23, 0) := by decide +kernel
theorem t8_115 : g_at 8 115 = some (.aload_n 0, 0, 0, 0) := by decide +kernel
theorem t8_116 : g_at 8 116 = some (.sipush (2048), 0, 0, 2048) := by decide +kernel
theorem t8_119 : g_at 8 119 = some (.newarray .boolean, 1, 0, 0) := by decide +kernel
theorem t8_121 : g_at 8 121 = some (.putfield 53, 4, 24, 0) := by decide +kernel
theorem t8_124 : g_at 8 124 = some (.aload_n 0, 0, 0, 0) := by decide +kernel
theorem t8_125 : g_at 8 125 = some (.invokevirtual 56, 6, 0, 0) := by decide +kernel
theorem t8_128 : g_at 8 128 = some (.aload_n 0, 0, 0, 0) := by decide +kernel
theorem t8_129 : g_at 8 129 = some (.invokevirtual 59, 7, 0, 0) := by decide +kernel
theorem t8_132 : g_at 8 132 = some (.return_, 0, 0, 0) := by decide +kernel
theorem t9_0 : g_at 9 0 = some (.iload_n 1, 0, 0, 0) := by decide +kernel
theorem t9_1 : g_at 9 1 = some (.ifCond .lt (10), 11, 0, 0) := by decide +kernel
theorem t9_4 : g_at 9 4 = some (.iload_n 1, 0, 0, 0) := by decide +kernel
theorem t9_5 : g_at 9 5 = some (.sipush (255), 0, 0, 255) := by decide +kernel
theorem t9_8 : g_at 9 8 = some (.if_icmp .le (5), 13, 0, 0) := by decide +kernel
theorem t9_11 : g_at 9 11 = some (.iconst (-1), 0, 0, (-1)) := by decide +kernel
theorem t9_12 : g_at 9 12 = some (.ireturn, 0, 0, 0) := by decide +kernel
theorem t9_13 : g_at 9 13 = some (.aload_n 0, 0, 0, 0) := by decide +kernel
theorem t9_14 : g_at 9 14 = some (.getfield 12, 3, 0, 0) := by decide +kernel
theorem t9_17 : g_at 9 17 = some (.getfield 55, 2, 1, 0) := by decide +kernel
theorem t9_20 : g_at 9 20 = some (.bipush (120), 0, 0, 120) := by decide +kernel
theorem t9_22 : g_at 9 22 = some (.if_icmp .lt (6), 28, 0, 0) := by decide +kernel
theorem t9_25 : g_at 9 25 = some (.bipush (-3), 0, 0, (-3)) := by decide +kernel
theorem t9_27 : g_at 9 27 = some (.ireturn, 0, 0, 0) := by decide +kernel
theorem t9_28 : g_at 9 28 = some (.aload_n 0, 0, 0, 0) := by decide +kernel
theorem t9_29 : g_at 9 29 = some (.getfield 12, 3, 0, 0) := by decide +kernel
theorem t9_32 : g_at 9 32 = some (.getfield 59, 2, 0, 0) := by decide +kernel
theorem t9_35 : g_at 9 35 = some (.aload_n 0, 0, 0, 0) := by decide +kernel
theorem t9_36 : g_at 9 36 = some (.getfield 12, 3, 0, 0) := by decide +kernel
theorem t9_39 : g_at 9 39 = some (.getfield 55, 2, 1, 0) := by decide +kernel
theorem t9_42 : g_at 9 42 = some (.iload_n 1, 0, 0, 0) := by decide +kernel
theorem t9_43 : g_at 9 43 = some (.iastore, 0, 0, 0) := by decide +kernel
theorem t9_44 : g_at 9 44 = some (.aload_n 0, 0, 0, 0) := by decide +kernel
theorem t9_45 : g_at 9 45 = some (.getfield 12, 3, 0, 0) := by decide +kernel
theorem t9_48 : g_at 9 48 = some (.dup, 0, 0, 0) := by decide +kernel
theorem t9_49 : g_at 9 49 = some (.getfield 55, 2, 1, 0) := by decide +kernel
theorem t9_52 : g_at 9 52 = some (.iconst 1, 0, 0, 1) := by decide +kernel
theorem t9_53 : g_at 9 53 = some (.iadd, 0, 0, 0) := by decide +kernel
theorem t9_54 : g_at 9 54 = some (.putfield 55, 2, 1, 0) := by decide +kernel
theorem t9_57 : g_at 9 57 = some (.aload_n 0, 0, 0, 0) := by decide +kernel
theorem t9_58 : g_at 9 58 = some (.getfield 12, 3, 0, 0) := by decide +kernel
theorem t9_61 : g_at 9 61 = some (.getfield 55, 2, 1, 0) := by decide +kernel
theorem t9_64 : g_at 9 64 = some (.ireturn, 0, 0, 0) := by decide +kernel
theorem t10_0 : g_at 10 0 = some (.iload_n 0, 0, 0, 0) := by decide +kernel
theorem t10_1 : g_at 10 1 = some (.iload_n 1, 0, 0, 0) := by decide +kernel
theorem t10_2 : g_at 10 2 = some (.if_icmp .lt (12), 14, 0, 0) := by decide +kernel
theorem t10_5 : g_at 10 5 = some (.iload_n 0, 0, 0, 0) := by decide +kernel
theorem t10_6 : g_at 10 6 = some (.iload_n 2, 0, 0, 0) := by decide +kernel
theorem t10_7 : g_at 10 7 = some (.if_icmp .gt (7), 14, 0, 0) := by decide +kernel
theorem t10_10 : g_at 10 10 = some (.iconst 1, 0, 0, 1) := by decide +kernel
theorem t10_11 : g_at 10 11 = some (.goto (4), 15, 0, 0) := by decide +kernel
theorem t10_14 : g_at 10 14 = some (.iconst 0, 0, 0, 0) := by decide +kernel
theorem t10_15 : g_at 10 15 = some (.ireturn, 0, 0, 0) := by decide +kernel
theorem t11_0 : g_at 11 0 = some (.aload_n 0, 0, 0, 0) := by decide +kernel
theorem t11_1 : g_at 11 1 = some (.iconst 0, 0, 0, 0) := by decide +kernel
theorem t11_2 : g_at 11 2 = some (.putfield 62, 4, 0, 0) := by decide +kernel
theorem t11_5 : g_at 11 5 = some (.iload_n 1, 0, 0, 0) := by decide +kernel
theorem t11_6 : g_at 11 6 = some (.iconst 0, 0, 0, 0) := by decide +kernel
theorem t11_7 : g_at 11 7 = some (.sipush (255), 0, 0, 255) := by decide +kernel
theorem t11_10 : g_at 11 10 = some (.invokestatic 66, 10, 3, 0) := by decide +kernel
theorem t11_13 : g_at 11 13 = some (.ifCond .ne (5), 18, 0, 0) := by decide +kernel
theorem t11_16 : g_at 11 16 = some (.iconst (-1), 0, 0, (-1)) := by decide +kernel
theorem t11_17 : g_at 11 17 = some (.ireturn, 0, 0, 0) := by decide +kernel
theorem t11_18 : g_at 11 18 = some (.aload_n 0, 0, 0, 0) := by decide +kernel
theorem t11_19 : g_at 11 19 = some (.getfield 70, 4, 2, 0) := by decide +kernel
theorem t11_22 : g_at 11 22 = some (.bipush (120), 0, 0, 120) := by decide +kernel
theorem t11_24 : g_at 11 24 = some (.if_icmp .ne (6), 30, 0, 0) := by decide +kernel
theorem t11_27 : g_at 11 27 = some (.bipush (-3), 0, 0, (-3)) := by decide +kernel
theorem t11_29 : g_at 11 29 = some (.ireturn, 0, 0, 0) := by decide +kernel
theorem t11_30 : g_at 11 30 = some (.aload_n 0, 0, 0, 0) := by decide +kernel
theorem t11_31 : g_at 11 31 = some (.getfield 7, 4, 1, 0) := by decide +kernel
theorem t11_34 : g_at 11 34 = some (.aload_n 0, 0, 0, 0) := by decide +kernel
theorem t11_35 : g_at 11 35 = some (.getfield 70, 4, 2, 0) := by decide +kernel
theorem t11_38 : g_at 11 38 = some (.iload_n 1, 0, 0, 0) := by decide +kernel
theorem t11_39 : g_at 11 39 = some (.iastore, 0, 0, 0) := by decide +kernel
theorem t11_40 : g_at 11 40 = some (.aload_n 0, 0, 0, 0) := by decide +kernel
theorem t11_41 : g_at 11 41 = some (.dup, 0, 0, 0) := by decide +kernel
theorem t11_42 : g_at 11 42 = some (.getfield 70, 4, 2, 0) := by decide +kernel
theorem t11_45 : g_at 11 45 = some (.iconst 1, 0, 0, 1) := by decide +kernel
theorem t11_46 : g_at 11 46 = some (.iadd, 0, 0, 0) := by decide +kernel
theorem t11_47 : g_at 11 47 = some (.putfield 70, 4, 2, 0) := by decide +kernel
theorem t11_50 : g_at 11 50 = some (.aload_n 0, 0, 0, 0) := by decide +kernel
theorem t11_51 : g_at 11 51 = some (.getfield 70, 4, 2, 0) := by decide +kernel
theorem t11_54 : g_at 11 54 = some (.ireturn, 0, 0, 0) := by decide +kernel
theorem t12_0 : g_at 12 0 = some (.aload_n 0, 0, 0, 0) := by decide +kernel
theorem t12_1 : g_at 12 1 = some (.getfield 12, 3, 0, 0) := by decide +kernel
theorem t12_4 : g_at 12 4 = some (.getfield 55, 2, 1, 0) := by decide +kernel
theorem t12_7 : g_at 12 7 = some (.istore_n 1, 0, 0, 0) := by decide +kernel
theorem t12_8 : g_at 12 8 = some (.aload_n 0, 0, 0, 0) := by decide +kernel
theorem t12_9 : g_at 12 9 = some (.getfield 12, 3, 0, 0) := by decide +kernel
theorem t12_12 : g_at 12 12 = some (.iconst 0, 0, 0, 0) := by decide +kernel
theorem t12_13 : g_at 12 13 = some (.putfield 55, 2, 1, 0) := by decide +kernel
theorem t12_16 : g_at 12 16 = some (.iload_n 1, 0, 0, 0) := by decide +kernel
theorem t12_17 : g_at 12 17 = some (.ireturn, 0, 0, 0) := by decide +kernel
theorem t13_0 : g_at 13 0 = some (.aload_n 0, 0, 0, 0) := by decide +kernel
theorem t13_1 : g_at 13 1 = some (.iconst 0, 0, 0, 0) := by decide +kernel
theorem t13_2 : g_at 13 2 = some (.putfield 62, 4, 0, 0) := by decide +kernel
theorem t13_5 : g_at 13 5 = some (.aload_n 0, 0, 0, 0) := by decide +kernel
theorem t13_6 : g_at 13 6 = some (.getfield 70, 4, 2, 0) := by decide +kernel
theorem t13_9 : g_at 13 9 = some (.istore_n 1, 0, 0, 0) := by decide +kernel
theorem t13_10 : g_at 13 10 = some (.aload_n 0, 0, 0, 0) := by decide +kernel
theorem t13_11 : g_at 13 11 = some (.iconst 0, 0, 0, 0) := by decide +kernel
theorem t13_12 : g_at 13 12 = some (.putfield 70, 4, 2, 0) := by decide +kernel
theorem t13_15 : g_at 13 15 = some (.iload_n 1, 0, 0, 0) := by decide +kernel
theorem t13_16 : g_at 13 16 = some (.ireturn, 0, 0, 0) := by decide +kernel
theorem t14_0 : g_at 14 0 = some (.aload_n 0, 0, 0, 0) := by decide +kernel
theorem t14_1 : g_at 14 1 = some (.iconst 3, 0, 0, 3) := by decide +kernel
theorem t14_2 : g_at 14 2 = some (.putfield 43, 0, 0, 0) := by decide +kernel
theorem t14_5 : g_at 14 5 = some (.aload_n 0, 0, 0, 0) := by decide +kernel
theorem t14_6 : g_at 14 6 = some (.iconst 0, 0, 0, 0) := by decide +kernel
theorem t14_7 : g_at 14 7 = some (.putfield 46, 0, 1, 0) := by decide +kernel
theorem t14_10 : g_at 14 10 = some (.aload_n 0, 0, 0, 0) := by decide +kernel
theorem t14_11 : g_at 14 11 = some (.iconst 0, 0, 0, 0) := by decide +kernel
theorem t14_12 : g_at 14 12 = some (.putfield 49, 0, 2, 0) := by decide +kernel
theorem t14_15 : g_at 14 15 = some (.aload_n 0, 0, 0, 0) := by decide +kernel
theorem t14_16 : g_at 14 16 = some (.iconst 0, 0, 0, 0) := by decide +kernel
theorem t14_17 : g_at 14 17 = some (.putfield 52, 0, 3, 0) := by decide +kernel
theorem t14_20 : g_at 14 20 = some (.aload_n 0, 0, 0, 0) := by decide +kernel
theorem t14_21 : g_at 14 21 = some (.iconst 0, 0, 0, 0) := by decide +kernel
theorem t14_22 : g_at 14 22 = some (.putfield 55, 0, 4, 0) := by decide +kernel
theorem t14_25 : g_at 14 25 = some (.aload_n 0, 0, 0, 0) := by decide +kernel
theorem t14_26 : g_at 14 26 = some (.iconst 0, 0, 0, 0) := by decide +kernel
theorem t14_27 : g_at 14 27 = some (.putfield 58, 0, 5, 0) := by decide +kernel
theorem t14_30 : g_at 14 30 = some (.return_, 0, 0, 0) := by decide +kernel
theorem t15_0 : g_at 15 0 = some (.aload_n 0, 0, 0, 0) := by decide +kernel
theorem t15_1 : g_at 15 1 = some (.iconst 0, 0, 0, 0) := by decide +kernel
theorem t15_2 : g_at 15 2 = some (.putfield 15, 2, 2, 0) := by decide +kernel
theorem t15_5 : g_at 15 5 = some (.return_, 0, 0, 0) := by decide +kernel
theorem t16_0 : g_at 16 0 = some (.iconst 0, 0, 0, 0) := by decide +kernel
theorem t16_1 : g_at 16 1 = some (.istore_n 1, 0, 0, 0) := by decide +kernel
theorem t16_2 : g_at 16 2 = some (.aload_n 0, 0, 0, 0) := by decide +kernel
theorem t16_3 : g_at 16 3 = some (.getfield 15, 2, 2, 0) := by decide +kernel
theorem t16_6 : g_at 16 6 = some (.aload_n 0, 0, 0, 0) := by decide +kernel
theorem t16_7 : g_at 16 7 = some (.getfield 19, 2, 1, 0) := by decide +kernel
theorem t16_10 : g_at 16 10 = some (.if_icmp .ge (68), 78, 0, 0) := by decide +kernel
theorem t16_13 : g_at 16 13 = some (.aload_n 0, 0, 0, 0) := by decide +kernel
theorem t16_14 : g_at 16 14 = some (.getfield 9, 2, 0, 0) := by decide +kernel
theorem t16_17 : g_at 16 17 = some (.aload_n 0, 0, 0, 0) := by decide +kernel
theorem t16_18 : g_at 16 18 = some (.getfield 15, 2, 2, 0) := by decide +kernel
theorem t16_21 : g_at 16 21 = some (.iaload, 0, 0, 0) := by decide +kernel
theorem t16_22 : g_at 16 22 = some (.bipush (48), 0, 0, 48) := by decide +kernel
theorem t16_24 : g_at 16 24 = some (.if_icmp .lt (54), 78, 0, 0) := by decide +kernel
theorem t16_27 : g_at 16 27 = some (.aload_n 0, 0, 0, 0) := by decide +kernel
theorem t16_28 : g_at 16 28 = some (.getfield 9, 2, 0, 0) := by decide +kernel
theorem t16_31 : g_at 16 31 = some (.aload_n 0, 0, 0, 0) := by decide +kernel
theorem t16_32 : g_at 16 32 = some (.getfield 15, 2, 2, 0) := by decide +kernel
theorem t16_35 : g_at 16 35 = some (.iaload, 0, 0, 0) := by decide +kernel
theorem t16_36 : g_at 16 36 = some (.bipush (57), 0, 0, 57) := by decide +kernel
theorem t16_38 : g_at 16 38 = some (.if_icmp .gt (40), 78, 0, 0) := by decide +kernel
theorem t16_41 : g_at 16 41 = some (.iload_n 1, 0, 0, 0) := by decide +kernel
theorem t16_42 : g_at 16 42 = some (.bipush (99), 0, 0, 99) := by decide +kernel
theorem t16_44 : g_at 16 44 = some (.if_icmp .gt (21), 65, 0, 0) := by decide +kernel
theorem t16_47 : g_at 16 47 = some (.bipush (10), 0, 0, 10) := by decide +kernel
theorem t16_49 : g_at 16 49 = some (.iload_n 1, 0, 0, 0) := by decide +kernel
theorem t16_50 : g_at 16 50 = some (.imul, 0, 0, 0) := by decide +kernel
theorem t16_51 : g_at 16 51 = some (.aload_n 0, 0, 0, 0) := by decide +kernel
theorem t16_52 : g_at 16 52 = some (.getfield 9, 2, 0, 0) := by decide +kernel
theorem t16_55 : g_at 16 55 = some (.aload_n 0, 0, 0, 0) := by decide +kernel
theorem t16_56 : g_at 16 56 = some (.getfield 15, 2, 2, 0) := by decide +kernel
theorem t16_59 : g_at 16 59 = some (.iaload, 0, 0, 0) := by decide +kernel
theorem t16_60 : g_at 16 60 = some (.iadd, 0, 0, 0) := by decide +kernel
theorem t16_61 : g_at 16 61 = some (.bipush (48), 0, 0, 48) := by decide +kernel
theorem t16_63 : g_at 16 63 = some (.isub, 0, 0, 0) := by decide +kernel
theorem t16_64 : g_at 16 64 = some (.istore_n 1, 0, 0, 0) := by decide +kernel
theorem t16_65 : g_at 16 65 = some (.aload_n 0, 0, 0, 0) := by decide +kernel
theorem t16_66 : g_at 16 66 = some (.dup, 0, 0, 0) := by decide +kernel
theorem t16_67 : g_at 16 67 = some (.getfield 15, 2, 2, 0) := by decide +kernel
theorem t16_70 : g_at 16 70 = some (.iconst 1, 0, 0, 1) := by decide +kernel
theorem t16_71 : g_at 16 71 = some (.iadd, 0, 0, 0) := by decide +kernel
theorem t16_72 : g_at 16 72 = some (.putfield 15, 2, 2, 0) := by decide +kernel
theorem t16_75 : g_at 16 75 = some (.goto (-73), 2, 0, 0) := by decide +kernel
theorem t16_78 : g_at 16 78 = some (.aload_n 0, 0, 0, 0) := by decide +kernel
theorem t16_79 : g_at 16 79 = some (.getfield 9, 2, 0, 0) := by decide +kernel
theorem t16_82 : g_at 16 82 = some (.aload_n 0, 0, 0, 0) := by decide +kernel
theorem t16_83 : g_at 16 83 = some (.getfield 22, 2, 3, 0) := by decide +kernel
theorem t16_86 : g_at 16 86 = some (.iaload, 0, 0, 0) := by decide +kernel
theorem t16_87 : g_at 16 87 = some (.bipush (48), 0, 0, 48) := by decide +kernel
theorem t16_89 : g_at 16 89 = some (.if_icmp .ne (20), 109, 0, 0) := by decide +kernel
theorem t16_92 : g_at 16 92 = some (.aload_n 0, 0, 0, 0) := by decide +kernel
theorem t16_93 : g_at 16 93 = some (.getfield 15, 2, 2, 0) := by decide +kernel
theorem t16_96 : g_at 16 96 = some (.aload_n 0, 0, 0, 0) := by decide +kernel
theorem t16_97 : g_at 16 97 = some (.getfield 22, 2, 3, 0) := by decide +kernel
theorem t16_100 : g_at 16 100 = some (.isub, 0, 0, 0) := by decide +kernel
theorem t16_101 : g_at 16 101 = some (.iconst 1, 0, 0, 1) := by decide +kernel
theorem t16_102 : g_at 16 102 = some (.if_icmp .le (7), 109, 0, 0) := by decide +kernel
theorem t16_105 : g_at 16 105 = some (.iconst 1, 0, 0, 1) := by decide +kernel
theorem t16_106 : g_at 16 106 = some (.goto (4), 110, 0, 0) := by decide +kernel
theorem t16_109 : g_at 16 109 = some (.iconst 0, 0, 0, 0) := by decide +kernel
theorem t16_110 : g_at 16 110 = some (.istore_n 2, 0, 0, 0) := by decide +kernel
theorem t16_111 : g_at 16 111 = some (.aload_n 0, 0, 0, 0) := by decide +kernel
theorem t16_112 : g_at 16 112 = some (.iload_n 1, 0, 0, 0) := by decide +kernel
theorem t16_113 : g_at 16 113 = some (.putfield 31, 2, 5, 0) := by decide +kernel
theorem t16_116 : g_at 16 116 = some (.aload_n 0, 0, 0, 0) := by decide +kernel
theorem t16_117 : g_at 16 117 = some (.iload_n 1, 0, 0, 0) := by decide +kernel
theorem t16_118 : g_at 16 118 = some (.bipush (99), 0, 0, 99) := by decide +kernel
theorem t16_120 : g_at 16 120 = some (.if_icmp .gt (7), 127, 0, 0) := by decide +kernel
theorem t16_123 : g_at 16 123 = some (.iload_n 2, 0, 0, 0) := by decide +kernel
theorem t16_124 : g_at 16 124 = some (.ifCond .eq (7), 131, 0, 0) := by decide +kernel
theorem t16_127 : g_at 16 127 = some (.iconst 4, 0, 0, 4) := by decide +kernel
theorem t16_128 : g_at 16 128 = some (.goto (4), 132, 0, 0) := by decide +kernel
theorem t16_131 : g_at 16 131 = some (.iconst 2, 0, 0, 2) := by decide +kernel
theorem t16_132 : g_at 16 132 = some (.putfield 25, 2, 4, 0) := by decide +kernel
theorem t16_135 : g_at 16 135 = some (.return_, 0, 0, 0) := by decide +kernel
theorem t17_0 : g_at 17 0 = some (.iload_n 0, 0, 0, 0) := by decide +kernel
theorem t17_1 : g_at 17 1 = some (.bipush (97), 0, 0, 97) := by decide +kernel
theorem t17_3 : g_at 17 3 = some (.if_icmp .lt (13), 16, 0, 0) := by decide +kernel
theorem t17_6 : g_at 17 6 = some (.iload_n 0, 0, 0, 0) := by decide +kernel
theorem t17_7 : g_at 17 7 = some (.bipush (122), 0, 0, 122) := by decide +kernel
theorem t17_9 : g_at 17 9 = some (.if_icmp .gt (7), 16, 0, 0) := by decide +kernel
theorem t17_12 : g_at 17 12 = some (.iconst 1, 0, 0, 1) := by decide +kernel
theorem t17_13 : g_at 17 13 = some (.goto (4), 17, 0, 0) := by decide +kernel
theorem t17_16 : g_at 17 16 = some (.iconst 0, 0, 0, 0) := by decide +kernel
theorem t17_17 : g_at 17 17 = some (.ireturn, 0, 0, 0) := by decide +kernel
theorem t18_0 : g_at 18 0 = some (.aload_n 0, 0, 0, 0) := by decide +kernel
theorem t18_1 : g_at 18 1 = some (.getfield 15, 2, 2, 0) := by decide +kernel
theorem t18_4 : g_at 18 4 = some (.aload_n 0, 0, 0, 0) := by decide +kernel
theorem t18_5 : g_at 18 5 = some (.getfield 19, 2, 1, 0) := by decide +kernel
theorem t18_8 : g_at 18 8 = some (.if_icmp .ge (30), 38, 0, 0) := by decide +kernel
theorem t18_11 : g_at 18 11 = some (.aload_n 0, 0, 0, 0) := by decide +kernel
theorem t18_12 : g_at 18 12 = some (.getfield 9, 2, 0, 0) := by decide +kernel
theorem t18_15 : g_at 18 15 = some (.aload_n 0, 0, 0, 0) := by decide +kernel
theorem t18_16 : g_at 18 16 = some (.getfield 15, 2, 2, 0) := by decide +kernel
theorem t18_19 : g_at 18 19 = some (.iaload, 0, 0, 0) := by decide +kernel
theorem t18_20 : g_at 18 20 = some (.bipush (32), 0, 0, 32) := by decide +kernel
theorem t18_22 : g_at 18 22 = some (.if_icmp .ne (16), 38, 0, 0) := by decide +kernel
theorem t18_25 : g_at 18 25 = some (.aload_n 0, 0, 0, 0) := by decide +kernel
theorem t18_26 : g_at 18 26 = some (.dup, 0, 0, 0) := by decide +kernel
theorem t18_27 : g_at 18 27 = some (.getfield 15, 2, 2, 0) := by decide +kernel
theorem t18_30 : g_at 18 30 = some (.iconst 1, 0, 0, 1) := by decide +kernel
theorem t18_31 : g_at 18 31 = some (.iadd, 0, 0, 0) := by decide +kernel
theorem t18_32 : g_at 18 32 = some (.putfield 15, 2, 2, 0) := by decide +kernel
theorem t18_35 : g_at 18 35 = some (.goto (-35), 0, 0, 0) := by decide +kernel
theorem t18_38 : g_at 18 38 = some (.aload_n 0, 0, 0, 0) := by decide +kernel
theorem t18_39 : g_at 18 39 = some (.aload_n 0, 0, 0, 0) := by decide +kernel
theorem t18_40 : g_at 18 40 = some (.getfield 15, 2, 2, 0) := by decide +kernel
theorem t18_43 : g_at 18 43 = some (.putfield 22, 2, 3, 0) := by decide +kernel
theorem t18_46 : g_at 18 46 = some (.aload_n 0, 0, 0, 0) := by decide +kernel
theorem t18_47 : g_at 18 47 = some (.getfield 15, 2, 2, 0) := by decide +kernel
theorem t18_50 : g_at 18 50 = some (.aload_n 0, 0, 0, 0) := by decide +kernel
theorem t18_51 : g_at 18 51 = some (.getfield 19, 2, 1, 0) := by decide +kernel
theorem t18_54 : g_at 18 54 = some (.if_icmp .lt (9), 63, 0, 0) := by decide +kernel
theorem t18_57 : g_at 18 57 = some (.aload_n 0, 0, 0, 0) := by decide +kernel
theorem t18_58 : g_at 18 58 = some (.iconst 0, 0, 0, 0) := by decide +kernel
theorem t18_59 : g_at 18 59 = some (.putfield 25, 2, 4, 0) := by decide +kernel
theorem t18_62 : g_at 18 62 = some (.return_, 0, 0, 0) := by decide +kernel
theorem t18_63 : g_at 18 63 = some (.aload_n 0, 0, 0, 0) := by decide +kernel
theorem t18_64 : g_at 18 64 = some (.getfield 9, 2, 0, 0) := by decide +kernel
theorem t18_67 : g_at 18 67 = some (.aload_n 0, 0, 0, 0) := by decide +kernel
theorem t18_68 : g_at 18 68 = some (.getfield 15, 2, 2, 0) := by decide +kernel
theorem t18_71 : g_at 18 71 = some (.iaload, 0, 0, 0) := by decide +kernel
theorem t18_72 : g_at 18 72 = some (.istore_n 1, 0, 0, 0) := by decide +kernel
theorem t18_73 : g_at 18 73 = some (.iload_n 1, 0, 0, 0) := by decide +kernel
theorem t18_74 : g_at 18 74 = some (.bipush (48), 0, 0, 48) := by decide +kernel
theorem t18_76 : g_at 18 76 = some (.if_icmp .lt (14), 90, 0, 0) := by decide +kernel
theorem t18_79 : g_at 18 79 = some (.iload_n 1, 0, 0, 0) := by decide +kernel
theorem t18_80 : g_at 18 80 = some (.bipush (57), 0, 0, 57) := by decide +kernel
theorem t18_82 : g_at 18 82 = some (.if_icmp .gt (8), 90, 0, 0) := by decide +kernel
theorem t18_85 : g_at 18 85 = some (.aload_n 0, 0, 0, 0) := by decide +kernel
theorem t18_86 : g_at 18 86 = some (.invokevirtual 28, 16, 0, 0) := by decide +kernel
theorem t18_89 : g_at 18 89 = some (.return_, 0, 0, 0) := by decide +kernel
theorem t18_90 : g_at 18 90 = some (.aload_n 0, 0, 0, 0) := by decide +kernel
theorem t18_91 : g_at 18 91 = some (.dup, 0, 0, 0) := by decide +kernel
theorem t18_92 : g_at 18 92 = some (.getfield 15, 2, 2, 0) := by decide +kernel
theorem t18_95 : g_at 18 95 = some (.iconst 1, 0, 0, 1) := by decide +kernel
theorem t18_96 : g_at 18 96 = some (.iadd, 0, 0, 0) := by decide +kernel
theorem t18_97 : g_at 18 97 = some (.putfield 15, 2, 2, 0) := by decide +kernel
theorem t18_100 : g_at 18 100 = some (.aload_n 0, 0, 0, 0) := by decide +kernel
theorem t18_101 : g_at 18 101 = some (.iload_n 1, 0, 0, 0) := by decide +kernel
theorem t18_102 : g_at 18 102 = some (.bipush (97), 0, 0, 97) := by decide +kernel
theorem t18_104 : g_at 18 104 = some (.isub, 0, 0, 0) := by decide +kernel
theorem t18_105 : g_at 18 105 = some (.putfield 31, 2, 5, 0) := by decide +kernel
theorem t18_108 : g_at 18 108 = some (.aload_n 0, 0, 0, 0) := by decide +kernel
theorem t18_109 : g_at 18 109 = some (.iload_n 1, 0, 0, 0) := by decide +kernel
theorem t18_110 : g_at 18 110 = some (.bipush (59), 0, 0, 59) := by decide +kernel
theorem t18_112 : g_at 18 112 = some (.if_icmp .ne (7), 119, 0, 0) := by decide +kernel
theorem t18_115 : g_at 18 115 = some (.iconst 3, 0, 0, 3) := by decide +kernel
theorem t18_116 : g_at 18 116 = some (.goto (15), 131, 0, 0) := by decide +kernel
theorem t18_119 : g_at 18 119 = some (.iload_n 1, 0, 0, 0) := by decide +kernel
theorem t18_120 : g_at 18 120 = some (.invokestatic 34, 17, 1, 0) := by decide +kernel
theorem t18_123 : g_at 18 123 = some (.ifCond .eq (7), 130, 0, 0) := by decide +kernel
theorem t18_126 : g_at 18 126 = some (.iconst 1, 0, 0, 1) := by decide +kernel
theorem t18_127 : g_at 18 127 = some (.goto (4), 131, 0, 0) := by decide +kernel
theorem t18_130 : g_at 18 130 = some (.iconst 4, 0, 0, 4) := by decide +kernel
theorem t18_131 : g_at 18 131 = some (.putfield 25, 2, 4, 0) := by decide +kernel
theorem t18_134 : g_at 18 134 = some (.return_, 0, 0, 0) := by decide +kernel
theorem t19_0 : g_at 19 0 = some (.iload_n 0, 0, 0, 0) := by decide +kernel
theorem t19_1 : g_at 19 1 = some (.iload_n 1, 0, 0, 0) := by decide +kernel
theorem t19_2 : g_at 19 2 = some (.ishr, 0, 0, 0) := by decide +kernel
theorem t19_3 : g_at 19 3 = some (.iconst 1, 0, 0, 1) := by decide +kernel
theorem t19_4 : g_at 19 4 = some (.iand, 0, 0, 0) := by decide +kernel
theorem t19_5 : g_at 19 5 = some (.ireturn, 0, 0, 0) := by decide +kernel
theorem t20_0 : g_at 20 0 = some (.aload_n 0, 0, 0, 0) := by decide +kernel
theorem t20_1 : g_at 20 1 = some (.invokevirtual 38, 18, 0, 0) := by decide +kernel
theorem t20_4 : g_at 20 4 = some (.aload_n 0, 0, 0, 0) := by decide +kernel
theorem t20_5 : g_at 20 5 = some (.getfield 25, 2, 4, 0) := by decide +kernel
theorem t20_8 : g_at 20 8 = some (.iload_n 1, 0, 0, 0) := by decide +kernel
theorem t20_9 : g_at 20 9 = some (.if_icmp .ne (35), 44, 0, 0) := by decide +kernel
theorem t20_12 : g_at 20 12 = some (.aload_n 0, 0, 0, 0) := by decide +kernel
theorem t20_13 : g_at 20 13 = some (.getfield 31, 2, 5, 0) := by decide +kernel
theorem t20_16 : g_at 20 16 = some (.ifCond .lt (28), 44, 0, 0) := by decide +kernel
theorem t20_19 : g_at 20 19 = some (.aload_n 0, 0, 0, 0) := by decide +kernel
theorem t20_20 : g_at 20 20 = some (.getfield 31, 2, 5, 0) := by decide +kernel
theorem t20_23 : g_at 20 23 = some (.bipush (32), 0, 0, 32) := by decide +kernel
theorem t20_25 : g_at 20 25 = some (.if_icmp .ge (19), 44, 0, 0) := by decide +kernel
theorem t20_28 : g_at 20 28 = some (.iload_n 2, 0, 0, 0) := by decide +kernel
theorem t20_29 : g_at 20 29 = some (.aload_n 0, 0, 0, 0) := by decide +kernel
theorem t20_30 : g_at 20 30 = some (.getfield 31, 2, 5, 0) := by decide +kernel
theorem t20_33 : g_at 20 33 = some (.invokestatic 41, 19, 2, 0) := by decide +kernel
theorem t20_36 : g_at 20 36 = some (.iconst 1, 0, 0, 1) := by decide +kernel
theorem t20_37 : g_at 20 37 = some (.if_icmp .ne (7), 44, 0, 0) := by decide +kernel
theorem t20_40 : g_at 20 40 = some (.iconst 1, 0, 0, 1) := by decide +kernel
theorem t20_41 : g_at 20 41 = some (.goto (4), 45, 0, 0) := by decide +kernel
theorem t20_44 : g_at 20 44 = some (.iconst 0, 0, 0, 0) := by decide +kernel
theorem t20_45 : g_at 20 45 = some (.istore_n 3, 0, 0, 0) := by decide +kernel
theorem t20_46 : g_at 20 46 = some (.iload_n 3, 0, 0, 0) := by decide +kernel
theorem t20_47 : g_at 20 47 = some (.ifCond .eq (10), 57, 0, 0) := by decide +kernel
theorem t20_50 : g_at 20 50 = some (.aload_n 0, 0, 0, 0) := by decide +kernel
theorem t20_51 : g_at 20 51 = some (.getfield 31, 2, 5, 0) := by decide +kernel
theorem t20_54 : g_at 20 54 = some (.goto (4), 58, 0, 0) := by decide +kernel
theorem t20_57 : g_at 20 57 = some (.iconst (-1), 0, 0, (-1)) := by decide +kernel
theorem t20_58 : g_at 20 58 = some (.ireturn, 0, 0, 0) := by decide +kernel
theorem t21_0 : g_at 21 0 = some (.aload_n 1, 0, 0, 0) := by decide +kernel
theorem t21_1 : g_at 21 1 = some (.iconst 2, 0, 0, 2) := by decide +kernel
theorem t21_2 : g_at 21 2 = some (.bipush (124), 0, 0, 124) := by decide +kernel
theorem t21_4 : g_at 21 4 = some (.invokevirtual 83, 20, 2, 0) := by decide +kernel
theorem t21_7 : g_at 21 7 = some (.istore_n 2, 0, 0, 0) := by decide +kernel
theorem t21_8 : g_at 21 8 = some (.iload_n 2, 0, 0, 0) := by decide +kernel
theorem t21_9 : g_at 21 9 = some (.ifCond .ge (5), 14, 0, 0) := by decide +kernel
theorem t21_12 : g_at 21 12 = some (.iconst 0, 0, 0, 0) := by decide +kernel
theorem t21_13 : g_at 21 13 = some (.ireturn, 0, 0, 0) := by decide +kernel
theorem t21_14 : g_at 21 14 = some (.aload_n 0, 0, 0, 0) := by decide +kernel
theorem t21_15 : g_at 21 15 = some (.iload_n 2, 0, 0, 0) := by decide +kernel
theorem t21_16 : g_at 21 16 = some (.putfield 43, 0, 0, 0) := by decide +kernel
theorem t21_19 : g_at 21 19 = some (.iconst 1, 0, 0, 1) := by decide +kernel
theorem t21_20 : g_at 21 20 = some (.ireturn, 0, 0, 0) := by decide +kernel
theorem t22_0 : g_at 22 0 = some (.iconst 1, 0, 0, 1) := by decide +kernel
theorem t22_1 : g_at 22 1 = some (.aload_n 0, 0, 0, 0) := by decide +kernel
theorem t22_2 : g_at 22 2 = some (.getfield 43, 0, 0, 0) := by decide +kernel
theorem t22_5 : g_at 22 5 = some (.ishl, 0, 0, 0) := by decide +kernel
theorem t22_6 : g_at 22 6 = some (.iconst 1, 0, 0, 1) := by decide +kernel
theorem t22_7 : g_at 22 7 = some (.isub, 0, 0, 0) := by decide +kernel
theorem t22_8 : g_at 22 8 = some (.ireturn, 0, 0, 0) := by decide +kernel
theorem t23_0 : g_at 23 0 = some (.iload_n 0, 0, 0, 0) := by decide +kernel
theorem t23_1 : g_at 23 1 = some (.ifCond .ge (7), 8, 0, 0) := by decide +kernel
theorem t23_4 : g_at 23 4 = some (.iconst 0, 0, 0, 0) := by decide +kernel
theorem t23_5 : g_at 23 5 = some (.goto (6), 11, 0, 0) := by decide +kernel
theorem t23_8 : g_at 23 8 = some (.iconst 1, 0, 0, 1) := by decide +kernel
theorem t23_9 : g_at 23 9 = some (.iload_n 0, 0, 0, 0) := by decide +kernel
theorem t23_10 : g_at 23 10 = some (.ishl, 0, 0, 0) := by decide +kernel
theorem t23_11 : g_at 23 11 = some (.ireturn, 0, 0, 0) := by decide +kernel
theorem t24_0 : g_at 24 0 = some (.aload_n 1, 0, 0, 0) := by decide +kernel
theorem t24_1 : g_at 24 1 = some (.iconst 2, 0, 0, 2) := by decide +kernel
theorem t24_2 : g_at 24 2 = some (.aload_n 0, 0, 0, 0) := by decide +kernel
theorem t24_3 : g_at 24 3 = some (.invokevirtual 87, 22, 0, 0) := by decide +kernel
theorem t24_6 : g_at 24 6 = some (.aload_n 0, 0, 0, 0) := by decide +kernel
theorem t24_7 : g_at 24 7 = some (.getfield 46, 0, 1, 0) := by decide +kernel
theorem t24_10 : g_at 24 10 = some (.iconst (-1), 0, 0, (-1)) := by decide +kernel
theorem t24_11 : g_at 24 11 = some (.ixor, 0, 0, 0) := by decide +kernel
theorem t24_12 : g_at 24 12 = some (.iand, 0, 0, 0) := by decide +kernel
theorem t24_13 : g_at 24 13 = some (.invokevirtual 83, 20, 2, 0) := by decide +kernel
theorem t24_16 : g_at 24 16 = some (.istore_n 2, 0, 0, 0) := by decide +kernel
theorem t24_17 : g_at 24 17 = some (.aload_n 0, 0, 0, 0) := by decide +kernel
theorem t24_18 : g_at 24 18 = some (.dup, 0, 0, 0) := by decide +kernel
theorem t24_19 : g_at 24 19 = some (.getfield 46, 0, 1, 0) := by decide +kernel
theorem t24_22 : g_at 24 22 = some (.iload_n 2, 0, 0, 0) := by decide +kernel
theorem t24_23 : g_at 24 23 = some (.invokestatic 91, 23, 1, 0) := by decide +kernel
theorem t24_26 : g_at 24 26 = some (.ior, 0, 0, 0) := by decide +kernel
theorem t24_27 : g_at 24 27 = some (.putfield 46, 0, 1, 0) := by decide +kernel
theorem t24_30 : g_at 24 30 = some (.iload_n 2, 0, 0, 0) := by decide +kernel
theorem t24_31 : g_at 24 31 = some (.ifCond .lt (7), 38, 0, 0) := by decide +kernel
theorem t24_34 : g_at 24 34 = some (.iconst 1, 0, 0, 1) := by decide +kernel
theorem t24_35 : g_at 24 35 = some (.goto (4), 39, 0, 0) := by decide +kernel
theorem t24_38 : g_at 24 38 = some (.iconst 0, 0, 0, 0) := by decide +kernel
theorem t24_39 : g_at 24 39 = some (.ireturn, 0, 0, 0) := by decide +kernel
theorem t25_0 : g_at 25 0 = some (.aload_n 1, 0, 0, 0) := by decide +kernel
theorem t25_1 : g_at 25 1 = some (.iconst 2, 0, 0, 2) := by decide +kernel
theorem t25_2 : g_at 25 2 = some (.aload_n 0, 0, 0, 0) := by decide +kernel
theorem t25_3 : g_at 25 3 = some (.invokevirtual 87, 22, 0, 0) := by decide +kernel
theorem t25_6 : g_at 25 6 = some (.aload_n 0, 0, 0, 0) := by decide +kernel
theorem t25_7 : g_at 25 7 = some (.getfield 49, 0, 2, 0) := by decide +kernel
theorem t25_10 : g_at 25 10 = some (.iconst (-1), 0, 0, (-1)) := by decide +kernel
theorem t25_11 : g_at 25 11 = some (.ixor, 0, 0, 0) := by decide +kernel
theorem t25_12 : g_at 25 12 = some (.iand, 0, 0, 0) := by decide +kernel
theorem t25_13 : g_at 25 13 = some (.invokevirtual 83, 20, 2, 0) := by decide +kernel
theorem t25_16 : g_at 25 16 = some (.istore_n 2, 0, 0, 0) := by decide +kernel
theorem t25_17 : g_at 25 17 = some (.aload_n 0, 0, 0, 0) := by decide +kernel
theorem t25_18 : g_at 25 18 = some (.dup, 0, 0, 0) := by decide +kernel
theorem t25_19 : g_at 25 19 = some (.getfield 49, 0, 2, 0) := by decide +kernel
theorem t25_22 : g_at 25 22 = some (.iload_n 2, 0, 0, 0) := by decide +kernel
theorem t25_23 : g_at 25 23 = some (.invokestatic 91, 23, 1, 0) := by decide +kernel
theorem t25_26 : g_at 25 26 = some (.ior, 0, 0, 0) := by decide +kernel
theorem t25_27 : g_at 25 27 = some (.putfield 49, 0, 2, 0) := by decide +kernel
theorem t25_30 : g_at 25 30 = some (.iload_n 2, 0, 0, 0) := by decide +kernel
theorem t25_31 : g_at 25 31 = some (.ifCond .lt (7), 38, 0, 0) := by decide +kernel
theorem t25_34 : g_at 25 34 = some (.iconst 1, 0, 0, 1) := by decide +kernel
theorem t25_35 : g_at 25 35 = some (.goto (4), 39, 0, 0) := by decide +kernel
theorem t25_38 : g_at 25 38 = some (.iconst 0, 0, 0, 0) := by decide +kernel
theorem t25_39 : g_at 25 39 = some (.ireturn, 0, 0, 0) := by decide +kernel
theorem t26_0 : g_at 26 0 = some (.iload_n 0, 0, 0, 0) := by decide +kernel
theorem t26_1 : g_at 26 1 = some (.iload_n 0, 0, 0, 0) := by decide +kernel
theorem t26_2 : g_at 26 2 = some (.iconst 1, 0, 0, 1) := by decide +kernel
theorem t26_3 : g_at 26 3 = some (.iushr, 0, 0, 0) := by decide +kernel
theorem t26_4 : g_at 26 4 = some (.ldc_w 265, 0, 0, 1431655765) := by decide +kernel
theorem t26_7 : g_at 26 7 = some (.iand, 0, 0, 0) := by decide +kernel
theorem t26_8 : g_at 26 8 = some (.isub, 0, 0, 0) := by decide +kernel
theorem t26_9 : g_at 26 9 = some (.istore_n 0, 0, 0, 0) := by decide +kernel
theorem t26_10 : g_at 26 10 = some (.iload_n 0, 0, 0, 0) := by decide +kernel
theorem t26_11 : g_at 26 11 = some (.ldc_w 266, 0, 0, 858993459) := by decide +kernel
theorem t26_14 : g_at 26 14 = some (.iand, 0, 0, 0) := by decide +kernel
theorem t26_15 : g_at 26 15 = some (.iload_n 0, 0, 0, 0) := by decide +kernel
theorem t26_16 : g_at 26 16 = some (.iconst 2, 0, 0, 2) := by decide +kernel
theorem t26_17 : g_at 26 17 = some (.iushr, 0, 0, 0) := by decide +kernel
theorem t26_18 : g_at 26 18 = some (.ldc_w 266, 0, 0, 858993459) := by decide +kernel
theorem t26_21 : g_at 26 21 = some (.iand, 0, 0, 0) := by decide +kernel
theorem t26_22 : g_at 26 22 = some (.iadd, 0, 0, 0) := by decide +kernel
theorem t26_23 : g_at 26 23 = some (.istore_n 0, 0, 0, 0) := by decide +kernel
theorem t26_24 : g_at 26 24 = some (.iload_n 0, 0, 0, 0) := by decide +kernel
theorem t26_25 : g_at 26 25 = some (.iload_n 0, 0, 0, 0) := by decide +kernel
theorem t26_26 : g_at 26 26 = some (.iconst 4, 0, 0, 4) := by decide +kernel
theorem t26_27 : g_at 26 27 = some (.iushr, 0, 0, 0) := by decide +kernel
theorem t26_28 : g_at 26 28 = some (.iadd, 0, 0, 0) := by decide +kernel
theorem t26_29 : g_at 26 29 = some (.ldc_w 267, 0, 0, 252645135) := by decide +kernel
theorem t26_32 : g_at 26 32 = some (.iand, 0, 0, 0) := by decide +kernel
theorem t26_33 : g_at 26 33 = some (.istore_n 0, 0, 0, 0) := by decide +kernel
theorem t26_34 : g_at 26 34 = some (.iload_n 0, 0, 0, 0) := by decide +kernel
theorem t26_35 : g_at 26 35 = some (.iload_n 0, 0, 0, 0) := by decide +kernel
theorem t26_36 : g_at 26 36 = some (.bipush (8), 0, 0, 8) := by decide +kernel
theorem t26_38 : g_at 26 38 = some (.iushr, 0, 0, 0) := by decide +kernel
theorem t26_39 : g_at 26 39 = some (.iadd, 0, 0, 0) := by decide +kernel
theorem t26_40 : g_at 26 40 = some (.istore_n 0, 0, 0, 0) := by decide +kernel
theorem t26_41 : g_at 26 41 = some (.iload_n 0, 0, 0, 0) := by decide +kernel
theorem t26_42 : g_at 26 42 = some (.iload_n 0, 0, 0, 0) := by decide +kernel
theorem t26_43 : g_at 26 43 = some (.bipush (16), 0, 0, 16) := by decide +kernel
theorem t26_45 : g_at 26 45 = some (.iushr, 0, 0, 0) := by decide +kernel
theorem t26_46 : g_at 26 46 = some (.iadd, 0, 0, 0) := by decide +kernel
theorem t26_47 : g_at 26 47 = some (.istore_n 0, 0, 0, 0) := by decide +kernel
theorem t26_48 : g_at 26 48 = some (.iload_n 0, 0, 0, 0) := by decide +kernel
theorem t26_49 : g_at 26 49 = some (.bipush (63), 0, 0, 63) := by decide +kernel
theorem t26_51 : g_at 26 51 = some (.iand, 0, 0, 0) := by decide +kernel
theorem t26_52 : g_at 26 52 = some (.ireturn, 0, 0, 0) := by decide +kernel
theorem t27_0 : g_at 27 0 = some (.aload_n 0, 0, 0, 0) := by decide +kernel
theorem t27_1 : g_at 27 1 = some (.getfield 52, 0, 3, 0) := by decide +kernel
theorem t27_4 : g_at 27 4 = some (.invokestatic 95, 26, 1, 0) := by decide +kernel
theorem t27_7 : g_at 27 7 = some (.bipush (8), 0, 0, 8) := by decide +kernel
theorem t27_9 : g_at 27 9 = some (.if_icmp .lt (5), 14, 0, 0) := by decide +kernel
theorem t27_12 : g_at 27 12 = some (.iconst 0, 0, 0, 0) := by decide +kernel
theorem t27_13 : g_at 27 13 = some (.ireturn, 0, 0, 0) := by decide +kernel
theorem t27_14 : g_at 27 14 = some (.aload_n 1, 0, 0, 0) := by decide +kernel
theorem t27_15 : g_at 27 15 = some (.iconst 1, 0, 0, 1) := by decide +kernel
theorem t27_16 : g_at 27 16 = some (.ldc 100, 0, 0, 67108863) := by decide +kernel
theorem t27_18 : g_at 27 18 = some (.aload_n 0, 0, 0, 0) := by decide +kernel
theorem t27_19 : g_at 27 19 = some (.getfield 52, 0, 3, 0) := by decide +kernel
theorem t27_22 : g_at 27 22 = some (.iconst (-1), 0, 0, (-1)) := by decide +kernel
theorem t27_23 : g_at 27 23 = some (.ixor, 0, 0, 0) := by decide +kernel
theorem t27_24 : g_at 27 24 = some (.iand, 0, 0, 0) := by decide +kernel
theorem t27_25 : g_at 27 25 = some (.invokevirtual 83, 20, 2, 0) := by decide +kernel
theorem t27_28 : g_at 27 28 = some (.istore_n 3, 0, 0, 0) := by decide +kernel
theorem t27_29 : g_at 27 29 = some (.iload_n 3, 0, 0, 0) := by decide +kernel
theorem t27_30 : g_at 27 30 = some (.ifCond .ge (5), 35, 0, 0) := by decide +kernel
theorem t27_33 : g_at 27 33 = some (.iconst 0, 0, 0, 0) := by decide +kernel
theorem t27_34 : g_at 27 34 = some (.ireturn, 0, 0, 0) := by decide +kernel
theorem t27_35 : g_at 27 35 = some (.aload_n 1, 0, 0, 0) := by decide +kernel
theorem t27_36 : g_at 27 36 = some (.iconst 2, 0, 0, 2) := by decide +kernel
theorem t27_37 : g_at 27 37 = some (.aload_n 0, 0, 0, 0) := by decide +kernel
theorem t27_38 : g_at 27 38 = some (.invokevirtual 87, 22, 0, 0) := by decide +kernel
theorem t27_41 : g_at 27 41 = some (.invokevirtual 83, 20, 2, 0) := by decide +kernel
theorem t27_44 : g_at 27 44 = some (.istore 4, 0, 0, 0) := by decide +kernel
theorem t27_46 : g_at 27 46 = some (.iload 4, 0, 0, 0) := by decide +kernel
theorem t27_48 : g_at 27 48 = some (.ifCond .ge (5), 53, 0, 0) := by decide +kernel
theorem t27_51 : g_at 27 51 = some (.iconst 0, 0, 0, 0) := by decide +kernel
theorem t27_52 : g_at 27 52 = some (.ireturn, 0, 0, 0) := by decide +kernel
theorem t27_53 : g_at 27 53 = some (.iload_n 2, 0, 0, 0) := by decide +kernel
theorem t27_54 : g_at 27 54 = some (.iconst 2, 0, 0, 2) := by decide +kernel
theorem t27_55 : g_at 27 55 = some (.if_icmp .ne (8), 63, 0, 0) := by decide +kernel
theorem t27_58 : g_at 27 58 = some (.bipush (-9), 0, 0, (-9)) := by decide +kernel
theorem t27_60 : g_at 27 60 = some (.goto (20), 80, 0, 0) := by decide +kernel
theorem t27_63 : g_at 27 63 = some (.aload_n 1, 0, 0, 0) := by decide +kernel
theorem t27_64 : g_at 27 64 = some (.iconst 2, 0, 0, 2) := by decide +kernel
theorem t27_65 : g_at 27 65 = some (.aload_n 0, 0, 0, 0) := by decide +kernel
theorem t27_66 : g_at 27 66 = some (.invokevirtual 87, 22, 0, 0) := by decide +kernel
theorem t27_69 : g_at 27 69 = some (.iload 4, 0, 0, 0) := by decide +kernel
theorem t27_71 : g_at 27 71 = some (.invokestatic 91, 23, 1, 0) := by decide +kernel
theorem t27_74 : g_at 27 74 = some (.iconst (-1), 0, 0, (-1)) := by decide +kernel
theorem t27_75 : g_at 27 75 = some (.ixor, 0, 0, 0) := by decide +kernel
theorem t27_76 : g_at 27 76 = some (.iand, 0, 0, 0) := by decide +kernel
theorem t27_77 : g_at 27 77 = some (.invokevirtual 83, 20, 2, 0) := by decide +kernel
theorem t27_80 : g_at 27 80 = some (.istore 5, 0, 0, 0) := by decide +kernel
theorem t27_82 : g_at 27 82 = some (.iload 5, 0, 0, 0) := by decide +kernel
theorem t27_84 : g_at 27 84 = some (.iconst (-1), 0, 0, (-1)) := by decide +kernel
theorem t27_85 : g_at 27 85 = some (.if_icmp .ne (5), 90, 0, 0) := by decide +kernel
theorem t27_88 : g_at 27 88 = some (.iconst 0, 0, 0, 0) := by decide +kernel
theorem t27_89 : g_at 27 89 = some (.ireturn, 0, 0, 0) := by decide +kernel
theorem t27_90 : g_at 27 90 = some (.aload_n 0, 0, 0, 0) := by decide +kernel
theorem t27_91 : g_at 27 91 = some (.dup, 0, 0, 0) := by decide +kernel
theorem t27_92 : g_at 27 92 = some (.getfield 52, 0, 3, 0) := by decide +kernel
theorem t27_95 : g_at 27 95 = some (.iconst 1, 0, 0, 1) := by decide +kernel
theorem t27_96 : g_at 27 96 = some (.iload_n 3, 0, 0, 0) := by decide +kernel
theorem t27_97 : g_at 27 97 = some (.ishl, 0, 0, 0) := by decide +kernel
theorem t27_98 : g_at 27 98 = some (.ior, 0, 0, 0) := by decide +kernel
theorem t27_99 : g_at 27 99 = some (.putfield 52, 0, 3, 0) := by decide +kernel
theorem t27_102 : g_at 27 102 = some (.aload_n 0, 0, 0, 0) := by decide +kernel
theorem t27_103 : g_at 27 103 = some (.getfield 9, 0, 6, 0) := by decide +kernel
theorem t27_106 : g_at 27 106 = some (.iload_n 3, 0, 0, 0) := by decide +kernel
theorem t27_107 : g_at 27 107 = some (.iload_n 2, 0, 0, 0) := by decide +kernel
theorem t27_108 : g_at 27 108 = some (.iastore, 0, 0, 0) := by decide +kernel
theorem t27_109 : g_at 27 109 = some (.aload_n 0, 0, 0, 0) := by decide +kernel
theorem t27_110 : g_at 27 110 = some (.getfield 15, 0, 7, 0) := by decide +kernel
theorem t27_113 : g_at 27 113 = some (.iload_n 3, 0, 0, 0) := by decide +kernel
theorem t27_114 : g_at 27 114 = some (.iload 4, 0, 0, 0) := by decide +kernel
theorem t27_116 : g_at 27 116 = some (.iastore, 0, 0, 0) := by decide +kernel
theorem t27_117 : g_at 27 117 = some (.aload_n 0, 0, 0, 0) := by decide +kernel
theorem t27_118 : g_at 27 118 = some (.getfield 18, 0, 8, 0) := by decide +kernel
theorem t27_121 : g_at 27 121 = some (.iload_n 3, 0, 0, 0) := by decide +kernel
theorem t27_122 : g_at 27 122 = some (.iload 5, 0, 0, 0) := by decide +kernel
theorem t27_124 : g_at 27 124 = some (.iastore, 0, 0, 0) := by decide +kernel
theorem t27_125 : g_at 27 125 = some (.iconst 1, 0, 0, 1) := by decide +kernel
theorem t27_126 : g_at 27 126 = some (.ireturn, 0, 0, 0) := by decide +kernel
theorem t28_0 : g_at 28 0 = some (.aload_n 1, 0, 0, 0) := by decide +kernel
theorem t28_1 : g_at 28 1 = some (.iconst 1, 0, 0, 1) := by decide +kernel
theorem t28_2 : g_at 28 2 = some (.aload_n 0, 0, 0, 0) := by decide +kernel
theorem t28_3 : g_at 28 3 = some (.getfield 52, 0, 3, 0) := by decide +kernel
theorem t28_6 : g_at 28 6 = some (.aload_n 0, 0, 0, 0) := by decide +kernel
theorem t28_7 : g_at 28 7 = some (.getfield 55, 0, 4, 0) := by decide +kernel
theorem t28_10 : g_at 28 10 = some (.iconst (-1), 0, 0, (-1)) := by decide +kernel
theorem t28_11 : g_at 28 11 = some (.ixor, 0, 0, 0) := by decide +kernel
theorem t28_12 : g_at 28 12 = some (.iand, 0, 0, 0) := by decide +kernel
theorem t28_13 : g_at 28 13 = some (.invokevirtual 83, 20, 2, 0) := by decide +kernel
theorem t28_16 : g_at 28 16 = some (.istore_n 2, 0, 0, 0) := by decide +kernel
theorem t28_17 : g_at 28 17 = some (.aload_n 0, 0, 0, 0) := by decide +kernel
theorem t28_18 : g_at 28 18 = some (.dup, 0, 0, 0) := by decide +kernel
theorem t28_19 : g_at 28 19 = some (.getfield 55, 0, 4, 0) := by decide +kernel
theorem t28_22 : g_at 28 22 = some (.iload_n 2, 0, 0, 0) := by decide +kernel
theorem t28_23 : g_at 28 23 = some (.invokestatic 91, 23, 1, 0) := by decide +kernel
theorem t28_26 : g_at 28 26 = some (.ior, 0, 0, 0) := by decide +kernel
theorem t28_27 : g_at 28 27 = some (.putfield 55, 0, 4, 0) := by decide +kernel
theorem t28_30 : g_at 28 30 = some (.iload_n 2, 0, 0, 0) := by decide +kernel
theorem t28_31 : g_at 28 31 = some (.ifCond .lt (7), 38, 0, 0) := by decide +kernel
theorem t28_34 : g_at 28 34 = some (.iconst 1, 0, 0, 1) := by decide +kernel
theorem t28_35 : g_at 28 35 = some (.goto (4), 39, 0, 0) := by decide +kernel
theorem t28_38 : g_at 28 38 = some (.iconst 0, 0, 0, 0) := by decide +kernel
theorem t28_39 : g_at 28 39 = some (.ireturn, 0, 0, 0) := by decide +kernel
theorem t29_0 : g_at 29 0 = some (.aload_n 1, 0, 0, 0) := by decide +kernel
theorem t29_1 : g_at 29 1 = some (.iconst 1, 0, 0, 1) := by decide +kernel
theorem t29_2 : g_at 29 2 = some (.aload_n 0, 0, 0, 0) := by decide +kernel
theorem t29_3 : g_at 29 3 = some (.getfield 52, 0, 3, 0) := by decide +kernel
theorem t29_6 : g_at 29 6 = some (.aload_n 0, 0, 0, 0) := by decide +kernel
theorem t29_7 : g_at 29 7 = some (.getfield 58, 0, 5, 0) := by decide +kernel
theorem t29_10 : g_at 29 10 = some (.iconst (-1), 0, 0, (-1)) := by decide +kernel
theorem t29_11 : g_at 29 11 = some (.ixor, 0, 0, 0) := by decide +kernel
theorem t29_12 : g_at 29 12 = some (.iand, 0, 0, 0) := by decide +kernel
theorem t29_13 : g_at 29 13 = some (.invokevirtual 83, 20, 2, 0) := by decide +kernel
theorem t29_16 : g_at 29 16 = some (.istore_n 2, 0, 0, 0) := by decide +kernel
theorem t29_17 : g_at 29 17 = some (.aload_n 0, 0, 0, 0) := by decide +kernel
theorem t29_18 : g_at 29 18 = some (.dup, 0, 0, 0) := by decide +kernel
theorem t29_19 : g_at 29 19 = some (.getfield 58, 0, 5, 0) := by decide +kernel
theorem t29_22 : g_at 29 22 = some (.iload_n 2, 0, 0, 0) := by decide +kernel
theorem t29_23 : g_at 29 23 = some (.invokestatic 91, 23, 1, 0) := by decide +kernel
theorem t29_26 : g_at 29 26 = some (.ior, 0, 0, 0) := by decide +kernel
theorem t29_27 : g_at 29 27 = some (.putfield 58, 0, 5, 0) := by decide +kernel
theorem t29_30 : g_at 29 30 = some (.iload_n 2, 0, 0, 0) := by decide +kernel
theorem t29_31 : g_at 29 31 = some (.ifCond .lt (7), 38, 0, 0) := by decide +kernel
theorem t29_34 : g_at 29 34 = some (.iconst 1, 0, 0, 1) := by decide +kernel
theorem t29_35 : g_at 29 35 = some (.goto (4), 39, 0, 0) := by decide +kernel
theorem t29_38 : g_at 29 38 = some (.iconst 0, 0, 0, 0) := by decide +kernel
theorem t29_39 : g_at 29 39 = some (.ireturn, 0, 0, 0) := by decide +kernel
theorem t30_0 : g_at 30 0 = some (.aload_n 1, 0, 0, 0) := by decide +kernel
theorem t30_1 : g_at 30 1 = some (.getfield 32, 2, 4, 0) := by decide +kernel
theorem t30_4 : g_at 30 4 = some (.iconst 1, 0, 0, 1) := by decide +kernel
theorem t30_5 : g_at 30 5 = some (.if_icmp .eq (5), 10, 0, 0) := by decide +kernel
theorem t30_8 : g_at 30 8 = some (.iconst 0, 0, 0, 0) := by decide +kernel
theorem t30_9 : g_at 30 9 = some (.ireturn, 0, 0, 0) := by decide +kernel
theorem t30_10 : g_at 30 10 = some (.aload_n 1, 0, 0, 0) := by decide +kernel
theorem t30_11 : g_at 30 11 = some (.getfield 61, 2, 5, 0) := by decide +kernel
theorem t30_14 : g_at 30 14 = some (.bipush (97), 0, 0, 97) := by decide +kernel
theorem t30_16 : g_at 30 16 = some (.iadd, 0, 0, 0) := by decide +kernel
theorem t30_17 : g_at 30 17 = some (.tableswitch (150) (98) (115) #[117, 138, 111, 131, 150, 150, 150, 124, 150, 144, 150, 150, 87, 150, 150, 150, 150, 105], 0, 0, 0) := by decide +kernel
theorem t30_104 : g_at 30 104 = some (.iload_n 2, 0, 0, 0) := by decide +kernel
theorem t30_105 : g_at 30 105 = some (.ifCond .ne (15), 120, 0, 0) := by decide +kernel
theorem t30_108 : g_at 30 108 = some (.aload_n 0, 0, 0, 0) := by decide +kernel
theorem t30_109 : g_at 30 109 = some (.aload_n 1, 0, 0, 0) := by decide +kernel
theorem t30_110 : g_at 30 110 = some (.invokevirtual 64, 21, 1, 0) := by decide +kernel
theorem t30_113 : g_at 30 113 = some (.ifCond .eq (7), 120, 0, 0) := by decide +kernel
theorem t30_116 : g_at 30 116 = some (.iconst 1, 0, 0, 1) := by decide +kernel
theorem t30_117 : g_at 30 117 = some (.goto (4), 121, 0, 0) := by decide +kernel
theorem t30_120 : g_at 30 120 = some (.iconst 0, 0, 0, 0) := by decide +kernel
theorem t30_121 : g_at 30 121 = some (.ireturn, 0, 0, 0) := by decide +kernel
theorem t30_122 : g_at 30 122 = some (.aload_n 0, 0, 0, 0) := by decide +kernel
theorem t30_123 : g_at 30 123 = some (.aload_n 1, 0, 0, 0) := by decide +kernel
theorem t30_124 : g_at 30 124 = some (.invokevirtual 68, 24, 1, 0) := by decide +kernel
theorem t30_127 : g_at 30 127 = some (.ireturn, 0, 0, 0) := by decide +kernel
theorem t30_128 : g_at 30 128 = some (.aload_n 0, 0, 0, 0) := by decide +kernel
theorem t30_129 : g_at 30 129 = some (.aload_n 1, 0, 0, 0) := by decide +kernel
theorem t30_130 : g_at 30 130 = some (.invokevirtual 71, 25, 1, 0) := by decide +kernel
theorem t30_133 : g_at 30 133 = some (.ireturn, 0, 0, 0) := by decide +kernel
theorem t30_134 : g_at 30 134 = some (.aload_n 0, 0, 0, 0) := by decide +kernel
theorem t30_135 : g_at 30 135 = some (.aload_n 1, 0, 0, 0) := by decide +kernel
theorem t30_136 : g_at 30 136 = some (.iconst 0, 0, 0, 0) := by decide +kernel
theorem t30_137 : g_at 30 137 = some (.invokevirtual 74, 27, 2, 0) := by decide +kernel
theorem t30_140 : g_at 30 140 = some (.ireturn, 0, 0, 0) := by decide +kernel
theorem t30_141 : g_at 30 141 = some (.aload_n 0, 0, 0, 0) := by decide +kernel
theorem t30_142 : g_at 30 142 = some (.aload_n 1, 0, 0, 0) := by decide +kernel
theorem t30_143 : g_at 30 143 = some (.iconst 1, 0, 0, 1) := by decide +kernel
theorem t30_144 : g_at 30 144 = some (.invokevirtual 74, 27, 2, 0) := by decide +kernel
theorem t30_147 : g_at 30 147 = some (.ireturn, 0, 0, 0) := by decide +kernel
theorem t30_148 : g_at 30 148 = some (.aload_n 0, 0, 0, 0) := by decide +kernel
theorem t30_149 : g_at 30 149 = some (.aload_n 1, 0, 0, 0) := by decide +kernel
theorem t30_150 : g_at 30 150 = some (.iconst 2, 0, 0, 2) := by decide +kernel
theorem t30_151 : g_at 30 151 = some (.invokevirtual 74, 27, 2, 0) := by decide +kernel
theorem t30_154 : g_at 30 154 = some (.ireturn, 0, 0, 0) := by decide +kernel
theorem t30_155 : g_at 30 155 = some (.aload_n 0, 0, 0, 0) := by decide +kernel
theorem t30_156 : g_at 30 156 = some (.aload_n 1, 0, 0, 0) := by decide +kernel
theorem t30_157 : g_at 30 157 = some (.invokevirtual 77, 28, 1, 0) := by decide +kernel
theorem t30_160 : g_at 30 160 = some (.ireturn, 0, 0, 0) := by decide +kernel
theorem t30_161 : g_at 30 161 = some (.aload_n 0, 0, 0, 0) := by decide +kernel
theorem t30_162 : g_at 30 162 = some (.aload_n 1, 0, 0, 0) := by decide +kernel
theorem t30_163 : g_at 30 163 = some (.invokevirtual 80, 29, 1, 0) := by decide +kernel
theorem t30_166 : g_at 30 166 = some (.ireturn, 0, 0, 0) := by decide +kernel
theorem t30_167 : g_at 30 167 = some (.iconst 0, 0, 0, 0) := by decide +kernel
theorem t30_168 : g_at 30 168 = some (.ireturn, 0, 0, 0) := by decide +kernel
theorem t31_0 : g_at 31 0 = some (.aload_n 0, 0, 0, 0) := by decide +kernel
theorem t31_1 : g_at 31 1 = some (.invokevirtual 38, 18, 0, 0) := by decide +kernel
theorem t31_4 : g_at 31 4 = some (.aload_n 0, 0, 0, 0) := by decide +kernel
theorem t31_5 : g_at 31 5 = some (.getfield 25, 2, 4, 0) := by decide +kernel
theorem t31_8 : g_at 31 8 = some (.iconst 3, 0, 0, 3) := by decide +kernel
theorem t31_9 : g_at 31 9 = some (.if_icmp .ne (7), 16, 0, 0) := by decide +kernel
theorem t31_12 : g_at 31 12 = some (.iconst 1, 0, 0, 1) := by decide +kernel
theorem t31_13 : g_at 31 13 = some (.goto (4), 17, 0, 0) := by decide +kernel
theorem t31_16 : g_at 31 16 = some (.iconst 0, 0, 0, 0) := by decide +kernel
theorem t31_17 : g_at 31 17 = some (.ireturn, 0, 0, 0) := by decide +kernel
theorem t32_0 : g_at 32 0 = some (.aload_n 0, 0, 0, 0) := by decide +kernel
theorem t32_1 : g_at 32 1 = some (.invokevirtual 21, 14, 0, 0) := by decide +kernel
theorem t32_4 : g_at 32 4 = some (.aload_n 1, 0, 0, 0) := by decide +kernel
theorem t32_5 : g_at 32 5 = some (.invokevirtual 24, 15, 0, 0) := by decide +kernel
theorem t32_8 : g_at 32 8 = some (.iconst 0, 0, 0, 0) := by decide +kernel
theorem t32_9 : g_at 32 9 = some (.istore_n 2, 0, 0, 0) := by decide +kernel
theorem t32_10 : g_at 32 10 = some (.iload_n 2, 0, 0, 0) := by decide +kernel
theorem t32_11 : g_at 32 11 = some (.bipush (120), 0, 0, 120) := by decide +kernel
theorem t32_13 : g_at 32 13 = some (.if_icmp .gt (40), 53, 0, 0) := by decide +kernel
theorem t32_16 : g_at 32 16 = some (.aload_n 1, 0, 0, 0) := by decide +kernel
theorem t32_17 : g_at 32 17 = some (.invokevirtual 29, 18, 0, 0) := by decide +kernel
theorem t32_20 : g_at 32 20 = some (.aload_n 1, 0, 0, 0) := by decide +kernel
theorem t32_21 : g_at 32 21 = some (.getfield 32, 2, 4, 0) := by decide +kernel
theorem t32_24 : g_at 32 24 = some (.ifCond .ne (5), 29, 0, 0) := by decide +kernel
theorem t32_27 : g_at 32 27 = some (.iload_n 2, 0, 0, 0) := by decide +kernel
theorem t32_28 : g_at 32 28 = some (.ireturn, 0, 0, 0) := by decide +kernel
theorem t32_29 : g_at 32 29 = some (.aload_n 0, 0, 0, 0) := by decide +kernel
theorem t32_30 : g_at 32 30 = some (.aload_n 1, 0, 0, 0) := by decide +kernel
theorem t32_31 : g_at 32 31 = some (.iload_n 2, 0, 0, 0) := by decide +kernel
theorem t32_32 : g_at 32 32 = some (.invokevirtual 35, 30, 2, 0) := by decide +kernel
theorem t32_35 : g_at 32 35 = some (.ifCond .eq (10), 45, 0, 0) := by decide +kernel
theorem t32_38 : g_at 32 38 = some (.aload_n 1, 0, 0, 0) := by decide +kernel
theorem t32_39 : g_at 32 39 = some (.invokevirtual 39, 31, 0, 0) := by decide +kernel
theorem t32_42 : g_at 32 42 = some (.ifCond .ne (5), 47, 0, 0) := by decide +kernel
theorem t32_45 : g_at 32 45 = some (.iconst (-1), 0, 0, (-1)) := by decide +kernel
theorem t32_46 : g_at 32 46 = some (.ireturn, 0, 0, 0) := by decide +kernel
theorem t32_47 : g_at 32 47 = some (.iinc 2 (1), 0, 0, 1) := by decide +kernel
theorem t32_50 : g_at 32 50 = some (.goto (-40), 10, 0, 0) := by decide +kernel
theorem t32_53 : g_at 32 53 = some (.iconst (-1), 0, 0, (-1)) := by decide +kernel
theorem t32_54 : g_at 32 54 = some (.ireturn, 0, 0, 0) := by decide +kernel
theorem t33_0 : g_at 33 0 = some (.aload_n 0, 0, 0, 0) := by decide +kernel
theorem t33_1 : g_at 33 1 = some (.getfield 15, 1, 6, 0) := by decide +kernel
theorem t33_4 : g_at 33 4 = some (.aload_n 0, 0, 0, 0) := by decide +kernel
theorem t33_5 : g_at 33 5 = some (.getfield 51, 1, 3, 0) := by decide +kernel
theorem t33_8 : g_at 33 8 = some (.aload_n 1, 0, 0, 0) := by decide +kernel
theorem t33_9 : g_at 33 9 = some (.getfield 67, 0, 6, 0) := by decide +kernel
theorem t33_12 : g_at 33 12 = some (.iload_n 2, 0, 0, 0) := by decide +kernel
theorem t33_13 : g_at 33 13 = some (.iaload, 0, 0, 0) := by decide +kernel
theorem t33_14 : g_at 33 14 = some (.iastore, 0, 0, 0) := by decide +kernel
theorem t33_15 : g_at 33 15 = some (.aload_n 0, 0, 0, 0) := by decide +kernel
theorem t33_16 : g_at 33 16 = some (.getfield 19, 1, 7, 0) := by decide +kernel
theorem t33_19 : g_at 33 19 = some (.aload_n 0, 0, 0, 0) := by decide +kernel
theorem t33_20 : g_at 33 20 = some (.getfield 51, 1, 3, 0) := by decide +kernel
theorem t33_23 : g_at 33 23 = some (.iload_n 2, 0, 0, 0) := by decide +kernel
theorem t33_24 : g_at 33 24 = some (.bipush (97), 0, 0, 97) := by decide +kernel
theorem t33_26 : g_at 33 26 = some (.iadd, 0, 0, 0) := by decide +kernel
theorem t33_27 : g_at 33 27 = some (.iastore, 0, 0, 0) := by decide +kernel
theorem t33_28 : g_at 33 28 = some (.aload_n 0, 0, 0, 0) := by decide +kernel
theorem t33_29 : g_at 33 29 = some (.getfield 22, 1, 8, 0) := by decide +kernel
theorem t33_32 : g_at 33 32 = some (.aload_n 0, 0, 0, 0) := by decide +kernel
theorem t33_33 : g_at 33 33 = some (.getfield 51, 1, 3, 0) := by decide +kernel
theorem t33_36 : g_at 33 36 = some (.aload_n 1, 0, 0, 0) := by decide +kernel
theorem t33_37 : g_at 33 37 = some (.getfield 75, 0, 7, 0) := by decide +kernel
theorem t33_40 : g_at 33 40 = some (.iload_n 2, 0, 0, 0) := by decide +kernel
theorem t33_41 : g_at 33 41 = some (.iaload, 0, 0, 0) := by decide +kernel
theorem t33_42 : g_at 33 42 = some (.iastore, 0, 0, 0) := by decide +kernel
theorem t33_43 : g_at 33 43 = some (.aload_n 0, 0, 0, 0) := by decide +kernel
theorem t33_44 : g_at 33 44 = some (.getfield 25, 1, 9, 0) := by decide +kernel
theorem t33_47 : g_at 33 47 = some (.aload_n 0, 0, 0, 0) := by decide +kernel
theorem t33_48 : g_at 33 48 = some (.getfield 51, 1, 3, 0) := by decide +kernel
theorem t33_51 : g_at 33 51 = some (.aload_n 1, 0, 0, 0) := by decide +kernel
theorem t33_52 : g_at 33 52 = some (.getfield 76, 0, 8, 0) := by decide +kernel
theorem t33_55 : g_at 33 55 = some (.iload_n 2, 0, 0, 0) := by decide +kernel
theorem t33_56 : g_at 33 56 = some (.iaload, 0, 0, 0) := by decide +kernel
theorem t33_57 : g_at 33 57 = some (.iastore, 0, 0, 0) := by decide +kernel
theorem t33_58 : g_at 33 58 = some (.aload_n 0, 0, 0, 0) := by decide +kernel
theorem t33_59 : g_at 33 59 = some (.dup, 0, 0, 0) := by decide +kernel
theorem t33_60 : g_at 33 60 = some (.getfield 54, 1, 4, 0) := by decide +kernel
theorem t33_63 : g_at 33 63 = some (.aload_n 1, 0, 0, 0) := by decide +kernel
theorem t33_64 : g_at 33 64 = some (.getfield 77, 0, 4, 0) := by decide +kernel
theorem t33_67 : g_at 33 67 = some (.iload_n 2, 0, 0, 0) := by decide +kernel
theorem t33_68 : g_at 33 68 = some (.invokestatic 63, 19, 2, 0) := by decide +kernel
theorem t33_71 : g_at 33 71 = some (.aload_n 0, 0, 0, 0) := by decide +kernel
theorem t33_72 : g_at 33 72 = some (.getfield 51, 1, 3, 0) := by decide +kernel
theorem t33_75 : g_at 33 75 = some (.ishl, 0, 0, 0) := by decide +kernel
theorem t33_76 : g_at 33 76 = some (.ior, 0, 0, 0) := by decide +kernel
theorem t33_77 : g_at 33 77 = some (.putfield 54, 1, 4, 0) := by decide +kernel
theorem t33_80 : g_at 33 80 = some (.aload_n 0, 0, 0, 0) := by decide +kernel
theorem t33_81 : g_at 33 81 = some (.dup, 0, 0, 0) := by decide +kernel
theorem t33_82 : g_at 33 82 = some (.getfield 57, 1, 5, 0) := by decide +kernel
theorem t33_85 : g_at 33 85 = some (.aload_n 1, 0, 0, 0) := by decide +kernel
theorem t33_86 : g_at 33 86 = some (.getfield 80, 0, 5, 0) := by decide +kernel
theorem t33_89 : g_at 33 89 = some (.iload_n 2, 0, 0, 0) := by decide +kernel
theorem t33_90 : g_at 33 90 = some (.invokestatic 63, 19, 2, 0) := by decide +kernel
theorem t33_93 : g_at 33 93 = some (.aload_n 0, 0, 0, 0) := by decide +kernel
theorem t33_94 : g_at 33 94 = some (.getfield 51, 1, 3, 0) := by decide +kernel
theorem t33_97 : g_at 33 97 = some (.ishl, 0, 0, 0) := by decide +kernel
theorem t33_98 : g_at 33 98 = some (.ior, 0, 0, 0) := by decide +kernel
theorem t33_99 : g_at 33 99 = some (.putfield 57, 1, 5, 0) := by decide +kernel
theorem t33_102 : g_at 33 102 = some (.aload_n 0, 0, 0, 0) := by decide +kernel
theorem t33_103 : g_at 33 103 = some (.dup, 0, 0, 0) := by decide +kernel
theorem t33_104 : g_at 33 104 = some (.getfield 51, 1, 3, 0) := by decide +kernel
theorem t33_107 : g_at 33 107 = some (.iconst 1, 0, 0, 1) := by decide +kernel
theorem t33_108 : g_at 33 108 = some (.iadd, 0, 0, 0) := by decide +kernel
theorem t33_109 : g_at 33 109 = some (.putfield 51, 1, 3, 0) := by decide +kernel
theorem t33_112 : g_at 33 112 = some (.return_, 0, 0, 0) := by decide +kernel
theorem t34_0 : g_at 34 0 = some (.iconst 0, 0, 0, 0) := by decide +kernel
theorem t34_1 : g_at 34 1 = some (.istore_n 2, 0, 0, 0) := by decide +kernel
theorem t34_2 : g_at 34 2 = some (.aload_n 0, 0, 0, 0) := by decide +kernel
theorem t34_3 : g_at 34 3 = some (.arraylength, 0, 0, 0) := by decide +kernel
theorem t34_4 : g_at 34 4 = some (.istore_n 3, 0, 0, 0) := by decide +kernel
theorem t34_5 : g_at 34 5 = some (.iload_n 2, 0, 0, 0) := by decide +kernel
theorem t34_6 : g_at 34 6 = some (.iload_n 3, 0, 0, 0) := by decide +kernel
theorem t34_7 : g_at 34 7 = some (.if_icmp .ge (13), 20, 0, 0) := by decide +kernel
theorem t34_10 : g_at 34 10 = some (.aload_n 0, 0, 0, 0) := by decide +kernel
theorem t34_11 : g_at 34 11 = some (.iload_n 2, 0, 0, 0) := by decide +kernel
theorem t34_12 : g_at 34 12 = some (.iload_n 1, 0, 0, 0) := by decide +kernel
theorem t34_13 : g_at 34 13 = some (.iastore, 0, 0, 0) := by decide +kernel
theorem t34_14 : g_at 34 14 = some (.iinc 2 (1), 0, 0, 1) := by decide +kernel
theorem t34_17 : g_at 34 17 = some (.goto (-12), 5, 0, 0) := by decide +kernel
theorem t34_20 : g_at 34 20 = some (.return_, 0, 0, 0) := by decide +kernel
theorem t35_0 : g_at 35 0 = some (.iconst 1, 0, 0, 1) := by decide +kernel
theorem t35_1 : g_at 35 1 = some (.aload_n 0, 0, 0, 0) := by decide +kernel
theorem t35_2 : g_at 35 2 = some (.getfield 51, 1, 3, 0) := by decide +kernel
theorem t35_5 : g_at 35 5 = some (.ishl, 0, 0, 0) := by decide +kernel
theorem t35_6 : g_at 35 6 = some (.iconst 1, 0, 0, 1) := by decide +kernel
theorem t35_7 : g_at 35 7 = some (.isub, 0, 0, 0) := by decide +kernel
theorem t35_8 : g_at 35 8 = some (.ireturn, 0, 0, 0) := by decide +kernel
theorem t36_0 : g_at 36 0 = some (.iconst 0, 0, 0, 0) := by decide +kernel
theorem t36_1 : g_at 36 1 = some (.istore_n 2, 0, 0, 0) := by decide +kernel
theorem t36_2 : g_at 36 2 = some (.iload_n 2, 0, 0, 0) := by decide +kernel
theorem t36_3 : g_at 36 3 = some (.aload_n 0, 0, 0, 0) := by decide +kernel
theorem t36_4 : g_at 36 4 = some (.getfield 9, 1, 0, 0) := by decide +kernel
theorem t36_7 : g_at 36 7 = some (.if_icmp .ge (25), 32, 0, 0) := by decide +kernel
theorem t36_10 : g_at 36 10 = some (.iload_n 1, 0, 0, 0) := by decide +kernel
theorem t36_11 : g_at 36 11 = some (.iload_n 2, 0, 0, 0) := by decide +kernel
theorem t36_12 : g_at 36 12 = some (.invokestatic 63, 19, 2, 0) := by decide +kernel
theorem t36_15 : g_at 36 15 = some (.iconst 1, 0, 0, 1) := by decide +kernel
theorem t36_16 : g_at 36 16 = some (.if_icmp .ne (10), 26, 0, 0) := by decide +kernel
theorem t36_19 : g_at 36 19 = some (.aload_n 0, 0, 0, 0) := by decide +kernel
theorem t36_20 : g_at 36 20 = some (.getfield 37, 1, 13, 0) := by decide +kernel
theorem t36_23 : g_at 36 23 = some (.iload_n 2, 0, 0, 0) := by decide +kernel
theorem t36_24 : g_at 36 24 = some (.iload_n 1, 0, 0, 0) := by decide +kernel
theorem t36_25 : g_at 36 25 = some (.iastore, 0, 0, 0) := by decide +kernel
theorem t36_26 : g_at 36 26 = some (.iinc 2 (1), 0, 0, 1) := by decide +kernel
theorem t36_29 : g_at 36 29 = some (.goto (-27), 2, 0, 0) := by decide +kernel
theorem t36_32 : g_at 36 32 = some (.return_, 0, 0, 0) := by decide +kernel
theorem t37_0 : g_at 37 0 = some (.iconst 0, 0, 0, 0) := by decide +kernel
theorem t37_1 : g_at 37 1 = some (.istore_n 2, 0, 0, 0) := by decide +kernel
theorem t37_2 : g_at 37 2 = some (.iload_n 2, 0, 0, 0) := by decide +kernel
theorem t37_3 : g_at 37 3 = some (.aload_n 0, 0, 0, 0) := by decide +kernel
theorem t37_4 : g_at 37 4 = some (.getfield 9, 1, 0, 0) := by decide +kernel
theorem t37_7 : g_at 37 7 = some (.if_icmp .ge (18), 25, 0, 0) := by decide +kernel
theorem t37_10 : g_at 37 10 = some (.aload_n 0, 0, 0, 0) := by decide +kernel
theorem t37_11 : g_at 37 11 = some (.getfield 37, 1, 13, 0) := by decide +kernel
theorem t37_14 : g_at 37 14 = some (.iload_n 2, 0, 0, 0) := by decide +kernel
theorem t37_15 : g_at 37 15 = some (.iconst 1, 0, 0, 1) := by decide +kernel
theorem t37_16 : g_at 37 16 = some (.iload_n 2, 0, 0, 0) := by decide +kernel
theorem t37_17 : g_at 37 17 = some (.ishl, 0, 0, 0) := by decide +kernel
theorem t37_18 : g_at 37 18 = some (.iastore, 0, 0, 0) := by decide +kernel
theorem t37_19 : g_at 37 19 = some (.iinc 2 (1), 0, 0, 1) := by decide +kernel
theorem t37_22 : g_at 37 22 = some (.goto (-20), 2, 0, 0) := by decide +kernel
theorem t37_25 : g_at 37 25 = some (.iconst 0, 0, 0, 0) := by decide +kernel
theorem t37_26 : g_at 37 26 = some (.istore_n 2, 0, 0, 0) := by decide +kernel
theorem t37_27 : g_at 37 27 = some (.iload_n 2, 0, 0, 0) := by decide +kernel
theorem t37_28 : g_at 37 28 = some (.aload_n 0, 0, 0, 0) := by decide +kernel
theorem t37_29 : g_at 37 29 = some (.getfield 51, 1, 3, 0) := by decide +kernel
theorem t37_32 : g_at 37 32 = some (.if_icmp .ge (55), 87, 0, 0) := by decide +kernel
theorem t37_35 : g_at 37 35 = some (.aload_n 0, 0, 0, 0) := by decide +kernel
theorem t37_36 : g_at 37 36 = some (.getfield 15, 1, 6, 0) := by decide +kernel
theorem t37_39 : g_at 37 39 = some (.iload_n 2, 0, 0, 0) := by decide +kernel
theorem t37_40 : g_at 37 40 = some (.iaload, 0, 0, 0) := by decide +kernel
theorem t37_41 : g_at 37 41 = some (.iconst 2, 0, 0, 2) := by decide +kernel
theorem t37_42 : g_at 37 42 = some (.if_icmp .eq (39), 81, 0, 0) := by decide +kernel
theorem t37_45 : g_at 37 45 = some (.iload_n 1, 0, 0, 0) := by decide +kernel
theorem t37_46 : g_at 37 46 = some (.iload_n 2, 0, 0, 0) := by decide +kernel
theorem t37_47 : g_at 37 47 = some (.invokestatic 63, 19, 2, 0) := by decide +kernel
theorem t37_50 : g_at 37 50 = some (.iconst 1, 0, 0, 1) := by decide +kernel
theorem t37_51 : g_at 37 51 = some (.if_icmp .ne (30), 81, 0, 0) := by decide +kernel
theorem t37_54 : g_at 37 54 = some (.aload_n 0, 0, 0, 0) := by decide +kernel
theorem t37_55 : g_at 37 55 = some (.aload_n 0, 0, 0, 0) := by decide +kernel
theorem t37_56 : g_at 37 56 = some (.getfield 37, 1, 13, 0) := by decide +kernel
theorem t37_59 : g_at 37 59 = some (.aload_n 0, 0, 0, 0) := by decide +kernel
theorem t37_60 : g_at 37 60 = some (.getfield 22, 1, 8, 0) := by decide +kernel
theorem t37_63 : g_at 37 63 = some (.iload_n 2, 0, 0, 0) := by decide +kernel
theorem t37_64 : g_at 37 64 = some (.iaload, 0, 0, 0) := by decide +kernel
theorem t37_65 : g_at 37 65 = some (.iaload, 0, 0, 0) := by decide +kernel
theorem t37_66 : g_at 37 66 = some (.aload_n 0, 0, 0, 0) := by decide +kernel
theorem t37_67 : g_at 37 67 = some (.getfield 37, 1, 13, 0) := by decide +kernel
theorem t37_70 : g_at 37 70 = some (.aload_n 0, 0, 0, 0) := by decide +kernel
theorem t37_71 : g_at 37 71 = some (.getfield 25, 1, 9, 0) := by decide +kernel
theorem t37_74 : g_at 37 74 = some (.iload_n 2, 0, 0, 0) := by decide +kernel
theorem t37_75 : g_at 37 75 = some (.iaload, 0, 0, 0) := by decide +kernel
theorem t37_76 : g_at 37 76 = some (.iaload, 0, 0, 0) := by decide +kernel
theorem t37_77 : g_at 37 77 = some (.ior, 0, 0, 0) := by decide +kernel
theorem t37_78 : g_at 37 78 = some (.invokevirtual 108, 36, 1, 0) := by decide +kernel
theorem t37_81 : g_at 37 81 = some (.iinc 2 (1), 0, 0, 1) := by decide +kernel
theorem t37_84 : g_at 37 84 = some (.goto (-57), 27, 0, 0) := by decide +kernel
theorem t37_87 : g_at 37 87 = some (.return_, 0, 0, 0) := by decide +kernel
theorem t38_0 : g_at 38 0 = some (.iconst 0, 0, 0, 0) := by decide +kernel
theorem t38_1 : g_at 38 1 = some (.istore_n 2, 0, 0, 0) := by decide +kernel
theorem t38_2 : g_at 38 2 = some (.iconst 0, 0, 0, 0) := by decide +kernel
theorem t38_3 : g_at 38 3 = some (.istore_n 3, 0, 0, 0) := by decide +kernel
theorem t38_4 : g_at 38 4 = some (.iload_n 3, 0, 0, 0) := by decide +kernel
theorem t38_5 : g_at 38 5 = some (.aload_n 0, 0, 0, 0) := by decide +kernel
theorem t38_6 : g_at 38 6 = some (.getfield 9, 1, 0, 0) := by decide +kernel
theorem t38_9 : g_at 38 9 = some (.if_icmp .ge (27), 36, 0, 0) := by decide +kernel
theorem t38_12 : g_at 38 12 = some (.iload_n 1, 0, 0, 0) := by decide +kernel
theorem t38_13 : g_at 38 13 = some (.iload_n 3, 0, 0, 0) := by decide +kernel
theorem t38_14 : g_at 38 14 = some (.invokestatic 63, 19, 2, 0) := by decide +kernel
theorem t38_17 : g_at 38 17 = some (.iconst 1, 0, 0, 1) := by decide +kernel
theorem t38_18 : g_at 38 18 = some (.if_icmp .ne (12), 30, 0, 0) := by decide +kernel
theorem t38_21 : g_at 38 21 = some (.iload_n 2, 0, 0, 0) := by decide +kernel
theorem t38_22 : g_at 38 22 = some (.aload_n 0, 0, 0, 0) := by decide +kernel
theorem t38_23 : g_at 38 23 = some (.getfield 37, 1, 13, 0) := by decide +kernel
theorem t38_26 : g_at 38 26 = some (.iload_n 3, 0, 0, 0) := by decide +kernel
theorem t38_27 : g_at 38 27 = some (.iaload, 0, 0, 0) := by decide +kernel
theorem t38_28 : g_at 38 28 = some (.ior, 0, 0, 0) := by decide +kernel
theorem t38_29 : g_at 38 29 = some (.istore_n 2, 0, 0, 0) := by decide +kernel
theorem t38_30 : g_at 38 30 = some (.iinc 3 (1), 0, 0, 1) := by decide +kernel
theorem t38_33 : g_at 38 33 = some (.goto (-29), 4, 0, 0) := by decide +kernel
theorem t38_36 : g_at 38 36 = some (.iload_n 2, 0, 0, 0) := by decide +kernel
theorem t38_37 : g_at 38 37 = some (.ireturn, 0, 0, 0) := by decide +kernel
theorem t39_0 : g_at 39 0 = some (.iconst 0, 0, 0, 0) := by decide +kernel
theorem t39_1 : g_at 39 1 = some (.istore_n 2, 0, 0, 0) := by decide +kernel
theorem t39_2 : g_at 39 2 = some (.iconst 0, 0, 0, 0) := by decide +kernel
theorem t39_3 : g_at 39 3 = some (.istore_n 3, 0, 0, 0) := by decide +kernel
theorem t39_4 : g_at 39 4 = some (.iload_n 3, 0, 0, 0) := by decide +kernel
theorem t39_5 : g_at 39 5 = some (.aload_n 0, 0, 0, 0) := by decide +kernel
theorem t39_6 : g_at 39 6 = some (.getfield 51, 1, 3, 0) := by decide +kernel
theorem t39_9 : g_at 39 9 = some (.if_icmp .ge (39), 48, 0, 0) := by decide +kernel
theorem t39_12 : g_at 39 12 = some (.aload_n 0, 0, 0, 0) := by decide +kernel
theorem t39_13 : g_at 39 13 = some (.getfield 15, 1, 6, 0) := by decide +kernel
theorem t39_16 : g_at 39 16 = some (.iload_n 3, 0, 0, 0) := by decide +kernel
theorem t39_17 : g_at 39 17 = some (.iaload, 0, 0, 0) := by decide +kernel
theorem t39_18 : g_at 39 18 = some (.iconst 2, 0, 0, 2) := by decide +kernel
theorem t39_19 : g_at 39 19 = some (.if_icmp .ne (23), 42, 0, 0) := by decide +kernel
theorem t39_22 : g_at 39 22 = some (.iload_n 1, 0, 0, 0) := by decide +kernel
theorem t39_23 : g_at 39 23 = some (.iload_n 3, 0, 0, 0) := by decide +kernel
theorem t39_24 : g_at 39 24 = some (.invokestatic 63, 19, 2, 0) := by decide +kernel
theorem t39_27 : g_at 39 27 = some (.iconst 1, 0, 0, 1) := by decide +kernel
theorem t39_28 : g_at 39 28 = some (.if_icmp .ne (14), 42, 0, 0) := by decide +kernel
theorem t39_31 : g_at 39 31 = some (.iload_n 2, 0, 0, 0) := by decide +kernel
theorem t39_32 : g_at 39 32 = some (.iconst 1, 0, 0, 1) := by decide +kernel
theorem t39_33 : g_at 39 33 = some (.aload_n 0, 0, 0, 0) := by decide +kernel
theorem t39_34 : g_at 39 34 = some (.getfield 22, 1, 8, 0) := by decide +kernel
theorem t39_37 : g_at 39 37 = some (.iload_n 3, 0, 0, 0) := by decide +kernel
theorem t39_38 : g_at 39 38 = some (.iaload, 0, 0, 0) := by decide +kernel
theorem t39_39 : g_at 39 39 = some (.ishl, 0, 0, 0) := by decide +kernel
theorem t39_40 : g_at 39 40 = some (.ior, 0, 0, 0) := by decide +kernel
theorem t39_41 : g_at 39 41 = some (.istore_n 2, 0, 0, 0) := by decide +kernel
theorem t39_42 : g_at 39 42 = some (.iinc 3 (1), 0, 0, 1) := by decide +kernel
theorem t39_45 : g_at 39 45 = some (.goto (-41), 4, 0, 0) := by decide +kernel
theorem t39_48 : g_at 39 48 = some (.iload_n 2, 0, 0, 0) := by decide +kernel
theorem t39_49 : g_at 39 49 = some (.ireturn, 0, 0, 0) := by decide +kernel
theorem t40_0 : g_at 40 0 = some (.aload_n 0, 0, 0, 0) := by decide +kernel
theorem t40_1 : g_at 40 1 = some (.getfield 22, 1, 8, 0) := by decide +kernel
theorem t40_4 : g_at 40 4 = some (.iload_n 1, 0, 0, 0) := by decide +kernel
theorem t40_5 : g_at 40 5 = some (.iaload, 0, 0, 0) := by decide +kernel
theorem t40_6 : g_at 40 6 = some (.istore 4, 0, 0, 0) := by decide +kernel
theorem t40_8 : g_at 40 8 = some (.aload_n 0, 0, 0, 0) := by decide +kernel
theorem t40_9 : g_at 40 9 = some (.getfield 25, 1, 9, 0) := by decide +kernel
theorem t40_12 : g_at 40 12 = some (.iload_n 1, 0, 0, 0) := by decide +kernel
theorem t40_13 : g_at 40 13 = some (.iaload, 0, 0, 0) := by decide +kernel
theorem t40_14 : g_at 40 14 = some (.istore 5, 0, 0, 0) := by decide +kernel
theorem t40_16 : g_at 40 16 = some (.aload_n 0, 0, 0, 0) := by decide +kernel
theorem t40_17 : g_at 40 17 = some (.getfield 37, 1, 13, 0) := by decide +kernel
theorem t40_20 : g_at 40 20 = some (.iload 4, 0, 0, 0) := by decide +kernel
theorem t40_22 : g_at 40 22 = some (.iaload, 0, 0, 0) := by decide +kernel
theorem t40_23 : g_at 40 23 = some (.iload 5, 0, 0, 0) := by decide +kernel
theorem t40_25 : g_at 40 25 = some (.invokestatic 63, 19, 2, 0) := by decide +kernel
theorem t40_28 : g_at 40 28 = some (.iconst 1, 0, 0, 1) := by decide +kernel
theorem t40_29 : g_at 40 29 = some (.if_icmp .ne (5), 34, 0, 0) := by decide +kernel
theorem t40_32 : g_at 40 32 = some (.iconst 0, 0, 0, 0) := by decide +kernel
theorem t40_33 : g_at 40 33 = some (.ireturn, 0, 0, 0) := by decide +kernel
theorem t40_34 : g_at 40 34 = some (.iload_n 2, 0, 0, 0) := by decide +kernel
theorem t40_35 : g_at 40 35 = some (.iload 4, 0, 0, 0) := by decide +kernel
theorem t40_37 : g_at 40 37 = some (.invokestatic 63, 19, 2, 0) := by decide +kernel
theorem t40_40 : g_at 40 40 = some (.iconst 1, 0, 0, 1) := by decide +kernel
theorem t40_41 : g_at 40 41 = some (.if_icmp .ne (15), 56, 0, 0) := by decide +kernel
theorem t40_44 : g_at 40 44 = some (.iload_n 2, 0, 0, 0) := by decide +kernel
theorem t40_45 : g_at 40 45 = some (.iload_n 3, 0, 0, 0) := by decide +kernel
theorem t40_46 : g_at 40 46 = some (.ior, 0, 0, 0) := by decide +kernel
theorem t40_47 : g_at 40 47 = some (.iload 5, 0, 0, 0) := by decide +kernel
theorem t40_49 : g_at 40 49 = some (.invokestatic 63, 19, 2, 0) := by decide +kernel
theorem t40_52 : g_at 40 52 = some (.iconst 1, 0, 0, 1) := by decide +kernel
theorem t40_53 : g_at 40 53 = some (.if_icmp .eq (23), 76, 0, 0) := by decide +kernel
theorem t40_56 : g_at 40 56 = some (.iload_n 2, 0, 0, 0) := by decide +kernel
theorem t40_57 : g_at 40 57 = some (.iload 5, 0, 0, 0) := by decide +kernel
theorem t40_59 : g_at 40 59 = some (.invokestatic 63, 19, 2, 0) := by decide +kernel
theorem t40_62 : g_at 40 62 = some (.iconst 1, 0, 0, 1) := by decide +kernel
theorem t40_63 : g_at 40 63 = some (.if_icmp .ne (17), 80, 0, 0) := by decide +kernel
theorem t40_66 : g_at 40 66 = some (.iload_n 3, 0, 0, 0) := by decide +kernel
theorem t40_67 : g_at 40 67 = some (.iload 4, 0, 0, 0) := by decide +kernel
theorem t40_69 : g_at 40 69 = some (.invokestatic 63, 19, 2, 0) := by decide +kernel
theorem t40_72 : g_at 40 72 = some (.iconst 1, 0, 0, 1) := by decide +kernel
theorem t40_73 : g_at 40 73 = some (.if_icmp .ne (7), 80, 0, 0) := by decide +kernel
theorem t40_76 : g_at 40 76 = some (.iconst 1, 0, 0, 1) := by decide +kernel
theorem t40_77 : g_at 40 77 = some (.goto (4), 81, 0, 0) := by decide +kernel
theorem t40_80 : g_at 40 80 = some (.iconst 0, 0, 0, 0) := by decide +kernel
theorem t40_81 : g_at 40 81 = some (.ireturn, 0, 0, 0) := by decide +kernel
theorem t41_0 : g_at 41 0 = some (.iconst 0, 0, 0, 0) := by decide +kernel
theorem t41_1 : g_at 41 1 = some (.istore_n 3, 0, 0, 0) := by decide +kernel
theorem t41_2 : g_at 41 2 = some (.iload_n 3, 0, 0, 0) := by decide +kernel
theorem t41_3 : g_at 41 3 = some (.aload_n 0, 0, 0, 0) := by decide +kernel
theorem t41_4 : g_at 41 4 = some (.getfield 51, 1, 3, 0) := by decide +kernel
theorem t41_7 : g_at 41 7 = some (.if_icmp .ge (70), 77, 0, 0) := by decide +kernel
theorem t41_10 : g_at 41 10 = some (.aload_n 0, 0, 0, 0) := by decide +kernel
theorem t41_11 : g_at 41 11 = some (.getfield 15, 1, 6, 0) := by decide +kernel
theorem t41_14 : g_at 41 14 = some (.iload_n 3, 0, 0, 0) := by decide +kernel
theorem t41_15 : g_at 41 15 = some (.iaload, 0, 0, 0) := by decide +kernel
theorem t41_16 : g_at 41 16 = some (.iconst 1, 0, 0, 1) := by decide +kernel
theorem t41_17 : g_at 41 17 = some (.if_icmp .ne (54), 71, 0, 0) := by decide +kernel
theorem t41_20 : g_at 41 20 = some (.iload_n 1, 0, 0, 0) := by decide +kernel
theorem t41_21 : g_at 41 21 = some (.iload_n 3, 0, 0, 0) := by decide +kernel
theorem t41_22 : g_at 41 22 = some (.invokestatic 63, 19, 2, 0) := by decide +kernel
theorem t41_25 : g_at 41 25 = some (.ifCond .ne (46), 71, 0, 0) := by decide +kernel
theorem t41_28 : g_at 41 28 = some (.aload_n 0, 0, 0, 0) := by decide +kernel
theorem t41_29 : g_at 41 29 = some (.iload_n 3, 0, 0, 0) := by decide +kernel
theorem t41_30 : g_at 41 30 = some (.aload_n 0, 0, 0, 0) := by decide +kernel
theorem t41_31 : g_at 41 31 = some (.getfield 28, 1, 10, 0) := by decide +kernel
theorem t41_34 : g_at 41 34 = some (.iload_n 1, 0, 0, 0) := by decide +kernel
theorem t41_35 : g_at 41 35 = some (.iaload, 0, 0, 0) := by decide +kernel
theorem t41_36 : g_at 41 36 = some (.iload_n 2, 0, 0, 0) := by decide +kernel
theorem t41_37 : g_at 41 37 = some (.invokevirtual 111, 40, 3, 0) := by decide +kernel
theorem t41_40 : g_at 41 40 = some (.ifCond .eq (31), 71, 0, 0) := by decide +kernel
theorem t41_43 : g_at 41 43 = some (.aload_n 0, 0, 0, 0) := by decide +kernel
theorem t41_44 : g_at 41 44 = some (.getfield 34, 1, 12, 0) := by decide +kernel
theorem t41_47 : g_at 41 47 = some (.iload_n 1, 0, 0, 0) := by decide +kernel
theorem t41_48 : g_at 41 48 = some (.dup2, 0, 0, 0) := by decide +kernel
theorem t41_49 : g_at 41 49 = some (.iaload, 0, 0, 0) := by decide +kernel
theorem t41_50 : g_at 41 50 = some (.iconst 1, 0, 0, 1) := by decide +kernel
theorem t41_51 : g_at 41 51 = some (.iload_n 3, 0, 0, 0) := by decide +kernel
theorem t41_52 : g_at 41 52 = some (.ishl, 0, 0, 0) := by decide +kernel
theorem t41_53 : g_at 41 53 = some (.ior, 0, 0, 0) := by decide +kernel
theorem t41_54 : g_at 41 54 = some (.iastore, 0, 0, 0) := by decide +kernel
theorem t41_55 : g_at 41 55 = some (.aload_n 0, 0, 0, 0) := by decide +kernel
theorem t41_56 : g_at 41 56 = some (.getfield 34, 1, 12, 0) := by decide +kernel
theorem t41_59 : g_at 41 59 = some (.iload_n 1, 0, 0, 0) := by decide +kernel
theorem t41_60 : g_at 41 60 = some (.iconst 1, 0, 0, 1) := by decide +kernel
theorem t41_61 : g_at 41 61 = some (.iload_n 3, 0, 0, 0) := by decide +kernel
theorem t41_62 : g_at 41 62 = some (.ishl, 0, 0, 0) := by decide +kernel
theorem t41_63 : g_at 41 63 = some (.ior, 0, 0, 0) := by decide +kernel
theorem t41_64 : g_at 41 64 = some (.dup2, 0, 0, 0) := by decide +kernel
theorem t41_65 : g_at 41 65 = some (.iaload, 0, 0, 0) := by decide +kernel
theorem t41_66 : g_at 41 66 = some (.iconst 1, 0, 0, 1) := by decide +kernel
theorem t41_67 : g_at 41 67 = some (.iload_n 3, 0, 0, 0) := by decide +kernel
theorem t41_68 : g_at 41 68 = some (.ishl, 0, 0, 0) := by decide +kernel
theorem t41_69 : g_at 41 69 = some (.ior, 0, 0, 0) := by decide +kernel
theorem t41_70 : g_at 41 70 = some (.iastore, 0, 0, 0) := by decide +kernel
theorem t41_71 : g_at 41 71 = some (.iinc 3 (1), 0, 0, 1) := by decide +kernel
theorem t41_74 : g_at 41 74 = some (.goto (-72), 2, 0, 0) := by decide +kernel
theorem t41_77 : g_at 41 77 = some (.return_, 0, 0, 0) := by decide +kernel
theorem t42_0 : g_at 42 0 = some (.aload_n 0, 0, 0, 0) := by decide +kernel
theorem t42_1 : g_at 42 1 = some (.getfield 34, 1, 12, 0) := by decide +kernel
theorem t42_4 : g_at 42 4 = some (.iconst 0, 0, 0, 0) := by decide +kernel
theorem t42_5 : g_at 42 5 = some (.invokestatic 83, 34, 2, 0) := by decide +kernel
theorem t42_8 : g_at 42 8 = some (.iconst 0, 0, 0, 0) := by decide +kernel
theorem t42_9 : g_at 42 9 = some (.istore_n 1, 0, 0, 0) := by decide +kernel
theorem t42_10 : g_at 42 10 = some (.iload_n 1, 0, 0, 0) := by decide +kernel
theorem t42_11 : g_at 42 11 = some (.aload_n 0, 0, 0, 0) := by decide +kernel
theorem t42_12 : g_at 42 12 = some (.invokevirtual 89, 35, 0, 0) := by decide +kernel
theorem t42_15 : g_at 42 15 = some (.if_icmp .gt (56), 71, 0, 0) := by decide +kernel
theorem t42_18 : g_at 42 18 = some (.aload_n 0, 0, 0, 0) := by decide +kernel
theorem t42_19 : g_at 42 19 = some (.iload_n 1, 0, 0, 0) := by decide +kernel
theorem t42_20 : g_at 42 20 = some (.invokevirtual 93, 37, 1, 0) := by decide +kernel
theorem t42_23 : g_at 42 23 = some (.aload_n 0, 0, 0, 0) := by decide +kernel
theorem t42_24 : g_at 42 24 = some (.getfield 28, 1, 10, 0) := by decide +kernel
theorem t42_27 : g_at 42 27 = some (.iload_n 1, 0, 0, 0) := by decide +kernel
theorem t42_28 : g_at 42 28 = some (.aload_n 0, 0, 0, 0) := by decide +kernel
theorem t42_29 : g_at 42 29 = some (.aload_n 0, 0, 0, 0) := by decide +kernel
theorem t42_30 : g_at 42 30 = some (.getfield 46, 1, 1, 0) := by decide +kernel
theorem t42_33 : g_at 42 33 = some (.invokevirtual 97, 38, 1, 0) := by decide +kernel
theorem t42_36 : g_at 42 36 = some (.iastore, 0, 0, 0) := by decide +kernel
theorem t42_37 : g_at 42 37 = some (.aload_n 0, 0, 0, 0) := by decide +kernel
theorem t42_38 : g_at 42 38 = some (.getfield 31, 1, 11, 0) := by decide +kernel
theorem t42_41 : g_at 42 41 = some (.iload_n 1, 0, 0, 0) := by decide +kernel
theorem t42_42 : g_at 42 42 = some (.aload_n 0, 0, 0, 0) := by decide +kernel
theorem t42_43 : g_at 42 43 = some (.aload_n 0, 0, 0, 0) := by decide +kernel
theorem t42_44 : g_at 42 44 = some (.iload_n 1, 0, 0, 0) := by decide +kernel
theorem t42_45 : g_at 42 45 = some (.invokevirtual 101, 39, 1, 0) := by decide +kernel
theorem t42_48 : g_at 42 48 = some (.invokevirtual 97, 38, 1, 0) := by decide +kernel
theorem t42_51 : g_at 42 51 = some (.iastore, 0, 0, 0) := by decide +kernel
theorem t42_52 : g_at 42 52 = some (.aload_n 0, 0, 0, 0) := by decide +kernel
theorem t42_53 : g_at 42 53 = some (.iload_n 1, 0, 0, 0) := by decide +kernel
theorem t42_54 : g_at 42 54 = some (.aload_n 0, 0, 0, 0) := by decide +kernel
theorem t42_55 : g_at 42 55 = some (.aload_n 0, 0, 0, 0) := by decide +kernel
theorem t42_56 : g_at 42 56 = some (.getfield 50, 1, 2, 0) := by decide +kernel
theorem t42_59 : g_at 42 59 = some (.invokevirtual 97, 38, 1, 0) := by decide +kernel
theorem t42_62 : g_at 42 62 = some (.invokevirtual 104, 41, 2, 0) := by decide +kernel
theorem t42_65 : g_at 42 65 = some (.iinc 1 (1), 0, 0, 1) := by decide +kernel
theorem t42_68 : g_at 42 68 = some (.goto (-58), 10, 0, 0) := by decide +kernel
theorem t42_71 : g_at 42 71 = some (.return_, 0, 0, 0) := by decide +kernel
theorem t43_0 : g_at 43 0 = some (.aload_n 0, 0, 0, 0) := by decide +kernel
theorem t43_1 : g_at 43 1 = some (.aload_n 1, 0, 0, 0) := by decide +kernel
theorem t43_2 : g_at 43 2 = some (.getfield 40, 0, 0, 0) := by decide +kernel
theorem t43_5 : g_at 43 5 = some (.putfield 9, 1, 0, 0) := by decide +kernel
theorem t43_8 : g_at 43 8 = some (.aload_n 0, 0, 0, 0) := by decide +kernel
theorem t43_9 : g_at 43 9 = some (.aload_n 1, 0, 0, 0) := by decide +kernel
theorem t43_10 : g_at 43 10 = some (.getfield 43, 0, 1, 0) := by decide +kernel
theorem t43_13 : g_at 43 13 = some (.putfield 46, 1, 1, 0) := by decide +kernel
theorem t43_16 : g_at 43 16 = some (.aload_n 0, 0, 0, 0) := by decide +kernel
theorem t43_17 : g_at 43 17 = some (.aload_n 1, 0, 0, 0) := by decide +kernel
theorem t43_18 : g_at 43 18 = some (.getfield 47, 0, 2, 0) := by decide +kernel
theorem t43_21 : g_at 43 21 = some (.putfield 50, 1, 2, 0) := by decide +kernel
theorem t43_24 : g_at 43 24 = some (.aload_n 0, 0, 0, 0) := by decide +kernel
theorem t43_25 : g_at 43 25 = some (.iconst 0, 0, 0, 0) := by decide +kernel
theorem t43_26 : g_at 43 26 = some (.putfield 51, 1, 3, 0) := by decide +kernel
theorem t43_29 : g_at 43 29 = some (.aload_n 0, 0, 0, 0) := by decide +kernel
theorem t43_30 : g_at 43 30 = some (.iconst 0, 0, 0, 0) := by decide +kernel
theorem t43_31 : g_at 43 31 = some (.putfield 54, 1, 4, 0) := by decide +kernel
theorem t43_34 : g_at 43 34 = some (.aload_n 0, 0, 0, 0) := by decide +kernel
theorem t43_35 : g_at 43 35 = some (.iconst 0, 0, 0, 0) := by decide +kernel
theorem t43_36 : g_at 43 36 = some (.putfield 57, 1, 5, 0) := by decide +kernel
theorem t43_39 : g_at 43 39 = some (.iconst 0, 0, 0, 0) := by decide +kernel
theorem t43_40 : g_at 43 40 = some (.istore_n 2, 0, 0, 0) := by decide +kernel
theorem t43_41 : g_at 43 41 = some (.iload_n 2, 0, 0, 0) := by decide +kernel
theorem t43_42 : g_at 43 42 = some (.iconst 3, 0, 0, 3) := by decide +kernel
theorem t43_43 : g_at 43 43 = some (.if_icmp .ge (60), 103, 0, 0) := by decide +kernel
theorem t43_46 : g_at 43 46 = some (.iconst 0, 0, 0, 0) := by decide +kernel
theorem t43_47 : g_at 43 47 = some (.istore_n 3, 0, 0, 0) := by decide +kernel
theorem t43_48 : g_at 43 48 = some (.iload_n 3, 0, 0, 0) := by decide +kernel
theorem t43_49 : g_at 43 49 = some (.bipush (26), 0, 0, 26) := by decide +kernel
theorem t43_51 : g_at 43 51 = some (.if_icmp .ge (46), 97, 0, 0) := by decide +kernel
theorem t43_54 : g_at 43 54 = some (.aload_n 1, 0, 0, 0) := by decide +kernel
theorem t43_55 : g_at 43 55 = some (.getfield 60, 0, 3, 0) := by decide +kernel
theorem t43_58 : g_at 43 58 = some (.iload_n 3, 0, 0, 0) := by decide +kernel
theorem t43_59 : g_at 43 59 = some (.invokestatic 63, 19, 2, 0) := by decide +kernel
theorem t43_62 : g_at 43 62 = some (.iconst 1, 0, 0, 1) := by decide +kernel
theorem t43_63 : g_at 43 63 = some (.if_icmp .ne (28), 91, 0, 0) := by decide +kernel
theorem t43_66 : g_at 43 66 = some (.aload_n 1, 0, 0, 0) := by decide +kernel
theorem t43_67 : g_at 43 67 = some (.getfield 67, 0, 6, 0) := by decide +kernel
theorem t43_70 : g_at 43 70 = some (.iload_n 3, 0, 0, 0) := by decide +kernel
theorem t43_71 : g_at 43 71 = some (.iaload, 0, 0, 0) := by decide +kernel
theorem t43_72 : g_at 43 72 = some (.iload_n 2, 0, 0, 0) := by decide +kernel
theorem t43_73 : g_at 43 73 = some (.if_icmp .ne (18), 91, 0, 0) := by decide +kernel
theorem t43_76 : g_at 43 76 = some (.aload_n 0, 0, 0, 0) := by decide +kernel
theorem t43_77 : g_at 43 77 = some (.getfield 51, 1, 3, 0) := by decide +kernel
theorem t43_80 : g_at 43 80 = some (.bipush (8), 0, 0, 8) := by decide +kernel
theorem t43_82 : g_at 43 82 = some (.if_icmp .ge (9), 91, 0, 0) := by decide +kernel
theorem t43_85 : g_at 43 85 = some (.aload_n 0, 0, 0, 0) := by decide +kernel
theorem t43_86 : g_at 43 86 = some (.aload_n 1, 0, 0, 0) := by decide +kernel
theorem t43_87 : g_at 43 87 = some (.iload_n 3, 0, 0, 0) := by decide +kernel
theorem t43_88 : g_at 43 88 = some (.invokevirtual 68, 33, 2, 0) := by decide +kernel
theorem t43_91 : g_at 43 91 = some (.iinc 3 (1), 0, 0, 1) := by decide +kernel
theorem t43_94 : g_at 43 94 = some (.goto (-46), 48, 0, 0) := by decide +kernel
theorem t43_97 : g_at 43 97 = some (.iinc 2 (1), 0, 0, 1) := by decide +kernel
theorem t43_100 : g_at 43 100 = some (.goto (-59), 41, 0, 0) := by decide +kernel
theorem t43_103 : g_at 43 103 = some (.aload_n 0, 0, 0, 0) := by decide +kernel
theorem t43_104 : g_at 43 104 = some (.invokevirtual 72, 42, 0, 0) := by decide +kernel
theorem t43_107 : g_at 43 107 = some (.return_, 0, 0, 0) := by decide +kernel
theorem t44_0 : g_at 44 0 = some (.aload_n 0, 0, 0, 0) := by decide +kernel
theorem t44_1 : g_at 44 1 = some (.getfield 28, 1, 10, 0) := by decide +kernel
theorem t44_4 : g_at 44 4 = some (.iload_n 1, 0, 0, 0) := by decide +kernel
theorem t44_5 : g_at 44 5 = some (.iaload, 0, 0, 0) := by decide +kernel
theorem t44_6 : g_at 44 6 = some (.aload_n 0, 0, 0, 0) := by decide +kernel
theorem t44_7 : g_at 44 7 = some (.getfield 31, 1, 11, 0) := by decide +kernel
theorem t44_10 : g_at 44 10 = some (.iload_n 1, 0, 0, 0) := by decide +kernel
theorem t44_11 : g_at 44 11 = some (.iaload, 0, 0, 0) := by decide +kernel
theorem t44_12 : g_at 44 12 = some (.iand, 0, 0, 0) := by decide +kernel
theorem t44_13 : g_at 44 13 = some (.ifCond .ne (7), 20, 0, 0) := by decide +kernel
theorem t44_16 : g_at 44 16 = some (.iconst 1, 0, 0, 1) := by decide +kernel
theorem t44_17 : g_at 44 17 = some (.goto (4), 21, 0, 0) := by decide +kernel
theorem t44_20 : g_at 44 20 = some (.iconst 0, 0, 0, 0) := by decide +kernel
theorem t44_21 : g_at 44 21 = some (.ireturn, 0, 0, 0) := by decide +kernel
theorem t45_0 : g_at 45 0 = some (.aload_n 0, 0, 0, 0) := by decide +kernel
theorem t45_1 : g_at 45 1 = some (.getfield 19, 3, 1, 0) := by decide +kernel
theorem t45_4 : g_at 45 4 = some (.aload_n 0, 0, 0, 0) := by decide +kernel
theorem t45_5 : g_at 45 5 = some (.getfield 12, 3, 0, 0) := by decide +kernel
theorem t45_8 : g_at 45 8 = some (.invokevirtual 62, 32, 1, 0) := by decide +kernel
theorem t45_11 : g_at 45 11 = some (.istore_n 1, 0, 0, 0) := by decide +kernel
theorem t45_12 : g_at 45 12 = some (.iload_n 1, 0, 0, 0) := by decide +kernel
theorem t45_13 : g_at 45 13 = some (.ifCond .ge (14), 27, 0, 0) := by decide +kernel
theorem t45_16 : g_at 45 16 = some (.bipush (-10), 0, 0, (-10)) := by decide +kernel
theorem t45_18 : g_at 45 18 = some (.aload_n 0, 0, 0, 0) := by decide +kernel
theorem t45_19 : g_at 45 19 = some (.getfield 12, 3, 0, 0) := by decide +kernel
theorem t45_22 : g_at 45 22 = some (.getfield 66, 2, 3, 0) := by decide +kernel
theorem t45_25 : g_at 45 25 = some (.isub, 0, 0, 0) := by decide +kernel
theorem t45_26 : g_at 45 26 = some (.ireturn, 0, 0, 0) := by decide +kernel
theorem t45_27 : g_at 45 27 = some (.aload_n 0, 0, 0, 0) := by decide +kernel
theorem t45_28 : g_at 45 28 = some (.getfield 30, 3, 3, 0) := by decide +kernel
theorem t45_31 : g_at 45 31 = some (.aload_n 0, 0, 0, 0) := by decide +kernel
theorem t45_32 : g_at 45 32 = some (.getfield 19, 3, 1, 0) := by decide +kernel
theorem t45_35 : g_at 45 35 = some (.invokevirtual 69, 43, 1, 0) := by decide +kernel
theorem t45_38 : g_at 45 38 = some (.aload_n 0, 0, 0, 0) := by decide +kernel
theorem t45_39 : g_at 45 39 = some (.getfield 30, 3, 3, 0) := by decide +kernel
theorem t45_42 : g_at 45 42 = some (.aload_n 0, 0, 0, 0) := by decide +kernel
theorem t45_43 : g_at 45 43 = some (.getfield 30, 3, 3, 0) := by decide +kernel
theorem t45_46 : g_at 45 46 = some (.getfield 73, 1, 4, 0) := by decide +kernel
theorem t45_49 : g_at 45 49 = some (.invokevirtual 76, 44, 1, 0) := by decide +kernel
theorem t45_52 : g_at 45 52 = some (.ifCond .ne (14), 66, 0, 0) := by decide +kernel
theorem t45_55 : g_at 45 55 = some (.bipush (-10), 0, 0, (-10)) := by decide +kernel
theorem t45_57 : g_at 45 57 = some (.aload_n 0, 0, 0, 0) := by decide +kernel
theorem t45_58 : g_at 45 58 = some (.getfield 12, 3, 0, 0) := by decide +kernel
theorem t45_61 : g_at 45 61 = some (.getfield 55, 2, 1, 0) := by decide +kernel
theorem t45_64 : g_at 45 64 = some (.isub, 0, 0, 0) := by decide +kernel
theorem t45_65 : g_at 45 65 = some (.ireturn, 0, 0, 0) := by decide +kernel
theorem t45_66 : g_at 45 66 = some (.aload_n 0, 0, 0, 0) := by decide +kernel
theorem t45_67 : g_at 45 67 = some (.getfield 26, 3, 2, 0) := by decide +kernel
theorem t45_70 : g_at 45 70 = some (.astore_n 2, 0, 0, 0) := by decide +kernel
theorem t45_71 : g_at 45 71 = some (.aload_n 0, 0, 0, 0) := by decide +kernel
theorem t45_72 : g_at 45 72 = some (.aload_n 0, 0, 0, 0) := by decide +kernel
theorem t45_73 : g_at 45 73 = some (.getfield 30, 3, 3, 0) := by decide +kernel
theorem t45_76 : g_at 45 76 = some (.putfield 26, 3, 2, 0) := by decide +kernel
theorem t45_79 : g_at 45 79 = some (.aload_n 0, 0, 0, 0) := by decide +kernel
theorem t45_80 : g_at 45 80 = some (.aload_n 2, 0, 0, 0) := by decide +kernel
theorem t45_81 : g_at 45 81 = some (.putfield 30, 3, 3, 0) := by decide +kernel
theorem t45_84 : g_at 45 84 = some (.aload_n 0, 0, 0, 0) := by decide +kernel
theorem t45_85 : g_at 45 85 = some (.getfield 12, 3, 0, 0) := by decide +kernel
theorem t45_88 : g_at 45 88 = some (.iconst 0, 0, 0, 0) := by decide +kernel
theorem t45_89 : g_at 45 89 = some (.putfield 55, 2, 1, 0) := by decide +kernel
theorem t45_92 : g_at 45 92 = some (.aload_n 0, 0, 0, 0) := by decide +kernel
theorem t45_93 : g_at 45 93 = some (.invokevirtual 52, 4, 0, 0) := by decide +kernel
theorem t45_96 : g_at 45 96 = some (.iload_n 1, 0, 0, 0) := by decide +kernel
theorem t45_97 : g_at 45 97 = some (.ireturn, 0, 0, 0) := by decide +kernel
theorem t46_0 : g_at 46 0 = some (.iload_n 1, 0, 0, 0) := by decide +kernel
theorem t46_1 : g_at 46 1 = some (.aload_n 0, 0, 0, 0) := by decide +kernel
theorem t46_2 : g_at 46 2 = some (.getfield 70, 4, 2, 0) := by decide +kernel
theorem t46_5 : g_at 46 5 = some (.if_icmp .ge (12), 17, 0, 0) := by decide +kernel
theorem t46_8 : g_at 46 8 = some (.aload_n 0, 0, 0, 0) := by decide +kernel
theorem t46_9 : g_at 46 9 = some (.getfield 7, 4, 1, 0) := by decide +kernel
theorem t46_12 : g_at 46 12 = some (.iload_n 1, 0, 0, 0) := by decide +kernel
theorem t46_13 : g_at 46 13 = some (.iaload, 0, 0, 0) := by decide +kernel
theorem t46_14 : g_at 46 14 = some (.goto (4), 18, 0, 0) := by decide +kernel
theorem t46_17 : g_at 46 17 = some (.iconst (-1), 0, 0, (-1)) := by decide +kernel
theorem t46_18 : g_at 46 18 = some (.ireturn, 0, 0, 0) := by decide +kernel
theorem t47_0 : g_at 47 0 = some (.aload_n 0, 0, 0, 0) := by decide +kernel
theorem t47_1 : g_at 47 1 = some (.aload_n 0, 0, 0, 0) := by decide +kernel
theorem t47_2 : g_at 47 2 = some (.getfield 73, 4, 3, 0) := by decide +kernel
theorem t47_5 : g_at 47 5 = some (.invokevirtual 76, 46, 1, 0) := by decide +kernel
theorem t47_8 : g_at 47 8 = some (.bipush (32), 0, 0, 32) := by decide +kernel
theorem t47_10 : g_at 47 10 = some (.if_icmp .ne (16), 26, 0, 0) := by decide +kernel
theorem t47_13 : g_at 47 13 = some (.aload_n 0, 0, 0, 0) := by decide +kernel
theorem t47_14 : g_at 47 14 = some (.dup, 0, 0, 0) := by decide +kernel
theorem t47_15 : g_at 47 15 = some (.getfield 73, 4, 3, 0) := by decide +kernel
theorem t47_18 : g_at 47 18 = some (.iconst 1, 0, 0, 1) := by decide +kernel
theorem t47_19 : g_at 47 19 = some (.iadd, 0, 0, 0) := by decide +kernel
theorem t47_20 : g_at 47 20 = some (.putfield 73, 4, 3, 0) := by decide +kernel
theorem t47_23 : g_at 47 23 = some (.goto (-23), 0, 0, 0) := by decide +kernel
theorem t47_26 : g_at 47 26 = some (.aload_n 0, 0, 0, 0) := by decide +kernel
theorem t47_27 : g_at 47 27 = some (.aload_n 0, 0, 0, 0) := by decide +kernel
theorem t47_28 : g_at 47 28 = some (.getfield 73, 4, 3, 0) := by decide +kernel
theorem t47_31 : g_at 47 31 = some (.putfield 80, 4, 5, 0) := by decide +kernel
theorem t47_34 : g_at 47 34 = some (.aload_n 0, 0, 0, 0) := by decide +kernel
theorem t47_35 : g_at 47 35 = some (.aload_n 0, 0, 0, 0) := by decide +kernel
theorem t47_36 : g_at 47 36 = some (.getfield 73, 4, 3, 0) := by decide +kernel
theorem t47_39 : g_at 47 39 = some (.invokevirtual 76, 46, 1, 0) := by decide +kernel
theorem t47_42 : g_at 47 42 = some (.istore_n 1, 0, 0, 0) := by decide +kernel
theorem t47_43 : g_at 47 43 = some (.iload_n 1, 0, 0, 0) := by decide +kernel
theorem t47_44 : g_at 47 44 = some (.ifCond .ge (11), 55, 0, 0) := by decide +kernel
theorem t47_47 : g_at 47 47 = some (.aload_n 0, 0, 0, 0) := by decide +kernel
theorem t47_48 : g_at 47 48 = some (.iconst 0, 0, 0, 0) := by decide +kernel
theorem t47_49 : g_at 47 49 = some (.putfield 83, 4, 4, 0) := by decide +kernel
theorem t47_52 : g_at 47 52 = some (.goto (174), 226, 0, 0) := by decide +kernel
theorem t47_55 : g_at 47 55 = some (.iload_n 1, 0, 0, 0) := by decide +kernel
theorem t47_56 : g_at 47 56 = some (.bipush (48), 0, 0, 48) := by decide +kernel
theorem t47_58 : g_at 47 58 = some (.bipush (57), 0, 0, 57) := by decide +kernel
theorem t47_60 : g_at 47 60 = some (.invokestatic 66, 10, 3, 0) := by decide +kernel
theorem t47_63 : g_at 47 63 = some (.ifCond .eq (118), 181, 0, 0) := by decide +kernel
theorem t47_66 : g_at 47 66 = some (.aload_n 0, 0, 0, 0) := by decide +kernel
theorem t47_67 : g_at 47 67 = some (.iconst 0, 0, 0, 0) := by decide +kernel
theorem t47_68 : g_at 47 68 = some (.putfield 86, 4, 6, 0) := by decide +kernel
theorem t47_71 : g_at 47 71 = some (.aload_n 0, 0, 0, 0) := by decide +kernel
theorem t47_72 : g_at 47 72 = some (.aload_n 0, 0, 0, 0) := by decide +kernel
theorem t47_73 : g_at 47 73 = some (.getfield 73, 4, 3, 0) := by decide +kernel
theorem t47_76 : g_at 47 76 = some (.invokevirtual 76, 46, 1, 0) := by decide +kernel
theorem t47_79 : g_at 47 79 = some (.bipush (48), 0, 0, 48) := by decide +kernel
theorem t47_81 : g_at 47 81 = some (.bipush (57), 0, 0, 57) := by decide +kernel
theorem t47_83 : g_at 47 83 = some (.invokestatic 66, 10, 3, 0) := by decide +kernel
theorem t47_86 : g_at 47 86 = some (.ifCond .eq (55), 141, 0, 0) := by decide +kernel
theorem t47_89 : g_at 47 89 = some (.aload_n 0, 0, 0, 0) := by decide +kernel
theorem t47_90 : g_at 47 90 = some (.aload_n 0, 0, 0, 0) := by decide +kernel
theorem t47_91 : g_at 47 91 = some (.getfield 86, 4, 6, 0) := by decide +kernel
theorem t47_94 : g_at 47 94 = some (.bipush (99), 0, 0, 99) := by decide +kernel
theorem t47_96 : g_at 47 96 = some (.if_icmp .le (10), 106, 0, 0) := by decide +kernel
theorem t47_99 : g_at 47 99 = some (.aload_n 0, 0, 0, 0) := by decide +kernel
theorem t47_100 : g_at 47 100 = some (.getfield 86, 4, 6, 0) := by decide +kernel
theorem t47_103 : g_at 47 103 = some (.goto (22), 125, 0, 0) := by decide +kernel
theorem t47_106 : g_at 47 106 = some (.bipush (10), 0, 0, 10) := by decide +kernel
theorem t47_108 : g_at 47 108 = some (.aload_n 0, 0, 0, 0) := by decide +kernel
theorem t47_109 : g_at 47 109 = some (.getfield 86, 4, 6, 0) := by decide +kernel
theorem t47_112 : g_at 47 112 = some (.imul, 0, 0, 0) := by decide +kernel
theorem t47_113 : g_at 47 113 = some (.aload_n 0, 0, 0, 0) := by decide +kernel
theorem t47_114 : g_at 47 114 = some (.aload_n 0, 0, 0, 0) := by decide +kernel
theorem t47_115 : g_at 47 115 = some (.getfield 73, 4, 3, 0) := by decide +kernel
theorem t47_118 : g_at 47 118 = some (.invokevirtual 76, 46, 1, 0) := by decide +kernel
theorem t47_121 : g_at 47 121 = some (.iadd, 0, 0, 0) := by decide +kernel
theorem t47_122 : g_at 47 122 = some (.bipush (48), 0, 0, 48) := by decide +kernel
theorem t47_124 : g_at 47 124 = some (.isub, 0, 0, 0) := by decide +kernel
theorem t47_125 : g_at 47 125 = some (.putfield 86, 4, 6, 0) := by decide +kernel
theorem t47_128 : g_at 47 128 = some (.aload_n 0, 0, 0, 0) := by decide +kernel
theorem t47_129 : g_at 47 129 = some (.dup, 0, 0, 0) := by decide +kernel
theorem t47_130 : g_at 47 130 = some (.getfield 73, 4, 3, 0) := by decide +kernel
theorem t47_133 : g_at 47 133 = some (.iconst 1, 0, 0, 1) := by decide +kernel
theorem t47_134 : g_at 47 134 = some (.iadd, 0, 0, 0) := by decide +kernel
theorem t47_135 : g_at 47 135 = some (.putfield 73, 4, 3, 0) := by decide +kernel
theorem t47_138 : g_at 47 138 = some (.goto (-67), 71, 0, 0) := by decide +kernel
theorem t47_141 : g_at 47 141 = some (.aload_n 0, 0, 0, 0) := by decide +kernel
theorem t47_142 : g_at 47 142 = some (.aload_n 0, 0, 0, 0) := by decide +kernel
theorem t47_143 : g_at 47 143 = some (.getfield 86, 4, 6, 0) := by decide +kernel
theorem t47_146 : g_at 47 146 = some (.bipush (99), 0, 0, 99) := by decide +kernel
theorem t47_148 : g_at 47 148 = some (.if_icmp .gt (22), 170, 0, 0) := by decide +kernel
theorem t47_151 : g_at 47 151 = some (.iload_n 1, 0, 0, 0) := by decide +kernel
theorem t47_152 : g_at 47 152 = some (.bipush (48), 0, 0, 48) := by decide +kernel
theorem t47_154 : g_at 47 154 = some (.if_icmp .ne (20), 174, 0, 0) := by decide +kernel
theorem t47_157 : g_at 47 157 = some (.aload_n 0, 0, 0, 0) := by decide +kernel
theorem t47_158 : g_at 47 158 = some (.getfield 73, 4, 3, 0) := by decide +kernel
theorem t47_161 : g_at 47 161 = some (.aload_n 0, 0, 0, 0) := by decide +kernel
theorem t47_162 : g_at 47 162 = some (.getfield 80, 4, 5, 0) := by decide +kernel
theorem t47_165 : g_at 47 165 = some (.isub, 0, 0, 0) := by decide +kernel
theorem t47_166 : g_at 47 166 = some (.iconst 1, 0, 0, 1) := by decide +kernel
theorem t47_167 : g_at 47 167 = some (.if_icmp .le (7), 174, 0, 0) := by decide +kernel
theorem t47_170 : g_at 47 170 = some (.iconst 4, 0, 0, 4) := by decide +kernel
theorem t47_171 : g_at 47 171 = some (.goto (4), 175, 0, 0) := by decide +kernel
theorem t47_174 : g_at 47 174 = some (.iconst 2, 0, 0, 2) := by decide +kernel
theorem t47_175 : g_at 47 175 = some (.putfield 83, 4, 4, 0) := by decide +kernel
theorem t47_178 : g_at 47 178 = some (.goto (48), 226, 0, 0) := by decide +kernel
theorem t47_181 : g_at 47 181 = some (.aload_n 0, 0, 0, 0) := by decide +kernel
theorem t47_182 : g_at 47 182 = some (.dup, 0, 0, 0) := by decide +kernel
theorem t47_183 : g_at 47 183 = some (.getfield 73, 4, 3, 0) := by decide +kernel
theorem t47_186 : g_at 47 186 = some (.iconst 1, 0, 0, 1) := by decide +kernel
theorem t47_187 : g_at 47 187 = some (.iadd, 0, 0, 0) := by decide +kernel
theorem t47_188 : g_at 47 188 = some (.putfield 73, 4, 3, 0) := by decide +kernel
theorem t47_191 : g_at 47 191 = some (.aload_n 0, 0, 0, 0) := by decide +kernel
theorem t47_192 : g_at 47 192 = some (.iload_n 1, 0, 0, 0) := by decide +kernel
theorem t47_193 : g_at 47 193 = some (.putfield 86, 4, 6, 0) := by decide +kernel
theorem t47_196 : g_at 47 196 = some (.aload_n 0, 0, 0, 0) := by decide +kernel
theorem t47_197 : g_at 47 197 = some (.iload_n 1, 0, 0, 0) := by decide +kernel
theorem t47_198 : g_at 47 198 = some (.bipush (59), 0, 0, 59) := by decide +kernel
theorem t47_200 : g_at 47 200 = some (.if_icmp .ne (7), 207, 0, 0) := by decide +kernel
theorem t47_203 : g_at 47 203 = some (.iconst 3, 0, 0, 3) := by decide +kernel
theorem t47_204 : g_at 47 204 = some (.goto (19), 223, 0, 0) := by decide +kernel
theorem t47_207 : g_at 47 207 = some (.iload_n 1, 0, 0, 0) := by decide +kernel
theorem t47_208 : g_at 47 208 = some (.bipush (97), 0, 0, 97) := by decide +kernel
theorem t47_210 : g_at 47 210 = some (.bipush (122), 0, 0, 122) := by decide +kernel
theorem t47_212 : g_at 47 212 = some (.invokestatic 66, 10, 3, 0) := by decide +kernel
theorem t47_215 : g_at 47 215 = some (.ifCond .eq (7), 222, 0, 0) := by decide +kernel
theorem t47_218 : g_at 47 218 = some (.iconst 1, 0, 0, 1) := by decide +kernel
theorem t47_219 : g_at 47 219 = some (.goto (4), 223, 0, 0) := by decide +kernel
theorem t47_222 : g_at 47 222 = some (.iconst 4, 0, 0, 4) := by decide +kernel
theorem t47_223 : g_at 47 223 = some (.putfield 83, 4, 4, 0) := by decide +kernel
theorem t47_226 : g_at 47 226 = some (.return_, 0, 0, 0) := by decide +kernel
theorem t48_0 : g_at 48 0 = some (.aload_n 0, 0, 0, 0) := by decide +kernel
theorem t48_1 : g_at 48 1 = some (.getfield 89, 4, 7, 0) := by decide +kernel
theorem t48_4 : g_at 48 4 = some (.ifCond .ge (7), 11, 0, 0) := by decide +kernel
theorem t48_7 : g_at 48 7 = some (.iconst 1, 0, 0, 1) := by decide +kernel
theorem t48_8 : g_at 48 8 = some (.goto (4), 12, 0, 0) := by decide +kernel
theorem t48_11 : g_at 48 11 = some (.iconst 0, 0, 0, 0) := by decide +kernel
theorem t48_12 : g_at 48 12 = some (.ireturn, 0, 0, 0) := by decide +kernel
theorem t49_0 : g_at 49 0 = some (.aload_n 0, 0, 0, 0) := by decide +kernel
theorem t49_1 : g_at 49 1 = some (.getfield 86, 4, 6, 0) := by decide +kernel
theorem t49_4 : g_at 49 4 = some (.bipush (98), 0, 0, 98) := by decide +kernel
theorem t49_6 : g_at 49 6 = some (.if_icmp .eq (21), 27, 0, 0) := by decide +kernel
theorem t49_9 : g_at 49 9 = some (.aload_n 0, 0, 0, 0) := by decide +kernel
theorem t49_10 : g_at 49 10 = some (.getfield 86, 4, 6, 0) := by decide +kernel
theorem t49_13 : g_at 49 13 = some (.bipush (105), 0, 0, 105) := by decide +kernel
theorem t49_15 : g_at 49 15 = some (.if_icmp .eq (12), 27, 0, 0) := by decide +kernel
theorem t49_18 : g_at 49 18 = some (.aload_n 0, 0, 0, 0) := by decide +kernel
theorem t49_19 : g_at 49 19 = some (.getfield 86, 4, 6, 0) := by decide +kernel
theorem t49_22 : g_at 49 22 = some (.bipush (101), 0, 0, 101) := by decide +kernel
theorem t49_24 : g_at 49 24 = some (.if_icmp .ne (7), 31, 0, 0) := by decide +kernel
theorem t49_27 : g_at 49 27 = some (.iconst 1, 0, 0, 1) := by decide +kernel
theorem t49_28 : g_at 49 28 = some (.goto (4), 32, 0, 0) := by decide +kernel
theorem t49_31 : g_at 49 31 = some (.iconst 0, 0, 0, 0) := by decide +kernel
theorem t49_32 : g_at 49 32 = some (.istore_n 2, 0, 0, 0) := by decide +kernel
theorem t49_33 : g_at 49 33 = some (.iload_n 2, 0, 0, 0) := by decide +kernel
theorem t49_34 : g_at 49 34 = some (.ifCond .eq (22), 56, 0, 0) := by decide +kernel
theorem t49_37 : g_at 49 37 = some (.aload_n 0, 0, 0, 0) := by decide +kernel
theorem t49_38 : g_at 49 38 = some (.getfield 16, 4, 9, 0) := by decide +kernel
theorem t49_41 : g_at 49 41 = some (.iconst 3, 0, 0, 3) := by decide +kernel
theorem t49_42 : g_at 49 42 = some (.iaload, 0, 0, 0) := by decide +kernel
theorem t49_43 : g_at 49 43 = some (.bipush (8), 0, 0, 8) := by decide +kernel
theorem t49_45 : g_at 49 45 = some (.if_icmp .ge (7), 52, 0, 0) := by decide +kernel
theorem t49_48 : g_at 49 48 = some (.iconst 1, 0, 0, 1) := by decide +kernel
theorem t49_49 : g_at 49 49 = some (.goto (69), 118, 0, 0) := by decide +kernel
theorem t49_52 : g_at 49 52 = some (.iconst 0, 0, 0, 0) := by decide +kernel
theorem t49_53 : g_at 49 53 = some (.goto (65), 118, 0, 0) := by decide +kernel
theorem t49_56 : g_at 49 56 = some (.aload_n 0, 0, 0, 0) := by decide +kernel
theorem t49_57 : g_at 49 57 = some (.getfield 86, 4, 6, 0) := by decide +kernel
theorem t49_60 : g_at 49 60 = some (.bipush (110), 0, 0, 110) := by decide +kernel
theorem t49_62 : g_at 49 62 = some (.if_icmp .ne (15), 77, 0, 0) := by decide +kernel
theorem t49_65 : g_at 49 65 = some (.iload_n 1, 0, 0, 0) := by decide +kernel
theorem t49_66 : g_at 49 66 = some (.ifCond .ne (7), 73, 0, 0) := by decide +kernel
theorem t49_69 : g_at 49 69 = some (.iconst 1, 0, 0, 1) := by decide +kernel
theorem t49_70 : g_at 49 70 = some (.goto (48), 118, 0, 0) := by decide +kernel
theorem t49_73 : g_at 49 73 = some (.iconst 0, 0, 0, 0) := by decide +kernel
theorem t49_74 : g_at 49 74 = some (.goto (44), 118, 0, 0) := by decide +kernel
theorem t49_77 : g_at 49 77 = some (.aload_n 0, 0, 0, 0) := by decide +kernel
theorem t49_78 : g_at 49 78 = some (.getfield 86, 4, 6, 0) := by decide +kernel
theorem t49_81 : g_at 49 81 = some (.bipush (115), 0, 0, 115) := by decide +kernel
theorem t49_83 : g_at 49 83 = some (.if_icmp .eq (30), 113, 0, 0) := by decide +kernel
theorem t49_86 : g_at 49 86 = some (.aload_n 0, 0, 0, 0) := by decide +kernel
theorem t49_87 : g_at 49 87 = some (.getfield 86, 4, 6, 0) := by decide +kernel
theorem t49_90 : g_at 49 90 = some (.bipush (100), 0, 0, 100) := by decide +kernel
theorem t49_92 : g_at 49 92 = some (.if_icmp .eq (21), 113, 0, 0) := by decide +kernel
theorem t49_95 : g_at 49 95 = some (.aload_n 0, 0, 0, 0) := by decide +kernel
theorem t49_96 : g_at 49 96 = some (.getfield 86, 4, 6, 0) := by decide +kernel
theorem t49_99 : g_at 49 99 = some (.bipush (99), 0, 0, 99) := by decide +kernel
theorem t49_101 : g_at 49 101 = some (.if_icmp .eq (12), 113, 0, 0) := by decide +kernel
theorem t49_104 : g_at 49 104 = some (.aload_n 0, 0, 0, 0) := by decide +kernel
theorem t49_105 : g_at 49 105 = some (.getfield 86, 4, 6, 0) := by decide +kernel
theorem t49_108 : g_at 49 108 = some (.bipush (107), 0, 0, 107) := by decide +kernel
theorem t49_110 : g_at 49 110 = some (.if_icmp .ne (7), 117, 0, 0) := by decide +kernel
theorem t49_113 : g_at 49 113 = some (.iconst 1, 0, 0, 1) := by decide +kernel
theorem t49_114 : g_at 49 114 = some (.goto (4), 118, 0, 0) := by decide +kernel
theorem t49_117 : g_at 49 117 = some (.iconst 0, 0, 0, 0) := by decide +kernel
theorem t49_118 : g_at 49 118 = some (.ireturn, 0, 0, 0) := by decide +kernel
theorem t50_0 : g_at 50 0 = some (.aload_n 0, 0, 0, 0) := by decide +kernel
theorem t50_1 : g_at 50 1 = some (.invokevirtual 92, 48, 0, 0) := by decide +kernel
theorem t50_4 : g_at 50 4 = some (.ifCond .ne (5), 9, 0, 0) := by decide +kernel
theorem t50_7 : g_at 50 7 = some (.iconst 0, 0, 0, 0) := by decide +kernel
theorem t50_8 : g_at 50 8 = some (.ireturn, 0, 0, 0) := by decide +kernel
theorem t50_9 : g_at 50 9 = some (.iload_n 1, 0, 0, 0) := by decide +kernel
theorem t50_10 : g_at 50 10 = some (.ifCond .ne (13), 23, 0, 0) := by decide +kernel
theorem t50_13 : g_at 50 13 = some (.aload_n 0, 0, 0, 0) := by decide +kernel
theorem t50_14 : g_at 50 14 = some (.aload_n 0, 0, 0, 0) := by decide +kernel
theorem t50_15 : g_at 50 15 = some (.getfield 80, 4, 5, 0) := by decide +kernel
theorem t50_18 : g_at 50 18 = some (.putfield 89, 4, 7, 0) := by decide +kernel
theorem t50_21 : g_at 50 21 = some (.iconst 0, 0, 0, 0) := by decide +kernel
theorem t50_22 : g_at 50 22 = some (.ireturn, 0, 0, 0) := by decide +kernel
theorem t50_23 : g_at 50 23 = some (.aload_n 0, 0, 0, 0) := by decide +kernel
theorem t50_24 : g_at 50 24 = some (.getfield 86, 4, 6, 0) := by decide +kernel
theorem t50_27 : g_at 50 27 = some (.istore_n 2, 0, 0, 0) := by decide +kernel
theorem t50_28 : g_at 50 28 = some (.aload_n 0, 0, 0, 0) := by decide +kernel
theorem t50_29 : g_at 50 29 = some (.invokevirtual 96, 47, 0, 0) := by decide +kernel
theorem t50_32 : g_at 50 32 = some (.iload_n 2, 0, 0, 0) := by decide +kernel
theorem t50_33 : g_at 50 33 = some (.ireturn, 0, 0, 0) := by decide +kernel
theorem t51_0 : g_at 51 0 = some (.aload_n 0, 0, 0, 0) := by decide +kernel
theorem t51_1 : g_at 51 1 = some (.getfield 83, 4, 4, 0) := by decide +kernel
theorem t51_4 : g_at 51 4 = some (.iconst 2, 0, 0, 2) := by decide +kernel
theorem t51_5 : g_at 51 5 = some (.if_icmp .ne (19), 24, 0, 0) := by decide +kernel
theorem t51_8 : g_at 51 8 = some (.aload_n 0, 0, 0, 0) := by decide +kernel
theorem t51_9 : g_at 51 9 = some (.getfield 86, 4, 6, 0) := by decide +kernel
theorem t51_12 : g_at 51 12 = some (.iload_n 1, 0, 0, 0) := by decide +kernel
theorem t51_13 : g_at 51 13 = some (.iload_n 2, 0, 0, 0) := by decide +kernel
theorem t51_14 : g_at 51 14 = some (.invokestatic 66, 10, 3, 0) := by decide +kernel
theorem t51_17 : g_at 51 17 = some (.ifCond .eq (7), 24, 0, 0) := by decide +kernel
theorem t51_20 : g_at 51 20 = some (.iconst 1, 0, 0, 1) := by decide +kernel
theorem t51_21 : g_at 51 21 = some (.goto (4), 25, 0, 0) := by decide +kernel
theorem t51_24 : g_at 51 24 = some (.iconst 0, 0, 0, 0) := by decide +kernel
theorem t51_25 : g_at 51 25 = some (.ireturn, 0, 0, 0) := by decide +kernel
theorem t52_0 : g_at 52 0 = some (.bipush (-9), 0, 0, (-9)) := by decide +kernel
theorem t52_2 : g_at 52 2 = some (.istore_n 2, 0, 0, 0) := by decide +kernel
theorem t52_3 : g_at 52 3 = some (.iconst 0, 0, 0, 0) := by decide +kernel
theorem t52_4 : g_at 52 4 = some (.istore_n 3, 0, 0, 0) := by decide +kernel
theorem t52_5 : g_at 52 5 = some (.iload_n 3, 0, 0, 0) := by decide +kernel
theorem t52_6 : g_at 52 6 = some (.aload_n 0, 0, 0, 0) := by decide +kernel
theorem t52_7 : g_at 52 7 = some (.iconst 3, 0, 0, 3) := by decide +kernel
theorem t52_8 : g_at 52 8 = some (.iaload, 0, 0, 0) := by decide +kernel
theorem t52_9 : g_at 52 9 = some (.if_icmp .ge (25), 34, 0, 0) := by decide +kernel
theorem t52_12 : g_at 52 12 = some (.aload_n 0, 0, 0, 0) := by decide +kernel
theorem t52_13 : g_at 52 13 = some (.bipush (12), 0, 0, 12) := by decide +kernel
theorem t52_15 : g_at 52 15 = some (.iload_n 3, 0, 0, 0) := by decide +kernel
theorem t52_16 : g_at 52 16 = some (.iadd, 0, 0, 0) := by decide +kernel
theorem t52_17 : g_at 52 17 = some (.iaload, 0, 0, 0) := by decide +kernel
theorem t52_18 : g_at 52 18 = some (.iload_n 1, 0, 0, 0) := by decide +kernel
theorem t52_19 : g_at 52 19 = some (.if_icmp .ne (7), 26, 0, 0) := by decide +kernel
theorem t52_22 : g_at 52 22 = some (.iload_n 3, 0, 0, 0) := by decide +kernel
theorem t52_23 : g_at 52 23 = some (.goto (4), 27, 0, 0) := by decide +kernel
theorem t52_26 : g_at 52 26 = some (.iload_n 2, 0, 0, 0) := by decide +kernel
theorem t52_27 : g_at 52 27 = some (.istore_n 2, 0, 0, 0) := by decide +kernel
theorem t52_28 : g_at 52 28 = some (.iinc 3 (1), 0, 0, 1) := by decide +kernel
theorem t52_31 : g_at 52 31 = some (.goto (-26), 5, 0, 0) := by decide +kernel
theorem t52_34 : g_at 52 34 = some (.iload_n 2, 0, 0, 0) := by decide +kernel
theorem t52_35 : g_at 52 35 = some (.ireturn, 0, 0, 0) := by decide +kernel
theorem t53_0 : g_at 53 0 = some (.iload_n 0, 0, 0, 0) := by decide +kernel
theorem t53_1 : g_at 53 1 = some (.iload_n 1, 0, 0, 0) := by decide +kernel
theorem t53_2 : g_at 53 2 = some (.ishr, 0, 0, 0) := by decide +kernel
theorem t53_3 : g_at 53 3 = some (.iconst 1, 0, 0, 1) := by decide +kernel
theorem t53_4 : g_at 53 4 = some (.iand, 0, 0, 0) := by decide +kernel
theorem t53_5 : g_at 53 5 = some (.iconst 1, 0, 0, 1) := by decide +kernel
theorem t53_6 : g_at 53 6 = some (.if_icmp .ne (7), 13, 0, 0) := by decide +kernel
theorem t53_9 : g_at 53 9 = some (.iconst 1, 0, 0, 1) := by decide +kernel
theorem t53_10 : g_at 53 10 = some (.goto (4), 14, 0, 0) := by decide +kernel
theorem t53_13 : g_at 53 13 = some (.iconst 0, 0, 0, 0) := by decide +kernel
theorem t53_14 : g_at 53 14 = some (.ireturn, 0, 0, 0) := by decide +kernel
theorem t54_0 : g_at 54 0 = some (.iload_n 2, 0, 0, 0) := by decide +kernel
theorem t54_1 : g_at 54 1 = some (.ifCond .eq (30), 31, 0, 0) := by decide +kernel
theorem t54_4 : g_at 54 4 = some (.aload_n 0, 0, 0, 0) := by decide +kernel
theorem t54_5 : g_at 54 5 = some (.getfield 83, 4, 4, 0) := by decide +kernel
theorem t54_8 : g_at 54 8 = some (.iconst 1, 0, 0, 1) := by decide +kernel
theorem t54_9 : g_at 54 9 = some (.if_icmp .ne (17), 26, 0, 0) := by decide +kernel
theorem t54_12 : g_at 54 12 = some (.aload_n 0, 0, 0, 0) := by decide +kernel
theorem t54_13 : g_at 54 13 = some (.getfield 16, 4, 9, 0) := by decide +kernel
theorem t54_16 : g_at 54 16 = some (.aload_n 0, 0, 0, 0) := by decide +kernel
theorem t54_17 : g_at 54 17 = some (.getfield 86, 4, 6, 0) := by decide +kernel
theorem t54_20 : g_at 54 20 = some (.invokestatic 99, 52, 2, 0) := by decide +kernel
theorem t54_23 : g_at 54 23 = some (.goto (33), 56, 0, 0) := by decide +kernel
theorem t54_26 : g_at 54 26 = some (.bipush (-9), 0, 0, (-9)) := by decide +kernel
theorem t54_28 : g_at 54 28 = some (.goto (28), 56, 0, 0) := by decide +kernel
theorem t54_31 : g_at 54 31 = some (.aload_n 0, 0, 0, 0) := by decide +kernel
theorem t54_32 : g_at 54 32 = some (.iconst 0, 0, 0, 0) := by decide +kernel
theorem t54_33 : g_at 54 33 = some (.aload_n 0, 0, 0, 0) := by decide +kernel
theorem t54_34 : g_at 54 34 = some (.getfield 16, 4, 9, 0) := by decide +kernel
theorem t54_37 : g_at 54 37 = some (.iconst 0, 0, 0, 0) := by decide +kernel
theorem t54_38 : g_at 54 38 = some (.iaload, 0, 0, 0) := by decide +kernel
theorem t54_39 : g_at 54 39 = some (.iconst 1, 0, 0, 1) := by decide +kernel
theorem t54_40 : g_at 54 40 = some (.isub, 0, 0, 0) := by decide +kernel
theorem t54_41 : g_at 54 41 = some (.invokevirtual 107, 51, 2, 0) := by decide +kernel
theorem t54_44 : g_at 54 44 = some (.ifCond .eq (10), 54, 0, 0) := by decide +kernel
theorem t54_47 : g_at 54 47 = some (.aload_n 0, 0, 0, 0) := by decide +kernel
theorem t54_48 : g_at 54 48 = some (.getfield 86, 4, 6, 0) := by decide +kernel
theorem t54_51 : g_at 54 51 = some (.goto (5), 56, 0, 0) := by decide +kernel
theorem t54_54 : g_at 54 54 = some (.bipush (-9), 0, 0, (-9)) := by decide +kernel
theorem t54_56 : g_at 54 56 = some (.istore_n 3, 0, 0, 0) := by decide +kernel
theorem t54_57 : g_at 54 57 = some (.iload_n 3, 0, 0, 0) := by decide +kernel
theorem t54_58 : g_at 54 58 = some (.bipush (-9), 0, 0, (-9)) := by decide +kernel
theorem t54_60 : g_at 54 60 = some (.if_icmp .eq (15), 75, 0, 0) := by decide +kernel
theorem t54_63 : g_at 54 63 = some (.iload_n 1, 0, 0, 0) := by decide +kernel
theorem t54_64 : g_at 54 64 = some (.iload_n 3, 0, 0, 0) := by decide +kernel
theorem t54_65 : g_at 54 65 = some (.invokestatic 111, 53, 2, 0) := by decide +kernel
theorem t54_68 : g_at 54 68 = some (.ifCond .ne (7), 75, 0, 0) := by decide +kernel
theorem t54_71 : g_at 54 71 = some (.iconst 1, 0, 0, 1) := by decide +kernel
theorem t54_72 : g_at 54 72 = some (.goto (4), 76, 0, 0) := by decide +kernel
theorem t54_75 : g_at 54 75 = some (.iconst 0, 0, 0, 0) := by decide +kernel
theorem t54_76 : g_at 54 76 = some (.istore 4, 0, 0, 0) := by decide +kernel
theorem t54_78 : g_at 54 78 = some (.aload_n 0, 0, 0, 0) := by decide +kernel
theorem t54_79 : g_at 54 79 = some (.iload 4, 0, 0, 0) := by decide +kernel
theorem t54_81 : g_at 54 81 = some (.invokevirtual 103, 50, 1, 0) := by decide +kernel
theorem t54_84 : g_at 54 84 = some (.pop, 0, 0, 0) := by decide +kernel
theorem t54_85 : g_at 54 85 = some (.iload 4, 0, 0, 0) := by decide +kernel
theorem t54_87 : g_at 54 87 = some (.ifCond .eq (11), 98, 0, 0) := by decide +kernel
theorem t54_90 : g_at 54 90 = some (.iload_n 1, 0, 0, 0) := by decide +kernel
theorem t54_91 : g_at 54 91 = some (.iconst 1, 0, 0, 1) := by decide +kernel
theorem t54_92 : g_at 54 92 = some (.iload_n 3, 0, 0, 0) := by decide +kernel
theorem t54_93 : g_at 54 93 = some (.ishl, 0, 0, 0) := by decide +kernel
theorem t54_94 : g_at 54 94 = some (.ior, 0, 0, 0) := by decide +kernel
theorem t54_95 : g_at 54 95 = some (.goto (4), 99, 0, 0) := by decide +kernel
theorem t54_98 : g_at 54 98 = some (.iload_n 1, 0, 0, 0) := by decide +kernel
theorem t54_99 : g_at 54 99 = some (.ireturn, 0, 0, 0) := by decide +kernel
theorem t55_0 : g_at 55 0 = some (.aload_n 0, 0, 0, 0) := by decide +kernel
theorem t55_1 : g_at 55 1 = some (.getfield 16, 4, 9, 0) := by decide +kernel
theorem t55_4 : g_at 55 4 = some (.iconst 3, 0, 0, 3) := by decide +kernel
theorem t55_5 : g_at 55 5 = some (.iaload, 0, 0, 0) := by decide +kernel
theorem t55_6 : g_at 55 6 = some (.istore_n 2, 0, 0, 0) := by decide +kernel
theorem t55_7 : g_at 55 7 = some (.aload_n 0, 0, 0, 0) := by decide +kernel
theorem t55_8 : g_at 55 8 = some (.getfield 16, 4, 9, 0) := by decide +kernel
theorem t55_11 : g_at 55 11 = some (.iconst 4, 0, 0, 4) := by decide +kernel
theorem t55_12 : g_at 55 12 = some (.iload_n 2, 0, 0, 0) := by decide +kernel
theorem t55_13 : g_at 55 13 = some (.iadd, 0, 0, 0) := by decide +kernel
theorem t55_14 : g_at 55 14 = some (.iload_n 1, 0, 0, 0) := by decide +kernel
theorem t55_15 : g_at 55 15 = some (.bipush (98), 0, 0, 98) := by decide +kernel
theorem t55_17 : g_at 55 17 = some (.if_icmp .ne (7), 24, 0, 0) := by decide +kernel
theorem t55_20 : g_at 55 20 = some (.iconst 0, 0, 0, 0) := by decide +kernel
theorem t55_21 : g_at 55 21 = some (.goto (14), 35, 0, 0) := by decide +kernel
theorem t55_24 : g_at 55 24 = some (.iload_n 1, 0, 0, 0) := by decide +kernel
theorem t55_25 : g_at 55 25 = some (.bipush (105), 0, 0, 105) := by decide +kernel
theorem t55_27 : g_at 55 27 = some (.if_icmp .ne (7), 34, 0, 0) := by decide +kernel
theorem t55_30 : g_at 55 30 = some (.iconst 1, 0, 0, 1) := by decide +kernel
theorem t55_31 : g_at 55 31 = some (.goto (4), 35, 0, 0) := by decide +kernel
theorem t55_34 : g_at 55 34 = some (.iconst 2, 0, 0, 2) := by decide +kernel
theorem t55_35 : g_at 55 35 = some (.iastore, 0, 0, 0) := by decide +kernel
theorem t55_36 : g_at 55 36 = some (.aload_n 0, 0, 0, 0) := by decide +kernel
theorem t55_37 : g_at 55 37 = some (.getfield 16, 4, 9, 0) := by decide +kernel
theorem t55_40 : g_at 55 40 = some (.bipush (12), 0, 0, 12) := by decide +kernel
theorem t55_42 : g_at 55 42 = some (.iload_n 2, 0, 0, 0) := by decide +kernel
theorem t55_43 : g_at 55 43 = some (.iadd, 0, 0, 0) := by decide +kernel
theorem t55_44 : g_at 55 44 = some (.aload_n 0, 0, 0, 0) := by decide +kernel
theorem t55_45 : g_at 55 45 = some (.aload_n 0, 0, 0, 0) := by decide +kernel
theorem t55_46 : g_at 55 46 = some (.getfield 83, 4, 4, 0) := by decide +kernel
theorem t55_49 : g_at 55 49 = some (.iconst 1, 0, 0, 1) := by decide +kernel
theorem t55_50 : g_at 55 50 = some (.if_icmp .ne (23), 73, 0, 0) := by decide +kernel
theorem t55_53 : g_at 55 53 = some (.aload_n 0, 0, 0, 0) := by decide +kernel
theorem t55_54 : g_at 55 54 = some (.getfield 16, 4, 9, 0) := by decide +kernel
theorem t55_57 : g_at 55 57 = some (.aload_n 0, 0, 0, 0) := by decide +kernel
theorem t55_58 : g_at 55 58 = some (.getfield 86, 4, 6, 0) := by decide +kernel
theorem t55_61 : g_at 55 61 = some (.invokestatic 99, 52, 2, 0) := by decide +kernel
theorem t55_64 : g_at 55 64 = some (.bipush (-9), 0, 0, (-9)) := by decide +kernel
theorem t55_66 : g_at 55 66 = some (.if_icmp .ne (7), 73, 0, 0) := by decide +kernel
theorem t55_69 : g_at 55 69 = some (.iconst 1, 0, 0, 1) := by decide +kernel
theorem t55_70 : g_at 55 70 = some (.goto (4), 74, 0, 0) := by decide +kernel
theorem t55_73 : g_at 55 73 = some (.iconst 0, 0, 0, 0) := by decide +kernel
theorem t55_74 : g_at 55 74 = some (.invokevirtual 103, 50, 1, 0) := by decide +kernel
theorem t55_77 : g_at 55 77 = some (.iastore, 0, 0, 0) := by decide +kernel
theorem t55_78 : g_at 55 78 = some (.aload_n 0, 0, 0, 0) := by decide +kernel
theorem t55_79 : g_at 55 79 = some (.getfield 16, 4, 9, 0) := by decide +kernel
theorem t55_82 : g_at 55 82 = some (.bipush (20), 0, 0, 20) := by decide +kernel
theorem t55_84 : g_at 55 84 = some (.iload_n 2, 0, 0, 0) := by decide +kernel
theorem t55_85 : g_at 55 85 = some (.iadd, 0, 0, 0) := by decide +kernel
theorem t55_86 : g_at 55 86 = some (.aload_n 0, 0, 0, 0) := by decide +kernel
theorem t55_87 : g_at 55 87 = some (.aload_n 0, 0, 0, 0) := by decide +kernel
theorem t55_88 : g_at 55 88 = some (.iconst 0, 0, 0, 0) := by decide +kernel
theorem t55_89 : g_at 55 89 = some (.aload_n 0, 0, 0, 0) := by decide +kernel
theorem t55_90 : g_at 55 90 = some (.getfield 16, 4, 9, 0) := by decide +kernel
theorem t55_93 : g_at 55 93 = some (.iconst 0, 0, 0, 0) := by decide +kernel
theorem t55_94 : g_at 55 94 = some (.iaload, 0, 0, 0) := by decide +kernel
theorem t55_95 : g_at 55 95 = some (.iconst 1, 0, 0, 1) := by decide +kernel
theorem t55_96 : g_at 55 96 = some (.isub, 0, 0, 0) := by decide +kernel
theorem t55_97 : g_at 55 97 = some (.invokevirtual 107, 51, 2, 0) := by decide +kernel
theorem t55_100 : g_at 55 100 = some (.invokevirtual 103, 50, 1, 0) := by decide +kernel
theorem t55_103 : g_at 55 103 = some (.iastore, 0, 0, 0) := by decide +kernel
theorem t55_104 : g_at 55 104 = some (.aload_n 0, 0, 0, 0) := by decide +kernel
theorem t55_105 : g_at 55 105 = some (.getfield 16, 4, 9, 0) := by decide +kernel
theorem t55_108 : g_at 55 108 = some (.bipush (28), 0, 0, 28) := by decide +kernel
theorem t55_110 : g_at 55 110 = some (.iload_n 2, 0, 0, 0) := by decide +kernel
theorem t55_111 : g_at 55 111 = some (.iadd, 0, 0, 0) := by decide +kernel
theorem t55_112 : g_at 55 112 = some (.iload_n 1, 0, 0, 0) := by decide +kernel
theorem t55_113 : g_at 55 113 = some (.bipush (101), 0, 0, 101) := by decide +kernel
theorem t55_115 : g_at 55 115 = some (.if_icmp .ne (8), 123, 0, 0) := by decide +kernel
theorem t55_118 : g_at 55 118 = some (.bipush (-9), 0, 0, (-9)) := by decide +kernel
theorem t55_120 : g_at 55 120 = some (.goto (44), 164, 0, 0) := by decide +kernel
theorem t55_123 : g_at 55 123 = some (.aload_n 0, 0, 0, 0) := by decide +kernel
theorem t55_124 : g_at 55 124 = some (.aload_n 0, 0, 0, 0) := by decide +kernel
theorem t55_125 : g_at 55 125 = some (.iconst 0, 0, 0, 0) := by decide +kernel
theorem t55_126 : g_at 55 126 = some (.aload_n 0, 0, 0, 0) := by decide +kernel
theorem t55_127 : g_at 55 127 = some (.getfield 16, 4, 9, 0) := by decide +kernel
theorem t55_130 : g_at 55 130 = some (.iconst 0, 0, 0, 0) := by decide +kernel
theorem t55_131 : g_at 55 131 = some (.iaload, 0, 0, 0) := by decide +kernel
theorem t55_132 : g_at 55 132 = some (.iconst 1, 0, 0, 1) := by decide +kernel
theorem t55_133 : g_at 55 133 = some (.isub, 0, 0, 0) := by decide +kernel
theorem t55_134 : g_at 55 134 = some (.invokevirtual 107, 51, 2, 0) := by decide +kernel
theorem t55_137 : g_at 55 137 = some (.ifCond .eq (23), 160, 0, 0) := by decide +kernel
theorem t55_140 : g_at 55 140 = some (.aload_n 0, 0, 0, 0) := by decide +kernel
theorem t55_141 : g_at 55 141 = some (.getfield 86, 4, 6, 0) := by decide +kernel
theorem t55_144 : g_at 55 144 = some (.aload_n 0, 0, 0, 0) := by decide +kernel
theorem t55_145 : g_at 55 145 = some (.getfield 16, 4, 9, 0) := by decide +kernel
theorem t55_148 : g_at 55 148 = some (.bipush (20), 0, 0, 20) := by decide +kernel
theorem t55_150 : g_at 55 150 = some (.iload_n 2, 0, 0, 0) := by decide +kernel
theorem t55_151 : g_at 55 151 = some (.iadd, 0, 0, 0) := by decide +kernel
theorem t55_152 : g_at 55 152 = some (.iaload, 0, 0, 0) := by decide +kernel
theorem t55_153 : g_at 55 153 = some (.if_icmp .eq (7), 160, 0, 0) := by decide +kernel
theorem t55_156 : g_at 55 156 = some (.iconst 1, 0, 0, 1) := by decide +kernel
theorem t55_157 : g_at 55 157 = some (.goto (4), 161, 0, 0) := by decide +kernel
theorem t55_160 : g_at 55 160 = some (.iconst 0, 0, 0, 0) := by decide +kernel
theorem t55_161 : g_at 55 161 = some (.invokevirtual 103, 50, 1, 0) := by decide +kernel
theorem t55_164 : g_at 55 164 = some (.iastore, 0, 0, 0) := by decide +kernel
theorem t55_165 : g_at 55 165 = some (.aload_n 0, 0, 0, 0) := by decide +kernel
theorem t55_166 : g_at 55 166 = some (.getfield 16, 4, 9, 0) := by decide +kernel
theorem t55_169 : g_at 55 169 = some (.iconst 3, 0, 0, 3) := by decide +kernel
theorem t55_170 : g_at 55 170 = some (.dup2, 0, 0, 0) := by decide +kernel
theorem t55_171 : g_at 55 171 = some (.iaload, 0, 0, 0) := by decide +kernel
theorem t55_172 : g_at 55 172 = some (.iconst 1, 0, 0, 1) := by decide +kernel
theorem t55_173 : g_at 55 173 = some (.iadd, 0, 0, 0) := by decide +kernel
theorem t55_174 : g_at 55 174 = some (.iastore, 0, 0, 0) := by decide +kernel
theorem t55_175 : g_at 55 175 = some (.return_, 0, 0, 0) := by decide +kernel
theorem t56_0 : g_at 56 0 = some (.iload_n 1, 0, 0, 0) := by decide +kernel
theorem t56_1 : g_at 56 1 = some (.bipush (110), 0, 0, 110) := by decide +kernel
theorem t56_3 : g_at 56 3 = some (.if_icmp .ne (23), 26, 0, 0) := by decide +kernel
theorem t56_6 : g_at 56 6 = some (.aload_n 0, 0, 0, 0) := by decide +kernel
theorem t56_7 : g_at 56 7 = some (.getfield 16, 4, 9, 0) := by decide +kernel
theorem t56_10 : g_at 56 10 = some (.iconst 0, 0, 0, 0) := by decide +kernel
theorem t56_11 : g_at 56 11 = some (.aload_n 0, 0, 0, 0) := by decide +kernel
theorem t56_12 : g_at 56 12 = some (.aload_n 0, 0, 0, 0) := by decide +kernel
theorem t56_13 : g_at 56 13 = some (.iconst 2, 0, 0, 2) := by decide +kernel
theorem t56_14 : g_at 56 14 = some (.bipush (6), 0, 0, 6) := by decide +kernel
theorem t56_16 : g_at 56 16 = some (.invokevirtual 107, 51, 2, 0) := by decide +kernel
theorem t56_19 : g_at 56 19 = some (.invokevirtual 103, 50, 1, 0) := by decide +kernel
theorem t56_22 : g_at 56 22 = some (.iastore, 0, 0, 0) := by decide +kernel
theorem t56_23 : g_at 56 23 = some (.goto (112), 135, 0, 0) := by decide +kernel
theorem t56_26 : g_at 56 26 = some (.iload_n 1, 0, 0, 0) := by decide +kernel
theorem t56_27 : g_at 56 27 = some (.bipush (115), 0, 0, 115) := by decide +kernel
theorem t56_29 : g_at 56 29 = some (.if_icmp .ne (23), 52, 0, 0) := by decide +kernel
theorem t56_32 : g_at 56 32 = some (.aload_n 0, 0, 0, 0) := by decide +kernel
theorem t56_33 : g_at 56 33 = some (.getfield 16, 4, 9, 0) := by decide +kernel
theorem t56_36 : g_at 56 36 = some (.iconst 1, 0, 0, 1) := by decide +kernel
theorem t56_37 : g_at 56 37 = some (.aload_n 0, 0, 0, 0) := by decide +kernel
theorem t56_38 : g_at 56 38 = some (.aload_n 0, 0, 0, 0) := by decide +kernel
theorem t56_39 : g_at 56 39 = some (.getfield 16, 4, 9, 0) := by decide +kernel
theorem t56_42 : g_at 56 42 = some (.iconst 1, 0, 0, 1) := by decide +kernel
theorem t56_43 : g_at 56 43 = some (.iaload, 0, 0, 0) := by decide +kernel
theorem t56_44 : g_at 56 44 = some (.iconst 0, 0, 0, 0) := by decide +kernel
theorem t56_45 : g_at 56 45 = some (.invokevirtual 114, 54, 2, 0) := by decide +kernel
theorem t56_48 : g_at 56 48 = some (.iastore, 0, 0, 0) := by decide +kernel
theorem t56_49 : g_at 56 49 = some (.goto (86), 135, 0, 0) := by decide +kernel
theorem t56_52 : g_at 56 52 = some (.iload_n 1, 0, 0, 0) := by decide +kernel
theorem t56_53 : g_at 56 53 = some (.bipush (100), 0, 0, 100) := by decide +kernel
theorem t56_55 : g_at 56 55 = some (.if_icmp .ne (23), 78, 0, 0) := by decide +kernel
theorem t56_58 : g_at 56 58 = some (.aload_n 0, 0, 0, 0) := by decide +kernel
theorem t56_59 : g_at 56 59 = some (.getfield 16, 4, 9, 0) := by decide +kernel
theorem t56_62 : g_at 56 62 = some (.iconst 2, 0, 0, 2) := by decide +kernel
theorem t56_63 : g_at 56 63 = some (.aload_n 0, 0, 0, 0) := by decide +kernel
theorem t56_64 : g_at 56 64 = some (.aload_n 0, 0, 0, 0) := by decide +kernel
theorem t56_65 : g_at 56 65 = some (.getfield 16, 4, 9, 0) := by decide +kernel
theorem t56_68 : g_at 56 68 = some (.iconst 2, 0, 0, 2) := by decide +kernel
theorem t56_69 : g_at 56 69 = some (.iaload, 0, 0, 0) := by decide +kernel
theorem t56_70 : g_at 56 70 = some (.iconst 0, 0, 0, 0) := by decide +kernel
theorem t56_71 : g_at 56 71 = some (.invokevirtual 114, 54, 2, 0) := by decide +kernel
theorem t56_74 : g_at 56 74 = some (.iastore, 0, 0, 0) := by decide +kernel
theorem t56_75 : g_at 56 75 = some (.goto (60), 135, 0, 0) := by decide +kernel
theorem t56_78 : g_at 56 78 = some (.iload_n 1, 0, 0, 0) := by decide +kernel
theorem t56_79 : g_at 56 79 = some (.bipush (99), 0, 0, 99) := by decide +kernel
theorem t56_81 : g_at 56 81 = some (.if_icmp .ne (23), 104, 0, 0) := by decide +kernel
theorem t56_84 : g_at 56 84 = some (.aload_n 0, 0, 0, 0) := by decide +kernel
theorem t56_85 : g_at 56 85 = some (.getfield 19, 4, 10, 0) := by decide +kernel
theorem t56_88 : g_at 56 88 = some (.iconst 0, 0, 0, 0) := by decide +kernel
theorem t56_89 : g_at 56 89 = some (.aload_n 0, 0, 0, 0) := by decide +kernel
theorem t56_90 : g_at 56 90 = some (.aload_n 0, 0, 0, 0) := by decide +kernel
theorem t56_91 : g_at 56 91 = some (.getfield 19, 4, 10, 0) := by decide +kernel
theorem t56_94 : g_at 56 94 = some (.iconst 0, 0, 0, 0) := by decide +kernel
theorem t56_95 : g_at 56 95 = some (.iaload, 0, 0, 0) := by decide +kernel
theorem t56_96 : g_at 56 96 = some (.iconst 1, 0, 0, 1) := by decide +kernel
theorem t56_97 : g_at 56 97 = some (.invokevirtual 114, 54, 2, 0) := by decide +kernel
theorem t56_100 : g_at 56 100 = some (.iastore, 0, 0, 0) := by decide +kernel
theorem t56_101 : g_at 56 101 = some (.goto (34), 135, 0, 0) := by decide +kernel
theorem t56_104 : g_at 56 104 = some (.iload_n 1, 0, 0, 0) := by decide +kernel
theorem t56_105 : g_at 56 105 = some (.bipush (107), 0, 0, 107) := by decide +kernel
theorem t56_107 : g_at 56 107 = some (.if_icmp .ne (23), 130, 0, 0) := by decide +kernel
theorem t56_110 : g_at 56 110 = some (.aload_n 0, 0, 0, 0) := by decide +kernel
theorem t56_111 : g_at 56 111 = some (.getfield 19, 4, 10, 0) := by decide +kernel
theorem t56_114 : g_at 56 114 = some (.iconst 1, 0, 0, 1) := by decide +kernel
theorem t56_115 : g_at 56 115 = some (.aload_n 0, 0, 0, 0) := by decide +kernel
theorem t56_116 : g_at 56 116 = some (.aload_n 0, 0, 0, 0) := by decide +kernel
theorem t56_117 : g_at 56 117 = some (.getfield 19, 4, 10, 0) := by decide +kernel
theorem t56_120 : g_at 56 120 = some (.iconst 1, 0, 0, 1) := by decide +kernel
theorem t56_121 : g_at 56 121 = some (.iaload, 0, 0, 0) := by decide +kernel
theorem t56_122 : g_at 56 122 = some (.iconst 1, 0, 0, 1) := by decide +kernel
theorem t56_123 : g_at 56 123 = some (.invokevirtual 114, 54, 2, 0) := by decide +kernel
theorem t56_126 : g_at 56 126 = some (.iastore, 0, 0, 0) := by decide +kernel
theorem t56_127 : g_at 56 127 = some (.goto (8), 135, 0, 0) := by decide +kernel
theorem t56_130 : g_at 56 130 = some (.aload_n 0, 0, 0, 0) := by decide +kernel
theorem t56_131 : g_at 56 131 = some (.iload_n 1, 0, 0, 0) := by decide +kernel
theorem t56_132 : g_at 56 132 = some (.invokevirtual 118, 55, 1, 0) := by decide +kernel
theorem t56_135 : g_at 56 135 = some (.return_, 0, 0, 0) := by decide +kernel
theorem t57_0 : g_at 57 0 = some (.iconst 4, 0, 0, 4) := by decide +kernel
theorem t57_1 : g_at 57 1 = some (.istore_n 2, 0, 0, 0) := by decide +kernel
theorem t57_2 : g_at 57 2 = some (.iload_n 2, 0, 0, 0) := by decide +kernel
theorem t57_3 : g_at 57 3 = some (.bipush (36), 0, 0, 36) := by decide +kernel
theorem t57_5 : g_at 57 5 = some (.if_icmp .ge (47), 52, 0, 0) := by decide +kernel
theorem t57_8 : g_at 57 8 = some (.aload_n 0, 0, 0, 0) := by decide +kernel
theorem t57_9 : g_at 57 9 = some (.getfield 16, 4, 9, 0) := by decide +kernel
theorem t57_12 : g_at 57 12 = some (.iload_n 2, 0, 0, 0) := by decide +kernel
theorem t57_13 : g_at 57 13 = some (.iload_n 1, 0, 0, 0) := by decide +kernel
theorem t57_14 : g_at 57 14 = some (.iadd, 0, 0, 0) := by decide +kernel
theorem t57_15 : g_at 57 15 = some (.iaload, 0, 0, 0) := by decide +kernel
theorem t57_16 : g_at 57 16 = some (.istore_n 3, 0, 0, 0) := by decide +kernel
theorem t57_17 : g_at 57 17 = some (.aload_n 0, 0, 0, 0) := by decide +kernel
theorem t57_18 : g_at 57 18 = some (.getfield 16, 4, 9, 0) := by decide +kernel
theorem t57_21 : g_at 57 21 = some (.iload_n 2, 0, 0, 0) := by decide +kernel
theorem t57_22 : g_at 57 22 = some (.iload_n 1, 0, 0, 0) := by decide +kernel
theorem t57_23 : g_at 57 23 = some (.iadd, 0, 0, 0) := by decide +kernel
theorem t57_24 : g_at 57 24 = some (.aload_n 0, 0, 0, 0) := by decide +kernel
theorem t57_25 : g_at 57 25 = some (.getfield 16, 4, 9, 0) := by decide +kernel
theorem t57_28 : g_at 57 28 = some (.iload_n 2, 0, 0, 0) := by decide +kernel
theorem t57_29 : g_at 57 29 = some (.iload_n 1, 0, 0, 0) := by decide +kernel
theorem t57_30 : g_at 57 30 = some (.iadd, 0, 0, 0) := by decide +kernel
theorem t57_31 : g_at 57 31 = some (.iconst 1, 0, 0, 1) := by decide +kernel
theorem t57_32 : g_at 57 32 = some (.iadd, 0, 0, 0) := by decide +kernel
theorem t57_33 : g_at 57 33 = some (.iaload, 0, 0, 0) := by decide +kernel
theorem t57_34 : g_at 57 34 = some (.iastore, 0, 0, 0) := by decide +kernel
theorem t57_35 : g_at 57 35 = some (.aload_n 0, 0, 0, 0) := by decide +kernel
theorem t57_36 : g_at 57 36 = some (.getfield 16, 4, 9, 0) := by decide +kernel
theorem t57_39 : g_at 57 39 = some (.iload_n 2, 0, 0, 0) := by decide +kernel
theorem t57_40 : g_at 57 40 = some (.iload_n 1, 0, 0, 0) := by decide +kernel
theorem t57_41 : g_at 57 41 = some (.iadd, 0, 0, 0) := by decide +kernel
theorem t57_42 : g_at 57 42 = some (.iconst 1, 0, 0, 1) := by decide +kernel
theorem t57_43 : g_at 57 43 = some (.iadd, 0, 0, 0) := by decide +kernel
theorem t57_44 : g_at 57 44 = some (.iload_n 3, 0, 0, 0) := by decide +kernel
theorem t57_45 : g_at 57 45 = some (.iastore, 0, 0, 0) := by decide +kernel
theorem t57_46 : g_at 57 46 = some (.iinc 2 (8), 0, 0, 8) := by decide +kernel
theorem t57_49 : g_at 57 49 = some (.goto (-47), 2, 0, 0) := by decide +kernel
theorem t57_52 : g_at 57 52 = some (.iconst 0, 0, 0, 0) := by decide +kernel
theorem t57_53 : g_at 57 53 = some (.istore_n 2, 0, 0, 0) := by decide +kernel
theorem t57_54 : g_at 57 54 = some (.iload_n 2, 0, 0, 0) := by decide +kernel
theorem t57_55 : g_at 57 55 = some (.iconst 1, 0, 0, 1) := by decide +kernel
theorem t57_56 : g_at 57 56 = some (.if_icmp .gt (46), 102, 0, 0) := by decide +kernel
theorem t57_59 : g_at 57 59 = some (.aload_n 0, 0, 0, 0) := by decide +kernel
theorem t57_60 : g_at 57 60 = some (.getfield 19, 4, 10, 0) := by decide +kernel
theorem t57_63 : g_at 57 63 = some (.iload_n 2, 0, 0, 0) := by decide +kernel
theorem t57_64 : g_at 57 64 = some (.iaload, 0, 0, 0) := by decide +kernel
theorem t57_65 : g_at 57 65 = some (.iload_n 1, 0, 0, 0) := by decide +kernel
theorem t57_66 : g_at 57 66 = some (.invokestatic 111, 53, 2, 0) := by decide +kernel
theorem t57_69 : g_at 57 69 = some (.aload_n 0, 0, 0, 0) := by decide +kernel
theorem t57_70 : g_at 57 70 = some (.getfield 19, 4, 10, 0) := by decide +kernel
theorem t57_73 : g_at 57 73 = some (.iload_n 2, 0, 0, 0) := by decide +kernel
theorem t57_74 : g_at 57 74 = some (.iaload, 0, 0, 0) := by decide +kernel
theorem t57_75 : g_at 57 75 = some (.iload_n 1, 0, 0, 0) := by decide +kernel
theorem t57_76 : g_at 57 76 = some (.iconst 1, 0, 0, 1) := by decide +kernel
theorem t57_77 : g_at 57 77 = some (.iadd, 0, 0, 0) := by decide +kernel
theorem t57_78 : g_at 57 78 = some (.invokestatic 111, 53, 2, 0) := by decide +kernel
theorem t57_81 : g_at 57 81 = some (.if_icmp .eq (15), 96, 0, 0) := by decide +kernel
theorem t57_84 : g_at 57 84 = some (.aload_n 0, 0, 0, 0) := by decide +kernel
theorem t57_85 : g_at 57 85 = some (.getfield 19, 4, 10, 0) := by decide +kernel
theorem t57_88 : g_at 57 88 = some (.iload_n 2, 0, 0, 0) := by decide +kernel
theorem t57_89 : g_at 57 89 = some (.dup2, 0, 0, 0) := by decide +kernel
theorem t57_90 : g_at 57 90 = some (.iaload, 0, 0, 0) := by decide +kernel
theorem t57_91 : g_at 57 91 = some (.iconst 3, 0, 0, 3) := by decide +kernel
theorem t57_92 : g_at 57 92 = some (.iload_n 1, 0, 0, 0) := by decide +kernel
theorem t57_93 : g_at 57 93 = some (.ishl, 0, 0, 0) := by decide +kernel
theorem t57_94 : g_at 57 94 = some (.ixor, 0, 0, 0) := by decide +kernel
theorem t57_95 : g_at 57 95 = some (.iastore, 0, 0, 0) := by decide +kernel
theorem t57_96 : g_at 57 96 = some (.iinc 2 (1), 0, 0, 1) := by decide +kernel
theorem t57_99 : g_at 57 99 = some (.goto (-45), 54, 0, 0) := by decide +kernel
theorem t57_102 : g_at 57 102 = some (.return_, 0, 0, 0) := by decide +kernel
theorem t58_0 : g_at 58 0 = some (.iconst 0, 0, 0, 0) := by decide +kernel
theorem t58_1 : g_at 58 1 = some (.istore_n 1, 0, 0, 0) := by decide +kernel
theorem t58_2 : g_at 58 2 = some (.iload_n 1, 0, 0, 0) := by decide +kernel
theorem t58_3 : g_at 58 3 = some (.aload_n 0, 0, 0, 0) := by decide +kernel
theorem t58_4 : g_at 58 4 = some (.getfield 16, 4, 9, 0) := by decide +kernel
theorem t58_7 : g_at 58 7 = some (.iconst 3, 0, 0, 3) := by decide +kernel
theorem t58_8 : g_at 58 8 = some (.iaload, 0, 0, 0) := by decide +kernel
theorem t58_9 : g_at 58 9 = some (.if_icmp .ge (83), 92, 0, 0) := by decide +kernel
theorem t58_12 : g_at 58 12 = some (.iconst 0, 0, 0, 0) := by decide +kernel
theorem t58_13 : g_at 58 13 = some (.istore_n 2, 0, 0, 0) := by decide +kernel
theorem t58_14 : g_at 58 14 = some (.iload_n 2, 0, 0, 0) := by decide +kernel
theorem t58_15 : g_at 58 15 = some (.iconst 1, 0, 0, 1) := by decide +kernel
theorem t58_16 : g_at 58 16 = some (.iadd, 0, 0, 0) := by decide +kernel
theorem t58_17 : g_at 58 17 = some (.aload_n 0, 0, 0, 0) := by decide +kernel
theorem t58_18 : g_at 58 18 = some (.getfield 16, 4, 9, 0) := by decide +kernel
theorem t58_21 : g_at 58 21 = some (.iconst 3, 0, 0, 3) := by decide +kernel
theorem t58_22 : g_at 58 22 = some (.iaload, 0, 0, 0) := by decide +kernel
theorem t58_23 : g_at 58 23 = some (.if_icmp .ge (63), 86, 0, 0) := by decide +kernel
theorem t58_26 : g_at 58 26 = some (.bipush (100), 0, 0, 100) := by decide +kernel
theorem t58_28 : g_at 58 28 = some (.aload_n 0, 0, 0, 0) := by decide +kernel
theorem t58_29 : g_at 58 29 = some (.getfield 16, 4, 9, 0) := by decide +kernel
theorem t58_32 : g_at 58 32 = some (.iconst 4, 0, 0, 4) := by decide +kernel
theorem t58_33 : g_at 58 33 = some (.iload_n 2, 0, 0, 0) := by decide +kernel
theorem t58_34 : g_at 58 34 = some (.iadd, 0, 0, 0) := by decide +kernel
theorem t58_35 : g_at 58 35 = some (.iaload, 0, 0, 0) := by decide +kernel
theorem t58_36 : g_at 58 36 = some (.imul, 0, 0, 0) := by decide +kernel
theorem t58_37 : g_at 58 37 = some (.aload_n 0, 0, 0, 0) := by decide +kernel
theorem t58_38 : g_at 58 38 = some (.getfield 16, 4, 9, 0) := by decide +kernel
theorem t58_41 : g_at 58 41 = some (.bipush (12), 0, 0, 12) := by decide +kernel
theorem t58_43 : g_at 58 43 = some (.iload_n 2, 0, 0, 0) := by decide +kernel
theorem t58_44 : g_at 58 44 = some (.iadd, 0, 0, 0) := by decide +kernel
theorem t58_45 : g_at 58 45 = some (.iaload, 0, 0, 0) := by decide +kernel
theorem t58_46 : g_at 58 46 = some (.iadd, 0, 0, 0) := by decide +kernel
theorem t58_47 : g_at 58 47 = some (.bipush (100), 0, 0, 100) := by decide +kernel
theorem t58_49 : g_at 58 49 = some (.aload_n 0, 0, 0, 0) := by decide +kernel
theorem t58_50 : g_at 58 50 = some (.getfield 16, 4, 9, 0) := by decide +kernel
theorem t58_53 : g_at 58 53 = some (.iconst 4, 0, 0, 4) := by decide +kernel
theorem t58_54 : g_at 58 54 = some (.iload_n 2, 0, 0, 0) := by decide +kernel
theorem t58_55 : g_at 58 55 = some (.iadd, 0, 0, 0) := by decide +kernel
theorem t58_56 : g_at 58 56 = some (.iconst 1, 0, 0, 1) := by decide +kernel
theorem t58_57 : g_at 58 57 = some (.iadd, 0, 0, 0) := by decide +kernel
theorem t58_58 : g_at 58 58 = some (.iaload, 0, 0, 0) := by decide +kernel
theorem t58_59 : g_at 58 59 = some (.imul, 0, 0, 0) := by decide +kernel
theorem t58_60 : g_at 58 60 = some (.aload_n 0, 0, 0, 0) := by decide +kernel
theorem t58_61 : g_at 58 61 = some (.getfield 16, 4, 9, 0) := by decide +kernel
theorem t58_64 : g_at 58 64 = some (.bipush (12), 0, 0, 12) := by decide +kernel
theorem t58_66 : g_at 58 66 = some (.iload_n 2, 0, 0, 0) := by decide +kernel
theorem t58_67 : g_at 58 67 = some (.iadd, 0, 0, 0) := by decide +kernel
theorem t58_68 : g_at 58 68 = some (.iconst 1, 0, 0, 1) := by decide +kernel
theorem t58_69 : g_at 58 69 = some (.iadd, 0, 0, 0) := by decide +kernel
theorem t58_70 : g_at 58 70 = some (.iaload, 0, 0, 0) := by decide +kernel
theorem t58_71 : g_at 58 71 = some (.iadd, 0, 0, 0) := by decide +kernel
theorem t58_72 : g_at 58 72 = some (.if_icmp .le (8), 80, 0, 0) := by decide +kernel
theorem t58_75 : g_at 58 75 = some (.aload_n 0, 0, 0, 0) := by decide +kernel
theorem t58_76 : g_at 58 76 = some (.iload_n 2, 0, 0, 0) := by decide +kernel
theorem t58_77 : g_at 58 77 = some (.invokevirtual 122, 57, 1, 0) := by decide +kernel
theorem t58_80 : g_at 58 80 = some (.iinc 2 (1), 0, 0, 1) := by decide +kernel
theorem t58_83 : g_at 58 83 = some (.goto (-69), 14, 0, 0) := by decide +kernel
theorem t58_86 : g_at 58 86 = some (.iinc 1 (1), 0, 0, 1) := by decide +kernel
theorem t58_89 : g_at 58 89 = some (.goto (-87), 2, 0, 0) := by decide +kernel
theorem t58_92 : g_at 58 92 = some (.return_, 0, 0, 0) := by decide +kernel
theorem t59_0 : g_at 59 0 = some (.iconst 0, 0, 0, 0) := by decide +kernel
theorem t59_1 : g_at 59 1 = some (.istore_n 3, 0, 0, 0) := by decide +kernel
theorem t59_2 : g_at 59 2 = some (.iload_n 3, 0, 0, 0) := by decide +kernel
theorem t59_3 : g_at 59 3 = some (.aload_n 1, 0, 0, 0) := by decide +kernel
theorem t59_4 : g_at 59 4 = some (.iconst 0, 0, 0, 0) := by decide +kernel
theorem t59_5 : g_at 59 5 = some (.iaload, 0, 0, 0) := by decide +kernel
theorem t59_6 : g_at 59 6 = some (.if_icmp .ge (16), 22, 0, 0) := by decide +kernel
theorem t59_9 : g_at 59 9 = some (.aload_n 0, 0, 0, 0) := by decide +kernel
theorem t59_10 : g_at 59 10 = some (.getfield 44, 4, 21, 0) := by decide +kernel
theorem t59_13 : g_at 59 13 = some (.iload_n 3, 0, 0, 0) := by decide +kernel
theorem t59_14 : g_at 59 14 = some (.iload_n 3, 0, 0, 0) := by decide +kernel
theorem t59_15 : g_at 59 15 = some (.iastore, 0, 0, 0) := by decide +kernel
theorem t59_16 : g_at 59 16 = some (.iinc 3 (1), 0, 0, 1) := by decide +kernel
theorem t59_19 : g_at 59 19 = some (.goto (-17), 2, 0, 0) := by decide +kernel
theorem t59_22 : g_at 59 22 = some (.iconst 0, 0, 0, 0) := by decide +kernel
theorem t59_23 : g_at 59 23 = some (.istore_n 3, 0, 0, 0) := by decide +kernel
theorem t59_24 : g_at 59 24 = some (.iload_n 3, 0, 0, 0) := by decide +kernel
theorem t59_25 : g_at 59 25 = some (.aload_n 1, 0, 0, 0) := by decide +kernel
theorem t59_26 : g_at 59 26 = some (.iconst 0, 0, 0, 0) := by decide +kernel
theorem t59_27 : g_at 59 27 = some (.iaload, 0, 0, 0) := by decide +kernel
theorem t59_28 : g_at 59 28 = some (.if_icmp .ge (117), 145, 0, 0) := by decide +kernel
theorem t59_31 : g_at 59 31 = some (.iconst 0, 0, 0, 0) := by decide +kernel
theorem t59_32 : g_at 59 32 = some (.istore 4, 0, 0, 0) := by decide +kernel
theorem t59_34 : g_at 59 34 = some (.iload 4, 0, 0, 0) := by decide +kernel
theorem t59_36 : g_at 59 36 = some (.aload_n 1, 0, 0, 0) := by decide +kernel
theorem t59_37 : g_at 59 37 = some (.iconst 3, 0, 0, 3) := by decide +kernel
theorem t59_38 : g_at 59 38 = some (.iaload, 0, 0, 0) := by decide +kernel
theorem t59_39 : g_at 59 39 = some (.if_icmp .ge (100), 139, 0, 0) := by decide +kernel
theorem t59_42 : g_at 59 42 = some (.iload_n 2, 0, 0, 0) := by decide +kernel
theorem t59_43 : g_at 59 43 = some (.iload 4, 0, 0, 0) := by decide +kernel
theorem t59_45 : g_at 59 45 = some (.invokestatic 111, 53, 2, 0) := by decide +kernel
theorem t59_48 : g_at 59 48 = some (.ifCond .eq (85), 133, 0, 0) := by decide +kernel
theorem t59_51 : g_at 59 51 = some (.aload_n 1, 0, 0, 0) := by decide +kernel
theorem t59_52 : g_at 59 52 = some (.iconst 4, 0, 0, 4) := by decide +kernel
theorem t59_53 : g_at 59 53 = some (.iload 4, 0, 0, 0) := by decide +kernel
theorem t59_55 : g_at 59 55 = some (.iadd, 0, 0, 0) := by decide +kernel
theorem t59_56 : g_at 59 56 = some (.iaload, 0, 0, 0) := by decide +kernel
theorem t59_57 : g_at 59 57 = some (.iconst 2, 0, 0, 2) := by decide +kernel
theorem t59_58 : g_at 59 58 = some (.if_icmp .eq (75), 133, 0, 0) := by decide +kernel
theorem t59_61 : g_at 59 61 = some (.aload_n 1, 0, 0, 0) := by decide +kernel
theorem t59_62 : g_at 59 62 = some (.bipush (20), 0, 0, 20) := by decide +kernel
theorem t59_64 : g_at 59 64 = some (.iload 4, 0, 0, 0) := by decide +kernel
theorem t59_66 : g_at 59 66 = some (.iadd, 0, 0, 0) := by decide +kernel
theorem t59_67 : g_at 59 67 = some (.iaload, 0, 0, 0) := by decide +kernel
theorem t59_68 : g_at 59 68 = some (.istore 5, 0, 0, 0) := by decide +kernel
theorem t59_70 : g_at 59 70 = some (.aload_n 1, 0, 0, 0) := by decide +kernel
theorem t59_71 : g_at 59 71 = some (.bipush (28), 0, 0, 28) := by decide +kernel
theorem t59_73 : g_at 59 73 = some (.iload 4, 0, 0, 0) := by decide +kernel
theorem t59_75 : g_at 59 75 = some (.iadd, 0, 0, 0) := by decide +kernel
theorem t59_76 : g_at 59 76 = some (.iaload, 0, 0, 0) := by decide +kernel
theorem t59_77 : g_at 59 77 = some (.istore 6, 0, 0, 0) := by decide +kernel
theorem t59_79 : g_at 59 79 = some (.aload_n 0, 0, 0, 0) := by decide +kernel
theorem t59_80 : g_at 59 80 = some (.getfield 44, 4, 21, 0) := by decide +kernel
theorem t59_83 : g_at 59 83 = some (.iload 5, 0, 0, 0) := by decide +kernel
theorem t59_85 : g_at 59 85 = some (.iaload, 0, 0, 0) := by decide +kernel
theorem t59_86 : g_at 59 86 = some (.aload_n 0, 0, 0, 0) := by decide +kernel
theorem t59_87 : g_at 59 87 = some (.getfield 44, 4, 21, 0) := by decide +kernel
theorem t59_90 : g_at 59 90 = some (.iload 6, 0, 0, 0) := by decide +kernel
theorem t59_92 : g_at 59 92 = some (.iaload, 0, 0, 0) := by decide +kernel
theorem t59_93 : g_at 59 93 = some (.if_icmp .ge (13), 106, 0, 0) := by decide +kernel
theorem t59_96 : g_at 59 96 = some (.aload_n 0, 0, 0, 0) := by decide +kernel
theorem t59_97 : g_at 59 97 = some (.getfield 44, 4, 21, 0) := by decide +kernel
theorem t59_100 : g_at 59 100 = some (.iload 5, 0, 0, 0) := by decide +kernel
theorem t59_102 : g_at 59 102 = some (.iaload, 0, 0, 0) := by decide +kernel
theorem t59_103 : g_at 59 103 = some (.goto (10), 113, 0, 0) := by decide +kernel
theorem t59_106 : g_at 59 106 = some (.aload_n 0, 0, 0, 0) := by decide +kernel
theorem t59_107 : g_at 59 107 = some (.getfield 44, 4, 21, 0) := by decide +kernel
theorem t59_110 : g_at 59 110 = some (.iload 6, 0, 0, 0) := by decide +kernel
theorem t59_112 : g_at 59 112 = some (.iaload, 0, 0, 0) := by decide +kernel
theorem t59_113 : g_at 59 113 = some (.istore 7, 0, 0, 0) := by decide +kernel
theorem t59_115 : g_at 59 115 = some (.aload_n 0, 0, 0, 0) := by decide +kernel
theorem t59_116 : g_at 59 116 = some (.getfield 44, 4, 21, 0) := by decide +kernel
theorem t59_119 : g_at 59 119 = some (.iload 5, 0, 0, 0) := by decide +kernel
theorem t59_121 : g_at 59 121 = some (.iload 7, 0, 0, 0) := by decide +kernel
theorem t59_123 : g_at 59 123 = some (.iastore, 0, 0, 0) := by decide +kernel
theorem t59_124 : g_at 59 124 = some (.aload_n 0, 0, 0, 0) := by decide +kernel
theorem t59_125 : g_at 59 125 = some (.getfield 44, 4, 21, 0) := by decide +kernel
theorem t59_128 : g_at 59 128 = some (.iload 6, 0, 0, 0) := by decide +kernel
theorem t59_130 : g_at 59 130 = some (.iload 7, 0, 0, 0) := by decide +kernel
theorem t59_132 : g_at 59 132 = some (.iastore, 0, 0, 0) := by decide +kernel
theorem t59_133 : g_at 59 133 = some (.iinc 4 (1), 0, 0, 1) := by decide +kernel
theorem t59_136 : g_at 59 136 = some (.goto (-102), 34, 0, 0) := by decide +kernel
theorem t59_139 : g_at 59 139 = some (.iinc 3 (1), 0, 0, 1) := by decide +kernel
theorem t59_142 : g_at 59 142 = some (.goto (-118), 24, 0, 0) := by decide +kernel
theorem t59_145 : g_at 59 145 = some (.return_, 0, 0, 0) := by decide +kernel
theorem t60_0 : g_at 60 0 = some (.iconst 0, 0, 0, 0) := by decide +kernel
theorem t60_1 : g_at 60 1 = some (.istore_n 3, 0, 0, 0) := by decide +kernel
theorem t60_2 : g_at 60 2 = some (.iconst 0, 0, 0, 0) := by decide +kernel
theorem t60_3 : g_at 60 3 = some (.istore 4, 0, 0, 0) := by decide +kernel
theorem t60_5 : g_at 60 5 = some (.iload 4, 0, 0, 0) := by decide +kernel
theorem t60_7 : g_at 60 7 = some (.aload_n 1, 0, 0, 0) := by decide +kernel
theorem t60_8 : g_at 60 8 = some (.iconst 0, 0, 0, 0) := by decide +kernel
theorem t60_9 : g_at 60 9 = some (.iaload, 0, 0, 0) := by decide +kernel
theorem t60_10 : g_at 60 10 = some (.if_icmp .ge (63), 73, 0, 0) := by decide +kernel
theorem t60_13 : g_at 60 13 = some (.iconst 0, 0, 0, 0) := by decide +kernel
theorem t60_14 : g_at 60 14 = some (.istore 5, 0, 0, 0) := by decide +kernel
theorem t60_16 : g_at 60 16 = some (.iload 5, 0, 0, 0) := by decide +kernel
theorem t60_18 : g_at 60 18 = some (.aload_n 1, 0, 0, 0) := by decide +kernel
theorem t60_19 : g_at 60 19 = some (.iconst 0, 0, 0, 0) := by decide +kernel
theorem t60_20 : g_at 60 20 = some (.iaload, 0, 0, 0) := by decide +kernel
theorem t60_21 : g_at 60 21 = some (.if_icmp .ge (46), 67, 0, 0) := by decide +kernel
theorem t60_24 : g_at 60 24 = some (.iload_n 3, 0, 0, 0) := by decide +kernel
theorem t60_25 : g_at 60 25 = some (.iload_n 2, 0, 0, 0) := by decide +kernel
theorem t60_26 : g_at 60 26 = some (.iload 5, 0, 0, 0) := by decide +kernel
theorem t60_28 : g_at 60 28 = some (.invokestatic 111, 53, 2, 0) := by decide +kernel
theorem t60_31 : g_at 60 31 = some (.ifCond .eq (27), 58, 0, 0) := by decide +kernel
theorem t60_34 : g_at 60 34 = some (.aload_n 0, 0, 0, 0) := by decide +kernel
theorem t60_35 : g_at 60 35 = some (.getfield 44, 4, 21, 0) := by decide +kernel
theorem t60_38 : g_at 60 38 = some (.iload 4, 0, 0, 0) := by decide +kernel
theorem t60_40 : g_at 60 40 = some (.iaload, 0, 0, 0) := by decide +kernel
theorem t60_41 : g_at 60 41 = some (.aload_n 0, 0, 0, 0) := by decide +kernel
theorem t60_42 : g_at 60 42 = some (.getfield 44, 4, 21, 0) := by decide +kernel
theorem t60_45 : g_at 60 45 = some (.iload 5, 0, 0, 0) := by decide +kernel
theorem t60_47 : g_at 60 47 = some (.iaload, 0, 0, 0) := by decide +kernel
theorem t60_48 : g_at 60 48 = some (.if_icmp .ne (10), 58, 0, 0) := by decide +kernel
theorem t60_51 : g_at 60 51 = some (.iconst 1, 0, 0, 1) := by decide +kernel
theorem t60_52 : g_at 60 52 = some (.iload 4, 0, 0, 0) := by decide +kernel
theorem t60_54 : g_at 60 54 = some (.ishl, 0, 0, 0) := by decide +kernel
theorem t60_55 : g_at 60 55 = some (.goto (4), 59, 0, 0) := by decide +kernel
theorem t60_58 : g_at 60 58 = some (.iconst 0, 0, 0, 0) := by decide +kernel
theorem t60_59 : g_at 60 59 = some (.ior, 0, 0, 0) := by decide +kernel
theorem t60_60 : g_at 60 60 = some (.istore_n 3, 0, 0, 0) := by decide +kernel
theorem t60_61 : g_at 60 61 = some (.iinc 5 (1), 0, 0, 1) := by decide +kernel
theorem t60_64 : g_at 60 64 = some (.goto (-48), 16, 0, 0) := by decide +kernel
theorem t60_67 : g_at 60 67 = some (.iinc 4 (1), 0, 0, 1) := by decide +kernel
theorem t60_70 : g_at 60 70 = some (.goto (-65), 5, 0, 0) := by decide +kernel
theorem t60_73 : g_at 60 73 = some (.iload_n 3, 0, 0, 0) := by decide +kernel
theorem t60_74 : g_at 60 74 = some (.ireturn, 0, 0, 0) := by decide +kernel
theorem t61_0 : g_at 61 0 = some (.aload_n 0, 0, 0, 0) := by decide +kernel
theorem t61_1 : g_at 61 1 = some (.aload_n 1, 0, 0, 0) := by decide +kernel
theorem t61_2 : g_at 61 2 = some (.iload_n 2, 0, 0, 0) := by decide +kernel
theorem t61_3 : g_at 61 3 = some (.invokevirtual 150, 59, 2, 0) := by decide +kernel
theorem t61_6 : g_at 61 6 = some (.aload_n 0, 0, 0, 0) := by decide +kernel
theorem t61_7 : g_at 61 7 = some (.aload_n 1, 0, 0, 0) := by decide +kernel
theorem t61_8 : g_at 61 8 = some (.aload_n 1, 0, 0, 0) := by decide +kernel
theorem t61_9 : g_at 61 9 = some (.iconst 1, 0, 0, 1) := by decide +kernel
theorem t61_10 : g_at 61 10 = some (.iaload, 0, 0, 0) := by decide +kernel
theorem t61_11 : g_at 61 11 = some (.invokevirtual 154, 60, 2, 0) := by decide +kernel
theorem t61_14 : g_at 61 14 = some (.ireturn, 0, 0, 0) := by decide +kernel
theorem t62_0 : g_at 62 0 = some (.aload_n 0, 0, 0, 0) := by decide +kernel
theorem t62_1 : g_at 62 1 = some (.aload_n 1, 0, 0, 0) := by decide +kernel
theorem t62_2 : g_at 62 2 = some (.iload_n 2, 0, 0, 0) := by decide +kernel
theorem t62_3 : g_at 62 3 = some (.invokevirtual 150, 59, 2, 0) := by decide +kernel
theorem t62_6 : g_at 62 6 = some (.iconst 0, 0, 0, 0) := by decide +kernel
theorem t62_7 : g_at 62 7 = some (.istore_n 3, 0, 0, 0) := by decide +kernel
theorem t62_8 : g_at 62 8 = some (.iconst 0, 0, 0, 0) := by decide +kernel
theorem t62_9 : g_at 62 9 = some (.istore 4, 0, 0, 0) := by decide +kernel
theorem t62_11 : g_at 62 11 = some (.iload 4, 0, 0, 0) := by decide +kernel
theorem t62_13 : g_at 62 13 = some (.aload_n 1, 0, 0, 0) := by decide +kernel
theorem t62_14 : g_at 62 14 = some (.iconst 3, 0, 0, 3) := by decide +kernel
theorem t62_15 : g_at 62 15 = some (.iaload, 0, 0, 0) := by decide +kernel
theorem t62_16 : g_at 62 16 = some (.if_icmp .ge (44), 60, 0, 0) := by decide +kernel
theorem t62_19 : g_at 62 19 = some (.iload_n 3, 0, 0, 0) := by decide +kernel
theorem t62_20 : g_at 62 20 = some (.iload_n 2, 0, 0, 0) := by decide +kernel
theorem t62_21 : g_at 62 21 = some (.iload 4, 0, 0, 0) := by decide +kernel
theorem t62_23 : g_at 62 23 = some (.invokestatic 111, 53, 2, 0) := by decide +kernel
theorem t62_26 : g_at 62 26 = some (.ifCond .eq (25), 51, 0, 0) := by decide +kernel
theorem t62_29 : g_at 62 29 = some (.aload_n 1, 0, 0, 0) := by decide +kernel
theorem t62_30 : g_at 62 30 = some (.iconst 4, 0, 0, 4) := by decide +kernel
theorem t62_31 : g_at 62 31 = some (.iload 4, 0, 0, 0) := by decide +kernel
theorem t62_33 : g_at 62 33 = some (.iadd, 0, 0, 0) := by decide +kernel
theorem t62_34 : g_at 62 34 = some (.iaload, 0, 0, 0) := by decide +kernel
theorem t62_35 : g_at 62 35 = some (.iconst 2, 0, 0, 2) := by decide +kernel
theorem t62_36 : g_at 62 36 = some (.if_icmp .ne (15), 51, 0, 0) := by decide +kernel
theorem t62_39 : g_at 62 39 = some (.iconst 1, 0, 0, 1) := by decide +kernel
theorem t62_40 : g_at 62 40 = some (.aload_n 1, 0, 0, 0) := by decide +kernel
theorem t62_41 : g_at 62 41 = some (.bipush (20), 0, 0, 20) := by decide +kernel
theorem t62_43 : g_at 62 43 = some (.iload 4, 0, 0, 0) := by decide +kernel
theorem t62_45 : g_at 62 45 = some (.iadd, 0, 0, 0) := by decide +kernel
theorem t62_46 : g_at 62 46 = some (.iaload, 0, 0, 0) := by decide +kernel
theorem t62_47 : g_at 62 47 = some (.ishl, 0, 0, 0) := by decide +kernel
theorem t62_48 : g_at 62 48 = some (.goto (4), 52, 0, 0) := by decide +kernel
theorem t62_51 : g_at 62 51 = some (.iconst 0, 0, 0, 0) := by decide +kernel
theorem t62_52 : g_at 62 52 = some (.ior, 0, 0, 0) := by decide +kernel
theorem t62_53 : g_at 62 53 = some (.istore_n 3, 0, 0, 0) := by decide +kernel
theorem t62_54 : g_at 62 54 = some (.iinc 4 (1), 0, 0, 1) := by decide +kernel
theorem t62_57 : g_at 62 57 = some (.goto (-46), 11, 0, 0) := by decide +kernel
theorem t62_60 : g_at 62 60 = some (.aload_n 0, 0, 0, 0) := by decide +kernel
theorem t62_61 : g_at 62 61 = some (.aload_n 1, 0, 0, 0) := by decide +kernel
theorem t62_62 : g_at 62 62 = some (.iload_n 3, 0, 0, 0) := by decide +kernel
theorem t62_63 : g_at 62 63 = some (.invokevirtual 154, 60, 2, 0) := by decide +kernel
theorem t62_66 : g_at 62 66 = some (.ireturn, 0, 0, 0) := by decide +kernel
theorem t63_0 : g_at 63 0 = some (.aload_n 0, 0, 0, 0) := by decide +kernel
theorem t63_1 : g_at 63 1 = some (.iconst 0, 0, 0, 0) := by decide +kernel
theorem t63_2 : g_at 63 2 = some (.putfield 62, 4, 0, 0) := by decide +kernel
theorem t63_5 : g_at 63 5 = some (.aload_n 0, 0, 0, 0) := by decide +kernel
theorem t63_6 : g_at 63 6 = some (.iconst (-1), 0, 0, (-1)) := by decide +kernel
theorem t63_7 : g_at 63 7 = some (.putfield 89, 4, 7, 0) := by decide +kernel
theorem t63_10 : g_at 63 10 = some (.aload_n 0, 0, 0, 0) := by decide +kernel
theorem t63_11 : g_at 63 11 = some (.iconst 0, 0, 0, 0) := by decide +kernel
theorem t63_12 : g_at 63 12 = some (.putfield 73, 4, 3, 0) := by decide +kernel
theorem t63_15 : g_at 63 15 = some (.aload_n 0, 0, 0, 0) := by decide +kernel
theorem t63_16 : g_at 63 16 = some (.invokevirtual 56, 6, 0, 0) := by decide +kernel
theorem t63_19 : g_at 63 19 = some (.iconst 0, 0, 0, 0) := by decide +kernel
theorem t63_20 : g_at 63 20 = some (.istore_n 1, 0, 0, 0) := by decide +kernel
theorem t63_21 : g_at 63 21 = some (.aload_n 0, 0, 0, 0) := by decide +kernel
theorem t63_22 : g_at 63 22 = some (.invokevirtual 96, 47, 0, 0) := by decide +kernel
theorem t63_25 : g_at 63 25 = some (.aload_n 0, 0, 0, 0) := by decide +kernel
theorem t63_26 : g_at 63 26 = some (.invokevirtual 92, 48, 0, 0) := by decide +kernel
theorem t63_29 : g_at 63 29 = some (.ifCond .eq (72), 101, 0, 0) := by decide +kernel
theorem t63_32 : g_at 63 32 = some (.aload_n 0, 0, 0, 0) := by decide +kernel
theorem t63_33 : g_at 63 33 = some (.getfield 83, 4, 4, 0) := by decide +kernel
theorem t63_36 : g_at 63 36 = some (.ifCond .eq (65), 101, 0, 0) := by decide +kernel
theorem t63_39 : g_at 63 39 = some (.aload_n 0, 0, 0, 0) := by decide +kernel
theorem t63_40 : g_at 63 40 = some (.aload_n 0, 0, 0, 0) := by decide +kernel
theorem t63_41 : g_at 63 41 = some (.getfield 83, 4, 4, 0) := by decide +kernel
theorem t63_44 : g_at 63 44 = some (.iconst 1, 0, 0, 1) := by decide +kernel
theorem t63_45 : g_at 63 45 = some (.if_icmp .ne (15), 60, 0, 0) := by decide +kernel
theorem t63_48 : g_at 63 48 = some (.aload_n 0, 0, 0, 0) := by decide +kernel
theorem t63_49 : g_at 63 49 = some (.iload_n 1, 0, 0, 0) := by decide +kernel
theorem t63_50 : g_at 63 50 = some (.invokevirtual 125, 49, 1, 0) := by decide +kernel
theorem t63_53 : g_at 63 53 = some (.ifCond .eq (7), 60, 0, 0) := by decide +kernel
theorem t63_56 : g_at 63 56 = some (.iconst 1, 0, 0, 1) := by decide +kernel
theorem t63_57 : g_at 63 57 = some (.goto (4), 61, 0, 0) := by decide +kernel
theorem t63_60 : g_at 63 60 = some (.iconst 0, 0, 0, 0) := by decide +kernel
theorem t63_61 : g_at 63 61 = some (.invokevirtual 103, 50, 1, 0) := by decide +kernel
theorem t63_64 : g_at 63 64 = some (.istore_n 2, 0, 0, 0) := by decide +kernel
theorem t63_65 : g_at 63 65 = some (.aload_n 0, 0, 0, 0) := by decide +kernel
theorem t63_66 : g_at 63 66 = some (.invokevirtual 92, 48, 0, 0) := by decide +kernel
theorem t63_69 : g_at 63 69 = some (.ifCond .eq (8), 77, 0, 0) := by decide +kernel
theorem t63_72 : g_at 63 72 = some (.aload_n 0, 0, 0, 0) := by decide +kernel
theorem t63_73 : g_at 63 73 = some (.iload_n 2, 0, 0, 0) := by decide +kernel
theorem t63_74 : g_at 63 74 = some (.invokevirtual 129, 56, 1, 0) := by decide +kernel
theorem t63_77 : g_at 63 77 = some (.aload_n 0, 0, 0, 0) := by decide +kernel
theorem t63_78 : g_at 63 78 = some (.aload_n 0, 0, 0, 0) := by decide +kernel
theorem t63_79 : g_at 63 79 = some (.getfield 83, 4, 4, 0) := by decide +kernel
theorem t63_82 : g_at 63 82 = some (.iconst 3, 0, 0, 3) := by decide +kernel
theorem t63_83 : g_at 63 83 = some (.if_icmp .ne (7), 90, 0, 0) := by decide +kernel
theorem t63_86 : g_at 63 86 = some (.iconst 1, 0, 0, 1) := by decide +kernel
theorem t63_87 : g_at 63 87 = some (.goto (4), 91, 0, 0) := by decide +kernel
theorem t63_90 : g_at 63 90 = some (.iconst 0, 0, 0, 0) := by decide +kernel
theorem t63_91 : g_at 63 91 = some (.invokevirtual 103, 50, 1, 0) := by decide +kernel
theorem t63_94 : g_at 63 94 = some (.pop, 0, 0, 0) := by decide +kernel
theorem t63_95 : g_at 63 95 = some (.iinc 1 (1), 0, 0, 1) := by decide +kernel
theorem t63_98 : g_at 63 98 = some (.goto (-73), 25, 0, 0) := by decide +kernel
theorem t63_101 : g_at 63 101 = some (.aload_n 0, 0, 0, 0) := by decide +kernel
theorem t63_102 : g_at 63 102 = some (.invokevirtual 92, 48, 0, 0) := by decide +kernel
theorem t63_105 : g_at 63 105 = some (.ifCond .eq (54), 159, 0, 0) := by decide +kernel
theorem t63_108 : g_at 63 108 = some (.aload_n 0, 0, 0, 0) := by decide +kernel
theorem t63_109 : g_at 63 109 = some (.invokevirtual 132, 58, 0, 0) := by decide +kernel
theorem t63_112 : g_at 63 112 = some (.aload_n 0, 0, 0, 0) := by decide +kernel
theorem t63_113 : g_at 63 113 = some (.aload_n 0, 0, 0, 0) := by decide +kernel
theorem t63_114 : g_at 63 114 = some (.aload_n 0, 0, 0, 0) := by decide +kernel
theorem t63_115 : g_at 63 115 = some (.getfield 16, 4, 9, 0) := by decide +kernel
theorem t63_118 : g_at 63 118 = some (.aload_n 0, 0, 0, 0) := by decide +kernel
theorem t63_119 : g_at 63 119 = some (.getfield 19, 4, 10, 0) := by decide +kernel
theorem t63_122 : g_at 63 122 = some (.iconst 0, 0, 0, 0) := by decide +kernel
theorem t63_123 : g_at 63 123 = some (.iaload, 0, 0, 0) := by decide +kernel
theorem t63_124 : g_at 63 124 = some (.invokevirtual 135, 61, 2, 0) := by decide +kernel
theorem t63_127 : g_at 63 127 = some (.aload_n 0, 0, 0, 0) := by decide +kernel
theorem t63_128 : g_at 63 128 = some (.aload_n 0, 0, 0, 0) := by decide +kernel
theorem t63_129 : g_at 63 129 = some (.getfield 16, 4, 9, 0) := by decide +kernel
theorem t63_132 : g_at 63 132 = some (.aload_n 0, 0, 0, 0) := by decide +kernel
theorem t63_133 : g_at 63 133 = some (.getfield 19, 4, 10, 0) := by decide +kernel
theorem t63_136 : g_at 63 136 = some (.iconst 0, 0, 0, 0) := by decide +kernel
theorem t63_137 : g_at 63 137 = some (.iaload, 0, 0, 0) := by decide +kernel
theorem t63_138 : g_at 63 138 = some (.invokevirtual 138, 62, 2, 0) := by decide +kernel
theorem t63_141 : g_at 63 141 = some (.iand, 0, 0, 0) := by decide +kernel
theorem t63_142 : g_at 63 142 = some (.ifCond .ne (10), 152, 0, 0) := by decide +kernel
theorem t63_145 : g_at 63 145 = some (.aload_n 0, 0, 0, 0) := by decide +kernel
theorem t63_146 : g_at 63 146 = some (.getfield 89, 4, 7, 0) := by decide +kernel
theorem t63_149 : g_at 63 149 = some (.goto (7), 156, 0, 0) := by decide +kernel
theorem t63_152 : g_at 63 152 = some (.aload_n 0, 0, 0, 0) := by decide +kernel
theorem t63_153 : g_at 63 153 = some (.getfield 70, 4, 2, 0) := by decide +kernel
theorem t63_156 : g_at 63 156 = some (.putfield 89, 4, 7, 0) := by decide +kernel
theorem t63_159 : g_at 63 159 = some (.aload_n 0, 0, 0, 0) := by decide +kernel
theorem t63_160 : g_at 63 160 = some (.invokevirtual 92, 48, 0, 0) := by decide +kernel
theorem t63_163 : g_at 63 163 = some (.ifCond .ne (11), 174, 0, 0) := by decide +kernel
theorem t63_166 : g_at 63 166 = some (.bipush (-10), 0, 0, (-10)) := by decide +kernel
theorem t63_168 : g_at 63 168 = some (.aload_n 0, 0, 0, 0) := by decide +kernel
theorem t63_169 : g_at 63 169 = some (.getfield 89, 4, 7, 0) := by decide +kernel
theorem t63_172 : g_at 63 172 = some (.isub, 0, 0, 0) := by decide +kernel
theorem t63_173 : g_at 63 173 = some (.ireturn, 0, 0, 0) := by decide +kernel
theorem t63_174 : g_at 63 174 = some (.aload_n 0, 0, 0, 0) := by decide +kernel
theorem t63_175 : g_at 63 175 = some (.invokevirtual 59, 7, 0, 0) := by decide +kernel
theorem t63_178 : g_at 63 178 = some (.iload_n 1, 0, 0, 0) := by decide +kernel
theorem t63_179 : g_at 63 179 = some (.ireturn, 0, 0, 0) := by decide +kernel
theorem t64_0 : g_at 64 0 = some (.iload_n 1, 0, 0, 0) := by decide +kernel
theorem t64_1 : g_at 64 1 = some (.ifCond .lt (18), 19, 0, 0) := by decide +kernel
theorem t64_4 : g_at 64 4 = some (.iload_n 1, 0, 0, 0) := by decide +kernel
theorem t64_5 : g_at 64 5 = some (.aload_n 0, 0, 0, 0) := by decide +kernel
theorem t64_6 : g_at 64 6 = some (.getfield 26, 3, 2, 0) := by decide +kernel
theorem t64_9 : g_at 64 9 = some (.getfield 112, 1, 3, 0) := by decide +kernel
theorem t64_12 : g_at 64 12 = some (.if_icmp .ge (7), 19, 0, 0) := by decide +kernel
theorem t64_15 : g_at 64 15 = some (.iconst 1, 0, 0, 1) := by decide +kernel
theorem t64_16 : g_at 64 16 = some (.goto (4), 20, 0, 0) := by decide +kernel
theorem t64_19 : g_at 64 19 = some (.iconst 0, 0, 0, 0) := by decide +kernel
theorem t64_20 : g_at 64 20 = some (.ireturn, 0, 0, 0) := by decide +kernel
theorem t65_0 : g_at 65 0 = some (.aload_n 0, 0, 0, 0) := by decide +kernel
theorem t65_1 : g_at 65 1 = some (.getfield 34, 1, 12, 0) := by decide +kernel
theorem t65_4 : g_at 65 4 = some (.iload_n 1, 0, 0, 0) := by decide +kernel
theorem t65_5 : g_at 65 5 = some (.iaload, 0, 0, 0) := by decide +kernel
theorem t65_6 : g_at 65 6 = some (.iload_n 2, 0, 0, 0) := by decide +kernel
theorem t65_7 : g_at 65 7 = some (.invokestatic 63, 19, 2, 0) := by decide +kernel
theorem t65_10 : g_at 65 10 = some (.iconst 1, 0, 0, 1) := by decide +kernel
theorem t65_11 : g_at 65 11 = some (.if_icmp .ne (5), 16, 0, 0) := by decide +kernel
theorem t65_14 : g_at 65 14 = some (.iconst 2, 0, 0, 2) := by decide +kernel
theorem t65_15 : g_at 65 15 = some (.ireturn, 0, 0, 0) := by decide +kernel
theorem t65_16 : g_at 65 16 = some (.aload_n 0, 0, 0, 0) := by decide +kernel
theorem t65_17 : g_at 65 17 = some (.iload_n 1, 0, 0, 0) := by decide +kernel
theorem t65_18 : g_at 65 18 = some (.iconst 1, 0, 0, 1) := by decide +kernel
theorem t65_19 : g_at 65 19 = some (.iload_n 2, 0, 0, 0) := by decide +kernel
theorem t65_20 : g_at 65 20 = some (.ishl, 0, 0, 0) := by decide +kernel
theorem t65_21 : g_at 65 21 = some (.ixor, 0, 0, 0) := by decide +kernel
theorem t65_22 : g_at 65 22 = some (.invokevirtual 115, 44, 1, 0) := by decide +kernel
theorem t65_25 : g_at 65 25 = some (.ifCond .eq (7), 32, 0, 0) := by decide +kernel
theorem t65_28 : g_at 65 28 = some (.iconst 0, 0, 0, 0) := by decide +kernel
theorem t65_29 : g_at 65 29 = some (.goto (4), 33, 0, 0) := by decide +kernel
theorem t65_32 : g_at 65 32 = some (.iconst 3, 0, 0, 3) := by decide +kernel
theorem t65_33 : g_at 65 33 = some (.ireturn, 0, 0, 0) := by decide +kernel
theorem t66_0 : g_at 66 0 = some (.aload_n 0, 0, 0, 0) := by decide +kernel
theorem t66_1 : g_at 66 1 = some (.getfield 102, 3, 5, 0) := by decide +kernel
theorem t66_4 : g_at 66 4 = some (.iload_n 1, 0, 0, 0) := by decide +kernel
theorem t66_5 : g_at 66 5 = some (.invokestatic 98, 19, 2, 0) := by decide +kernel
theorem t66_8 : g_at 66 8 = some (.iconst 1, 0, 0, 1) := by decide +kernel
theorem t66_9 : g_at 66 9 = some (.if_icmp .ne (7), 16, 0, 0) := by decide +kernel
theorem t66_12 : g_at 66 12 = some (.iconst 1, 0, 0, 1) := by decide +kernel
theorem t66_13 : g_at 66 13 = some (.goto (15), 28, 0, 0) := by decide +kernel
theorem t66_16 : g_at 66 16 = some (.aload_n 0, 0, 0, 0) := by decide +kernel
theorem t66_17 : g_at 66 17 = some (.getfield 26, 3, 2, 0) := by decide +kernel
theorem t66_20 : g_at 66 20 = some (.aload_n 0, 0, 0, 0) := by decide +kernel
theorem t66_21 : g_at 66 21 = some (.getfield 95, 3, 4, 0) := by decide +kernel
theorem t66_24 : g_at 66 24 = some (.iload_n 1, 0, 0, 0) := by decide +kernel
theorem t66_25 : g_at 66 25 = some (.invokevirtual 225, 65, 2, 0) := by decide +kernel
theorem t66_28 : g_at 66 28 = some (.ireturn, 0, 0, 0) := by decide +kernel
theorem t67_0 : g_at 67 0 = some (.aload_n 0, 0, 0, 0) := by decide +kernel
theorem t67_1 : g_at 67 1 = some (.iload_n 1, 0, 0, 0) := by decide +kernel
theorem t67_2 : g_at 67 2 = some (.invokevirtual 80, 64, 1, 0) := by decide +kernel
theorem t67_5 : g_at 67 5 = some (.ifCond .ne (5), 10, 0, 0) := by decide +kernel
theorem t67_8 : g_at 67 8 = some (.iconst (-1), 0, 0, (-1)) := by decide +kernel
theorem t67_9 : g_at 67 9 = some (.ireturn, 0, 0, 0) := by decide +kernel
theorem t67_10 : g_at 67 10 = some (.iload_n 2, 0, 0, 0) := by decide +kernel
theorem t67_11 : g_at 67 11 = some (.tableswitch (105) (0) (6) #[41, 51, 61, 71, 81, 90, 99], 0, 0, 0) := by decide +kernel
theorem t67_52 : g_at 67 52 = some (.aload_n 0, 0, 0, 0) := by decide +kernel
theorem t67_53 : g_at 67 53 = some (.getfield 26, 3, 2, 0) := by decide +kernel
theorem t67_56 : g_at 67 56 = some (.getfield 83, 1, 6, 0) := by decide +kernel
theorem t67_59 : g_at 67 59 = some (.iload_n 1, 0, 0, 0) := by decide +kernel
theorem t67_60 : g_at 67 60 = some (.iaload, 0, 0, 0) := by decide +kernel
theorem t67_61 : g_at 67 61 = some (.ireturn, 0, 0, 0) := by decide +kernel
theorem t67_62 : g_at 67 62 = some (.aload_n 0, 0, 0, 0) := by decide +kernel
theorem t67_63 : g_at 67 63 = some (.getfield 26, 3, 2, 0) := by decide +kernel
theorem t67_66 : g_at 67 66 = some (.getfield 86, 1, 7, 0) := by decide +kernel
theorem t67_69 : g_at 67 69 = some (.iload_n 1, 0, 0, 0) := by decide +kernel
theorem t67_70 : g_at 67 70 = some (.iaload, 0, 0, 0) := by decide +kernel
theorem t67_71 : g_at 67 71 = some (.ireturn, 0, 0, 0) := by decide +kernel
theorem t67_72 : g_at 67 72 = some (.aload_n 0, 0, 0, 0) := by decide +kernel
theorem t67_73 : g_at 67 73 = some (.getfield 26, 3, 2, 0) := by decide +kernel
theorem t67_76 : g_at 67 76 = some (.getfield 89, 1, 8, 0) := by decide +kernel
theorem t67_79 : g_at 67 79 = some (.iload_n 1, 0, 0, 0) := by decide +kernel
theorem t67_80 : g_at 67 80 = some (.iaload, 0, 0, 0) := by decide +kernel
theorem t67_81 : g_at 67 81 = some (.ireturn, 0, 0, 0) := by decide +kernel
theorem t67_82 : g_at 67 82 = some (.aload_n 0, 0, 0, 0) := by decide +kernel
theorem t67_83 : g_at 67 83 = some (.getfield 26, 3, 2, 0) := by decide +kernel
theorem t67_86 : g_at 67 86 = some (.getfield 92, 1, 9, 0) := by decide +kernel
theorem t67_89 : g_at 67 89 = some (.iload_n 1, 0, 0, 0) := by decide +kernel
theorem t67_90 : g_at 67 90 = some (.iaload, 0, 0, 0) := by decide +kernel
theorem t67_91 : g_at 67 91 = some (.ireturn, 0, 0, 0) := by decide +kernel
theorem t67_92 : g_at 67 92 = some (.aload_n 0, 0, 0, 0) := by decide +kernel
theorem t67_93 : g_at 67 93 = some (.getfield 95, 3, 4, 0) := by decide +kernel
theorem t67_96 : g_at 67 96 = some (.iload_n 1, 0, 0, 0) := by decide +kernel
theorem t67_97 : g_at 67 97 = some (.invokestatic 98, 19, 2, 0) := by decide +kernel
theorem t67_100 : g_at 67 100 = some (.ireturn, 0, 0, 0) := by decide +kernel
theorem t67_101 : g_at 67 101 = some (.aload_n 0, 0, 0, 0) := by decide +kernel
theorem t67_102 : g_at 67 102 = some (.getfield 102, 3, 5, 0) := by decide +kernel
theorem t67_105 : g_at 67 105 = some (.iload_n 1, 0, 0, 0) := by decide +kernel
theorem t67_106 : g_at 67 106 = some (.invokestatic 98, 19, 2, 0) := by decide +kernel
theorem t67_109 : g_at 67 109 = some (.ireturn, 0, 0, 0) := by decide +kernel
theorem t67_110 : g_at 67 110 = some (.aload_n 0, 0, 0, 0) := by decide +kernel
theorem t67_111 : g_at 67 111 = some (.iload_n 1, 0, 0, 0) := by decide +kernel
theorem t67_112 : g_at 67 112 = some (.invokevirtual 105, 66, 1, 0) := by decide +kernel
theorem t67_115 : g_at 67 115 = some (.ireturn, 0, 0, 0) := by decide +kernel
theorem t67_116 : g_at 67 116 = some (.iconst (-1), 0, 0, (-1)) := by decide +kernel
theorem t67_117 : g_at 67 117 = some (.ireturn, 0, 0, 0) := by decide +kernel
theorem t68_0 : g_at 68 0 = some (.iload_n 1, 0, 0, 0) := by decide +kernel
theorem t68_1 : g_at 68 1 = some (.iconst 0, 0, 0, 0) := by decide +kernel
theorem t68_2 : g_at 68 2 = some (.aload_n 0, 0, 0, 0) := by decide +kernel
theorem t68_3 : g_at 68 3 = some (.getfield 13, 4, 8, 0) := by decide +kernel
theorem t68_6 : g_at 68 6 = some (.iconst 3, 0, 0, 3) := by decide +kernel
theorem t68_7 : g_at 68 7 = some (.iaload, 0, 0, 0) := by decide +kernel
theorem t68_8 : g_at 68 8 = some (.iconst 1, 0, 0, 1) := by decide +kernel
theorem t68_9 : g_at 68 9 = some (.isub, 0, 0, 0) := by decide +kernel
theorem t68_10 : g_at 68 10 = some (.invokestatic 66, 10, 3, 0) := by decide +kernel
theorem t68_13 : g_at 68 13 = some (.ireturn, 0, 0, 0) := by decide +kernel
theorem t69_0 : g_at 69 0 = some (.iconst 0, 0, 0, 0) := by decide +kernel
theorem t69_1 : g_at 69 1 = some (.istore_n 2, 0, 0, 0) := by decide +kernel
theorem t69_2 : g_at 69 2 = some (.iconst 0, 0, 0, 0) := by decide +kernel
theorem t69_3 : g_at 69 3 = some (.istore_n 3, 0, 0, 0) := by decide +kernel
theorem t69_4 : g_at 69 4 = some (.iload_n 3, 0, 0, 0) := by decide +kernel
theorem t69_5 : g_at 69 5 = some (.aload_n 0, 0, 0, 0) := by decide +kernel
theorem t69_6 : g_at 69 6 = some (.getfield 13, 4, 8, 0) := by decide +kernel
theorem t69_9 : g_at 69 9 = some (.iconst 0, 0, 0, 0) := by decide +kernel
theorem t69_10 : g_at 69 10 = some (.iaload, 0, 0, 0) := by decide +kernel
theorem t69_11 : g_at 69 11 = some (.if_icmp .ge (47), 58, 0, 0) := by decide +kernel
theorem t69_14 : g_at 69 14 = some (.iload_n 2, 0, 0, 0) := by decide +kernel
theorem t69_15 : g_at 69 15 = some (.ifCond .ne (31), 46, 0, 0) := by decide +kernel
theorem t69_18 : g_at 69 18 = some (.aload_n 0, 0, 0, 0) := by decide +kernel
theorem t69_19 : g_at 69 19 = some (.getfield 44, 4, 21, 0) := by decide +kernel
theorem t69_22 : g_at 69 22 = some (.iload_n 3, 0, 0, 0) := by decide +kernel
theorem t69_23 : g_at 69 23 = some (.iaload, 0, 0, 0) := by decide +kernel
theorem t69_24 : g_at 69 24 = some (.aload_n 0, 0, 0, 0) := by decide +kernel
theorem t69_25 : g_at 69 25 = some (.getfield 44, 4, 21, 0) := by decide +kernel
theorem t69_28 : g_at 69 28 = some (.iload_n 1, 0, 0, 0) := by decide +kernel
theorem t69_29 : g_at 69 29 = some (.iaload, 0, 0, 0) := by decide +kernel
theorem t69_30 : g_at 69 30 = some (.if_icmp .ne (20), 50, 0, 0) := by decide +kernel
theorem t69_33 : g_at 69 33 = some (.aload_n 0, 0, 0, 0) := by decide +kernel
theorem t69_34 : g_at 69 34 = some (.getfield 13, 4, 8, 0) := by decide +kernel
theorem t69_37 : g_at 69 37 = some (.iconst 2, 0, 0, 2) := by decide +kernel
theorem t69_38 : g_at 69 38 = some (.iaload, 0, 0, 0) := by decide +kernel
theorem t69_39 : g_at 69 39 = some (.iload_n 3, 0, 0, 0) := by decide +kernel
theorem t69_40 : g_at 69 40 = some (.invokestatic 111, 53, 2, 0) := by decide +kernel
theorem t69_43 : g_at 69 43 = some (.ifCond .eq (7), 50, 0, 0) := by decide +kernel
theorem t69_46 : g_at 69 46 = some (.iconst 1, 0, 0, 1) := by decide +kernel
theorem t69_47 : g_at 69 47 = some (.goto (4), 51, 0, 0) := by decide +kernel
theorem t69_50 : g_at 69 50 = some (.iconst 0, 0, 0, 0) := by decide +kernel
theorem t69_51 : g_at 69 51 = some (.istore_n 2, 0, 0, 0) := by decide +kernel
theorem t69_52 : g_at 69 52 = some (.iinc 3 (1), 0, 0, 1) := by decide +kernel
theorem t69_55 : g_at 69 55 = some (.goto (-51), 4, 0, 0) := by decide +kernel
theorem t69_58 : g_at 69 58 = some (.iload_n 2, 0, 0, 0) := by decide +kernel
theorem t69_59 : g_at 69 59 = some (.ireturn, 0, 0, 0) := by decide +kernel
theorem t70_0 : g_at 70 0 = some (.aload_n 0, 0, 0, 0) := by decide +kernel
theorem t70_1 : g_at 70 1 = some (.getfield 22, 4, 11, 0) := by decide +kernel
theorem t70_4 : g_at 70 4 = some (.iconst 1, 0, 0, 1) := by decide +kernel
theorem t70_5 : g_at 70 5 = some (.iaload, 0, 0, 0) := by decide +kernel
theorem t70_6 : g_at 70 6 = some (.iload_n 1, 0, 0, 0) := by decide +kernel
theorem t70_7 : g_at 70 7 = some (.invokestatic 111, 53, 2, 0) := by decide +kernel
theorem t70_10 : g_at 70 10 = some (.ifCond .eq (5), 15, 0, 0) := by decide +kernel
theorem t70_13 : g_at 70 13 = some (.iconst 1, 0, 0, 1) := by decide +kernel
theorem t70_14 : g_at 70 14 = some (.ireturn, 0, 0, 0) := by decide +kernel
theorem t70_15 : g_at 70 15 = some (.aload_n 0, 0, 0, 0) := by decide +kernel
theorem t70_16 : g_at 70 16 = some (.getfield 13, 4, 8, 0) := by decide +kernel
theorem t70_19 : g_at 70 19 = some (.iconst 4, 0, 0, 4) := by decide +kernel
theorem t70_20 : g_at 70 20 = some (.iload_n 1, 0, 0, 0) := by decide +kernel
theorem t70_21 : g_at 70 21 = some (.iadd, 0, 0, 0) := by decide +kernel
theorem t70_22 : g_at 70 22 = some (.iaload, 0, 0, 0) := by decide +kernel
theorem t70_23 : g_at 70 23 = some (.iconst 1, 0, 0, 1) := by decide +kernel
theorem t70_24 : g_at 70 24 = some (.if_icmp .ne (113), 137, 0, 0) := by decide +kernel
theorem t70_27 : g_at 70 27 = some (.aload_n 0, 0, 0, 0) := by decide +kernel
theorem t70_28 : g_at 70 28 = some (.getfield 13, 4, 8, 0) := by decide +kernel
theorem t70_31 : g_at 70 31 = some (.bipush (20), 0, 0, 20) := by decide +kernel
theorem t70_33 : g_at 70 33 = some (.iload_n 1, 0, 0, 0) := by decide +kernel
theorem t70_34 : g_at 70 34 = some (.iadd, 0, 0, 0) := by decide +kernel
theorem t70_35 : g_at 70 35 = some (.iaload, 0, 0, 0) := by decide +kernel
theorem t70_36 : g_at 70 36 = some (.istore_n 3, 0, 0, 0) := by decide +kernel
theorem t70_37 : g_at 70 37 = some (.aload_n 0, 0, 0, 0) := by decide +kernel
theorem t70_38 : g_at 70 38 = some (.getfield 13, 4, 8, 0) := by decide +kernel
theorem t70_41 : g_at 70 41 = some (.bipush (28), 0, 0, 28) := by decide +kernel
theorem t70_43 : g_at 70 43 = some (.iload_n 1, 0, 0, 0) := by decide +kernel
theorem t70_44 : g_at 70 44 = some (.iadd, 0, 0, 0) := by decide +kernel
theorem t70_45 : g_at 70 45 = some (.iaload, 0, 0, 0) := by decide +kernel
theorem t70_46 : g_at 70 46 = some (.istore 4, 0, 0, 0) := by decide +kernel
theorem t70_48 : g_at 70 48 = some (.aload_n 0, 0, 0, 0) := by decide +kernel
theorem t70_49 : g_at 70 49 = some (.aload_n 0, 0, 0, 0) := by decide +kernel
theorem t70_50 : g_at 70 50 = some (.getfield 13, 4, 8, 0) := by decide +kernel
theorem t70_53 : g_at 70 53 = some (.iload_n 2, 0, 0, 0) := by decide +kernel
theorem t70_54 : g_at 70 54 = some (.iconst 1, 0, 0, 1) := by decide +kernel
theorem t70_55 : g_at 70 55 = some (.iload_n 1, 0, 0, 0) := by decide +kernel
theorem t70_56 : g_at 70 56 = some (.ishl, 0, 0, 0) := by decide +kernel
theorem t70_57 : g_at 70 57 = some (.iconst (-1), 0, 0, (-1)) := by decide +kernel
theorem t70_58 : g_at 70 58 = some (.ixor, 0, 0, 0) := by decide +kernel
theorem t70_59 : g_at 70 59 = some (.iand, 0, 0, 0) := by decide +kernel
theorem t70_60 : g_at 70 60 = some (.invokevirtual 135, 61, 2, 0) := by decide +kernel
theorem t70_63 : g_at 70 63 = some (.istore 5, 0, 0, 0) := by decide +kernel
theorem t70_65 : g_at 70 65 = some (.iload 5, 0, 0, 0) := by decide +kernel
theorem t70_67 : g_at 70 67 = some (.iload_n 3, 0, 0, 0) := by decide +kernel
theorem t70_68 : g_at 70 68 = some (.invokestatic 111, 53, 2, 0) := by decide +kernel
theorem t70_71 : g_at 70 71 = some (.istore 6, 0, 0, 0) := by decide +kernel
theorem t70_73 : g_at 70 73 = some (.iload 5, 0, 0, 0) := by decide +kernel
theorem t70_75 : g_at 70 75 = some (.iload 4, 0, 0, 0) := by decide +kernel
theorem t70_77 : g_at 70 77 = some (.invokestatic 111, 53, 2, 0) := by decide +kernel
theorem t70_80 : g_at 70 80 = some (.istore 7, 0, 0, 0) := by decide +kernel
theorem t70_82 : g_at 70 82 = some (.aload_n 0, 0, 0, 0) := by decide +kernel
theorem t70_83 : g_at 70 83 = some (.getfield 44, 4, 21, 0) := by decide +kernel
theorem t70_86 : g_at 70 86 = some (.iload_n 3, 0, 0, 0) := by decide +kernel
theorem t70_87 : g_at 70 87 = some (.iaload, 0, 0, 0) := by decide +kernel
theorem t70_88 : g_at 70 88 = some (.aload_n 0, 0, 0, 0) := by decide +kernel
theorem t70_89 : g_at 70 89 = some (.getfield 44, 4, 21, 0) := by decide +kernel
theorem t70_92 : g_at 70 92 = some (.iload 4, 0, 0, 0) := by decide +kernel
theorem t70_94 : g_at 70 94 = some (.iaload, 0, 0, 0) := by decide +kernel
theorem t70_95 : g_at 70 95 = some (.if_icmp .eq (42), 137, 0, 0) := by decide +kernel
theorem t70_98 : g_at 70 98 = some (.iload 6, 0, 0, 0) := by decide +kernel
theorem t70_100 : g_at 70 100 = some (.ifCond .eq (8), 108, 0, 0) := by decide +kernel
theorem t70_103 : g_at 70 103 = some (.iload 7, 0, 0, 0) := by decide +kernel
theorem t70_105 : g_at 70 105 = some (.ifCond .ne (30), 135, 0, 0) := by decide +kernel
theorem t70_108 : g_at 70 108 = some (.iload 6, 0, 0, 0) := by decide +kernel
theorem t70_110 : g_at 70 110 = some (.ifCond .eq (12), 122, 0, 0) := by decide +kernel
theorem t70_113 : g_at 70 113 = some (.aload_n 0, 0, 0, 0) := by decide +kernel
theorem t70_114 : g_at 70 114 = some (.iload 4, 0, 0, 0) := by decide +kernel
theorem t70_116 : g_at 70 116 = some (.invokevirtual 157, 69, 1, 0) := by decide +kernel
theorem t70_119 : g_at 70 119 = some (.ifCond .ne (16), 135, 0, 0) := by decide +kernel
theorem t70_122 : g_at 70 122 = some (.iload 7, 0, 0, 0) := by decide +kernel
theorem t70_124 : g_at 70 124 = some (.ifCond .eq (13), 137, 0, 0) := by decide +kernel
theorem t70_127 : g_at 70 127 = some (.aload_n 0, 0, 0, 0) := by decide +kernel
theorem t70_128 : g_at 70 128 = some (.iload_n 3, 0, 0, 0) := by decide +kernel
theorem t70_129 : g_at 70 129 = some (.invokevirtual 157, 69, 1, 0) := by decide +kernel
theorem t70_132 : g_at 70 132 = some (.ifCond .eq (5), 137, 0, 0) := by decide +kernel
theorem t70_135 : g_at 70 135 = some (.iconst 2, 0, 0, 2) := by decide +kernel
theorem t70_136 : g_at 70 136 = some (.ireturn, 0, 0, 0) := by decide +kernel
theorem t70_137 : g_at 70 137 = some (.iload_n 2, 0, 0, 0) := by decide +kernel
theorem t70_138 : g_at 70 138 = some (.iconst 1, 0, 0, 1) := by decide +kernel
theorem t70_139 : g_at 70 139 = some (.iload_n 1, 0, 0, 0) := by decide +kernel
theorem t70_140 : g_at 70 140 = some (.ishl, 0, 0, 0) := by decide +kernel
theorem t70_141 : g_at 70 141 = some (.ixor, 0, 0, 0) := by decide +kernel
theorem t70_142 : g_at 70 142 = some (.istore_n 3, 0, 0, 0) := by decide +kernel
theorem t70_143 : g_at 70 143 = some (.aload_n 0, 0, 0, 0) := by decide +kernel
theorem t70_144 : g_at 70 144 = some (.aload_n 0, 0, 0, 0) := by decide +kernel
theorem t70_145 : g_at 70 145 = some (.getfield 13, 4, 8, 0) := by decide +kernel
theorem t70_148 : g_at 70 148 = some (.iload_n 3, 0, 0, 0) := by decide +kernel
theorem t70_149 : g_at 70 149 = some (.invokevirtual 135, 61, 2, 0) := by decide +kernel
theorem t70_152 : g_at 70 152 = some (.aload_n 0, 0, 0, 0) := by decide +kernel
theorem t70_153 : g_at 70 153 = some (.aload_n 0, 0, 0, 0) := by decide +kernel
theorem t70_154 : g_at 70 154 = some (.getfield 13, 4, 8, 0) := by decide +kernel
theorem t70_157 : g_at 70 157 = some (.iload_n 3, 0, 0, 0) := by decide +kernel
theorem t70_158 : g_at 70 158 = some (.invokevirtual 138, 62, 2, 0) := by decide +kernel
theorem t70_161 : g_at 70 161 = some (.iand, 0, 0, 0) := by decide +kernel
theorem t70_162 : g_at 70 162 = some (.ifCond .ne (7), 169, 0, 0) := by decide +kernel
theorem t70_165 : g_at 70 165 = some (.iconst 0, 0, 0, 0) := by decide +kernel
theorem t70_166 : g_at 70 166 = some (.goto (4), 170, 0, 0) := by decide +kernel
theorem t70_169 : g_at 70 169 = some (.iconst 3, 0, 0, 3) := by decide +kernel
theorem t70_170 : g_at 70 170 = some (.ireturn, 0, 0, 0) := by decide +kernel
theorem t71_0 : g_at 71 0 = some (.aload_n 0, 0, 0, 0) := by decide +kernel
theorem t71_1 : g_at 71 1 = some (.iconst 0, 0, 0, 0) := by decide +kernel
theorem t71_2 : g_at 71 2 = some (.putfield 62, 4, 0, 0) := by decide +kernel
theorem t71_5 : g_at 71 5 = some (.aload_n 0, 0, 0, 0) := by decide +kernel
theorem t71_6 : g_at 71 6 = some (.iload_n 1, 0, 0, 0) := by decide +kernel
theorem t71_7 : g_at 71 7 = some (.invokevirtual 160, 68, 1, 0) := by decide +kernel
theorem t71_10 : g_at 71 10 = some (.ifCond .eq (13), 23, 0, 0) := by decide +kernel
theorem t71_13 : g_at 71 13 = some (.iload_n 2, 0, 0, 0) := by decide +kernel
theorem t71_14 : g_at 71 14 = some (.iconst 0, 0, 0, 0) := by decide +kernel
theorem t71_15 : g_at 71 15 = some (.bipush (6), 0, 0, 6) := by decide +kernel
theorem t71_17 : g_at 71 17 = some (.invokestatic 66, 10, 3, 0) := by decide +kernel
theorem t71_20 : g_at 71 20 = some (.ifCond .ne (5), 25, 0, 0) := by decide +kernel
theorem t71_23 : g_at 71 23 = some (.iconst (-1), 0, 0, (-1)) := by decide +kernel
theorem t71_24 : g_at 71 24 = some (.ireturn, 0, 0, 0) := by decide +kernel
theorem t71_25 : g_at 71 25 = some (.iload_n 2, 0, 0, 0) := by decide +kernel
theorem t71_26 : g_at 71 26 = some (.iconst 4, 0, 0, 4) := by decide +kernel
theorem t71_27 : g_at 71 27 = some (.if_icmp .ge (62), 89, 0, 0) := by decide +kernel
theorem t71_30 : g_at 71 30 = some (.iload_n 2, 0, 0, 0) := by decide +kernel
theorem t71_31 : g_at 71 31 = some (.ifCond .ne (14), 45, 0, 0) := by decide +kernel
theorem t71_34 : g_at 71 34 = some (.aload_n 0, 0, 0, 0) := by decide +kernel
theorem t71_35 : g_at 71 35 = some (.getfield 13, 4, 8, 0) := by decide +kernel
theorem t71_38 : g_at 71 38 = some (.iconst 4, 0, 0, 4) := by decide +kernel
theorem t71_39 : g_at 71 39 = some (.iload_n 1, 0, 0, 0) := by decide +kernel
theorem t71_40 : g_at 71 40 = some (.iadd, 0, 0, 0) := by decide +kernel
theorem t71_41 : g_at 71 41 = some (.iaload, 0, 0, 0) := by decide +kernel
theorem t71_42 : g_at 71 42 = some (.goto (46), 88, 0, 0) := by decide +kernel
theorem t71_45 : g_at 71 45 = some (.iload_n 2, 0, 0, 0) := by decide +kernel
theorem t71_46 : g_at 71 46 = some (.iconst 1, 0, 0, 1) := by decide +kernel
theorem t71_47 : g_at 71 47 = some (.if_icmp .ne (15), 62, 0, 0) := by decide +kernel
theorem t71_50 : g_at 71 50 = some (.aload_n 0, 0, 0, 0) := by decide +kernel
theorem t71_51 : g_at 71 51 = some (.getfield 13, 4, 8, 0) := by decide +kernel
theorem t71_54 : g_at 71 54 = some (.bipush (12), 0, 0, 12) := by decide +kernel
theorem t71_56 : g_at 71 56 = some (.iload_n 1, 0, 0, 0) := by decide +kernel
theorem t71_57 : g_at 71 57 = some (.iadd, 0, 0, 0) := by decide +kernel
theorem t71_58 : g_at 71 58 = some (.iaload, 0, 0, 0) := by decide +kernel
theorem t71_59 : g_at 71 59 = some (.goto (29), 88, 0, 0) := by decide +kernel
theorem t71_62 : g_at 71 62 = some (.iload_n 2, 0, 0, 0) := by decide +kernel
theorem t71_63 : g_at 71 63 = some (.iconst 2, 0, 0, 2) := by decide +kernel
theorem t71_64 : g_at 71 64 = some (.if_icmp .ne (15), 79, 0, 0) := by decide +kernel
theorem t71_67 : g_at 71 67 = some (.aload_n 0, 0, 0, 0) := by decide +kernel
theorem t71_68 : g_at 71 68 = some (.getfield 13, 4, 8, 0) := by decide +kernel
theorem t71_71 : g_at 71 71 = some (.bipush (20), 0, 0, 20) := by decide +kernel
theorem t71_73 : g_at 71 73 = some (.iload_n 1, 0, 0, 0) := by decide +kernel
theorem t71_74 : g_at 71 74 = some (.iadd, 0, 0, 0) := by decide +kernel
theorem t71_75 : g_at 71 75 = some (.iaload, 0, 0, 0) := by decide +kernel
theorem t71_76 : g_at 71 76 = some (.goto (12), 88, 0, 0) := by decide +kernel
theorem t71_79 : g_at 71 79 = some (.aload_n 0, 0, 0, 0) := by decide +kernel
theorem t71_80 : g_at 71 80 = some (.getfield 13, 4, 8, 0) := by decide +kernel
theorem t71_83 : g_at 71 83 = some (.bipush (28), 0, 0, 28) := by decide +kernel
theorem t71_85 : g_at 71 85 = some (.iload_n 1, 0, 0, 0) := by decide +kernel
theorem t71_86 : g_at 71 86 = some (.iadd, 0, 0, 0) := by decide +kernel
theorem t71_87 : g_at 71 87 = some (.iaload, 0, 0, 0) := by decide +kernel
theorem t71_88 : g_at 71 88 = some (.ireturn, 0, 0, 0) := by decide +kernel
theorem t71_89 : g_at 71 89 = some (.iload_n 2, 0, 0, 0) := by decide +kernel
theorem t71_90 : g_at 71 90 = some (.iconst 4, 0, 0, 4) := by decide +kernel
theorem t71_91 : g_at 71 91 = some (.if_icmp .ne (16), 107, 0, 0) := by decide +kernel
theorem t71_94 : g_at 71 94 = some (.aload_n 0, 0, 0, 0) := by decide +kernel
theorem t71_95 : g_at 71 95 = some (.getfield 22, 4, 11, 0) := by decide +kernel
theorem t71_98 : g_at 71 98 = some (.iconst 0, 0, 0, 0) := by decide +kernel
theorem t71_99 : g_at 71 99 = some (.iaload, 0, 0, 0) := by decide +kernel
theorem t71_100 : g_at 71 100 = some (.iload_n 1, 0, 0, 0) := by decide +kernel
theorem t71_101 : g_at 71 101 = some (.ishr, 0, 0, 0) := by decide +kernel
theorem t71_102 : g_at 71 102 = some (.iconst 1, 0, 0, 1) := by decide +kernel
theorem t71_103 : g_at 71 103 = some (.iand, 0, 0, 0) := by decide +kernel
theorem t71_104 : g_at 71 104 = some (.goto (32), 136, 0, 0) := by decide +kernel
theorem t71_107 : g_at 71 107 = some (.iload_n 2, 0, 0, 0) := by decide +kernel
theorem t71_108 : g_at 71 108 = some (.iconst 5, 0, 0, 5) := by decide +kernel
theorem t71_109 : g_at 71 109 = some (.if_icmp .ne (16), 125, 0, 0) := by decide +kernel
theorem t71_112 : g_at 71 112 = some (.aload_n 0, 0, 0, 0) := by decide +kernel
theorem t71_113 : g_at 71 113 = some (.getfield 22, 4, 11, 0) := by decide +kernel
theorem t71_116 : g_at 71 116 = some (.iconst 1, 0, 0, 1) := by decide +kernel
theorem t71_117 : g_at 71 117 = some (.iaload, 0, 0, 0) := by decide +kernel
theorem t71_118 : g_at 71 118 = some (.iload_n 1, 0, 0, 0) := by decide +kernel
theorem t71_119 : g_at 71 119 = some (.ishr, 0, 0, 0) := by decide +kernel
theorem t71_120 : g_at 71 120 = some (.iconst 1, 0, 0, 1) := by decide +kernel
theorem t71_121 : g_at 71 121 = some (.iand, 0, 0, 0) := by decide +kernel
theorem t71_122 : g_at 71 122 = some (.goto (14), 136, 0, 0) := by decide +kernel
theorem t71_125 : g_at 71 125 = some (.aload_n 0, 0, 0, 0) := by decide +kernel
theorem t71_126 : g_at 71 126 = some (.iload_n 1, 0, 0, 0) := by decide +kernel
theorem t71_127 : g_at 71 127 = some (.aload_n 0, 0, 0, 0) := by decide +kernel
theorem t71_128 : g_at 71 128 = some (.getfield 22, 4, 11, 0) := by decide +kernel
theorem t71_131 : g_at 71 131 = some (.iconst 0, 0, 0, 0) := by decide +kernel
theorem t71_132 : g_at 71 132 = some (.iaload, 0, 0, 0) := by decide +kernel
theorem t71_133 : g_at 71 133 = some (.invokevirtual 163, 70, 2, 0) := by decide +kernel
theorem t71_136 : g_at 71 136 = some (.ireturn, 0, 0, 0) := by decide +kernel
theorem t72_0 : g_at 72 0 = some (.iload_n 1, 0, 0, 0) := by decide +kernel
theorem t72_1 : g_at 72 1 = some (.invokestatic 109, 17, 1, 0) := by decide +kernel
theorem t72_4 : g_at 72 4 = some (.ifCond .ne (5), 9, 0, 0) := by decide +kernel
theorem t72_7 : g_at 72 7 = some (.iconst (-1), 0, 0, (-1)) := by decide +kernel
theorem t72_8 : g_at 72 8 = some (.ireturn, 0, 0, 0) := by decide +kernel
theorem t72_9 : g_at 72 9 = some (.iconst 0, 0, 0, 0) := by decide +kernel
theorem t72_10 : g_at 72 10 = some (.istore_n 2, 0, 0, 0) := by decide +kernel
theorem t72_11 : g_at 72 11 = some (.iload_n 2, 0, 0, 0) := by decide +kernel
theorem t72_12 : g_at 72 12 = some (.aload_n 0, 0, 0, 0) := by decide +kernel
theorem t72_13 : g_at 72 13 = some (.getfield 26, 3, 2, 0) := by decide +kernel
theorem t72_16 : g_at 72 16 = some (.getfield 112, 1, 3, 0) := by decide +kernel
theorem t72_19 : g_at 72 19 = some (.if_icmp .ge (24), 43, 0, 0) := by decide +kernel
theorem t72_22 : g_at 72 22 = some (.aload_n 0, 0, 0, 0) := by decide +kernel
theorem t72_23 : g_at 72 23 = some (.getfield 26, 3, 2, 0) := by decide +kernel
theorem t72_26 : g_at 72 26 = some (.getfield 86, 1, 7, 0) := by decide +kernel
theorem t72_29 : g_at 72 29 = some (.iload_n 2, 0, 0, 0) := by decide +kernel
theorem t72_30 : g_at 72 30 = some (.iaload, 0, 0, 0) := by decide +kernel
theorem t72_31 : g_at 72 31 = some (.iload_n 1, 0, 0, 0) := by decide +kernel
theorem t72_32 : g_at 72 32 = some (.if_icmp .ne (5), 37, 0, 0) := by decide +kernel
theorem t72_35 : g_at 72 35 = some (.iload_n 2, 0, 0, 0) := by decide +kernel
theorem t72_36 : g_at 72 36 = some (.ireturn, 0, 0, 0) := by decide +kernel
theorem t72_37 : g_at 72 37 = some (.iinc 2 (1), 0, 0, 1) := by decide +kernel
theorem t72_40 : g_at 72 40 = some (.goto (-29), 11, 0, 0) := by decide +kernel
theorem t72_43 : g_at 72 43 = some (.bipush (-9), 0, 0, (-9)) := by decide +kernel
theorem t72_45 : g_at 72 45 = some (.ireturn, 0, 0, 0) := by decide +kernel
theorem t73_0 : g_at 73 0 = some (.aload_n 0, 0, 0, 0) := by decide +kernel
theorem t73_1 : g_at 73 1 = some (.iconst 0, 0, 0, 0) := by decide +kernel
theorem t73_2 : g_at 73 2 = some (.putfield 62, 4, 0, 0) := by decide +kernel
theorem t73_5 : g_at 73 5 = some (.iload_n 1, 0, 0, 0) := by decide +kernel
theorem t73_6 : g_at 73 6 = some (.bipush (97), 0, 0, 97) := by decide +kernel
theorem t73_8 : g_at 73 8 = some (.bipush (122), 0, 0, 122) := by decide +kernel
theorem t73_10 : g_at 73 10 = some (.invokestatic 66, 10, 3, 0) := by decide +kernel
theorem t73_13 : g_at 73 13 = some (.ifCond .eq (14), 27, 0, 0) := by decide +kernel
theorem t73_16 : g_at 73 16 = some (.aload_n 0, 0, 0, 0) := by decide +kernel
theorem t73_17 : g_at 73 17 = some (.getfield 13, 4, 8, 0) := by decide +kernel
theorem t73_20 : g_at 73 20 = some (.iload_n 1, 0, 0, 0) := by decide +kernel
theorem t73_21 : g_at 73 21 = some (.invokestatic 99, 52, 2, 0) := by decide +kernel
theorem t73_24 : g_at 73 24 = some (.goto (4), 28, 0, 0) := by decide +kernel
theorem t73_27 : g_at 73 27 = some (.iconst (-1), 0, 0, (-1)) := by decide +kernel
theorem t73_28 : g_at 73 28 = some (.ireturn, 0, 0, 0) := by decide +kernel
theorem t74_0 : g_at 74 0 = some (.iload_n 1, 0, 0, 0) := by decide +kernel
theorem t74_1 : g_at 74 1 = some (.ifCond .lt (18), 19, 0, 0) := by decide +kernel
theorem t74_4 : g_at 74 4 = some (.iload_n 1, 0, 0, 0) := by decide +kernel
theorem t74_5 : g_at 74 5 = some (.aload_n 0, 0, 0, 0) := by decide +kernel
theorem t74_6 : g_at 74 6 = some (.getfield 26, 3, 2, 0) := by decide +kernel
theorem t74_9 : g_at 74 9 = some (.getfield 202, 1, 0, 0) := by decide +kernel
theorem t74_12 : g_at 74 12 = some (.if_icmp .ge (7), 19, 0, 0) := by decide +kernel
theorem t74_15 : g_at 74 15 = some (.iconst 1, 0, 0, 1) := by decide +kernel
theorem t74_16 : g_at 74 16 = some (.goto (4), 20, 0, 0) := by decide +kernel
theorem t74_19 : g_at 74 19 = some (.iconst 0, 0, 0, 0) := by decide +kernel
theorem t74_20 : g_at 74 20 = some (.ireturn, 0, 0, 0) := by decide +kernel
theorem t75_0 : g_at 75 0 = some (.aload_n 0, 0, 0, 0) := by decide +kernel
theorem t75_1 : g_at 75 1 = some (.iload_n 1, 0, 0, 0) := by decide +kernel
theorem t75_2 : g_at 75 2 = some (.invokevirtual 93, 37, 1, 0) := by decide +kernel
theorem t75_5 : g_at 75 5 = some (.iconst 0, 0, 0, 0) := by decide +kernel
theorem t75_6 : g_at 75 6 = some (.istore_n 3, 0, 0, 0) := by decide +kernel
theorem t75_7 : g_at 75 7 = some (.iload_n 3, 0, 0, 0) := by decide +kernel
theorem t75_8 : g_at 75 8 = some (.iload_n 2, 0, 0, 0) := by decide +kernel
theorem t75_9 : g_at 75 9 = some (.if_icmp .ge (22), 31, 0, 0) := by decide +kernel
theorem t75_12 : g_at 75 12 = some (.aload_n 0, 0, 0, 0) := by decide +kernel
theorem t75_13 : g_at 75 13 = some (.getfield 37, 1, 13, 0) := by decide +kernel
theorem t75_16 : g_at 75 16 = some (.iload_n 2, 0, 0, 0) := by decide +kernel
theorem t75_17 : g_at 75 17 = some (.iaload, 0, 0, 0) := by decide +kernel
theorem t75_18 : g_at 75 18 = some (.iload_n 3, 0, 0, 0) := by decide +kernel
theorem t75_19 : g_at 75 19 = some (.invokestatic 63, 19, 2, 0) := by decide +kernel
theorem t75_22 : g_at 75 22 = some (.ifCond .ne (9), 31, 0, 0) := by decide +kernel
theorem t75_25 : g_at 75 25 = some (.iinc 3 (1), 0, 0, 1) := by decide +kernel
theorem t75_28 : g_at 75 28 = some (.goto (-21), 7, 0, 0) := by decide +kernel
theorem t75_31 : g_at 75 31 = some (.iload_n 3, 0, 0, 0) := by decide +kernel
theorem t75_32 : g_at 75 32 = some (.ireturn, 0, 0, 0) := by decide +kernel
theorem t76_0 : g_at 76 0 = some (.aload_n 0, 0, 0, 0) := by decide +kernel
theorem t76_1 : g_at 76 1 = some (.iload_n 1, 0, 0, 0) := by decide +kernel
theorem t76_2 : g_at 76 2 = some (.invokevirtual 115, 74, 1, 0) := by decide +kernel
theorem t76_5 : g_at 76 5 = some (.ifCond .ne (5), 10, 0, 0) := by decide +kernel
theorem t76_8 : g_at 76 8 = some (.iconst (-1), 0, 0, (-1)) := by decide +kernel
theorem t76_9 : g_at 76 9 = some (.ireturn, 0, 0, 0) := by decide +kernel
theorem t76_10 : g_at 76 10 = some (.iload_n 2, 0, 0, 0) := by decide +kernel
theorem t76_11 : g_at 76 11 = some (.tableswitch (104) (0) (4) #[33, 50, 67, 80, 92], 0, 0, 0) := by decide +kernel
theorem t76_44 : g_at 76 44 = some (.aload_n 0, 0, 0, 0) := by decide +kernel
theorem t76_45 : g_at 76 45 = some (.getfield 26, 3, 2, 0) := by decide +kernel
theorem t76_48 : g_at 76 48 = some (.getfield 118, 1, 10, 0) := by decide +kernel
theorem t76_51 : g_at 76 51 = some (.aload_n 0, 0, 0, 0) := by decide +kernel
theorem t76_52 : g_at 76 52 = some (.getfield 95, 3, 4, 0) := by decide +kernel
theorem t76_55 : g_at 76 55 = some (.iaload, 0, 0, 0) := by decide +kernel
theorem t76_56 : g_at 76 56 = some (.iload_n 1, 0, 0, 0) := by decide +kernel
theorem t76_57 : g_at 76 57 = some (.invokestatic 98, 19, 2, 0) := by decide +kernel
theorem t76_60 : g_at 76 60 = some (.ireturn, 0, 0, 0) := by decide +kernel
theorem t76_61 : g_at 76 61 = some (.aload_n 0, 0, 0, 0) := by decide +kernel
theorem t76_62 : g_at 76 62 = some (.getfield 26, 3, 2, 0) := by decide +kernel
theorem t76_65 : g_at 76 65 = some (.getfield 121, 1, 11, 0) := by decide +kernel
theorem t76_68 : g_at 76 68 = some (.aload_n 0, 0, 0, 0) := by decide +kernel
theorem t76_69 : g_at 76 69 = some (.getfield 95, 3, 4, 0) := by decide +kernel
theorem t76_72 : g_at 76 72 = some (.iaload, 0, 0, 0) := by decide +kernel
theorem t76_73 : g_at 76 73 = some (.iload_n 1, 0, 0, 0) := by decide +kernel
theorem t76_74 : g_at 76 74 = some (.invokestatic 98, 19, 2, 0) := by decide +kernel
theorem t76_77 : g_at 76 77 = some (.ireturn, 0, 0, 0) := by decide +kernel
theorem t76_78 : g_at 76 78 = some (.aload_n 0, 0, 0, 0) := by decide +kernel
theorem t76_79 : g_at 76 79 = some (.getfield 26, 3, 2, 0) := by decide +kernel
theorem t76_82 : g_at 76 82 = some (.aload_n 0, 0, 0, 0) := by decide +kernel
theorem t76_83 : g_at 76 83 = some (.getfield 95, 3, 4, 0) := by decide +kernel
theorem t76_86 : g_at 76 86 = some (.iload_n 1, 0, 0, 0) := by decide +kernel
theorem t76_87 : g_at 76 87 = some (.invokevirtual 124, 75, 2, 0) := by decide +kernel
theorem t76_90 : g_at 76 90 = some (.ireturn, 0, 0, 0) := by decide +kernel
theorem t76_91 : g_at 76 91 = some (.aload_n 0, 0, 0, 0) := by decide +kernel
theorem t76_92 : g_at 76 92 = some (.getfield 26, 3, 2, 0) := by decide +kernel
theorem t76_95 : g_at 76 95 = some (.getfield 127, 1, 1, 0) := by decide +kernel
theorem t76_98 : g_at 76 98 = some (.iload_n 1, 0, 0, 0) := by decide +kernel
theorem t76_99 : g_at 76 99 = some (.invokestatic 98, 19, 2, 0) := by decide +kernel
theorem t76_102 : g_at 76 102 = some (.ireturn, 0, 0, 0) := by decide +kernel
theorem t76_103 : g_at 76 103 = some (.aload_n 0, 0, 0, 0) := by decide +kernel
theorem t76_104 : g_at 76 104 = some (.getfield 26, 3, 2, 0) := by decide +kernel
theorem t76_107 : g_at 76 107 = some (.getfield 130, 1, 2, 0) := by decide +kernel
theorem t76_110 : g_at 76 110 = some (.iload_n 1, 0, 0, 0) := by decide +kernel
theorem t76_111 : g_at 76 111 = some (.invokestatic 98, 19, 2, 0) := by decide +kernel
theorem t76_114 : g_at 76 114 = some (.ireturn, 0, 0, 0) := by decide +kernel
theorem t76_115 : g_at 76 115 = some (.iconst (-1), 0, 0, (-1)) := by decide +kernel
theorem t76_116 : g_at 76 116 = some (.ireturn, 0, 0, 0) := by decide +kernel
theorem t77_0 : g_at 77 0 = some (.iload_n 1, 0, 0, 0) := by decide +kernel
theorem t77_1 : g_at 77 1 = some (.iconst 0, 0, 0, 0) := by decide +kernel
theorem t77_2 : g_at 77 2 = some (.aload_n 0, 0, 0, 0) := by decide +kernel
theorem t77_3 : g_at 77 3 = some (.getfield 13, 4, 8, 0) := by decide +kernel
theorem t77_6 : g_at 77 6 = some (.iconst 0, 0, 0, 0) := by decide +kernel
theorem t77_7 : g_at 77 7 = some (.iaload, 0, 0, 0) := by decide +kernel
theorem t77_8 : g_at 77 8 = some (.iconst 1, 0, 0, 1) := by decide +kernel
theorem t77_9 : g_at 77 9 = some (.isub, 0, 0, 0) := by decide +kernel
theorem t77_10 : g_at 77 10 = some (.invokestatic 66, 10, 3, 0) := by decide +kernel
theorem t77_13 : g_at 77 13 = some (.ireturn, 0, 0, 0) := by decide +kernel
theorem t78_0 : g_at 78 0 = some (.aload_n 0, 0, 0, 0) := by decide +kernel
theorem t78_1 : g_at 78 1 = some (.iconst 0, 0, 0, 0) := by decide +kernel
theorem t78_2 : g_at 78 2 = some (.putfield 62, 4, 0, 0) := by decide +kernel
theorem t78_5 : g_at 78 5 = some (.aload_n 0, 0, 0, 0) := by decide +kernel
theorem t78_6 : g_at 78 6 = some (.iload_n 1, 0, 0, 0) := by decide +kernel
theorem t78_7 : g_at 78 7 = some (.invokevirtual 167, 77, 1, 0) := by decide +kernel
theorem t78_10 : g_at 78 10 = some (.ifCond .eq (12), 22, 0, 0) := by decide +kernel
theorem t78_13 : g_at 78 13 = some (.iload_n 2, 0, 0, 0) := by decide +kernel
theorem t78_14 : g_at 78 14 = some (.iconst 0, 0, 0, 0) := by decide +kernel
theorem t78_15 : g_at 78 15 = some (.iconst 4, 0, 0, 4) := by decide +kernel
theorem t78_16 : g_at 78 16 = some (.invokestatic 66, 10, 3, 0) := by decide +kernel
theorem t78_19 : g_at 78 19 = some (.ifCond .ne (5), 24, 0, 0) := by decide +kernel
theorem t78_22 : g_at 78 22 = some (.iconst (-1), 0, 0, (-1)) := by decide +kernel
theorem t78_23 : g_at 78 23 = some (.ireturn, 0, 0, 0) := by decide +kernel
theorem t78_24 : g_at 78 24 = some (.iload_n 2, 0, 0, 0) := by decide +kernel
theorem t78_25 : g_at 78 25 = some (.iconst 2, 0, 0, 2) := by decide +kernel
theorem t78_26 : g_at 78 26 = some (.if_icmp .le (28), 54, 0, 0) := by decide +kernel
theorem t78_29 : g_at 78 29 = some (.iload_n 2, 0, 0, 0) := by decide +kernel
theorem t78_30 : g_at 78 30 = some (.iconst 3, 0, 0, 3) := by decide +kernel
theorem t78_31 : g_at 78 31 = some (.if_icmp .ne (12), 43, 0, 0) := by decide +kernel
theorem t78_34 : g_at 78 34 = some (.aload_n 0, 0, 0, 0) := by decide +kernel
theorem t78_35 : g_at 78 35 = some (.getfield 13, 4, 8, 0) := by decide +kernel
theorem t78_38 : g_at 78 38 = some (.iconst 1, 0, 0, 1) := by decide +kernel
theorem t78_39 : g_at 78 39 = some (.iaload, 0, 0, 0) := by decide +kernel
theorem t78_40 : g_at 78 40 = some (.goto (9), 49, 0, 0) := by decide +kernel
theorem t78_43 : g_at 78 43 = some (.aload_n 0, 0, 0, 0) := by decide +kernel
theorem t78_44 : g_at 78 44 = some (.getfield 13, 4, 8, 0) := by decide +kernel
theorem t78_47 : g_at 78 47 = some (.iconst 2, 0, 0, 2) := by decide +kernel
theorem t78_48 : g_at 78 48 = some (.iaload, 0, 0, 0) := by decide +kernel
theorem t78_49 : g_at 78 49 = some (.iload_n 1, 0, 0, 0) := by decide +kernel
theorem t78_50 : g_at 78 50 = some (.ishr, 0, 0, 0) := by decide +kernel
theorem t78_51 : g_at 78 51 = some (.iconst 1, 0, 0, 1) := by decide +kernel
theorem t78_52 : g_at 78 52 = some (.iand, 0, 0, 0) := by decide +kernel
theorem t78_53 : g_at 78 53 = some (.ireturn, 0, 0, 0) := by decide +kernel
theorem t78_54 : g_at 78 54 = some (.aload_n 0, 0, 0, 0) := by decide +kernel
theorem t78_55 : g_at 78 55 = some (.aload_n 0, 0, 0, 0) := by decide +kernel
theorem t78_56 : g_at 78 56 = some (.getfield 13, 4, 8, 0) := by decide +kernel
theorem t78_59 : g_at 78 59 = some (.aload_n 0, 0, 0, 0) := by decide +kernel
theorem t78_60 : g_at 78 60 = some (.getfield 22, 4, 11, 0) := by decide +kernel
theorem t78_63 : g_at 78 63 = some (.iconst 0, 0, 0, 0) := by decide +kernel
theorem t78_64 : g_at 78 64 = some (.iaload, 0, 0, 0) := by decide +kernel
theorem t78_65 : g_at 78 65 = some (.invokevirtual 135, 61, 2, 0) := by decide +kernel
theorem t78_68 : g_at 78 68 = some (.istore_n 3, 0, 0, 0) := by decide +kernel
theorem t78_69 : g_at 78 69 = some (.aload_n 0, 0, 0, 0) := by decide +kernel
theorem t78_70 : g_at 78 70 = some (.aload_n 0, 0, 0, 0) := by decide +kernel
theorem t78_71 : g_at 78 71 = some (.getfield 13, 4, 8, 0) := by decide +kernel
theorem t78_74 : g_at 78 74 = some (.aload_n 0, 0, 0, 0) := by decide +kernel
theorem t78_75 : g_at 78 75 = some (.getfield 22, 4, 11, 0) := by decide +kernel
theorem t78_78 : g_at 78 78 = some (.iconst 0, 0, 0, 0) := by decide +kernel
theorem t78_79 : g_at 78 79 = some (.iaload, 0, 0, 0) := by decide +kernel
theorem t78_80 : g_at 78 80 = some (.invokevirtual 138, 62, 2, 0) := by decide +kernel
theorem t78_83 : g_at 78 83 = some (.istore 4, 0, 0, 0) := by decide +kernel
theorem t78_85 : g_at 78 85 = some (.iload_n 2, 0, 0, 0) := by decide +kernel
theorem t78_86 : g_at 78 86 = some (.ifCond .ne (11), 97, 0, 0) := by decide +kernel
theorem t78_89 : g_at 78 89 = some (.iload_n 3, 0, 0, 0) := by decide +kernel
theorem t78_90 : g_at 78 90 = some (.iload_n 1, 0, 0, 0) := by decide +kernel
theorem t78_91 : g_at 78 91 = some (.ishr, 0, 0, 0) := by decide +kernel
theorem t78_92 : g_at 78 92 = some (.iconst 1, 0, 0, 1) := by decide +kernel
theorem t78_93 : g_at 78 93 = some (.iand, 0, 0, 0) := by decide +kernel
theorem t78_94 : g_at 78 94 = some (.goto (23), 117, 0, 0) := by decide +kernel
theorem t78_97 : g_at 78 97 = some (.iload_n 2, 0, 0, 0) := by decide +kernel
theorem t78_98 : g_at 78 98 = some (.iconst 1, 0, 0, 1) := by decide +kernel
theorem t78_99 : g_at 78 99 = some (.if_icmp .ne (12), 111, 0, 0) := by decide +kernel
theorem t78_102 : g_at 78 102 = some (.iload 4, 0, 0, 0) := by decide +kernel
theorem t78_104 : g_at 78 104 = some (.iload_n 1, 0, 0, 0) := by decide +kernel
theorem t78_105 : g_at 78 105 = some (.ishr, 0, 0, 0) := by decide +kernel
theorem t78_106 : g_at 78 106 = some (.iconst 1, 0, 0, 1) := by decide +kernel
theorem t78_107 : g_at 78 107 = some (.iand, 0, 0, 0) := by decide +kernel
theorem t78_108 : g_at 78 108 = some (.goto (9), 117, 0, 0) := by decide +kernel
theorem t78_111 : g_at 78 111 = some (.aload_n 0, 0, 0, 0) := by decide +kernel
theorem t78_112 : g_at 78 112 = some (.getfield 44, 4, 21, 0) := by decide +kernel
theorem t78_115 : g_at 78 115 = some (.iload_n 1, 0, 0, 0) := by decide +kernel
theorem t78_116 : g_at 78 116 = some (.iaload, 0, 0, 0) := by decide +kernel
theorem t78_117 : g_at 78 117 = some (.ireturn, 0, 0, 0) := by decide +kernel
theorem t79_0 : g_at 79 0 = some (.iconst 0, 0, 0, 0) := by decide +kernel
theorem t79_1 : g_at 79 1 = some (.istore_n 1, 0, 0, 0) := by decide +kernel
theorem t79_2 : g_at 79 2 = some (.iconst 0, 0, 0, 0) := by decide +kernel
theorem t79_3 : g_at 79 3 = some (.istore_n 2, 0, 0, 0) := by decide +kernel
theorem t79_4 : g_at 79 4 = some (.iload_n 2, 0, 0, 0) := by decide +kernel
theorem t79_5 : g_at 79 5 = some (.aload_n 0, 0, 0, 0) := by decide +kernel
theorem t79_6 : g_at 79 6 = some (.getfield 26, 3, 2, 0) := by decide +kernel
theorem t79_9 : g_at 79 9 = some (.getfield 112, 1, 3, 0) := by decide +kernel
theorem t79_12 : g_at 79 12 = some (.if_icmp .ge (23), 35, 0, 0) := by decide +kernel
theorem t79_15 : g_at 79 15 = some (.aload_n 0, 0, 0, 0) := by decide +kernel
theorem t79_16 : g_at 79 16 = some (.iload_n 2, 0, 0, 0) := by decide +kernel
theorem t79_17 : g_at 79 17 = some (.invokevirtual 105, 66, 1, 0) := by decide +kernel
theorem t79_20 : g_at 79 20 = some (.ifCond .ne (9), 29, 0, 0) := by decide +kernel
theorem t79_23 : g_at 79 23 = some (.iload_n 1, 0, 0, 0) := by decide +kernel
theorem t79_24 : g_at 79 24 = some (.iconst 1, 0, 0, 1) := by decide +kernel
theorem t79_25 : g_at 79 25 = some (.iload_n 2, 0, 0, 0) := by decide +kernel
theorem t79_26 : g_at 79 26 = some (.ishl, 0, 0, 0) := by decide +kernel
theorem t79_27 : g_at 79 27 = some (.ior, 0, 0, 0) := by decide +kernel
theorem t79_28 : g_at 79 28 = some (.istore_n 1, 0, 0, 0) := by decide +kernel
theorem t79_29 : g_at 79 29 = some (.iinc 2 (1), 0, 0, 1) := by decide +kernel
theorem t79_32 : g_at 79 32 = some (.goto (-28), 4, 0, 0) := by decide +kernel
theorem t79_35 : g_at 79 35 = some (.iload_n 1, 0, 0, 0) := by decide +kernel
theorem t79_36 : g_at 79 36 = some (.ireturn, 0, 0, 0) := by decide +kernel
theorem t80_0 : g_at 80 0 = some (.iconst 0, 0, 0, 0) := by decide +kernel
theorem t80_1 : g_at 80 1 = some (.istore_n 2, 0, 0, 0) := by decide +kernel
theorem t80_2 : g_at 80 2 = some (.iconst 0, 0, 0, 0) := by decide +kernel
theorem t80_3 : g_at 80 3 = some (.istore_n 3, 0, 0, 0) := by decide +kernel
theorem t80_4 : g_at 80 4 = some (.iload_n 3, 0, 0, 0) := by decide +kernel
theorem t80_5 : g_at 80 5 = some (.aload_n 0, 0, 0, 0) := by decide +kernel
theorem t80_6 : g_at 80 6 = some (.getfield 9, 1, 0, 0) := by decide +kernel
theorem t80_9 : g_at 80 9 = some (.if_icmp .ge (22), 31, 0, 0) := by decide +kernel
theorem t80_12 : g_at 80 12 = some (.aload_n 0, 0, 0, 0) := by decide +kernel
theorem t80_13 : g_at 80 13 = some (.iload_n 1, 0, 0, 0) := by decide +kernel
theorem t80_14 : g_at 80 14 = some (.iload_n 3, 0, 0, 0) := by decide +kernel
theorem t80_15 : g_at 80 15 = some (.invokevirtual 119, 75, 2, 0) := by decide +kernel
theorem t80_18 : g_at 80 18 = some (.iload_n 3, 0, 0, 0) := by decide +kernel
theorem t80_19 : g_at 80 19 = some (.if_icmp .ne (6), 25, 0, 0) := by decide +kernel
theorem t80_22 : g_at 80 22 = some (.iinc 2 (1), 0, 0, 1) := by decide +kernel
theorem t80_25 : g_at 80 25 = some (.iinc 3 (1), 0, 0, 1) := by decide +kernel
theorem t80_28 : g_at 80 28 = some (.goto (-24), 4, 0, 0) := by decide +kernel
theorem t80_31 : g_at 80 31 = some (.iload_n 2, 0, 0, 0) := by decide +kernel
theorem t80_32 : g_at 80 32 = some (.ireturn, 0, 0, 0) := by decide +kernel
theorem t81_0 : g_at 81 0 = some (.iconst 0, 0, 0, 0) := by decide +kernel
theorem t81_1 : g_at 81 1 = some (.istore_n 2, 0, 0, 0) := by decide +kernel
theorem t81_2 : g_at 81 2 = some (.iconst 0, 0, 0, 0) := by decide +kernel
theorem t81_3 : g_at 81 3 = some (.istore_n 3, 0, 0, 0) := by decide +kernel
theorem t81_4 : g_at 81 4 = some (.iload_n 3, 0, 0, 0) := by decide +kernel
theorem t81_5 : g_at 81 5 = some (.aload_n 0, 0, 0, 0) := by decide +kernel
theorem t81_6 : g_at 81 6 = some (.getfield 26, 3, 2, 0) := by decide +kernel
theorem t81_9 : g_at 81 9 = some (.getfield 112, 1, 3, 0) := by decide +kernel
theorem t81_12 : g_at 81 12 = some (.if_icmp .ge (105), 117, 0, 0) := by decide +kernel
theorem t81_15 : g_at 81 15 = some (.aload_n 0, 0, 0, 0) := by decide +kernel
theorem t81_16 : g_at 81 16 = some (.getfield 102, 3, 5, 0) := by decide +kernel
theorem t81_19 : g_at 81 19 = some (.iload_n 3, 0, 0, 0) := by decide +kernel
theorem t81_20 : g_at 81 20 = some (.invokestatic 98, 19, 2, 0) := by decide +kernel
theorem t81_23 : g_at 81 23 = some (.iconst 1, 0, 0, 1) := by decide +kernel
theorem t81_24 : g_at 81 24 = some (.if_icmp .eq (87), 111, 0, 0) := by decide +kernel
theorem t81_27 : g_at 81 27 = some (.aload_n 0, 0, 0, 0) := by decide +kernel
theorem t81_28 : g_at 81 28 = some (.getfield 26, 3, 2, 0) := by decide +kernel
theorem t81_31 : g_at 81 31 = some (.iload_n 1, 0, 0, 0) := by decide +kernel
theorem t81_32 : g_at 81 32 = some (.iload_n 3, 0, 0, 0) := by decide +kernel
theorem t81_33 : g_at 81 33 = some (.invokevirtual 225, 65, 2, 0) := by decide +kernel
theorem t81_36 : g_at 81 36 = some (.ifCond .eq (6), 42, 0, 0) := by decide +kernel
theorem t81_39 : g_at 81 39 = some (.goto (72), 111, 0, 0) := by decide +kernel
theorem t81_42 : g_at 81 42 = some (.iload_n 1, 0, 0, 0) := by decide +kernel
theorem t81_43 : g_at 81 43 = some (.iconst 1, 0, 0, 1) := by decide +kernel
theorem t81_44 : g_at 81 44 = some (.iload_n 3, 0, 0, 0) := by decide +kernel
theorem t81_45 : g_at 81 45 = some (.ishl, 0, 0, 0) := by decide +kernel
theorem t81_46 : g_at 81 46 = some (.ixor, 0, 0, 0) := by decide +kernel
theorem t81_47 : g_at 81 47 = some (.istore 4, 0, 0, 0) := by decide +kernel
theorem t81_49 : g_at 81 49 = some (.aload_n 0, 0, 0, 0) := by decide +kernel
theorem t81_50 : g_at 81 50 = some (.getfield 49, 3, 15, 0) := by decide +kernel
theorem t81_53 : g_at 81 53 = some (.iload_n 1, 0, 0, 0) := by decide +kernel
theorem t81_54 : g_at 81 54 = some (.iaload, 0, 0, 0) := by decide +kernel
theorem t81_55 : g_at 81 55 = some (.aload_n 0, 0, 0, 0) := by decide +kernel
theorem t81_56 : g_at 81 56 = some (.getfield 33, 3, 6, 0) := by decide +kernel
theorem t81_59 : g_at 81 59 = some (.aload_n 0, 0, 0, 0) := by decide +kernel
theorem t81_60 : g_at 81 60 = some (.getfield 26, 3, 2, 0) := by decide +kernel
theorem t81_63 : g_at 81 63 = some (.getfield 83, 1, 6, 0) := by decide +kernel
theorem t81_66 : g_at 81 66 = some (.iload_n 3, 0, 0, 0) := by decide +kernel
theorem t81_67 : g_at 81 67 = some (.iaload, 0, 0, 0) := by decide +kernel
theorem t81_68 : g_at 81 68 = some (.iaload, 0, 0, 0) := by decide +kernel
theorem t81_69 : g_at 81 69 = some (.iadd, 0, 0, 0) := by decide +kernel
theorem t81_70 : g_at 81 70 = some (.istore 5, 0, 0, 0) := by decide +kernel
theorem t81_72 : g_at 81 72 = some (.aload_n 0, 0, 0, 0) := by decide +kernel
theorem t81_73 : g_at 81 73 = some (.getfield 49, 3, 15, 0) := by decide +kernel
theorem t81_76 : g_at 81 76 = some (.iload 4, 0, 0, 0) := by decide +kernel
theorem t81_78 : g_at 81 78 = some (.iaload, 0, 0, 0) := by decide +kernel
theorem t81_79 : g_at 81 79 = some (.iconst (-1), 0, 0, (-1)) := by decide +kernel
theorem t81_80 : g_at 81 80 = some (.if_icmp .eq (15), 95, 0, 0) := by decide +kernel
theorem t81_83 : g_at 81 83 = some (.aload_n 0, 0, 0, 0) := by decide +kernel
theorem t81_84 : g_at 81 84 = some (.getfield 49, 3, 15, 0) := by decide +kernel
theorem t81_87 : g_at 81 87 = some (.iload 4, 0, 0, 0) := by decide +kernel
theorem t81_89 : g_at 81 89 = some (.iaload, 0, 0, 0) := by decide +kernel
theorem t81_90 : g_at 81 90 = some (.iload 5, 0, 0, 0) := by decide +kernel
theorem t81_92 : g_at 81 92 = some (.if_icmp .le (19), 111, 0, 0) := by decide +kernel
theorem t81_95 : g_at 81 95 = some (.aload_n 0, 0, 0, 0) := by decide +kernel
theorem t81_96 : g_at 81 96 = some (.getfield 49, 3, 15, 0) := by decide +kernel
theorem t81_99 : g_at 81 99 = some (.iload 4, 0, 0, 0) := by decide +kernel
theorem t81_101 : g_at 81 101 = some (.iload 5, 0, 0, 0) := by decide +kernel
theorem t81_103 : g_at 81 103 = some (.iastore, 0, 0, 0) := by decide +kernel
theorem t81_104 : g_at 81 104 = some (.iload_n 2, 0, 0, 0) := by decide +kernel
theorem t81_105 : g_at 81 105 = some (.iload 5, 0, 0, 0) := by decide +kernel
theorem t81_107 : g_at 81 107 = some (.invokestatic 208, 998, 2, 0) := by decide +kernel
theorem t81_110 : g_at 81 110 = some (.istore_n 2, 0, 0, 0) := by decide +kernel
theorem t81_111 : g_at 81 111 = some (.iinc 3 (1), 0, 0, 1) := by decide +kernel
theorem t81_114 : g_at 81 114 = some (.goto (-110), 4, 0, 0) := by decide +kernel
theorem t81_117 : g_at 81 117 = some (.iload_n 2, 0, 0, 0) := by decide +kernel
theorem t81_118 : g_at 81 118 = some (.ireturn, 0, 0, 0) := by decide +kernel
theorem t82_0 : g_at 82 0 = some (.aload_n 0, 0, 0, 0) := by decide +kernel
theorem t82_1 : g_at 82 1 = some (.getfield 26, 3, 2, 0) := by decide +kernel
theorem t82_4 : g_at 82 4 = some (.invokevirtual 166, 35, 0, 0) := by decide +kernel
theorem t82_7 : g_at 82 7 = some (.istore_n 1, 0, 0, 0) := by decide +kernel
theorem t82_8 : g_at 82 8 = some (.iconst 0, 0, 0, 0) := by decide +kernel
theorem t82_9 : g_at 82 9 = some (.istore_n 2, 0, 0, 0) := by decide +kernel
theorem t82_10 : g_at 82 10 = some (.iconst 0, 0, 0, 0) := by decide +kernel
theorem t82_11 : g_at 82 11 = some (.istore_n 3, 0, 0, 0) := by decide +kernel
theorem t82_12 : g_at 82 12 = some (.iload_n 3, 0, 0, 0) := by decide +kernel
theorem t82_13 : g_at 82 13 = some (.iload_n 2, 0, 0, 0) := by decide +kernel
theorem t82_14 : g_at 82 14 = some (.if_icmp .gt (53), 67, 0, 0) := by decide +kernel
theorem t82_17 : g_at 82 17 = some (.iload_n 3, 0, 0, 0) := by decide +kernel
theorem t82_18 : g_at 82 18 = some (.sipush (2295), 0, 0, 2295) := by decide +kernel
theorem t82_21 : g_at 82 21 = some (.if_icmp .gt (46), 67, 0, 0) := by decide +kernel
theorem t82_24 : g_at 82 24 = some (.iconst 0, 0, 0, 0) := by decide +kernel
theorem t82_25 : g_at 82 25 = some (.istore 4, 0, 0, 0) := by decide +kernel
theorem t82_27 : g_at 82 27 = some (.iload 4, 0, 0, 0) := by decide +kernel
theorem t82_29 : g_at 82 29 = some (.iload_n 1, 0, 0, 0) := by decide +kernel
theorem t82_30 : g_at 82 30 = some (.if_icmp .gt (31), 61, 0, 0) := by decide +kernel
theorem t82_33 : g_at 82 33 = some (.aload_n 0, 0, 0, 0) := by decide +kernel
theorem t82_34 : g_at 82 34 = some (.getfield 49, 3, 15, 0) := by decide +kernel
theorem t82_37 : g_at 82 37 = some (.iload 4, 0, 0, 0) := by decide +kernel
theorem t82_39 : g_at 82 39 = some (.iaload, 0, 0, 0) := by decide +kernel
theorem t82_40 : g_at 82 40 = some (.iload_n 3, 0, 0, 0) := by decide +kernel
theorem t82_41 : g_at 82 41 = some (.if_icmp .ne (14), 55, 0, 0) := by decide +kernel
theorem t82_44 : g_at 82 44 = some (.iload_n 2, 0, 0, 0) := by decide +kernel
theorem t82_45 : g_at 82 45 = some (.aload_n 0, 0, 0, 0) := by decide +kernel
theorem t82_46 : g_at 82 46 = some (.iload 4, 0, 0, 0) := by decide +kernel
theorem t82_48 : g_at 82 48 = some (.invokevirtual 230, 81, 1, 0) := by decide +kernel
theorem t82_51 : g_at 82 51 = some (.invokestatic 208, 998, 2, 0) := by decide +kernel
theorem t82_54 : g_at 82 54 = some (.istore_n 2, 0, 0, 0) := by decide +kernel
theorem t82_55 : g_at 82 55 = some (.iinc 4 (1), 0, 0, 1) := by decide +kernel
theorem t82_58 : g_at 82 58 = some (.goto (-31), 27, 0, 0) := by decide +kernel
theorem t82_61 : g_at 82 61 = some (.iinc 3 (1), 0, 0, 1) := by decide +kernel
theorem t82_64 : g_at 82 64 = some (.goto (-52), 12, 0, 0) := by decide +kernel
theorem t82_67 : g_at 82 67 = some (.return_, 0, 0, 0) := by decide +kernel
theorem t83_0 : g_at 83 0 = some (.aload_n 0, 0, 0, 0) := by decide +kernel
theorem t83_1 : g_at 83 1 = some (.getfield 26, 3, 2, 0) := by decide +kernel
theorem t83_4 : g_at 83 4 = some (.invokevirtual 166, 35, 0, 0) := by decide +kernel
theorem t83_7 : g_at 83 7 = some (.istore 5, 0, 0, 0) := by decide +kernel
theorem t83_9 : g_at 83 9 = some (.iconst 0, 0, 0, 0) := by decide +kernel
theorem t83_10 : g_at 83 10 = some (.istore 6, 0, 0, 0) := by decide +kernel
theorem t83_12 : g_at 83 12 = some (.iload 6, 0, 0, 0) := by decide +kernel
theorem t83_14 : g_at 83 14 = some (.iload 5, 0, 0, 0) := by decide +kernel
theorem t83_16 : g_at 83 16 = some (.if_icmp .gt (96), 112, 0, 0) := by decide +kernel
theorem t83_19 : g_at 83 19 = some (.aload_n 0, 0, 0, 0) := by decide +kernel
theorem t83_20 : g_at 83 20 = some (.getfield 26, 3, 2, 0) := by decide +kernel
theorem t83_23 : g_at 83 23 = some (.getfield 118, 1, 10, 0) := by decide +kernel
theorem t83_26 : g_at 83 26 = some (.iload 6, 0, 0, 0) := by decide +kernel
theorem t83_28 : g_at 83 28 = some (.iaload, 0, 0, 0) := by decide +kernel
theorem t83_29 : g_at 83 29 = some (.istore 7, 0, 0, 0) := by decide +kernel
theorem t83_31 : g_at 83 31 = some (.iload 6, 0, 0, 0) := by decide +kernel
theorem t83_33 : g_at 83 33 = some (.iload_n 1, 0, 0, 0) := by decide +kernel
theorem t83_34 : g_at 83 34 = some (.iand, 0, 0, 0) := by decide +kernel
theorem t83_35 : g_at 83 35 = some (.iload_n 2, 0, 0, 0) := by decide +kernel
theorem t83_36 : g_at 83 36 = some (.if_icmp .ne (50), 86, 0, 0) := by decide +kernel
theorem t83_39 : g_at 83 39 = some (.aload_n 0, 0, 0, 0) := by decide +kernel
theorem t83_40 : g_at 83 40 = some (.getfield 26, 3, 2, 0) := by decide +kernel
theorem t83_43 : g_at 83 43 = some (.getfield 121, 1, 11, 0) := by decide +kernel
theorem t83_46 : g_at 83 46 = some (.iload 6, 0, 0, 0) := by decide +kernel
theorem t83_48 : g_at 83 48 = some (.iaload, 0, 0, 0) := by decide +kernel
theorem t83_49 : g_at 83 49 = some (.iload 7, 0, 0, 0) := by decide +kernel
theorem t83_51 : g_at 83 51 = some (.iconst (-1), 0, 0, (-1)) := by decide +kernel
theorem t83_52 : g_at 83 52 = some (.ixor, 0, 0, 0) := by decide +kernel
theorem t83_53 : g_at 83 53 = some (.iand, 0, 0, 0) := by decide +kernel
theorem t83_54 : g_at 83 54 = some (.iload_n 3, 0, 0, 0) := by decide +kernel
theorem t83_55 : g_at 83 55 = some (.iand, 0, 0, 0) := by decide +kernel
theorem t83_56 : g_at 83 56 = some (.iload_n 3, 0, 0, 0) := by decide +kernel
theorem t83_57 : g_at 83 57 = some (.if_icmp .ne (29), 86, 0, 0) := by decide +kernel
theorem t83_60 : g_at 83 60 = some (.iload 7, 0, 0, 0) := by decide +kernel
theorem t83_62 : g_at 83 62 = some (.iload 4, 0, 0, 0) := by decide +kernel
theorem t83_64 : g_at 83 64 = some (.iand, 0, 0, 0) := by decide +kernel
theorem t83_65 : g_at 83 65 = some (.iload 4, 0, 0, 0) := by decide +kernel
theorem t83_67 : g_at 83 67 = some (.if_icmp .ne (19), 86, 0, 0) := by decide +kernel
theorem t83_70 : g_at 83 70 = some (.aload_n 0, 0, 0, 0) := by decide +kernel
theorem t83_71 : g_at 83 71 = some (.getfield 26, 3, 2, 0) := by decide +kernel
theorem t83_74 : g_at 83 74 = some (.iload 6, 0, 0, 0) := by decide +kernel
theorem t83_76 : g_at 83 76 = some (.invokevirtual 76, 44, 1, 0) := by decide +kernel
theorem t83_79 : g_at 83 79 = some (.ifCond .eq (7), 86, 0, 0) := by decide +kernel
theorem t83_82 : g_at 83 82 = some (.iconst 1, 0, 0, 1) := by decide +kernel
theorem t83_83 : g_at 83 83 = some (.goto (4), 87, 0, 0) := by decide +kernel
theorem t83_86 : g_at 83 86 = some (.iconst 0, 0, 0, 0) := by decide +kernel
theorem t83_87 : g_at 83 87 = some (.istore 8, 0, 0, 0) := by decide +kernel
theorem t83_89 : g_at 83 89 = some (.aload_n 0, 0, 0, 0) := by decide +kernel
theorem t83_90 : g_at 83 90 = some (.getfield 49, 3, 15, 0) := by decide +kernel
theorem t83_93 : g_at 83 93 = some (.iload 6, 0, 0, 0) := by decide +kernel
theorem t83_95 : g_at 83 95 = some (.iload 8, 0, 0, 0) := by decide +kernel
theorem t83_97 : g_at 83 97 = some (.ifCond .eq (7), 104, 0, 0) := by decide +kernel
theorem t83_100 : g_at 83 100 = some (.iconst 0, 0, 0, 0) := by decide +kernel
theorem t83_101 : g_at 83 101 = some (.goto (4), 105, 0, 0) := by decide +kernel
theorem t83_104 : g_at 83 104 = some (.iconst (-1), 0, 0, (-1)) := by decide +kernel
theorem t83_105 : g_at 83 105 = some (.iastore, 0, 0, 0) := by decide +kernel
theorem t83_106 : g_at 83 106 = some (.iinc 6 (1), 0, 0, 1) := by decide +kernel
theorem t83_109 : g_at 83 109 = some (.goto (-97), 12, 0, 0) := by decide +kernel
theorem t83_112 : g_at 83 112 = some (.aload_n 0, 0, 0, 0) := by decide +kernel
theorem t83_113 : g_at 83 113 = some (.invokevirtual 227, 82, 0, 0) := by decide +kernel
theorem t83_116 : g_at 83 116 = some (.return_, 0, 0, 0) := by decide +kernel
theorem t84_0 : g_at 84 0 = some (.aload_n 0, 0, 0, 0) := by decide +kernel
theorem t84_1 : g_at 84 1 = some (.aload_n 0, 0, 0, 0) := by decide +kernel
theorem t84_2 : g_at 84 2 = some (.getfield 26, 3, 2, 0) := by decide +kernel
theorem t84_5 : g_at 84 5 = some (.invokevirtual 166, 35, 0, 0) := by decide +kernel
theorem t84_8 : g_at 84 8 = some (.aload_n 0, 0, 0, 0) := by decide +kernel
theorem t84_9 : g_at 84 9 = some (.getfield 95, 3, 4, 0) := by decide +kernel
theorem t84_12 : g_at 84 12 = some (.iconst 0, 0, 0, 0) := by decide +kernel
theorem t84_13 : g_at 84 13 = some (.iconst 0, 0, 0, 0) := by decide +kernel
theorem t84_14 : g_at 84 14 = some (.invokevirtual 169, 83, 4, 0) := by decide +kernel
theorem t84_17 : g_at 84 17 = some (.iconst 0, 0, 0, 0) := by decide +kernel
theorem t84_18 : g_at 84 18 = some (.istore_n 1, 0, 0, 0) := by decide +kernel
theorem t84_19 : g_at 84 19 = some (.iconst 0, 0, 0, 0) := by decide +kernel
theorem t84_20 : g_at 84 20 = some (.istore_n 2, 0, 0, 0) := by decide +kernel
theorem t84_21 : g_at 84 21 = some (.iload_n 2, 0, 0, 0) := by decide +kernel
theorem t84_22 : g_at 84 22 = some (.aload_n 0, 0, 0, 0) := by decide +kernel
theorem t84_23 : g_at 84 23 = some (.getfield 26, 3, 2, 0) := by decide +kernel
theorem t84_26 : g_at 84 26 = some (.invokevirtual 166, 35, 0, 0) := by decide +kernel
theorem t84_29 : g_at 84 29 = some (.if_icmp .gt (22), 51, 0, 0) := by decide +kernel
theorem t84_32 : g_at 84 32 = some (.aload_n 0, 0, 0, 0) := by decide +kernel
theorem t84_33 : g_at 84 33 = some (.getfield 49, 3, 15, 0) := by decide +kernel
theorem t84_36 : g_at 84 36 = some (.iload_n 2, 0, 0, 0) := by decide +kernel
theorem t84_37 : g_at 84 37 = some (.iaload, 0, 0, 0) := by decide +kernel
theorem t84_38 : g_at 84 38 = some (.iconst (-1), 0, 0, (-1)) := by decide +kernel
theorem t84_39 : g_at 84 39 = some (.if_icmp .eq (6), 45, 0, 0) := by decide +kernel
theorem t84_42 : g_at 84 42 = some (.iinc 1 (1), 0, 0, 1) := by decide +kernel
theorem t84_45 : g_at 84 45 = some (.iinc 2 (1), 0, 0, 1) := by decide +kernel
theorem t84_48 : g_at 84 48 = some (.goto (-27), 21, 0, 0) := by decide +kernel
theorem t84_51 : g_at 84 51 = some (.iload_n 1, 0, 0, 0) := by decide +kernel
theorem t84_52 : g_at 84 52 = some (.ireturn, 0, 0, 0) := by decide +kernel
theorem t85_0 : g_at 85 0 = some (.aload_n 0, 0, 0, 0) := by decide +kernel
theorem t85_1 : g_at 85 1 = some (.aload_n 0, 0, 0, 0) := by decide +kernel
theorem t85_2 : g_at 85 2 = some (.getfield 26, 3, 2, 0) := by decide +kernel
theorem t85_5 : g_at 85 5 = some (.invokevirtual 166, 35, 0, 0) := by decide +kernel
theorem t85_8 : g_at 85 8 = some (.aload_n 0, 0, 0, 0) := by decide +kernel
theorem t85_9 : g_at 85 9 = some (.getfield 95, 3, 4, 0) := by decide +kernel
theorem t85_12 : g_at 85 12 = some (.iconst 0, 0, 0, 0) := by decide +kernel
theorem t85_13 : g_at 85 13 = some (.iconst 0, 0, 0, 0) := by decide +kernel
theorem t85_14 : g_at 85 14 = some (.invokevirtual 169, 83, 4, 0) := by decide +kernel
theorem t85_17 : g_at 85 17 = some (.iconst 0, 0, 0, 0) := by decide +kernel
theorem t85_18 : g_at 85 18 = some (.istore_n 1, 0, 0, 0) := by decide +kernel
theorem t85_19 : g_at 85 19 = some (.iconst 0, 0, 0, 0) := by decide +kernel
theorem t85_20 : g_at 85 20 = some (.istore_n 2, 0, 0, 0) := by decide +kernel
theorem t85_21 : g_at 85 21 = some (.iload_n 2, 0, 0, 0) := by decide +kernel
theorem t85_22 : g_at 85 22 = some (.aload_n 0, 0, 0, 0) := by decide +kernel
theorem t85_23 : g_at 85 23 = some (.getfield 26, 3, 2, 0) := by decide +kernel
theorem t85_26 : g_at 85 26 = some (.invokevirtual 166, 35, 0, 0) := by decide +kernel
theorem t85_29 : g_at 85 29 = some (.if_icmp .gt (20), 49, 0, 0) := by decide +kernel
theorem t85_32 : g_at 85 32 = some (.iload_n 1, 0, 0, 0) := by decide +kernel
theorem t85_33 : g_at 85 33 = some (.aload_n 0, 0, 0, 0) := by decide +kernel
theorem t85_34 : g_at 85 34 = some (.getfield 49, 3, 15, 0) := by decide +kernel
theorem t85_37 : g_at 85 37 = some (.iload_n 2, 0, 0, 0) := by decide +kernel
theorem t85_38 : g_at 85 38 = some (.iaload, 0, 0, 0) := by decide +kernel
theorem t85_39 : g_at 85 39 = some (.invokestatic 208, 998, 2, 0) := by decide +kernel
theorem t85_42 : g_at 85 42 = some (.istore_n 1, 0, 0, 0) := by decide +kernel
theorem t85_43 : g_at 85 43 = some (.iinc 2 (1), 0, 0, 1) := by decide +kernel
theorem t85_46 : g_at 85 46 = some (.goto (-25), 21, 0, 0) := by decide +kernel
theorem t85_49 : g_at 85 49 = some (.iload_n 1, 0, 0, 0) := by decide +kernel
theorem t85_50 : g_at 85 50 = some (.ireturn, 0, 0, 0) := by decide +kernel
theorem t86_0 : g_at 86 0 = some (.iload_n 1, 0, 0, 0) := by decide +kernel
theorem t86_1 : g_at 86 1 = some (.tableswitch (135) (0) (8) #[51, 56, 69, 82, 103, 108, 120, 125, 130], 0, 0, 0) := by decide +kernel
theorem t86_52 : g_at 86 52 = some (.aload_n 0, 0, 0, 0) := by decide +kernel
theorem t86_53 : g_at 86 53 = some (.getfield 95, 3, 4, 0) := by decide +kernel
theorem t86_56 : g_at 86 56 = some (.ireturn, 0, 0, 0) := by decide +kernel
theorem t86_57 : g_at 86 57 = some (.aload_n 0, 0, 0, 0) := by decide +kernel
theorem t86_58 : g_at 86 58 = some (.getfield 26, 3, 2, 0) := by decide +kernel
theorem t86_61 : g_at 86 61 = some (.getfield 118, 1, 10, 0) := by decide +kernel
theorem t86_64 : g_at 86 64 = some (.aload_n 0, 0, 0, 0) := by decide +kernel
theorem t86_65 : g_at 86 65 = some (.getfield 95, 3, 4, 0) := by decide +kernel
theorem t86_68 : g_at 86 68 = some (.iaload, 0, 0, 0) := by decide +kernel
theorem t86_69 : g_at 86 69 = some (.ireturn, 0, 0, 0) := by decide +kernel
theorem t86_70 : g_at 86 70 = some (.aload_n 0, 0, 0, 0) := by decide +kernel
theorem t86_71 : g_at 86 71 = some (.getfield 26, 3, 2, 0) := by decide +kernel
theorem t86_74 : g_at 86 74 = some (.getfield 121, 1, 11, 0) := by decide +kernel
theorem t86_77 : g_at 86 77 = some (.aload_n 0, 0, 0, 0) := by decide +kernel
theorem t86_78 : g_at 86 78 = some (.getfield 95, 3, 4, 0) := by decide +kernel
theorem t86_81 : g_at 86 81 = some (.iaload, 0, 0, 0) := by decide +kernel
theorem t86_82 : g_at 86 82 = some (.ireturn, 0, 0, 0) := by decide +kernel
theorem t86_83 : g_at 86 83 = some (.aload_n 0, 0, 0, 0) := by decide +kernel
theorem t86_84 : g_at 86 84 = some (.getfield 26, 3, 2, 0) := by decide +kernel
theorem t86_87 : g_at 86 87 = some (.getfield 118, 1, 10, 0) := by decide +kernel
theorem t86_90 : g_at 86 90 = some (.aload_n 0, 0, 0, 0) := by decide +kernel
theorem t86_91 : g_at 86 91 = some (.getfield 95, 3, 4, 0) := by decide +kernel
theorem t86_94 : g_at 86 94 = some (.iaload, 0, 0, 0) := by decide +kernel
theorem t86_95 : g_at 86 95 = some (.aload_n 0, 0, 0, 0) := by decide +kernel
theorem t86_96 : g_at 86 96 = some (.getfield 26, 3, 2, 0) := by decide +kernel
theorem t86_99 : g_at 86 99 = some (.getfield 130, 1, 2, 0) := by decide +kernel
theorem t86_102 : g_at 86 102 = some (.iand, 0, 0, 0) := by decide +kernel
theorem t86_103 : g_at 86 103 = some (.ireturn, 0, 0, 0) := by decide +kernel
theorem t86_104 : g_at 86 104 = some (.aload_n 0, 0, 0, 0) := by decide +kernel
theorem t86_105 : g_at 86 105 = some (.invokevirtual 133, 79, 0, 0) := by decide +kernel
theorem t86_108 : g_at 86 108 = some (.ireturn, 0, 0, 0) := by decide +kernel
theorem t86_109 : g_at 86 109 = some (.aload_n 0, 0, 0, 0) := by decide +kernel
theorem t86_110 : g_at 86 110 = some (.getfield 26, 3, 2, 0) := by decide +kernel
theorem t86_113 : g_at 86 113 = some (.aload_n 0, 0, 0, 0) := by decide +kernel
theorem t86_114 : g_at 86 114 = some (.getfield 95, 3, 4, 0) := by decide +kernel
theorem t86_117 : g_at 86 117 = some (.invokevirtual 137, 80, 1, 0) := by decide +kernel
theorem t86_120 : g_at 86 120 = some (.ireturn, 0, 0, 0) := by decide +kernel
theorem t86_121 : g_at 86 121 = some (.aload_n 0, 0, 0, 0) := by decide +kernel
theorem t86_122 : g_at 86 122 = some (.invokevirtual 140, 84, 0, 0) := by decide +kernel
theorem t86_125 : g_at 86 125 = some (.ireturn, 0, 0, 0) := by decide +kernel
theorem t86_126 : g_at 86 126 = some (.aload_n 0, 0, 0, 0) := by decide +kernel
theorem t86_127 : g_at 86 127 = some (.invokevirtual 143, 85, 0, 0) := by decide +kernel
theorem t86_130 : g_at 86 130 = some (.ireturn, 0, 0, 0) := by decide +kernel
theorem t86_131 : g_at 86 131 = some (.aload_n 0, 0, 0, 0) := by decide +kernel
theorem t86_132 : g_at 86 132 = some (.getfield 146, 3, 10, 0) := by decide +kernel
theorem t86_135 : g_at 86 135 = some (.ireturn, 0, 0, 0) := by decide +kernel
theorem t86_136 : g_at 86 136 = some (.iconst (-1), 0, 0, (-1)) := by decide +kernel
theorem t86_137 : g_at 86 137 = some (.ireturn, 0, 0, 0) := by decide +kernel
theorem t87_0 : g_at 87 0 = some (.iconst 0, 0, 0, 0) := by decide +kernel
theorem t87_1 : g_at 87 1 = some (.istore_n 1, 0, 0, 0) := by decide +kernel
theorem t87_2 : g_at 87 2 = some (.iconst 0, 0, 0, 0) := by decide +kernel
theorem t87_3 : g_at 87 3 = some (.istore_n 2, 0, 0, 0) := by decide +kernel
theorem t87_4 : g_at 87 4 = some (.iload_n 2, 0, 0, 0) := by decide +kernel
theorem t87_5 : g_at 87 5 = some (.aload_n 0, 0, 0, 0) := by decide +kernel
theorem t87_6 : g_at 87 6 = some (.getfield 13, 4, 8, 0) := by decide +kernel
theorem t87_9 : g_at 87 9 = some (.iconst 3, 0, 0, 3) := by decide +kernel
theorem t87_10 : g_at 87 10 = some (.iaload, 0, 0, 0) := by decide +kernel
theorem t87_11 : g_at 87 11 = some (.if_icmp .ge (33), 44, 0, 0) := by decide +kernel
theorem t87_14 : g_at 87 14 = some (.iload_n 1, 0, 0, 0) := by decide +kernel
theorem t87_15 : g_at 87 15 = some (.aload_n 0, 0, 0, 0) := by decide +kernel
theorem t87_16 : g_at 87 16 = some (.iload_n 2, 0, 0, 0) := by decide +kernel
theorem t87_17 : g_at 87 17 = some (.aload_n 0, 0, 0, 0) := by decide +kernel
theorem t87_18 : g_at 87 18 = some (.getfield 22, 4, 11, 0) := by decide +kernel
theorem t87_21 : g_at 87 21 = some (.iconst 0, 0, 0, 0) := by decide +kernel
theorem t87_22 : g_at 87 22 = some (.iaload, 0, 0, 0) := by decide +kernel
theorem t87_23 : g_at 87 23 = some (.invokevirtual 163, 70, 2, 0) := by decide +kernel
theorem t87_26 : g_at 87 26 = some (.ifCond .ne (9), 35, 0, 0) := by decide +kernel
theorem t87_29 : g_at 87 29 = some (.iconst 1, 0, 0, 1) := by decide +kernel
theorem t87_30 : g_at 87 30 = some (.iload_n 2, 0, 0, 0) := by decide +kernel
theorem t87_31 : g_at 87 31 = some (.ishl, 0, 0, 0) := by decide +kernel
theorem t87_32 : g_at 87 32 = some (.goto (4), 36, 0, 0) := by decide +kernel
theorem t87_35 : g_at 87 35 = some (.iconst 0, 0, 0, 0) := by decide +kernel
theorem t87_36 : g_at 87 36 = some (.ior, 0, 0, 0) := by decide +kernel
theorem t87_37 : g_at 87 37 = some (.istore_n 1, 0, 0, 0) := by decide +kernel
theorem t87_38 : g_at 87 38 = some (.iinc 2 (1), 0, 0, 1) := by decide +kernel
theorem t87_41 : g_at 87 41 = some (.goto (-37), 4, 0, 0) := by decide +kernel
theorem t87_44 : g_at 87 44 = some (.iload_n 1, 0, 0, 0) := by decide +kernel
theorem t87_45 : g_at 87 45 = some (.ireturn, 0, 0, 0) := by decide +kernel
theorem t88_0 : g_at 88 0 = some (.aload_n 0, 0, 0, 0) := by decide +kernel
theorem t88_1 : g_at 88 1 = some (.aload_n 0, 0, 0, 0) := by decide +kernel
theorem t88_2 : g_at 88 2 = some (.getfield 13, 4, 8, 0) := by decide +kernel
theorem t88_5 : g_at 88 5 = some (.aload_n 0, 0, 0, 0) := by decide +kernel
theorem t88_6 : g_at 88 6 = some (.getfield 22, 4, 11, 0) := by decide +kernel
theorem t88_9 : g_at 88 9 = some (.iconst 0, 0, 0, 0) := by decide +kernel
theorem t88_10 : g_at 88 10 = some (.iaload, 0, 0, 0) := by decide +kernel
theorem t88_11 : g_at 88 11 = some (.invokevirtual 150, 59, 2, 0) := by decide +kernel
theorem t88_14 : g_at 88 14 = some (.iconst 0, 0, 0, 0) := by decide +kernel
theorem t88_15 : g_at 88 15 = some (.istore_n 1, 0, 0, 0) := by decide +kernel
theorem t88_16 : g_at 88 16 = some (.iconst 0, 0, 0, 0) := by decide +kernel
theorem t88_17 : g_at 88 17 = some (.istore_n 2, 0, 0, 0) := by decide +kernel
theorem t88_18 : g_at 88 18 = some (.iload_n 2, 0, 0, 0) := by decide +kernel
theorem t88_19 : g_at 88 19 = some (.aload_n 0, 0, 0, 0) := by decide +kernel
theorem t88_20 : g_at 88 20 = some (.getfield 13, 4, 8, 0) := by decide +kernel
theorem t88_23 : g_at 88 23 = some (.iconst 0, 0, 0, 0) := by decide +kernel
theorem t88_24 : g_at 88 24 = some (.iaload, 0, 0, 0) := by decide +kernel
theorem t88_25 : g_at 88 25 = some (.if_icmp .ge (27), 52, 0, 0) := by decide +kernel
theorem t88_28 : g_at 88 28 = some (.iload_n 1, 0, 0, 0) := by decide +kernel
theorem t88_29 : g_at 88 29 = some (.aload_n 0, 0, 0, 0) := by decide +kernel
theorem t88_30 : g_at 88 30 = some (.getfield 44, 4, 21, 0) := by decide +kernel
theorem t88_33 : g_at 88 33 = some (.iload_n 2, 0, 0, 0) := by decide +kernel
theorem t88_34 : g_at 88 34 = some (.iaload, 0, 0, 0) := by decide +kernel
theorem t88_35 : g_at 88 35 = some (.iload_n 2, 0, 0, 0) := by decide +kernel
theorem t88_36 : g_at 88 36 = some (.if_icmp .ne (7), 43, 0, 0) := by decide +kernel
theorem t88_39 : g_at 88 39 = some (.iconst 1, 0, 0, 1) := by decide +kernel
theorem t88_40 : g_at 88 40 = some (.goto (4), 44, 0, 0) := by decide +kernel
theorem t88_43 : g_at 88 43 = some (.iconst 0, 0, 0, 0) := by decide +kernel
theorem t88_44 : g_at 88 44 = some (.iadd, 0, 0, 0) := by decide +kernel
theorem t88_45 : g_at 88 45 = some (.istore_n 1, 0, 0, 0) := by decide +kernel
theorem t88_46 : g_at 88 46 = some (.iinc 2 (1), 0, 0, 1) := by decide +kernel
theorem t88_49 : g_at 88 49 = some (.goto (-31), 18, 0, 0) := by decide +kernel
theorem t88_52 : g_at 88 52 = some (.iload_n 1, 0, 0, 0) := by decide +kernel
theorem t88_53 : g_at 88 53 = some (.ireturn, 0, 0, 0) := by decide +kernel
theorem t89_0 : g_at 89 0 = some (.iconst 1, 0, 0, 1) := by decide +kernel
theorem t89_1 : g_at 89 1 = some (.aload_n 0, 0, 0, 0) := by decide +kernel
theorem t89_2 : g_at 89 2 = some (.getfield 13, 4, 8, 0) := by decide +kernel
theorem t89_5 : g_at 89 5 = some (.iconst 3, 0, 0, 3) := by decide +kernel
theorem t89_6 : g_at 89 6 = some (.iaload, 0, 0, 0) := by decide +kernel
theorem t89_7 : g_at 89 7 = some (.ishl, 0, 0, 0) := by decide +kernel
theorem t89_8 : g_at 89 8 = some (.ireturn, 0, 0, 0) := by decide +kernel
theorem t90_0 : g_at 90 0 = some (.iconst 0, 0, 0, 0) := by decide +kernel
theorem t90_1 : g_at 90 1 = some (.istore_n 1, 0, 0, 0) := by decide +kernel
theorem t90_2 : g_at 90 2 = some (.iload_n 1, 0, 0, 0) := by decide +kernel
theorem t90_3 : g_at 90 3 = some (.aload_n 0, 0, 0, 0) := by decide +kernel
theorem t90_4 : g_at 90 4 = some (.invokevirtual 183, 89, 0, 0) := by decide +kernel
theorem t90_7 : g_at 90 7 = some (.if_icmp .ge (52), 59, 0, 0) := by decide +kernel
theorem t90_10 : g_at 90 10 = some (.iconst 0, 0, 0, 0) := by decide +kernel
theorem t90_11 : g_at 90 11 = some (.istore_n 2, 0, 0, 0) := by decide +kernel
theorem t90_12 : g_at 90 12 = some (.iload_n 2, 0, 0, 0) := by decide +kernel
theorem t90_13 : g_at 90 13 = some (.aload_n 0, 0, 0, 0) := by decide +kernel
theorem t90_14 : g_at 90 14 = some (.getfield 13, 4, 8, 0) := by decide +kernel
theorem t90_17 : g_at 90 17 = some (.iconst 3, 0, 0, 3) := by decide +kernel
theorem t90_18 : g_at 90 18 = some (.iaload, 0, 0, 0) := by decide +kernel
theorem t90_19 : g_at 90 19 = some (.if_icmp .ge (34), 53, 0, 0) := by decide +kernel
theorem t90_22 : g_at 90 22 = some (.aload_n 0, 0, 0, 0) := by decide +kernel
theorem t90_23 : g_at 90 23 = some (.getfield 53, 4, 24, 0) := by decide +kernel
theorem t90_26 : g_at 90 26 = some (.bipush (8), 0, 0, 8) := by decide +kernel
theorem t90_28 : g_at 90 28 = some (.iload_n 1, 0, 0, 0) := by decide +kernel
theorem t90_29 : g_at 90 29 = some (.imul, 0, 0, 0) := by decide +kernel
theorem t90_30 : g_at 90 30 = some (.iload_n 2, 0, 0, 0) := by decide +kernel
theorem t90_31 : g_at 90 31 = some (.iadd, 0, 0, 0) := by decide +kernel
theorem t90_32 : g_at 90 32 = some (.aload_n 0, 0, 0, 0) := by decide +kernel
theorem t90_33 : g_at 90 33 = some (.iload_n 2, 0, 0, 0) := by decide +kernel
theorem t90_34 : g_at 90 34 = some (.iload_n 1, 0, 0, 0) := by decide +kernel
theorem t90_35 : g_at 90 35 = some (.invokevirtual 163, 70, 2, 0) := by decide +kernel
theorem t90_38 : g_at 90 38 = some (.ifCond .ne (7), 45, 0, 0) := by decide +kernel
theorem t90_41 : g_at 90 41 = some (.iconst 1, 0, 0, 1) := by decide +kernel
theorem t90_42 : g_at 90 42 = some (.goto (4), 46, 0, 0) := by decide +kernel
theorem t90_45 : g_at 90 45 = some (.iconst 0, 0, 0, 0) := by decide +kernel
theorem t90_46 : g_at 90 46 = some (.bastore, 0, 0, 0) := by decide +kernel
theorem t90_47 : g_at 90 47 = some (.iinc 2 (1), 0, 0, 1) := by decide +kernel
theorem t90_50 : g_at 90 50 = some (.goto (-38), 12, 0, 0) := by decide +kernel
theorem t90_53 : g_at 90 53 = some (.iinc 1 (1), 0, 0, 1) := by decide +kernel
theorem t90_56 : g_at 90 56 = some (.goto (-54), 2, 0, 0) := by decide +kernel
theorem t90_59 : g_at 90 59 = some (.return_, 0, 0, 0) := by decide +kernel
theorem t91_0 : g_at 91 0 = some (.aload_n 0, 0, 0, 0) := by decide +kernel
theorem t91_1 : g_at 91 1 = some (.getfield 22, 4, 11, 0) := by decide +kernel
theorem t91_4 : g_at 91 4 = some (.iconst 2, 0, 0, 2) := by decide +kernel
theorem t91_5 : g_at 91 5 = some (.aload_n 0, 0, 0, 0) := by decide +kernel
theorem t91_6 : g_at 91 6 = some (.getfield 13, 4, 8, 0) := by decide +kernel
theorem t91_9 : g_at 91 9 = some (.iconst 4, 0, 0, 4) := by decide +kernel
theorem t91_10 : g_at 91 10 = some (.iload_n 1, 0, 0, 0) := by decide +kernel
theorem t91_11 : g_at 91 11 = some (.iadd, 0, 0, 0) := by decide +kernel
theorem t91_12 : g_at 91 12 = some (.iaload, 0, 0, 0) := by decide +kernel
theorem t91_13 : g_at 91 13 = some (.iadd, 0, 0, 0) := by decide +kernel
theorem t91_14 : g_at 91 14 = some (.iaload, 0, 0, 0) := by decide +kernel
theorem t91_15 : g_at 91 15 = some (.ireturn, 0, 0, 0) := by decide +kernel
theorem t92_0 : g_at 92 0 = some (.aload_n 0, 0, 0, 0) := by decide +kernel
theorem t92_1 : g_at 92 1 = some (.invokevirtual 186, 90, 0, 0) := by decide +kernel
theorem t92_4 : g_at 92 4 = some (.iconst 0, 0, 0, 0) := by decide +kernel
theorem t92_5 : g_at 92 5 = some (.istore_n 2, 0, 0, 0) := by decide +kernel
theorem t92_6 : g_at 92 6 = some (.iload_n 2, 0, 0, 0) := by decide +kernel
theorem t92_7 : g_at 92 7 = some (.aload_n 0, 0, 0, 0) := by decide +kernel
theorem t92_8 : g_at 92 8 = some (.invokevirtual 183, 89, 0, 0) := by decide +kernel
theorem t92_11 : g_at 92 11 = some (.if_icmp .ge (31), 42, 0, 0) := by decide +kernel
theorem t92_14 : g_at 92 14 = some (.aload_n 0, 0, 0, 0) := by decide +kernel
theorem t92_15 : g_at 92 15 = some (.getfield 47, 4, 22, 0) := by decide +kernel
theorem t92_18 : g_at 92 18 = some (.iload_n 2, 0, 0, 0) := by decide +kernel
theorem t92_19 : g_at 92 19 = some (.iload_n 2, 0, 0, 0) := by decide +kernel
theorem t92_20 : g_at 92 20 = some (.aload_n 0, 0, 0, 0) := by decide +kernel
theorem t92_21 : g_at 92 21 = some (.getfield 22, 4, 11, 0) := by decide +kernel
theorem t92_24 : g_at 92 24 = some (.iconst 0, 0, 0, 0) := by decide +kernel
theorem t92_25 : g_at 92 25 = some (.iaload, 0, 0, 0) := by decide +kernel
theorem t92_26 : g_at 92 26 = some (.if_icmp .ne (7), 33, 0, 0) := by decide +kernel
theorem t92_29 : g_at 92 29 = some (.iconst 0, 0, 0, 0) := by decide +kernel
theorem t92_30 : g_at 92 30 = some (.goto (5), 35, 0, 0) := by decide +kernel
theorem t92_33 : g_at 92 33 = some (.ldc 189, 0, 0, 99999) := by decide +kernel
theorem t92_35 : g_at 92 35 = some (.iastore, 0, 0, 0) := by decide +kernel
theorem t92_36 : g_at 92 36 = some (.iinc 2 (1), 0, 0, 1) := by decide +kernel
theorem t92_39 : g_at 92 39 = some (.goto (-33), 6, 0, 0) := by decide +kernel
theorem t92_42 : g_at 92 42 = some (.iconst 1, 0, 0, 1) := by decide +kernel
theorem t92_43 : g_at 92 43 = some (.istore_n 2, 0, 0, 0) := by decide +kernel
theorem t92_44 : g_at 92 44 = some (.iload_n 2, 0, 0, 0) := by decide +kernel
theorem t92_45 : g_at 92 45 = some (.ifCond .eq (159), 204, 0, 0) := by decide +kernel
theorem t92_48 : g_at 92 48 = some (.iconst 0, 0, 0, 0) := by decide +kernel
theorem t92_49 : g_at 92 49 = some (.istore_n 2, 0, 0, 0) := by decide +kernel
theorem t92_50 : g_at 92 50 = some (.iconst 0, 0, 0, 0) := by decide +kernel
theorem t92_51 : g_at 92 51 = some (.istore_n 3, 0, 0, 0) := by decide +kernel
theorem t92_52 : g_at 92 52 = some (.iload_n 3, 0, 0, 0) := by decide +kernel
theorem t92_53 : g_at 92 53 = some (.aload_n 0, 0, 0, 0) := by decide +kernel
theorem t92_54 : g_at 92 54 = some (.invokevirtual 183, 89, 0, 0) := by decide +kernel
theorem t92_57 : g_at 92 57 = some (.if_icmp .ge (144), 201, 0, 0) := by decide +kernel
theorem t92_60 : g_at 92 60 = some (.iconst 0, 0, 0, 0) := by decide +kernel
theorem t92_61 : g_at 92 61 = some (.istore 4, 0, 0, 0) := by decide +kernel
theorem t92_63 : g_at 92 63 = some (.iload 4, 0, 0, 0) := by decide +kernel
theorem t92_65 : g_at 92 65 = some (.aload_n 0, 0, 0, 0) := by decide +kernel
theorem t92_66 : g_at 92 66 = some (.getfield 13, 4, 8, 0) := by decide +kernel
theorem t92_69 : g_at 92 69 = some (.iconst 3, 0, 0, 3) := by decide +kernel
theorem t92_70 : g_at 92 70 = some (.iaload, 0, 0, 0) := by decide +kernel
theorem t92_71 : g_at 92 71 = some (.if_icmp .ge (124), 195, 0, 0) := by decide +kernel
theorem t92_74 : g_at 92 74 = some (.aload_n 0, 0, 0, 0) := by decide +kernel
theorem t92_75 : g_at 92 75 = some (.getfield 47, 4, 22, 0) := by decide +kernel
theorem t92_78 : g_at 92 78 = some (.iload_n 3, 0, 0, 0) := by decide +kernel
theorem t92_79 : g_at 92 79 = some (.iaload, 0, 0, 0) := by decide +kernel
theorem t92_80 : g_at 92 80 = some (.ldc 189, 0, 0, 99999) := by decide +kernel
theorem t92_82 : g_at 92 82 = some (.if_icmp .ge (34), 116, 0, 0) := by decide +kernel
theorem t92_85 : g_at 92 85 = some (.aload_n 0, 0, 0, 0) := by decide +kernel
theorem t92_86 : g_at 92 86 = some (.getfield 53, 4, 24, 0) := by decide +kernel
theorem t92_89 : g_at 92 89 = some (.bipush (8), 0, 0, 8) := by decide +kernel
theorem t92_91 : g_at 92 91 = some (.iload_n 3, 0, 0, 0) := by decide +kernel
theorem t92_92 : g_at 92 92 = some (.imul, 0, 0, 0) := by decide +kernel
theorem t92_93 : g_at 92 93 = some (.iload 4, 0, 0, 0) := by decide +kernel
theorem t92_95 : g_at 92 95 = some (.iadd, 0, 0, 0) := by decide +kernel
theorem t92_96 : g_at 92 96 = some (.baload, 0, 0, 0) := by decide +kernel
theorem t92_97 : g_at 92 97 = some (.ifCond .eq (19), 116, 0, 0) := by decide +kernel
theorem t92_100 : g_at 92 100 = some (.aload_n 0, 0, 0, 0) := by decide +kernel
theorem t92_101 : g_at 92 101 = some (.getfield 47, 4, 22, 0) := by decide +kernel
theorem t92_104 : g_at 92 104 = some (.iload_n 3, 0, 0, 0) := by decide +kernel
theorem t92_105 : g_at 92 105 = some (.iaload, 0, 0, 0) := by decide +kernel
theorem t92_106 : g_at 92 106 = some (.aload_n 0, 0, 0, 0) := by decide +kernel
theorem t92_107 : g_at 92 107 = some (.iload 4, 0, 0, 0) := by decide +kernel
theorem t92_109 : g_at 92 109 = some (.invokevirtual 190, 91, 1, 0) := by decide +kernel
theorem t92_112 : g_at 92 112 = some (.iadd, 0, 0, 0) := by decide +kernel
theorem t92_113 : g_at 92 113 = some (.goto (5), 118, 0, 0) := by decide +kernel
theorem t92_116 : g_at 92 116 = some (.ldc 189, 0, 0, 99999) := by decide +kernel
theorem t92_118 : g_at 92 118 = some (.istore 5, 0, 0, 0) := by decide +kernel
theorem t92_120 : g_at 92 120 = some (.iload_n 2, 0, 0, 0) := by decide +kernel
theorem t92_121 : g_at 92 121 = some (.ifCond .ne (19), 140, 0, 0) := by decide +kernel
theorem t92_124 : g_at 92 124 = some (.iload 5, 0, 0, 0) := by decide +kernel
theorem t92_126 : g_at 92 126 = some (.aload_n 0, 0, 0, 0) := by decide +kernel
theorem t92_127 : g_at 92 127 = some (.getfield 47, 4, 22, 0) := by decide +kernel
theorem t92_130 : g_at 92 130 = some (.iload_n 3, 0, 0, 0) := by decide +kernel
theorem t92_131 : g_at 92 131 = some (.iconst 1, 0, 0, 1) := by decide +kernel
theorem t92_132 : g_at 92 132 = some (.iload 4, 0, 0, 0) := by decide +kernel
theorem t92_134 : g_at 92 134 = some (.ishl, 0, 0, 0) := by decide +kernel
theorem t92_135 : g_at 92 135 = some (.ixor, 0, 0, 0) := by decide +kernel
theorem t92_136 : g_at 92 136 = some (.iaload, 0, 0, 0) := by decide +kernel
theorem t92_137 : g_at 92 137 = some (.if_icmp .ge (7), 144, 0, 0) := by decide +kernel
theorem t92_140 : g_at 92 140 = some (.iconst 1, 0, 0, 1) := by decide +kernel
theorem t92_141 : g_at 92 141 = some (.goto (4), 145, 0, 0) := by decide +kernel
theorem t92_144 : g_at 92 144 = some (.iconst 0, 0, 0, 0) := by decide +kernel
theorem t92_145 : g_at 92 145 = some (.istore_n 2, 0, 0, 0) := by decide +kernel
theorem t92_146 : g_at 92 146 = some (.aload_n 0, 0, 0, 0) := by decide +kernel
theorem t92_147 : g_at 92 147 = some (.getfield 47, 4, 22, 0) := by decide +kernel
theorem t92_150 : g_at 92 150 = some (.iload_n 3, 0, 0, 0) := by decide +kernel
theorem t92_151 : g_at 92 151 = some (.iconst 1, 0, 0, 1) := by decide +kernel
theorem t92_152 : g_at 92 152 = some (.iload 4, 0, 0, 0) := by decide +kernel
theorem t92_154 : g_at 92 154 = some (.ishl, 0, 0, 0) := by decide +kernel
theorem t92_155 : g_at 92 155 = some (.ixor, 0, 0, 0) := by decide +kernel
theorem t92_156 : g_at 92 156 = some (.iload 5, 0, 0, 0) := by decide +kernel
theorem t92_158 : g_at 92 158 = some (.aload_n 0, 0, 0, 0) := by decide +kernel
theorem t92_159 : g_at 92 159 = some (.getfield 47, 4, 22, 0) := by decide +kernel
theorem t92_162 : g_at 92 162 = some (.iload_n 3, 0, 0, 0) := by decide +kernel
theorem t92_163 : g_at 92 163 = some (.iconst 1, 0, 0, 1) := by decide +kernel
theorem t92_164 : g_at 92 164 = some (.iload 4, 0, 0, 0) := by decide +kernel
theorem t92_166 : g_at 92 166 = some (.ishl, 0, 0, 0) := by decide +kernel
theorem t92_167 : g_at 92 167 = some (.ixor, 0, 0, 0) := by decide +kernel
theorem t92_168 : g_at 92 168 = some (.iaload, 0, 0, 0) := by decide +kernel
theorem t92_169 : g_at 92 169 = some (.if_icmp .ge (8), 177, 0, 0) := by decide +kernel
theorem t92_172 : g_at 92 172 = some (.iload 5, 0, 0, 0) := by decide +kernel
theorem t92_174 : g_at 92 174 = some (.goto (14), 188, 0, 0) := by decide +kernel
theorem t92_177 : g_at 92 177 = some (.aload_n 0, 0, 0, 0) := by decide +kernel
theorem t92_178 : g_at 92 178 = some (.getfield 47, 4, 22, 0) := by decide +kernel
theorem t92_181 : g_at 92 181 = some (.iload_n 3, 0, 0, 0) := by decide +kernel
theorem t92_182 : g_at 92 182 = some (.iconst 1, 0, 0, 1) := by decide +kernel
theorem t92_183 : g_at 92 183 = some (.iload 4, 0, 0, 0) := by decide +kernel
theorem t92_185 : g_at 92 185 = some (.ishl, 0, 0, 0) := by decide +kernel
theorem t92_186 : g_at 92 186 = some (.ixor, 0, 0, 0) := by decide +kernel
theorem t92_187 : g_at 92 187 = some (.iaload, 0, 0, 0) := by decide +kernel
theorem t92_188 : g_at 92 188 = some (.iastore, 0, 0, 0) := by decide +kernel
theorem t92_189 : g_at 92 189 = some (.iinc 4 (1), 0, 0, 1) := by decide +kernel
theorem t92_192 : g_at 92 192 = some (.goto (-129), 63, 0, 0) := by decide +kernel
theorem t92_195 : g_at 92 195 = some (.iinc 3 (1), 0, 0, 1) := by decide +kernel
theorem t92_198 : g_at 92 198 = some (.goto (-146), 52, 0, 0) := by decide +kernel
theorem t92_201 : g_at 92 201 = some (.goto (-157), 44, 0, 0) := by decide +kernel
theorem t92_204 : g_at 92 204 = some (.iconst 0, 0, 0, 0) := by decide +kernel
theorem t92_205 : g_at 92 205 = some (.istore_n 3, 0, 0, 0) := by decide +kernel
theorem t92_206 : g_at 92 206 = some (.iconst 0, 0, 0, 0) := by decide +kernel
theorem t92_207 : g_at 92 207 = some (.istore 4, 0, 0, 0) := by decide +kernel
theorem t92_209 : g_at 92 209 = some (.iconst 0, 0, 0, 0) := by decide +kernel
theorem t92_210 : g_at 92 210 = some (.istore 5, 0, 0, 0) := by decide +kernel
theorem t92_212 : g_at 92 212 = some (.iload 5, 0, 0, 0) := by decide +kernel
theorem t92_214 : g_at 92 214 = some (.aload_n 0, 0, 0, 0) := by decide +kernel
theorem t92_215 : g_at 92 215 = some (.invokevirtual 183, 89, 0, 0) := by decide +kernel
theorem t92_218 : g_at 92 218 = some (.if_icmp .ge (67), 285, 0, 0) := by decide +kernel
theorem t92_221 : g_at 92 221 = some (.iload_n 3, 0, 0, 0) := by decide +kernel
theorem t92_222 : g_at 92 222 = some (.aload_n 0, 0, 0, 0) := by decide +kernel
theorem t92_223 : g_at 92 223 = some (.getfield 47, 4, 22, 0) := by decide +kernel
theorem t92_226 : g_at 92 226 = some (.iload 5, 0, 0, 0) := by decide +kernel
theorem t92_228 : g_at 92 228 = some (.iaload, 0, 0, 0) := by decide +kernel
theorem t92_229 : g_at 92 229 = some (.ldc 189, 0, 0, 99999) := by decide +kernel
theorem t92_231 : g_at 92 231 = some (.if_icmp .ge (7), 238, 0, 0) := by decide +kernel
theorem t92_234 : g_at 92 234 = some (.iconst 1, 0, 0, 1) := by decide +kernel
theorem t92_235 : g_at 92 235 = some (.goto (4), 239, 0, 0) := by decide +kernel
theorem t92_238 : g_at 92 238 = some (.iconst 0, 0, 0, 0) := by decide +kernel
theorem t92_239 : g_at 92 239 = some (.iadd, 0, 0, 0) := by decide +kernel
theorem t92_240 : g_at 92 240 = some (.istore_n 3, 0, 0, 0) := by decide +kernel
theorem t92_241 : g_at 92 241 = some (.aload_n 0, 0, 0, 0) := by decide +kernel
theorem t92_242 : g_at 92 242 = some (.getfield 47, 4, 22, 0) := by decide +kernel
theorem t92_245 : g_at 92 245 = some (.iload 5, 0, 0, 0) := by decide +kernel
theorem t92_247 : g_at 92 247 = some (.iaload, 0, 0, 0) := by decide +kernel
theorem t92_248 : g_at 92 248 = some (.ldc 189, 0, 0, 99999) := by decide +kernel
theorem t92_250 : g_at 92 250 = some (.if_icmp .ge (25), 275, 0, 0) := by decide +kernel
theorem t92_253 : g_at 92 253 = some (.aload_n 0, 0, 0, 0) := by decide +kernel
theorem t92_254 : g_at 92 254 = some (.getfield 47, 4, 22, 0) := by decide +kernel
theorem t92_257 : g_at 92 257 = some (.iload 5, 0, 0, 0) := by decide +kernel
theorem t92_259 : g_at 92 259 = some (.iaload, 0, 0, 0) := by decide +kernel
theorem t92_260 : g_at 92 260 = some (.iload 4, 0, 0, 0) := by decide +kernel
theorem t92_262 : g_at 92 262 = some (.if_icmp .le (13), 275, 0, 0) := by decide +kernel
theorem t92_265 : g_at 92 265 = some (.aload_n 0, 0, 0, 0) := by decide +kernel
theorem t92_266 : g_at 92 266 = some (.getfield 47, 4, 22, 0) := by decide +kernel
theorem t92_269 : g_at 92 269 = some (.iload 5, 0, 0, 0) := by decide +kernel
theorem t92_271 : g_at 92 271 = some (.iaload, 0, 0, 0) := by decide +kernel
theorem t92_272 : g_at 92 272 = some (.goto (5), 277, 0, 0) := by decide +kernel
theorem t92_275 : g_at 92 275 = some (.iload 4, 0, 0, 0) := by decide +kernel
theorem t92_277 : g_at 92 277 = some (.istore 4, 0, 0, 0) := by decide +kernel
theorem t92_279 : g_at 92 279 = some (.iinc 5 (1), 0, 0, 1) := by decide +kernel
theorem t92_282 : g_at 92 282 = some (.goto (-70), 212, 0, 0) := by decide +kernel
theorem t92_285 : g_at 92 285 = some (.iload_n 1, 0, 0, 0) := by decide +kernel
theorem t92_286 : g_at 92 286 = some (.ifCond .eq (8), 294, 0, 0) := by decide +kernel
theorem t92_289 : g_at 92 289 = some (.iload 4, 0, 0, 0) := by decide +kernel
theorem t92_291 : g_at 92 291 = some (.goto (4), 295, 0, 0) := by decide +kernel
theorem t92_294 : g_at 92 294 = some (.iload_n 3, 0, 0, 0) := by decide +kernel
theorem t92_295 : g_at 92 295 = some (.ireturn, 0, 0, 0) := by decide +kernel
theorem t93_0 : g_at 93 0 = some (.aload_n 0, 0, 0, 0) := by decide +kernel
theorem t93_1 : g_at 93 1 = some (.iconst 0, 0, 0, 0) := by decide +kernel
theorem t93_2 : g_at 93 2 = some (.putfield 62, 4, 0, 0) := by decide +kernel
theorem t93_5 : g_at 93 5 = some (.iload_n 1, 0, 0, 0) := by decide +kernel
theorem t93_6 : g_at 93 6 = some (.iconst 0, 0, 0, 0) := by decide +kernel
theorem t93_7 : g_at 93 7 = some (.bipush (8), 0, 0, 8) := by decide +kernel
theorem t93_9 : g_at 93 9 = some (.invokestatic 66, 10, 3, 0) := by decide +kernel
theorem t93_12 : g_at 93 12 = some (.ifCond .ne (5), 17, 0, 0) := by decide +kernel
theorem t93_15 : g_at 93 15 = some (.iconst (-1), 0, 0, (-1)) := by decide +kernel
theorem t93_16 : g_at 93 16 = some (.ireturn, 0, 0, 0) := by decide +kernel
theorem t93_17 : g_at 93 17 = some (.iload_n 1, 0, 0, 0) := by decide +kernel
theorem t93_18 : g_at 93 18 = some (.iconst 4, 0, 0, 4) := by decide +kernel
theorem t93_19 : g_at 93 19 = some (.if_icmp .ge (71), 90, 0, 0) := by decide +kernel
theorem t93_22 : g_at 93 22 = some (.aload_n 0, 0, 0, 0) := by decide +kernel
theorem t93_23 : g_at 93 23 = some (.aload_n 0, 0, 0, 0) := by decide +kernel
theorem t93_24 : g_at 93 24 = some (.getfield 13, 4, 8, 0) := by decide +kernel
theorem t93_27 : g_at 93 27 = some (.aload_n 0, 0, 0, 0) := by decide +kernel
theorem t93_28 : g_at 93 28 = some (.getfield 22, 4, 11, 0) := by decide +kernel
theorem t93_31 : g_at 93 31 = some (.iconst 0, 0, 0, 0) := by decide +kernel
theorem t93_32 : g_at 93 32 = some (.iaload, 0, 0, 0) := by decide +kernel
theorem t93_33 : g_at 93 33 = some (.invokevirtual 135, 61, 2, 0) := by decide +kernel
theorem t93_36 : g_at 93 36 = some (.istore_n 2, 0, 0, 0) := by decide +kernel
theorem t93_37 : g_at 93 37 = some (.iload_n 1, 0, 0, 0) := by decide +kernel
theorem t93_38 : g_at 93 38 = some (.ifCond .ne (12), 50, 0, 0) := by decide +kernel
theorem t93_41 : g_at 93 41 = some (.aload_n 0, 0, 0, 0) := by decide +kernel
theorem t93_42 : g_at 93 42 = some (.getfield 22, 4, 11, 0) := by decide +kernel
theorem t93_45 : g_at 93 45 = some (.iconst 0, 0, 0, 0) := by decide +kernel
theorem t93_46 : g_at 93 46 = some (.iaload, 0, 0, 0) := by decide +kernel
theorem t93_47 : g_at 93 47 = some (.goto (42), 89, 0, 0) := by decide +kernel
theorem t93_50 : g_at 93 50 = some (.iload_n 1, 0, 0, 0) := by decide +kernel
theorem t93_51 : g_at 93 51 = some (.iconst 1, 0, 0, 1) := by decide +kernel
theorem t93_52 : g_at 93 52 = some (.if_icmp .ne (7), 59, 0, 0) := by decide +kernel
theorem t93_55 : g_at 93 55 = some (.iload_n 2, 0, 0, 0) := by decide +kernel
theorem t93_56 : g_at 93 56 = some (.goto (33), 89, 0, 0) := by decide +kernel
theorem t93_59 : g_at 93 59 = some (.iload_n 1, 0, 0, 0) := by decide +kernel
theorem t93_60 : g_at 93 60 = some (.iconst 2, 0, 0, 2) := by decide +kernel
theorem t93_61 : g_at 93 61 = some (.if_icmp .ne (20), 81, 0, 0) := by decide +kernel
theorem t93_64 : g_at 93 64 = some (.aload_n 0, 0, 0, 0) := by decide +kernel
theorem t93_65 : g_at 93 65 = some (.aload_n 0, 0, 0, 0) := by decide +kernel
theorem t93_66 : g_at 93 66 = some (.getfield 13, 4, 8, 0) := by decide +kernel
theorem t93_69 : g_at 93 69 = some (.aload_n 0, 0, 0, 0) := by decide +kernel
theorem t93_70 : g_at 93 70 = some (.getfield 22, 4, 11, 0) := by decide +kernel
theorem t93_73 : g_at 93 73 = some (.iconst 0, 0, 0, 0) := by decide +kernel
theorem t93_74 : g_at 93 74 = some (.iaload, 0, 0, 0) := by decide +kernel
theorem t93_75 : g_at 93 75 = some (.invokevirtual 138, 62, 2, 0) := by decide +kernel
theorem t93_78 : g_at 93 78 = some (.goto (11), 89, 0, 0) := by decide +kernel
theorem t93_81 : g_at 93 81 = some (.iload_n 2, 0, 0, 0) := by decide +kernel
theorem t93_82 : g_at 93 82 = some (.aload_n 0, 0, 0, 0) := by decide +kernel
theorem t93_83 : g_at 93 83 = some (.getfield 13, 4, 8, 0) := by decide +kernel
theorem t93_86 : g_at 93 86 = some (.iconst 2, 0, 0, 2) := by decide +kernel
theorem t93_87 : g_at 93 87 = some (.iaload, 0, 0, 0) := by decide +kernel
theorem t93_88 : g_at 93 88 = some (.iand, 0, 0, 0) := by decide +kernel
theorem t93_89 : g_at 93 89 = some (.ireturn, 0, 0, 0) := by decide +kernel
theorem t93_90 : g_at 93 90 = some (.iload_n 1, 0, 0, 0) := by decide +kernel
theorem t93_91 : g_at 93 91 = some (.iconst 4, 0, 0, 4) := by decide +kernel
theorem t93_92 : g_at 93 92 = some (.if_icmp .ne (10), 102, 0, 0) := by decide +kernel
theorem t93_95 : g_at 93 95 = some (.aload_n 0, 0, 0, 0) := by decide +kernel
theorem t93_96 : g_at 93 96 = some (.invokevirtual 170, 87, 0, 0) := by decide +kernel
theorem t93_99 : g_at 93 99 = some (.goto (43), 142, 0, 0) := by decide +kernel
theorem t93_102 : g_at 93 102 = some (.iload_n 1, 0, 0, 0) := by decide +kernel
theorem t93_103 : g_at 93 103 = some (.iconst 5, 0, 0, 5) := by decide +kernel
theorem t93_104 : g_at 93 104 = some (.if_icmp .ne (10), 114, 0, 0) := by decide +kernel
theorem t93_107 : g_at 93 107 = some (.aload_n 0, 0, 0, 0) := by decide +kernel
theorem t93_108 : g_at 93 108 = some (.invokevirtual 174, 88, 0, 0) := by decide +kernel
theorem t93_111 : g_at 93 111 = some (.goto (31), 142, 0, 0) := by decide +kernel
theorem t93_114 : g_at 93 114 = some (.iload_n 1, 0, 0, 0) := by decide +kernel
theorem t93_115 : g_at 93 115 = some (.bipush (8), 0, 0, 8) := by decide +kernel
theorem t93_117 : g_at 93 117 = some (.if_icmp .ne (10), 127, 0, 0) := by decide +kernel
theorem t93_120 : g_at 93 120 = some (.aload_n 0, 0, 0, 0) := by decide +kernel
theorem t93_121 : g_at 93 121 = some (.getfield 147, 4, 13, 0) := by decide +kernel
theorem t93_124 : g_at 93 124 = some (.goto (18), 142, 0, 0) := by decide +kernel
theorem t93_127 : g_at 93 127 = some (.aload_n 0, 0, 0, 0) := by decide +kernel
theorem t93_128 : g_at 93 128 = some (.iload_n 1, 0, 0, 0) := by decide +kernel
theorem t93_129 : g_at 93 129 = some (.bipush (7), 0, 0, 7) := by decide +kernel
theorem t93_131 : g_at 93 131 = some (.if_icmp .ne (7), 138, 0, 0) := by decide +kernel
theorem t93_134 : g_at 93 134 = some (.iconst 1, 0, 0, 1) := by decide +kernel
theorem t93_135 : g_at 93 135 = some (.goto (4), 139, 0, 0) := by decide +kernel
theorem t93_138 : g_at 93 138 = some (.iconst 0, 0, 0, 0) := by decide +kernel
theorem t93_139 : g_at 93 139 = some (.invokevirtual 177, 92, 1, 0) := by decide +kernel
theorem t93_142 : g_at 93 142 = some (.ireturn, 0, 0, 0) := by decide +kernel
theorem t94_0 : g_at 94 0 = some (.aload_n 0, 0, 0, 0) := by decide +kernel
theorem t94_1 : g_at 94 1 = some (.getfield 95, 3, 4, 0) := by decide +kernel
theorem t94_4 : g_at 94 4 = some (.aload_n 0, 0, 0, 0) := by decide +kernel
theorem t94_5 : g_at 94 5 = some (.getfield 102, 3, 5, 0) := by decide +kernel
theorem t94_8 : g_at 94 8 = some (.bipush (8), 0, 0, 8) := by decide +kernel
theorem t94_10 : g_at 94 10 = some (.ishl, 0, 0, 0) := by decide +kernel
theorem t94_11 : g_at 94 11 = some (.ior, 0, 0, 0) := by decide +kernel
theorem t94_12 : g_at 94 12 = some (.aload_n 0, 0, 0, 0) := by decide +kernel
theorem t94_13 : g_at 94 13 = some (.getfield 33, 3, 6, 0) := by decide +kernel
theorem t94_16 : g_at 94 16 = some (.iconst 0, 0, 0, 0) := by decide +kernel
theorem t94_17 : g_at 94 17 = some (.iaload, 0, 0, 0) := by decide +kernel
theorem t94_18 : g_at 94 18 = some (.bipush (16), 0, 0, 16) := by decide +kernel
theorem t94_20 : g_at 94 20 = some (.ishl, 0, 0, 0) := by decide +kernel
theorem t94_21 : g_at 94 21 = some (.ior, 0, 0, 0) := by decide +kernel
theorem t94_22 : g_at 94 22 = some (.aload_n 0, 0, 0, 0) := by decide +kernel
theorem t94_23 : g_at 94 23 = some (.getfield 33, 3, 6, 0) := by decide +kernel
theorem t94_26 : g_at 94 26 = some (.iconst 1, 0, 0, 1) := by decide +kernel
theorem t94_27 : g_at 94 27 = some (.iaload, 0, 0, 0) := by decide +kernel
theorem t94_28 : g_at 94 28 = some (.bipush (20), 0, 0, 20) := by decide +kernel
theorem t94_30 : g_at 94 30 = some (.ishl, 0, 0, 0) := by decide +kernel
theorem t94_31 : g_at 94 31 = some (.ior, 0, 0, 0) := by decide +kernel
theorem t94_32 : g_at 94 32 = some (.aload_n 0, 0, 0, 0) := by decide +kernel
theorem t94_33 : g_at 94 33 = some (.getfield 33, 3, 6, 0) := by decide +kernel
theorem t94_36 : g_at 94 36 = some (.iconst 2, 0, 0, 2) := by decide +kernel
theorem t94_37 : g_at 94 37 = some (.iaload, 0, 0, 0) := by decide +kernel
theorem t94_38 : g_at 94 38 = some (.bipush (24), 0, 0, 24) := by decide +kernel
theorem t94_40 : g_at 94 40 = some (.ishl, 0, 0, 0) := by decide +kernel
theorem t94_41 : g_at 94 41 = some (.ior, 0, 0, 0) := by decide +kernel
theorem t94_42 : g_at 94 42 = some (.ireturn, 0, 0, 0) := by decide +kernel
theorem t95_0 : g_at 95 0 = some (.aload_n 0, 0, 0, 0) := by decide +kernel
theorem t95_1 : g_at 95 1 = some (.getfield 146, 3, 10, 0) := by decide +kernel
theorem t95_4 : g_at 95 4 = some (.bipush (10), 0, 0, 10) := by decide +kernel
theorem t95_6 : g_at 95 6 = some (.if_icmp .lt (37), 43, 0, 0) := by decide +kernel
theorem t95_9 : g_at 95 9 = some (.iconst 1, 0, 0, 1) := by decide +kernel
theorem t95_10 : g_at 95 10 = some (.istore_n 1, 0, 0, 0) := by decide +kernel
theorem t95_11 : g_at 95 11 = some (.iload_n 1, 0, 0, 0) := by decide +kernel
theorem t95_12 : g_at 95 12 = some (.bipush (10), 0, 0, 10) := by decide +kernel
theorem t95_14 : g_at 95 14 = some (.if_icmp .ge (23), 37, 0, 0) := by decide +kernel
theorem t95_17 : g_at 95 17 = some (.aload_n 0, 0, 0, 0) := by decide +kernel
theorem t95_18 : g_at 95 18 = some (.getfield 40, 3, 9, 0) := by decide +kernel
theorem t95_21 : g_at 95 21 = some (.iload_n 1, 0, 0, 0) := by decide +kernel
theorem t95_22 : g_at 95 22 = some (.iconst 1, 0, 0, 1) := by decide +kernel
theorem t95_23 : g_at 95 23 = some (.isub, 0, 0, 0) := by decide +kernel
theorem t95_24 : g_at 95 24 = some (.aload_n 0, 0, 0, 0) := by decide +kernel
theorem t95_25 : g_at 95 25 = some (.getfield 40, 3, 9, 0) := by decide +kernel
theorem t95_28 : g_at 95 28 = some (.iload_n 1, 0, 0, 0) := by decide +kernel
theorem t95_29 : g_at 95 29 = some (.iaload, 0, 0, 0) := by decide +kernel
theorem t95_30 : g_at 95 30 = some (.iastore, 0, 0, 0) := by decide +kernel
theorem t95_31 : g_at 95 31 = some (.iinc 1 (1), 0, 0, 1) := by decide +kernel
theorem t95_34 : g_at 95 34 = some (.goto (-23), 11, 0, 0) := by decide +kernel
theorem t95_37 : g_at 95 37 = some (.aload_n 0, 0, 0, 0) := by decide +kernel
theorem t95_38 : g_at 95 38 = some (.bipush (9), 0, 0, 9) := by decide +kernel
theorem t95_40 : g_at 95 40 = some (.putfield 146, 3, 10, 0) := by decide +kernel
theorem t95_43 : g_at 95 43 = some (.aload_n 0, 0, 0, 0) := by decide +kernel
theorem t95_44 : g_at 95 44 = some (.getfield 40, 3, 9, 0) := by decide +kernel
theorem t95_47 : g_at 95 47 = some (.aload_n 0, 0, 0, 0) := by decide +kernel
theorem t95_48 : g_at 95 48 = some (.getfield 146, 3, 10, 0) := by decide +kernel
theorem t95_51 : g_at 95 51 = some (.aload_n 0, 0, 0, 0) := by decide +kernel
theorem t95_52 : g_at 95 52 = some (.invokevirtual 216, 94, 0, 0) := by decide +kernel
theorem t95_55 : g_at 95 55 = some (.iastore, 0, 0, 0) := by decide +kernel
theorem t95_56 : g_at 95 56 = some (.aload_n 0, 0, 0, 0) := by decide +kernel
theorem t95_57 : g_at 95 57 = some (.dup, 0, 0, 0) := by decide +kernel
theorem t95_58 : g_at 95 58 = some (.getfield 146, 3, 10, 0) := by decide +kernel
theorem t95_61 : g_at 95 61 = some (.iconst 1, 0, 0, 1) := by decide +kernel
theorem t95_62 : g_at 95 62 = some (.iadd, 0, 0, 0) := by decide +kernel
theorem t95_63 : g_at 95 63 = some (.putfield 146, 3, 10, 0) := by decide +kernel
theorem t95_66 : g_at 95 66 = some (.return_, 0, 0, 0) := by decide +kernel
theorem t96_0 : g_at 96 0 = some (.aload_n 0, 0, 0, 0) := by decide +kernel
theorem t96_1 : g_at 96 1 = some (.iload_n 1, 0, 0, 0) := by decide +kernel
theorem t96_2 : g_at 96 2 = some (.invokevirtual 80, 64, 1, 0) := by decide +kernel
theorem t96_5 : g_at 96 5 = some (.ifCond .ne (5), 10, 0, 0) := by decide +kernel
theorem t96_8 : g_at 96 8 = some (.iconst (-1), 0, 0, (-1)) := by decide +kernel
theorem t96_9 : g_at 96 9 = some (.ireturn, 0, 0, 0) := by decide +kernel
theorem t96_10 : g_at 96 10 = some (.aload_n 0, 0, 0, 0) := by decide +kernel
theorem t96_11 : g_at 96 11 = some (.iload_n 1, 0, 0, 0) := by decide +kernel
theorem t96_12 : g_at 96 12 = some (.invokevirtual 105, 66, 1, 0) := by decide +kernel
theorem t96_15 : g_at 96 15 = some (.ifCond .eq (6), 21, 0, 0) := by decide +kernel
theorem t96_18 : g_at 96 18 = some (.bipush (-2), 0, 0, (-2)) := by decide +kernel
theorem t96_20 : g_at 96 20 = some (.ireturn, 0, 0, 0) := by decide +kernel
theorem t96_21 : g_at 96 21 = some (.aload_n 0, 0, 0, 0) := by decide +kernel
theorem t96_22 : g_at 96 22 = some (.invokevirtual 149, 95, 0, 0) := by decide +kernel
theorem t96_25 : g_at 96 25 = some (.aload_n 0, 0, 0, 0) := by decide +kernel
theorem t96_26 : g_at 96 26 = some (.dup, 0, 0, 0) := by decide +kernel
theorem t96_27 : g_at 96 27 = some (.getfield 95, 3, 4, 0) := by decide +kernel
theorem t96_30 : g_at 96 30 = some (.iconst 1, 0, 0, 1) := by decide +kernel
theorem t96_31 : g_at 96 31 = some (.iload_n 1, 0, 0, 0) := by decide +kernel
theorem t96_32 : g_at 96 32 = some (.ishl, 0, 0, 0) := by decide +kernel
theorem t96_33 : g_at 96 33 = some (.ixor, 0, 0, 0) := by decide +kernel
theorem t96_34 : g_at 96 34 = some (.putfield 95, 3, 4, 0) := by decide +kernel
theorem t96_37 : g_at 96 37 = some (.aload_n 0, 0, 0, 0) := by decide +kernel
theorem t96_38 : g_at 96 38 = some (.getfield 95, 3, 4, 0) := by decide +kernel
theorem t96_41 : g_at 96 41 = some (.ireturn, 0, 0, 0) := by decide +kernel
theorem t97_0 : g_at 97 0 = some (.aload_n 0, 0, 0, 0) := by decide +kernel
theorem t97_1 : g_at 97 1 = some (.getfield 147, 4, 13, 0) := by decide +kernel
theorem t97_4 : g_at 97 4 = some (.bipush (10), 0, 0, 10) := by decide +kernel
theorem t97_6 : g_at 97 6 = some (.if_icmp .ne (37), 43, 0, 0) := by decide +kernel
theorem t97_9 : g_at 97 9 = some (.iconst 0, 0, 0, 0) := by decide +kernel
theorem t97_10 : g_at 97 10 = some (.istore_n 1, 0, 0, 0) := by decide +kernel
theorem t97_11 : g_at 97 11 = some (.iload_n 1, 0, 0, 0) := by decide +kernel
theorem t97_12 : g_at 97 12 = some (.bipush (45), 0, 0, 45) := by decide +kernel
theorem t97_14 : g_at 97 14 = some (.if_icmp .ge (23), 37, 0, 0) := by decide +kernel
theorem t97_17 : g_at 97 17 = some (.aload_n 0, 0, 0, 0) := by decide +kernel
theorem t97_18 : g_at 97 18 = some (.getfield 25, 4, 12, 0) := by decide +kernel
theorem t97_21 : g_at 97 21 = some (.iload_n 1, 0, 0, 0) := by decide +kernel
theorem t97_22 : g_at 97 22 = some (.aload_n 0, 0, 0, 0) := by decide +kernel
theorem t97_23 : g_at 97 23 = some (.getfield 25, 4, 12, 0) := by decide +kernel
theorem t97_26 : g_at 97 26 = some (.iload_n 1, 0, 0, 0) := by decide +kernel
theorem t97_27 : g_at 97 27 = some (.iconst 5, 0, 0, 5) := by decide +kernel
theorem t97_28 : g_at 97 28 = some (.iadd, 0, 0, 0) := by decide +kernel
theorem t97_29 : g_at 97 29 = some (.iaload, 0, 0, 0) := by decide +kernel
theorem t97_30 : g_at 97 30 = some (.iastore, 0, 0, 0) := by decide +kernel
theorem t97_31 : g_at 97 31 = some (.iinc 1 (1), 0, 0, 1) := by decide +kernel
theorem t97_34 : g_at 97 34 = some (.goto (-23), 11, 0, 0) := by decide +kernel
theorem t97_37 : g_at 97 37 = some (.aload_n 0, 0, 0, 0) := by decide +kernel
theorem t97_38 : g_at 97 38 = some (.bipush (9), 0, 0, 9) := by decide +kernel
theorem t97_40 : g_at 97 40 = some (.putfield 147, 4, 13, 0) := by decide +kernel
theorem t97_43 : g_at 97 43 = some (.iconst 0, 0, 0, 0) := by decide +kernel
theorem t97_44 : g_at 97 44 = some (.istore_n 1, 0, 0, 0) := by decide +kernel
theorem t97_45 : g_at 97 45 = some (.iload_n 1, 0, 0, 0) := by decide +kernel
theorem t97_46 : g_at 97 46 = some (.iconst 5, 0, 0, 5) := by decide +kernel
theorem t97_47 : g_at 97 47 = some (.if_icmp .ge (28), 75, 0, 0) := by decide +kernel
theorem t97_50 : g_at 97 50 = some (.aload_n 0, 0, 0, 0) := by decide +kernel
theorem t97_51 : g_at 97 51 = some (.getfield 25, 4, 12, 0) := by decide +kernel
theorem t97_54 : g_at 97 54 = some (.iconst 5, 0, 0, 5) := by decide +kernel
theorem t97_55 : g_at 97 55 = some (.aload_n 0, 0, 0, 0) := by decide +kernel
theorem t97_56 : g_at 97 56 = some (.getfield 147, 4, 13, 0) := by decide +kernel
theorem t97_59 : g_at 97 59 = some (.imul, 0, 0, 0) := by decide +kernel
theorem t97_60 : g_at 97 60 = some (.iload_n 1, 0, 0, 0) := by decide +kernel
theorem t97_61 : g_at 97 61 = some (.iadd, 0, 0, 0) := by decide +kernel
theorem t97_62 : g_at 97 62 = some (.aload_n 0, 0, 0, 0) := by decide +kernel
theorem t97_63 : g_at 97 63 = some (.getfield 22, 4, 11, 0) := by decide +kernel
theorem t97_66 : g_at 97 66 = some (.iload_n 1, 0, 0, 0) := by decide +kernel
theorem t97_67 : g_at 97 67 = some (.iaload, 0, 0, 0) := by decide +kernel
theorem t97_68 : g_at 97 68 = some (.iastore, 0, 0, 0) := by decide +kernel
theorem t97_69 : g_at 97 69 = some (.iinc 1 (1), 0, 0, 1) := by decide +kernel
theorem t97_72 : g_at 97 72 = some (.goto (-27), 45, 0, 0) := by decide +kernel
theorem t97_75 : g_at 97 75 = some (.aload_n 0, 0, 0, 0) := by decide +kernel
theorem t97_76 : g_at 97 76 = some (.dup, 0, 0, 0) := by decide +kernel
theorem t97_77 : g_at 97 77 = some (.getfield 147, 4, 13, 0) := by decide +kernel
theorem t97_80 : g_at 97 80 = some (.iconst 1, 0, 0, 1) := by decide +kernel
theorem t97_81 : g_at 97 81 = some (.iadd, 0, 0, 0) := by decide +kernel
theorem t97_82 : g_at 97 82 = some (.putfield 147, 4, 13, 0) := by decide +kernel
theorem t97_85 : g_at 97 85 = some (.return_, 0, 0, 0) := by decide +kernel
theorem t98_0 : g_at 98 0 = some (.aload_n 0, 0, 0, 0) := by decide +kernel
theorem t98_1 : g_at 98 1 = some (.iconst 0, 0, 0, 0) := by decide +kernel
theorem t98_2 : g_at 98 2 = some (.putfield 62, 4, 0, 0) := by decide +kernel
theorem t98_5 : g_at 98 5 = some (.aload_n 0, 0, 0, 0) := by decide +kernel
theorem t98_6 : g_at 98 6 = some (.iload_n 1, 0, 0, 0) := by decide +kernel
theorem t98_7 : g_at 98 7 = some (.invokevirtual 160, 68, 1, 0) := by decide +kernel
theorem t98_10 : g_at 98 10 = some (.ifCond .ne (5), 15, 0, 0) := by decide +kernel
theorem t98_13 : g_at 98 13 = some (.iconst (-1), 0, 0, (-1)) := by decide +kernel
theorem t98_14 : g_at 98 14 = some (.ireturn, 0, 0, 0) := by decide +kernel
theorem t98_15 : g_at 98 15 = some (.aload_n 0, 0, 0, 0) := by decide +kernel
theorem t98_16 : g_at 98 16 = some (.iload_n 1, 0, 0, 0) := by decide +kernel
theorem t98_17 : g_at 98 17 = some (.aload_n 0, 0, 0, 0) := by decide +kernel
theorem t98_18 : g_at 98 18 = some (.getfield 22, 4, 11, 0) := by decide +kernel
theorem t98_21 : g_at 98 21 = some (.iconst 0, 0, 0, 0) := by decide +kernel
theorem t98_22 : g_at 98 22 = some (.iaload, 0, 0, 0) := by decide +kernel
theorem t98_23 : g_at 98 23 = some (.invokevirtual 163, 70, 2, 0) := by decide +kernel
theorem t98_26 : g_at 98 26 = some (.ifCond .eq (6), 32, 0, 0) := by decide +kernel
theorem t98_29 : g_at 98 29 = some (.bipush (-2), 0, 0, (-2)) := by decide +kernel
theorem t98_31 : g_at 98 31 = some (.ireturn, 0, 0, 0) := by decide +kernel
theorem t98_32 : g_at 98 32 = some (.aload_n 0, 0, 0, 0) := by decide +kernel
theorem t98_33 : g_at 98 33 = some (.invokevirtual 180, 97, 0, 0) := by decide +kernel
theorem t98_36 : g_at 98 36 = some (.aload_n 0, 0, 0, 0) := by decide +kernel
theorem t98_37 : g_at 98 37 = some (.getfield 22, 4, 11, 0) := by decide +kernel
theorem t98_40 : g_at 98 40 = some (.iconst 0, 0, 0, 0) := by decide +kernel
theorem t98_41 : g_at 98 41 = some (.dup2, 0, 0, 0) := by decide +kernel
theorem t98_42 : g_at 98 42 = some (.iaload, 0, 0, 0) := by decide +kernel
theorem t98_43 : g_at 98 43 = some (.iconst 1, 0, 0, 1) := by decide +kernel
theorem t98_44 : g_at 98 44 = some (.iload_n 1, 0, 0, 0) := by decide +kernel
theorem t98_45 : g_at 98 45 = some (.ishl, 0, 0, 0) := by decide +kernel
theorem t98_46 : g_at 98 46 = some (.ixor, 0, 0, 0) := by decide +kernel
theorem t98_47 : g_at 98 47 = some (.iastore, 0, 0, 0) := by decide +kernel
theorem t98_48 : g_at 98 48 = some (.aload_n 0, 0, 0, 0) := by decide +kernel
theorem t98_49 : g_at 98 49 = some (.getfield 22, 4, 11, 0) := by decide +kernel
theorem t98_52 : g_at 98 52 = some (.iconst 0, 0, 0, 0) := by decide +kernel
theorem t98_53 : g_at 98 53 = some (.iaload, 0, 0, 0) := by decide +kernel
theorem t98_54 : g_at 98 54 = some (.ireturn, 0, 0, 0) := by decide +kernel
theorem t99_0 : g_at 99 0 = some (.aload_n 0, 0, 0, 0) := by decide +kernel
theorem t99_1 : g_at 99 1 = some (.iload_n 1, 0, 0, 0) := by decide +kernel
theorem t99_2 : g_at 99 2 = some (.invokevirtual 80, 64, 1, 0) := by decide +kernel
theorem t99_5 : g_at 99 5 = some (.ifCond .ne (5), 10, 0, 0) := by decide +kernel
theorem t99_8 : g_at 99 8 = some (.iconst (-1), 0, 0, (-1)) := by decide +kernel
theorem t99_9 : g_at 99 9 = some (.ireturn, 0, 0, 0) := by decide +kernel
theorem t99_10 : g_at 99 10 = some (.aload_n 0, 0, 0, 0) := by decide +kernel
theorem t99_11 : g_at 99 11 = some (.invokevirtual 149, 95, 0, 0) := by decide +kernel
theorem t99_14 : g_at 99 14 = some (.aload_n 0, 0, 0, 0) := by decide +kernel
theorem t99_15 : g_at 99 15 = some (.dup, 0, 0, 0) := by decide +kernel
theorem t99_16 : g_at 99 16 = some (.getfield 102, 3, 5, 0) := by decide +kernel
theorem t99_19 : g_at 99 19 = some (.iconst 1, 0, 0, 1) := by decide +kernel
theorem t99_20 : g_at 99 20 = some (.iload_n 1, 0, 0, 0) := by decide +kernel
theorem t99_21 : g_at 99 21 = some (.ishl, 0, 0, 0) := by decide +kernel
theorem t99_22 : g_at 99 22 = some (.ixor, 0, 0, 0) := by decide +kernel
theorem t99_23 : g_at 99 23 = some (.putfield 102, 3, 5, 0) := by decide +kernel
theorem t99_26 : g_at 99 26 = some (.aload_n 0, 0, 0, 0) := by decide +kernel
theorem t99_27 : g_at 99 27 = some (.getfield 102, 3, 5, 0) := by decide +kernel
theorem t99_30 : g_at 99 30 = some (.iload_n 1, 0, 0, 0) := by decide +kernel
theorem t99_31 : g_at 99 31 = some (.invokestatic 98, 19, 2, 0) := by decide +kernel
theorem t99_34 : g_at 99 34 = some (.ireturn, 0, 0, 0) := by decide +kernel
theorem t100_0 : g_at 100 0 = some (.aload_n 0, 0, 0, 0) := by decide +kernel
theorem t100_1 : g_at 100 1 = some (.iconst 0, 0, 0, 0) := by decide +kernel
theorem t100_2 : g_at 100 2 = some (.putfield 62, 4, 0, 0) := by decide +kernel
theorem t100_5 : g_at 100 5 = some (.aload_n 0, 0, 0, 0) := by decide +kernel
theorem t100_6 : g_at 100 6 = some (.iload_n 1, 0, 0, 0) := by decide +kernel
theorem t100_7 : g_at 100 7 = some (.invokevirtual 160, 68, 1, 0) := by decide +kernel
theorem t100_10 : g_at 100 10 = some (.ifCond .ne (5), 15, 0, 0) := by decide +kernel
theorem t100_13 : g_at 100 13 = some (.iconst (-1), 0, 0, (-1)) := by decide +kernel
theorem t100_14 : g_at 100 14 = some (.ireturn, 0, 0, 0) := by decide +kernel
theorem t100_15 : g_at 100 15 = some (.aload_n 0, 0, 0, 0) := by decide +kernel
theorem t100_16 : g_at 100 16 = some (.invokevirtual 180, 97, 0, 0) := by decide +kernel
theorem t100_19 : g_at 100 19 = some (.aload_n 0, 0, 0, 0) := by decide +kernel
theorem t100_20 : g_at 100 20 = some (.getfield 22, 4, 11, 0) := by decide +kernel
theorem t100_23 : g_at 100 23 = some (.iconst 1, 0, 0, 1) := by decide +kernel
theorem t100_24 : g_at 100 24 = some (.dup2, 0, 0, 0) := by decide +kernel
theorem t100_25 : g_at 100 25 = some (.iaload, 0, 0, 0) := by decide +kernel
theorem t100_26 : g_at 100 26 = some (.iconst 1, 0, 0, 1) := by decide +kernel
theorem t100_27 : g_at 100 27 = some (.iload_n 1, 0, 0, 0) := by decide +kernel
theorem t100_28 : g_at 100 28 = some (.ishl, 0, 0, 0) := by decide +kernel
theorem t100_29 : g_at 100 29 = some (.ixor, 0, 0, 0) := by decide +kernel
theorem t100_30 : g_at 100 30 = some (.iastore, 0, 0, 0) := by decide +kernel
theorem t100_31 : g_at 100 31 = some (.aload_n 0, 0, 0, 0) := by decide +kernel
theorem t100_32 : g_at 100 32 = some (.getfield 22, 4, 11, 0) := by decide +kernel
theorem t100_35 : g_at 100 35 = some (.iconst 1, 0, 0, 1) := by decide +kernel
theorem t100_36 : g_at 100 36 = some (.iaload, 0, 0, 0) := by decide +kernel
theorem t100_37 : g_at 100 37 = some (.iload_n 1, 0, 0, 0) := by decide +kernel
theorem t100_38 : g_at 100 38 = some (.ishr, 0, 0, 0) := by decide +kernel
theorem t100_39 : g_at 100 39 = some (.iconst 1, 0, 0, 1) := by decide +kernel
theorem t100_40 : g_at 100 40 = some (.iand, 0, 0, 0) := by decide +kernel
theorem t100_41 : g_at 100 41 = some (.ireturn, 0, 0, 0) := by decide +kernel
theorem t101_0 : g_at 101 0 = some (.iload_n 0, 0, 0, 0) := by decide +kernel
theorem t101_1 : g_at 101 1 = some (.iconst 1, 0, 0, 1) := by decide +kernel
theorem t101_2 : g_at 101 2 = some (.if_icmp .lt (13), 15, 0, 0) := by decide +kernel
theorem t101_5 : g_at 101 5 = some (.iload_n 0, 0, 0, 0) := by decide +kernel
theorem t101_6 : g_at 101 6 = some (.bipush (9), 0, 0, 9) := by decide +kernel
theorem t101_8 : g_at 101 8 = some (.if_icmp .gt (7), 15, 0, 0) := by decide +kernel
theorem t101_11 : g_at 101 11 = some (.iconst 1, 0, 0, 1) := by decide +kernel
theorem t101_12 : g_at 101 12 = some (.goto (4), 16, 0, 0) := by decide +kernel
theorem t101_15 : g_at 101 15 = some (.iconst 0, 0, 0, 0) := by decide +kernel
theorem t101_16 : g_at 101 16 = some (.ireturn, 0, 0, 0) := by decide +kernel
theorem t102_0 : g_at 102 0 = some (.iload_n 1, 0, 0, 0) := by decide +kernel
theorem t102_1 : g_at 102 1 = some (.invokestatic 152, 101, 1, 0) := by decide +kernel
theorem t102_4 : g_at 102 4 = some (.ifCond .eq (17), 21, 0, 0) := by decide +kernel
theorem t102_7 : g_at 102 7 = some (.iload_n 2, 0, 0, 0) := by decide +kernel
theorem t102_8 : g_at 102 8 = some (.invokestatic 152, 101, 1, 0) := by decide +kernel
theorem t102_11 : g_at 102 11 = some (.ifCond .eq (10), 21, 0, 0) := by decide +kernel
theorem t102_14 : g_at 102 14 = some (.iload_n 3, 0, 0, 0) := by decide +kernel
theorem t102_15 : g_at 102 15 = some (.invokestatic 152, 101, 1, 0) := by decide +kernel
theorem t102_18 : g_at 102 18 = some (.ifCond .ne (5), 23, 0, 0) := by decide +kernel
theorem t102_21 : g_at 102 21 = some (.iconst (-1), 0, 0, (-1)) := by decide +kernel
theorem t102_22 : g_at 102 22 = some (.ireturn, 0, 0, 0) := by decide +kernel
theorem t102_23 : g_at 102 23 = some (.aload_n 0, 0, 0, 0) := by decide +kernel
theorem t102_24 : g_at 102 24 = some (.invokevirtual 149, 95, 0, 0) := by decide +kernel
theorem t102_27 : g_at 102 27 = some (.aload_n 0, 0, 0, 0) := by decide +kernel
theorem t102_28 : g_at 102 28 = some (.iload_n 1, 0, 0, 0) := by decide +kernel
theorem t102_29 : g_at 102 29 = some (.iload_n 2, 0, 0, 0) := by decide +kernel
theorem t102_30 : g_at 102 30 = some (.iload_n 3, 0, 0, 0) := by decide +kernel
theorem t102_31 : g_at 102 31 = some (.invokevirtual 155, 3, 3, 0) := by decide +kernel
theorem t102_34 : g_at 102 34 = some (.iload_n 1, 0, 0, 0) := by decide +kernel
theorem t102_35 : g_at 102 35 = some (.iload_n 2, 0, 0, 0) := by decide +kernel
theorem t102_36 : g_at 102 36 = some (.iadd, 0, 0, 0) := by decide +kernel
theorem t102_37 : g_at 102 37 = some (.iload_n 3, 0, 0, 0) := by decide +kernel
theorem t102_38 : g_at 102 38 = some (.iadd, 0, 0, 0) := by decide +kernel
theorem t102_39 : g_at 102 39 = some (.ireturn, 0, 0, 0) := by decide +kernel
theorem t103_0 : g_at 103 0 = some (.aload_n 0, 0, 0, 0) := by decide +kernel
theorem t103_1 : g_at 103 1 = some (.iconst 0, 0, 0, 0) := by decide +kernel
theorem t103_2 : g_at 103 2 = some (.putfield 62, 4, 0, 0) := by decide +kernel
theorem t103_5 : g_at 103 5 = some (.iload_n 1, 0, 0, 0) := by decide +kernel
theorem t103_6 : g_at 103 6 = some (.iconst 1, 0, 0, 1) := by decide +kernel
theorem t103_7 : g_at 103 7 = some (.bipush (9), 0, 0, 9) := by decide +kernel
theorem t103_9 : g_at 103 9 = some (.invokestatic 66, 10, 3, 0) := by decide +kernel
theorem t103_12 : g_at 103 12 = some (.ifCond .eq (23), 35, 0, 0) := by decide +kernel
theorem t103_15 : g_at 103 15 = some (.iload_n 2, 0, 0, 0) := by decide +kernel
theorem t103_16 : g_at 103 16 = some (.iconst 1, 0, 0, 1) := by decide +kernel
theorem t103_17 : g_at 103 17 = some (.bipush (9), 0, 0, 9) := by decide +kernel
theorem t103_19 : g_at 103 19 = some (.invokestatic 66, 10, 3, 0) := by decide +kernel
theorem t103_22 : g_at 103 22 = some (.ifCond .eq (13), 35, 0, 0) := by decide +kernel
theorem t103_25 : g_at 103 25 = some (.iload_n 3, 0, 0, 0) := by decide +kernel
theorem t103_26 : g_at 103 26 = some (.iconst 1, 0, 0, 1) := by decide +kernel
theorem t103_27 : g_at 103 27 = some (.bipush (9), 0, 0, 9) := by decide +kernel
theorem t103_29 : g_at 103 29 = some (.invokestatic 66, 10, 3, 0) := by decide +kernel
theorem t103_32 : g_at 103 32 = some (.ifCond .ne (5), 37, 0, 0) := by decide +kernel
theorem t103_35 : g_at 103 35 = some (.iconst (-1), 0, 0, (-1)) := by decide +kernel
theorem t103_36 : g_at 103 36 = some (.ireturn, 0, 0, 0) := by decide +kernel
theorem t103_37 : g_at 103 37 = some (.aload_n 0, 0, 0, 0) := by decide +kernel
theorem t103_38 : g_at 103 38 = some (.invokevirtual 180, 97, 0, 0) := by decide +kernel
theorem t103_41 : g_at 103 41 = some (.aload_n 0, 0, 0, 0) := by decide +kernel
theorem t103_42 : g_at 103 42 = some (.getfield 22, 4, 11, 0) := by decide +kernel
theorem t103_45 : g_at 103 45 = some (.iconst 2, 0, 0, 2) := by decide +kernel
theorem t103_46 : g_at 103 46 = some (.iload_n 1, 0, 0, 0) := by decide +kernel
theorem t103_47 : g_at 103 47 = some (.iastore, 0, 0, 0) := by decide +kernel
theorem t103_48 : g_at 103 48 = some (.aload_n 0, 0, 0, 0) := by decide +kernel
theorem t103_49 : g_at 103 49 = some (.getfield 22, 4, 11, 0) := by decide +kernel
theorem t103_52 : g_at 103 52 = some (.iconst 3, 0, 0, 3) := by decide +kernel
theorem t103_53 : g_at 103 53 = some (.iload_n 2, 0, 0, 0) := by decide +kernel
theorem t103_54 : g_at 103 54 = some (.iastore, 0, 0, 0) := by decide +kernel
theorem t103_55 : g_at 103 55 = some (.aload_n 0, 0, 0, 0) := by decide +kernel
theorem t103_56 : g_at 103 56 = some (.getfield 22, 4, 11, 0) := by decide +kernel
theorem t103_59 : g_at 103 59 = some (.iconst 4, 0, 0, 4) := by decide +kernel
theorem t103_60 : g_at 103 60 = some (.iload_n 3, 0, 0, 0) := by decide +kernel
theorem t103_61 : g_at 103 61 = some (.iastore, 0, 0, 0) := by decide +kernel
theorem t103_62 : g_at 103 62 = some (.iload_n 1, 0, 0, 0) := by decide +kernel
theorem t103_63 : g_at 103 63 = some (.iload_n 2, 0, 0, 0) := by decide +kernel
theorem t103_64 : g_at 103 64 = some (.iadd, 0, 0, 0) := by decide +kernel
theorem t103_65 : g_at 103 65 = some (.iload_n 3, 0, 0, 0) := by decide +kernel
theorem t103_66 : g_at 103 66 = some (.iadd, 0, 0, 0) := by decide +kernel
theorem t103_67 : g_at 103 67 = some (.ireturn, 0, 0, 0) := by decide +kernel
theorem t104_0 : g_at 104 0 = some (.aload_n 0, 0, 0, 0) := by decide +kernel
theorem t104_1 : g_at 104 1 = some (.iload_n 1, 0, 0, 0) := by decide +kernel
theorem t104_2 : g_at 104 2 = some (.invokevirtual 80, 64, 1, 0) := by decide +kernel
theorem t104_5 : g_at 104 5 = some (.ifCond .ne (5), 10, 0, 0) := by decide +kernel
theorem t104_8 : g_at 104 8 = some (.iconst (-1), 0, 0, (-1)) := by decide +kernel
theorem t104_9 : g_at 104 9 = some (.ireturn, 0, 0, 0) := by decide +kernel
theorem t104_10 : g_at 104 10 = some (.aload_n 0, 0, 0, 0) := by decide +kernel
theorem t104_11 : g_at 104 11 = some (.getfield 159, 3, 8, 0) := by decide +kernel
theorem t104_14 : g_at 104 14 = some (.bipush (12), 0, 0, 12) := by decide +kernel
theorem t104_16 : g_at 104 16 = some (.if_icmp .lt (6), 22, 0, 0) := by decide +kernel
theorem t104_19 : g_at 104 19 = some (.bipush (-3), 0, 0, (-3)) := by decide +kernel
theorem t104_21 : g_at 104 21 = some (.ireturn, 0, 0, 0) := by decide +kernel
theorem t104_22 : g_at 104 22 = some (.aload_n 0, 0, 0, 0) := by decide +kernel
theorem t104_23 : g_at 104 23 = some (.getfield 37, 3, 7, 0) := by decide +kernel
theorem t104_26 : g_at 104 26 = some (.aload_n 0, 0, 0, 0) := by decide +kernel
theorem t104_27 : g_at 104 27 = some (.getfield 159, 3, 8, 0) := by decide +kernel
theorem t104_30 : g_at 104 30 = some (.iload_n 1, 0, 0, 0) := by decide +kernel
theorem t104_31 : g_at 104 31 = some (.iastore, 0, 0, 0) := by decide +kernel
theorem t104_32 : g_at 104 32 = some (.aload_n 0, 0, 0, 0) := by decide +kernel
theorem t104_33 : g_at 104 33 = some (.dup, 0, 0, 0) := by decide +kernel
theorem t104_34 : g_at 104 34 = some (.getfield 159, 3, 8, 0) := by decide +kernel
theorem t104_37 : g_at 104 37 = some (.iconst 1, 0, 0, 1) := by decide +kernel
theorem t104_38 : g_at 104 38 = some (.iadd, 0, 0, 0) := by decide +kernel
theorem t104_39 : g_at 104 39 = some (.putfield 159, 3, 8, 0) := by decide +kernel
theorem t104_42 : g_at 104 42 = some (.aload_n 0, 0, 0, 0) := by decide +kernel
theorem t104_43 : g_at 104 43 = some (.getfield 159, 3, 8, 0) := by decide +kernel
theorem t104_46 : g_at 104 46 = some (.ireturn, 0, 0, 0) := by decide +kernel
theorem t105_0 : g_at 105 0 = some (.aload_n 0, 0, 0, 0) := by decide +kernel
theorem t105_1 : g_at 105 1 = some (.iconst 0, 0, 0, 0) := by decide +kernel
theorem t105_2 : g_at 105 2 = some (.putfield 62, 4, 0, 0) := by decide +kernel
theorem t105_5 : g_at 105 5 = some (.aload_n 0, 0, 0, 0) := by decide +kernel
theorem t105_6 : g_at 105 6 = some (.iload_n 1, 0, 0, 0) := by decide +kernel
theorem t105_7 : g_at 105 7 = some (.invokevirtual 160, 68, 1, 0) := by decide +kernel
theorem t105_10 : g_at 105 10 = some (.ifCond .ne (5), 15, 0, 0) := by decide +kernel
theorem t105_13 : g_at 105 13 = some (.iconst (-1), 0, 0, (-1)) := by decide +kernel
theorem t105_14 : g_at 105 14 = some (.ireturn, 0, 0, 0) := by decide +kernel
theorem t105_15 : g_at 105 15 = some (.aload_n 0, 0, 0, 0) := by decide +kernel
theorem t105_16 : g_at 105 16 = some (.getfield 141, 4, 17, 0) := by decide +kernel
theorem t105_19 : g_at 105 19 = some (.bipush (12), 0, 0, 12) := by decide +kernel
theorem t105_21 : g_at 105 21 = some (.if_icmp .ne (6), 27, 0, 0) := by decide +kernel
theorem t105_24 : g_at 105 24 = some (.bipush (-3), 0, 0, (-3)) := by decide +kernel
theorem t105_26 : g_at 105 26 = some (.ireturn, 0, 0, 0) := by decide +kernel
theorem t105_27 : g_at 105 27 = some (.aload_n 0, 0, 0, 0) := by decide +kernel
theorem t105_28 : g_at 105 28 = some (.getfield 35, 4, 16, 0) := by decide +kernel
theorem t105_31 : g_at 105 31 = some (.aload_n 0, 0, 0, 0) := by decide +kernel
theorem t105_32 : g_at 105 32 = some (.getfield 141, 4, 17, 0) := by decide +kernel
theorem t105_35 : g_at 105 35 = some (.iload_n 1, 0, 0, 0) := by decide +kernel
theorem t105_36 : g_at 105 36 = some (.iastore, 0, 0, 0) := by decide +kernel
theorem t105_37 : g_at 105 37 = some (.aload_n 0, 0, 0, 0) := by decide +kernel
theorem t105_38 : g_at 105 38 = some (.dup, 0, 0, 0) := by decide +kernel
theorem t105_39 : g_at 105 39 = some (.getfield 141, 4, 17, 0) := by decide +kernel
theorem t105_42 : g_at 105 42 = some (.iconst 1, 0, 0, 1) := by decide +kernel
theorem t105_43 : g_at 105 43 = some (.iadd, 0, 0, 0) := by decide +kernel
theorem t105_44 : g_at 105 44 = some (.putfield 141, 4, 17, 0) := by decide +kernel
theorem t105_47 : g_at 105 47 = some (.aload_n 0, 0, 0, 0) := by decide +kernel
theorem t105_48 : g_at 105 48 = some (.getfield 141, 4, 17, 0) := by decide +kernel
theorem t105_51 : g_at 105 51 = some (.ireturn, 0, 0, 0) := by decide +kernel
theorem t106_0 : g_at 106 0 = some (.aload_n 0, 0, 0, 0) := by decide +kernel
theorem t106_1 : g_at 106 1 = some (.getfield 159, 3, 8, 0) := by decide +kernel
theorem t106_4 : g_at 106 4 = some (.ifCond .eq (16), 20, 0, 0) := by decide +kernel
theorem t106_7 : g_at 106 7 = some (.aload_n 0, 0, 0, 0) := by decide +kernel
theorem t106_8 : g_at 106 8 = some (.aload_n 0, 0, 0, 0) := by decide +kernel
theorem t106_9 : g_at 106 9 = some (.getfield 37, 3, 7, 0) := by decide +kernel
theorem t106_12 : g_at 106 12 = some (.iconst 0, 0, 0, 0) := by decide +kernel
theorem t106_13 : g_at 106 13 = some (.iaload, 0, 0, 0) := by decide +kernel
theorem t106_14 : g_at 106 14 = some (.invokevirtual 105, 66, 1, 0) := by decide +kernel
theorem t106_17 : g_at 106 17 = some (.ifCond .eq (6), 23, 0, 0) := by decide +kernel
theorem t106_20 : g_at 106 20 = some (.bipush (-2), 0, 0, (-2)) := by decide +kernel
theorem t106_22 : g_at 106 22 = some (.ireturn, 0, 0, 0) := by decide +kernel
theorem t106_23 : g_at 106 23 = some (.aload_n 0, 0, 0, 0) := by decide +kernel
theorem t106_24 : g_at 106 24 = some (.invokevirtual 149, 95, 0, 0) := by decide +kernel
theorem t106_27 : g_at 106 27 = some (.iconst 0, 0, 0, 0) := by decide +kernel
theorem t106_28 : g_at 106 28 = some (.istore_n 1, 0, 0, 0) := by decide +kernel
theorem t106_29 : g_at 106 29 = some (.iload_n 1, 0, 0, 0) := by decide +kernel
theorem t106_30 : g_at 106 30 = some (.aload_n 0, 0, 0, 0) := by decide +kernel
theorem t106_31 : g_at 106 31 = some (.getfield 159, 3, 8, 0) := by decide +kernel
theorem t106_34 : g_at 106 34 = some (.if_icmp .ge (39), 73, 0, 0) := by decide +kernel
theorem t106_37 : g_at 106 37 = some (.aload_n 0, 0, 0, 0) := by decide +kernel
theorem t106_38 : g_at 106 38 = some (.aload_n 0, 0, 0, 0) := by decide +kernel
theorem t106_39 : g_at 106 39 = some (.getfield 37, 3, 7, 0) := by decide +kernel
theorem t106_42 : g_at 106 42 = some (.iload_n 1, 0, 0, 0) := by decide +kernel
theorem t106_43 : g_at 106 43 = some (.iaload, 0, 0, 0) := by decide +kernel
theorem t106_44 : g_at 106 44 = some (.invokevirtual 105, 66, 1, 0) := by decide +kernel
theorem t106_47 : g_at 106 47 = some (.ifCond .ne (26), 73, 0, 0) := by decide +kernel
theorem t106_50 : g_at 106 50 = some (.aload_n 0, 0, 0, 0) := by decide +kernel
theorem t106_51 : g_at 106 51 = some (.dup, 0, 0, 0) := by decide +kernel
theorem t106_52 : g_at 106 52 = some (.getfield 95, 3, 4, 0) := by decide +kernel
theorem t106_55 : g_at 106 55 = some (.iconst 1, 0, 0, 1) := by decide +kernel
theorem t106_56 : g_at 106 56 = some (.aload_n 0, 0, 0, 0) := by decide +kernel
theorem t106_57 : g_at 106 57 = some (.getfield 37, 3, 7, 0) := by decide +kernel
theorem t106_60 : g_at 106 60 = some (.iload_n 1, 0, 0, 0) := by decide +kernel
theorem t106_61 : g_at 106 61 = some (.iaload, 0, 0, 0) := by decide +kernel
theorem t106_62 : g_at 106 62 = some (.ishl, 0, 0, 0) := by decide +kernel
theorem t106_63 : g_at 106 63 = some (.ixor, 0, 0, 0) := by decide +kernel
theorem t106_64 : g_at 106 64 = some (.putfield 95, 3, 4, 0) := by decide +kernel
theorem t106_67 : g_at 106 67 = some (.iinc 1 (1), 0, 0, 1) := by decide +kernel
theorem t106_70 : g_at 106 70 = some (.goto (-41), 29, 0, 0) := by decide +kernel
theorem t106_73 : g_at 106 73 = some (.aload_n 0, 0, 0, 0) := by decide +kernel
theorem t106_74 : g_at 106 74 = some (.dup, 0, 0, 0) := by decide +kernel
theorem t106_75 : g_at 106 75 = some (.getfield 159, 3, 8, 0) := by decide +kernel
theorem t106_78 : g_at 106 78 = some (.iload_n 1, 0, 0, 0) := by decide +kernel
theorem t106_79 : g_at 106 79 = some (.isub, 0, 0, 0) := by decide +kernel
theorem t106_80 : g_at 106 80 = some (.putfield 159, 3, 8, 0) := by decide +kernel
theorem t106_83 : g_at 106 83 = some (.iconst 0, 0, 0, 0) := by decide +kernel
theorem t106_84 : g_at 106 84 = some (.istore_n 2, 0, 0, 0) := by decide +kernel
theorem t106_85 : g_at 106 85 = some (.iload_n 2, 0, 0, 0) := by decide +kernel
theorem t106_86 : g_at 106 86 = some (.aload_n 0, 0, 0, 0) := by decide +kernel
theorem t106_87 : g_at 106 87 = some (.getfield 159, 3, 8, 0) := by decide +kernel
theorem t106_90 : g_at 106 90 = some (.if_icmp .ge (23), 113, 0, 0) := by decide +kernel
theorem t106_93 : g_at 106 93 = some (.aload_n 0, 0, 0, 0) := by decide +kernel
theorem t106_94 : g_at 106 94 = some (.getfield 37, 3, 7, 0) := by decide +kernel
theorem t106_97 : g_at 106 97 = some (.iload_n 2, 0, 0, 0) := by decide +kernel
theorem t106_98 : g_at 106 98 = some (.aload_n 0, 0, 0, 0) := by decide +kernel
theorem t106_99 : g_at 106 99 = some (.getfield 37, 3, 7, 0) := by decide +kernel
theorem t106_102 : g_at 106 102 = some (.iload_n 2, 0, 0, 0) := by decide +kernel
theorem t106_103 : g_at 106 103 = some (.iload_n 1, 0, 0, 0) := by decide +kernel
theorem t106_104 : g_at 106 104 = some (.iadd, 0, 0, 0) := by decide +kernel
theorem t106_105 : g_at 106 105 = some (.iaload, 0, 0, 0) := by decide +kernel
theorem t106_106 : g_at 106 106 = some (.iastore, 0, 0, 0) := by decide +kernel
theorem t106_107 : g_at 106 107 = some (.iinc 2 (1), 0, 0, 1) := by decide +kernel
theorem t106_110 : g_at 106 110 = some (.goto (-25), 85, 0, 0) := by decide +kernel
theorem t106_113 : g_at 106 113 = some (.iload_n 1, 0, 0, 0) := by decide +kernel
theorem t106_114 : g_at 106 114 = some (.ireturn, 0, 0, 0) := by decide +kernel
theorem t107_0 : g_at 107 0 = some (.aload_n 0, 0, 0, 0) := by decide +kernel
theorem t107_1 : g_at 107 1 = some (.iconst 0, 0, 0, 0) := by decide +kernel
theorem t107_2 : g_at 107 2 = some (.putfield 62, 4, 0, 0) := by decide +kernel
theorem t107_5 : g_at 107 5 = some (.aload_n 0, 0, 0, 0) := by decide +kernel
theorem t107_6 : g_at 107 6 = some (.getfield 141, 4, 17, 0) := by decide +kernel
theorem t107_9 : g_at 107 9 = some (.ifCond .eq (22), 31, 0, 0) := by decide +kernel
theorem t107_12 : g_at 107 12 = some (.aload_n 0, 0, 0, 0) := by decide +kernel
theorem t107_13 : g_at 107 13 = some (.aload_n 0, 0, 0, 0) := by decide +kernel
theorem t107_14 : g_at 107 14 = some (.getfield 35, 4, 16, 0) := by decide +kernel
theorem t107_17 : g_at 107 17 = some (.iconst 0, 0, 0, 0) := by decide +kernel
theorem t107_18 : g_at 107 18 = some (.iaload, 0, 0, 0) := by decide +kernel
theorem t107_19 : g_at 107 19 = some (.aload_n 0, 0, 0, 0) := by decide +kernel
theorem t107_20 : g_at 107 20 = some (.getfield 22, 4, 11, 0) := by decide +kernel
theorem t107_23 : g_at 107 23 = some (.iconst 0, 0, 0, 0) := by decide +kernel
theorem t107_24 : g_at 107 24 = some (.iaload, 0, 0, 0) := by decide +kernel
theorem t107_25 : g_at 107 25 = some (.invokevirtual 163, 70, 2, 0) := by decide +kernel
theorem t107_28 : g_at 107 28 = some (.ifCond .eq (6), 34, 0, 0) := by decide +kernel
theorem t107_31 : g_at 107 31 = some (.bipush (-2), 0, 0, (-2)) := by decide +kernel
theorem t107_33 : g_at 107 33 = some (.ireturn, 0, 0, 0) := by decide +kernel
theorem t107_34 : g_at 107 34 = some (.aload_n 0, 0, 0, 0) := by decide +kernel
theorem t107_35 : g_at 107 35 = some (.invokevirtual 180, 97, 0, 0) := by decide +kernel
theorem t107_38 : g_at 107 38 = some (.iconst 0, 0, 0, 0) := by decide +kernel
theorem t107_39 : g_at 107 39 = some (.istore_n 1, 0, 0, 0) := by decide +kernel
theorem t107_40 : g_at 107 40 = some (.iload_n 1, 0, 0, 0) := by decide +kernel
theorem t107_41 : g_at 107 41 = some (.aload_n 0, 0, 0, 0) := by decide +kernel
theorem t107_42 : g_at 107 42 = some (.getfield 141, 4, 17, 0) := by decide +kernel
theorem t107_45 : g_at 107 45 = some (.if_icmp .ge (45), 90, 0, 0) := by decide +kernel
theorem t107_48 : g_at 107 48 = some (.aload_n 0, 0, 0, 0) := by decide +kernel
theorem t107_49 : g_at 107 49 = some (.aload_n 0, 0, 0, 0) := by decide +kernel
theorem t107_50 : g_at 107 50 = some (.getfield 35, 4, 16, 0) := by decide +kernel
theorem t107_53 : g_at 107 53 = some (.iload_n 1, 0, 0, 0) := by decide +kernel
theorem t107_54 : g_at 107 54 = some (.iaload, 0, 0, 0) := by decide +kernel
theorem t107_55 : g_at 107 55 = some (.aload_n 0, 0, 0, 0) := by decide +kernel
theorem t107_56 : g_at 107 56 = some (.getfield 22, 4, 11, 0) := by decide +kernel
theorem t107_59 : g_at 107 59 = some (.iconst 0, 0, 0, 0) := by decide +kernel
theorem t107_60 : g_at 107 60 = some (.iaload, 0, 0, 0) := by decide +kernel
theorem t107_61 : g_at 107 61 = some (.invokevirtual 163, 70, 2, 0) := by decide +kernel
theorem t107_64 : g_at 107 64 = some (.ifCond .ne (26), 90, 0, 0) := by decide +kernel
theorem t107_67 : g_at 107 67 = some (.aload_n 0, 0, 0, 0) := by decide +kernel
theorem t107_68 : g_at 107 68 = some (.getfield 22, 4, 11, 0) := by decide +kernel
theorem t107_71 : g_at 107 71 = some (.iconst 0, 0, 0, 0) := by decide +kernel
theorem t107_72 : g_at 107 72 = some (.dup2, 0, 0, 0) := by decide +kernel
theorem t107_73 : g_at 107 73 = some (.iaload, 0, 0, 0) := by decide +kernel
theorem t107_74 : g_at 107 74 = some (.iconst 1, 0, 0, 1) := by decide +kernel
theorem t107_75 : g_at 107 75 = some (.aload_n 0, 0, 0, 0) := by decide +kernel
theorem t107_76 : g_at 107 76 = some (.getfield 35, 4, 16, 0) := by decide +kernel
theorem t107_79 : g_at 107 79 = some (.iload_n 1, 0, 0, 0) := by decide +kernel
theorem t107_80 : g_at 107 80 = some (.iaload, 0, 0, 0) := by decide +kernel
theorem t107_81 : g_at 107 81 = some (.ishl, 0, 0, 0) := by decide +kernel
theorem t107_82 : g_at 107 82 = some (.ixor, 0, 0, 0) := by decide +kernel
theorem t107_83 : g_at 107 83 = some (.iastore, 0, 0, 0) := by decide +kernel
theorem t107_84 : g_at 107 84 = some (.iinc 1 (1), 0, 0, 1) := by decide +kernel
theorem t107_87 : g_at 107 87 = some (.goto (-47), 40, 0, 0) := by decide +kernel
theorem t107_90 : g_at 107 90 = some (.iload_n 1, 0, 0, 0) := by decide +kernel
theorem t107_91 : g_at 107 91 = some (.istore_n 2, 0, 0, 0) := by decide +kernel
theorem t107_92 : g_at 107 92 = some (.iload_n 2, 0, 0, 0) := by decide +kernel
theorem t107_93 : g_at 107 93 = some (.aload_n 0, 0, 0, 0) := by decide +kernel
theorem t107_94 : g_at 107 94 = some (.getfield 141, 4, 17, 0) := by decide +kernel
theorem t107_97 : g_at 107 97 = some (.if_icmp .ge (23), 120, 0, 0) := by decide +kernel
theorem t107_100 : g_at 107 100 = some (.aload_n 0, 0, 0, 0) := by decide +kernel
theorem t107_101 : g_at 107 101 = some (.getfield 35, 4, 16, 0) := by decide +kernel
theorem t107_104 : g_at 107 104 = some (.iload_n 2, 0, 0, 0) := by decide +kernel
theorem t107_105 : g_at 107 105 = some (.iload_n 1, 0, 0, 0) := by decide +kernel
theorem t107_106 : g_at 107 106 = some (.isub, 0, 0, 0) := by decide +kernel
theorem t107_107 : g_at 107 107 = some (.aload_n 0, 0, 0, 0) := by decide +kernel
theorem t107_108 : g_at 107 108 = some (.getfield 35, 4, 16, 0) := by decide +kernel
theorem t107_111 : g_at 107 111 = some (.iload_n 2, 0, 0, 0) := by decide +kernel
theorem t107_112 : g_at 107 112 = some (.iaload, 0, 0, 0) := by decide +kernel
theorem t107_113 : g_at 107 113 = some (.iastore, 0, 0, 0) := by decide +kernel
theorem t107_114 : g_at 107 114 = some (.iinc 2 (1), 0, 0, 1) := by decide +kernel
theorem t107_117 : g_at 107 117 = some (.goto (-25), 92, 0, 0) := by decide +kernel
theorem t107_120 : g_at 107 120 = some (.aload_n 0, 0, 0, 0) := by decide +kernel
theorem t107_121 : g_at 107 121 = some (.dup, 0, 0, 0) := by decide +kernel
theorem t107_122 : g_at 107 122 = some (.getfield 141, 4, 17, 0) := by decide +kernel
theorem t107_125 : g_at 107 125 = some (.iload_n 1, 0, 0, 0) := by decide +kernel
theorem t107_126 : g_at 107 126 = some (.isub, 0, 0, 0) := by decide +kernel
theorem t107_127 : g_at 107 127 = some (.putfield 141, 4, 17, 0) := by decide +kernel
theorem t107_130 : g_at 107 130 = some (.iload_n 1, 0, 0, 0) := by decide +kernel
theorem t107_131 : g_at 107 131 = some (.ireturn, 0, 0, 0) := by decide +kernel
theorem t108_0 : g_at 108 0 = some (.aload_n 0, 0, 0, 0) := by decide +kernel
theorem t108_1 : g_at 108 1 = some (.getfield 159, 3, 8, 0) := by decide +kernel
theorem t108_4 : g_at 108 4 = some (.istore_n 1, 0, 0, 0) := by decide +kernel
theorem t108_5 : g_at 108 5 = some (.aload_n 0, 0, 0, 0) := by decide +kernel
theorem t108_6 : g_at 108 6 = some (.iconst 0, 0, 0, 0) := by decide +kernel
theorem t108_7 : g_at 108 7 = some (.putfield 159, 3, 8, 0) := by decide +kernel
theorem t108_10 : g_at 108 10 = some (.iload_n 1, 0, 0, 0) := by decide +kernel
theorem t108_11 : g_at 108 11 = some (.ireturn, 0, 0, 0) := by decide +kernel
theorem t109_0 : g_at 109 0 = some (.aload_n 0, 0, 0, 0) := by decide +kernel
theorem t109_1 : g_at 109 1 = some (.iconst 0, 0, 0, 0) := by decide +kernel
theorem t109_2 : g_at 109 2 = some (.putfield 62, 4, 0, 0) := by decide +kernel
theorem t109_5 : g_at 109 5 = some (.aload_n 0, 0, 0, 0) := by decide +kernel
theorem t109_6 : g_at 109 6 = some (.getfield 141, 4, 17, 0) := by decide +kernel
theorem t109_9 : g_at 109 9 = some (.istore_n 1, 0, 0, 0) := by decide +kernel
theorem t109_10 : g_at 109 10 = some (.aload_n 0, 0, 0, 0) := by decide +kernel
theorem t109_11 : g_at 109 11 = some (.iconst 0, 0, 0, 0) := by decide +kernel
theorem t109_12 : g_at 109 12 = some (.putfield 141, 4, 17, 0) := by decide +kernel
theorem t109_15 : g_at 109 15 = some (.iload_n 1, 0, 0, 0) := by decide +kernel
theorem t109_16 : g_at 109 16 = some (.ireturn, 0, 0, 0) := by decide +kernel
theorem t110_0 : g_at 110 0 = some (.aload_n 0, 0, 0, 0) := by decide +kernel
theorem t110_1 : g_at 110 1 = some (.iload_n 1, 0, 0, 0) := by decide +kernel
theorem t110_2 : g_at 110 2 = some (.sipush (255), 0, 0, 255) := by decide +kernel
theorem t110_5 : g_at 110 5 = some (.iand, 0, 0, 0) := by decide +kernel
theorem t110_6 : g_at 110 6 = some (.putfield 95, 3, 4, 0) := by decide +kernel
theorem t110_9 : g_at 110 9 = some (.aload_n 0, 0, 0, 0) := by decide +kernel
theorem t110_10 : g_at 110 10 = some (.iload_n 1, 0, 0, 0) := by decide +kernel
theorem t110_11 : g_at 110 11 = some (.bipush (8), 0, 0, 8) := by decide +kernel
theorem t110_13 : g_at 110 13 = some (.ishr, 0, 0, 0) := by decide +kernel
theorem t110_14 : g_at 110 14 = some (.sipush (255), 0, 0, 255) := by decide +kernel
theorem t110_17 : g_at 110 17 = some (.iand, 0, 0, 0) := by decide +kernel
theorem t110_18 : g_at 110 18 = some (.putfield 102, 3, 5, 0) := by decide +kernel
theorem t110_21 : g_at 110 21 = some (.aload_n 0, 0, 0, 0) := by decide +kernel
theorem t110_22 : g_at 110 22 = some (.iload_n 1, 0, 0, 0) := by decide +kernel
theorem t110_23 : g_at 110 23 = some (.bipush (16), 0, 0, 16) := by decide +kernel
theorem t110_25 : g_at 110 25 = some (.ishr, 0, 0, 0) := by decide +kernel
theorem t110_26 : g_at 110 26 = some (.bipush (15), 0, 0, 15) := by decide +kernel
theorem t110_28 : g_at 110 28 = some (.iand, 0, 0, 0) := by decide +kernel
theorem t110_29 : g_at 110 29 = some (.iload_n 1, 0, 0, 0) := by decide +kernel
theorem t110_30 : g_at 110 30 = some (.bipush (20), 0, 0, 20) := by decide +kernel
theorem t110_32 : g_at 110 32 = some (.ishr, 0, 0, 0) := by decide +kernel
theorem t110_33 : g_at 110 33 = some (.bipush (15), 0, 0, 15) := by decide +kernel
theorem t110_35 : g_at 110 35 = some (.iand, 0, 0, 0) := by decide +kernel
theorem t110_36 : g_at 110 36 = some (.iload_n 1, 0, 0, 0) := by decide +kernel
theorem t110_37 : g_at 110 37 = some (.bipush (24), 0, 0, 24) := by decide +kernel
theorem t110_39 : g_at 110 39 = some (.ishr, 0, 0, 0) := by decide +kernel
theorem t110_40 : g_at 110 40 = some (.bipush (15), 0, 0, 15) := by decide +kernel
theorem t110_42 : g_at 110 42 = some (.iand, 0, 0, 0) := by decide +kernel
theorem t110_43 : g_at 110 43 = some (.invokevirtual 155, 3, 3, 0) := by decide +kernel
theorem t110_46 : g_at 110 46 = some (.return_, 0, 0, 0) := by decide +kernel
theorem t111_0 : g_at 111 0 = some (.aload_n 0, 0, 0, 0) := by decide +kernel
theorem t111_1 : g_at 111 1 = some (.getfield 146, 3, 10, 0) := by decide +kernel
theorem t111_4 : g_at 111 4 = some (.ifCond .ne (6), 10, 0, 0) := by decide +kernel
theorem t111_7 : g_at 111 7 = some (.bipush (-2), 0, 0, (-2)) := by decide +kernel
theorem t111_9 : g_at 111 9 = some (.ireturn, 0, 0, 0) := by decide +kernel
theorem t111_10 : g_at 111 10 = some (.aload_n 0, 0, 0, 0) := by decide +kernel
theorem t111_11 : g_at 111 11 = some (.dup, 0, 0, 0) := by decide +kernel
theorem t111_12 : g_at 111 12 = some (.getfield 146, 3, 10, 0) := by decide +kernel
theorem t111_15 : g_at 111 15 = some (.iconst 1, 0, 0, 1) := by decide +kernel
theorem t111_16 : g_at 111 16 = some (.isub, 0, 0, 0) := by decide +kernel
theorem t111_17 : g_at 111 17 = some (.putfield 146, 3, 10, 0) := by decide +kernel
theorem t111_20 : g_at 111 20 = some (.aload_n 0, 0, 0, 0) := by decide +kernel
theorem t111_21 : g_at 111 21 = some (.aload_n 0, 0, 0, 0) := by decide +kernel
theorem t111_22 : g_at 111 22 = some (.getfield 40, 3, 9, 0) := by decide +kernel
theorem t111_25 : g_at 111 25 = some (.aload_n 0, 0, 0, 0) := by decide +kernel
theorem t111_26 : g_at 111 26 = some (.getfield 146, 3, 10, 0) := by decide +kernel
theorem t111_29 : g_at 111 29 = some (.iaload, 0, 0, 0) := by decide +kernel
theorem t111_30 : g_at 111 30 = some (.invokevirtual 162, 110, 1, 0) := by decide +kernel
theorem t111_33 : g_at 111 33 = some (.aload_n 0, 0, 0, 0) := by decide +kernel
theorem t111_34 : g_at 111 34 = some (.getfield 146, 3, 10, 0) := by decide +kernel
theorem t111_37 : g_at 111 37 = some (.ireturn, 0, 0, 0) := by decide +kernel
theorem t112_0 : g_at 112 0 = some (.aload_n 0, 0, 0, 0) := by decide +kernel
theorem t112_1 : g_at 112 1 = some (.iconst 0, 0, 0, 0) := by decide +kernel
theorem t112_2 : g_at 112 2 = some (.putfield 62, 4, 0, 0) := by decide +kernel
theorem t112_5 : g_at 112 5 = some (.aload_n 0, 0, 0, 0) := by decide +kernel
theorem t112_6 : g_at 112 6 = some (.getfield 147, 4, 13, 0) := by decide +kernel
theorem t112_9 : g_at 112 9 = some (.ifCond .ne (6), 15, 0, 0) := by decide +kernel
theorem t112_12 : g_at 112 12 = some (.bipush (-2), 0, 0, (-2)) := by decide +kernel
theorem t112_14 : g_at 112 14 = some (.ireturn, 0, 0, 0) := by decide +kernel
theorem t112_15 : g_at 112 15 = some (.aload_n 0, 0, 0, 0) := by decide +kernel
theorem t112_16 : g_at 112 16 = some (.dup, 0, 0, 0) := by decide +kernel
theorem t112_17 : g_at 112 17 = some (.getfield 147, 4, 13, 0) := by decide +kernel
theorem t112_20 : g_at 112 20 = some (.iconst 1, 0, 0, 1) := by decide +kernel
theorem t112_21 : g_at 112 21 = some (.isub, 0, 0, 0) := by decide +kernel
theorem t112_22 : g_at 112 22 = some (.putfield 147, 4, 13, 0) := by decide +kernel
theorem t112_25 : g_at 112 25 = some (.iconst 0, 0, 0, 0) := by decide +kernel
theorem t112_26 : g_at 112 26 = some (.istore_n 1, 0, 0, 0) := by decide +kernel
theorem t112_27 : g_at 112 27 = some (.iload_n 1, 0, 0, 0) := by decide +kernel
theorem t112_28 : g_at 112 28 = some (.iconst 5, 0, 0, 5) := by decide +kernel
theorem t112_29 : g_at 112 29 = some (.if_icmp .ge (28), 57, 0, 0) := by decide +kernel
theorem t112_32 : g_at 112 32 = some (.aload_n 0, 0, 0, 0) := by decide +kernel
theorem t112_33 : g_at 112 33 = some (.getfield 22, 4, 11, 0) := by decide +kernel
theorem t112_36 : g_at 112 36 = some (.iload_n 1, 0, 0, 0) := by decide +kernel
theorem t112_37 : g_at 112 37 = some (.aload_n 0, 0, 0, 0) := by decide +kernel
theorem t112_38 : g_at 112 38 = some (.getfield 25, 4, 12, 0) := by decide +kernel
theorem t112_41 : g_at 112 41 = some (.iconst 5, 0, 0, 5) := by decide +kernel
theorem t112_42 : g_at 112 42 = some (.aload_n 0, 0, 0, 0) := by decide +kernel
theorem t112_43 : g_at 112 43 = some (.getfield 147, 4, 13, 0) := by decide +kernel
theorem t112_46 : g_at 112 46 = some (.imul, 0, 0, 0) := by decide +kernel
theorem t112_47 : g_at 112 47 = some (.iload_n 1, 0, 0, 0) := by decide +kernel
theorem t112_48 : g_at 112 48 = some (.iadd, 0, 0, 0) := by decide +kernel
theorem t112_49 : g_at 112 49 = some (.iaload, 0, 0, 0) := by decide +kernel
theorem t112_50 : g_at 112 50 = some (.iastore, 0, 0, 0) := by decide +kernel
theorem t112_51 : g_at 112 51 = some (.iinc 1 (1), 0, 0, 1) := by decide +kernel
theorem t112_54 : g_at 112 54 = some (.goto (-27), 27, 0, 0) := by decide +kernel
theorem t112_57 : g_at 112 57 = some (.aload_n 0, 0, 0, 0) := by decide +kernel
theorem t112_58 : g_at 112 58 = some (.getfield 147, 4, 13, 0) := by decide +kernel
theorem t112_61 : g_at 112 61 = some (.ireturn, 0, 0, 0) := by decide +kernel
theorem t113_0 : g_at 113 0 = some (.iconst 0, 0, 0, 0) := by decide +kernel
theorem t113_1 : g_at 113 1 = some (.istore_n 2, 0, 0, 0) := by decide +kernel
theorem t113_2 : g_at 113 2 = some (.iload_n 2, 0, 0, 0) := by decide +kernel
theorem t113_3 : g_at 113 3 = some (.aload_n 0, 0, 0, 0) := by decide +kernel
theorem t113_4 : g_at 113 4 = some (.getfield 26, 3, 2, 0) := by decide +kernel
theorem t113_7 : g_at 113 7 = some (.getfield 112, 1, 3, 0) := by decide +kernel
theorem t113_10 : g_at 113 10 = some (.if_icmp .ge (68), 78, 0, 0) := by decide +kernel
theorem t113_13 : g_at 113 13 = some (.aload_n 0, 0, 0, 0) := by decide +kernel
theorem t113_14 : g_at 113 14 = some (.getfield 102, 3, 5, 0) := by decide +kernel
theorem t113_17 : g_at 113 17 = some (.iload_n 2, 0, 0, 0) := by decide +kernel
theorem t113_18 : g_at 113 18 = some (.invokestatic 98, 19, 2, 0) := by decide +kernel
theorem t113_21 : g_at 113 21 = some (.ifCond .ne (51), 72, 0, 0) := by decide +kernel
theorem t113_24 : g_at 113 24 = some (.aload_n 0, 0, 0, 0) := by decide +kernel
theorem t113_25 : g_at 113 25 = some (.getfield 26, 3, 2, 0) := by decide +kernel
theorem t113_28 : g_at 113 28 = some (.iload_n 1, 0, 0, 0) := by decide +kernel
theorem t113_29 : g_at 113 29 = some (.iload_n 2, 0, 0, 0) := by decide +kernel
theorem t113_30 : g_at 113 30 = some (.invokevirtual 225, 65, 2, 0) := by decide +kernel
theorem t113_33 : g_at 113 33 = some (.ifCond .ne (39), 72, 0, 0) := by decide +kernel
theorem t113_36 : g_at 113 36 = some (.aload_n 0, 0, 0, 0) := by decide +kernel
theorem t113_37 : g_at 113 37 = some (.getfield 49, 3, 15, 0) := by decide +kernel
theorem t113_40 : g_at 113 40 = some (.iload_n 1, 0, 0, 0) := by decide +kernel
theorem t113_41 : g_at 113 41 = some (.iconst 1, 0, 0, 1) := by decide +kernel
theorem t113_42 : g_at 113 42 = some (.iload_n 2, 0, 0, 0) := by decide +kernel
theorem t113_43 : g_at 113 43 = some (.ishl, 0, 0, 0) := by decide +kernel
theorem t113_44 : g_at 113 44 = some (.ixor, 0, 0, 0) := by decide +kernel
theorem t113_45 : g_at 113 45 = some (.iaload, 0, 0, 0) := by decide +kernel
theorem t113_46 : g_at 113 46 = some (.aload_n 0, 0, 0, 0) := by decide +kernel
theorem t113_47 : g_at 113 47 = some (.getfield 33, 3, 6, 0) := by decide +kernel
theorem t113_50 : g_at 113 50 = some (.aload_n 0, 0, 0, 0) := by decide +kernel
theorem t113_51 : g_at 113 51 = some (.getfield 26, 3, 2, 0) := by decide +kernel
theorem t113_54 : g_at 113 54 = some (.getfield 83, 1, 6, 0) := by decide +kernel
theorem t113_57 : g_at 113 57 = some (.iload_n 2, 0, 0, 0) := by decide +kernel
theorem t113_58 : g_at 113 58 = some (.iaload, 0, 0, 0) := by decide +kernel
theorem t113_59 : g_at 113 59 = some (.iaload, 0, 0, 0) := by decide +kernel
theorem t113_60 : g_at 113 60 = some (.iadd, 0, 0, 0) := by decide +kernel
theorem t113_61 : g_at 113 61 = some (.aload_n 0, 0, 0, 0) := by decide +kernel
theorem t113_62 : g_at 113 62 = some (.getfield 49, 3, 15, 0) := by decide +kernel
theorem t113_65 : g_at 113 65 = some (.iload_n 1, 0, 0, 0) := by decide +kernel
theorem t113_66 : g_at 113 66 = some (.iaload, 0, 0, 0) := by decide +kernel
theorem t113_67 : g_at 113 67 = some (.if_icmp .ne (5), 72, 0, 0) := by decide +kernel
theorem t113_70 : g_at 113 70 = some (.iload_n 2, 0, 0, 0) := by decide +kernel
theorem t113_71 : g_at 113 71 = some (.ireturn, 0, 0, 0) := by decide +kernel
theorem t113_72 : g_at 113 72 = some (.iinc 2 (1), 0, 0, 1) := by decide +kernel
theorem t113_75 : g_at 113 75 = some (.goto (-73), 2, 0, 0) := by decide +kernel
theorem t113_78 : g_at 113 78 = some (.bipush (-9), 0, 0, (-9)) := by decide +kernel
theorem t113_80 : g_at 113 80 = some (.ireturn, 0, 0, 0) := by decide +kernel
theorem t114_0 : g_at 114 0 = some (.aload_n 0, 0, 0, 0) := by decide +kernel
theorem t114_1 : g_at 114 1 = some (.getfield 49, 3, 15, 0) := by decide +kernel
theorem t114_4 : g_at 114 4 = some (.aload_n 0, 0, 0, 0) := by decide +kernel
theorem t114_5 : g_at 114 5 = some (.getfield 95, 3, 4, 0) := by decide +kernel
theorem t114_8 : g_at 114 8 = some (.iaload, 0, 0, 0) := by decide +kernel
theorem t114_9 : g_at 114 9 = some (.istore_n 2, 0, 0, 0) := by decide +kernel
theorem t114_10 : g_at 114 10 = some (.iload_n 2, 0, 0, 0) := by decide +kernel
theorem t114_11 : g_at 114 11 = some (.iconst (-1), 0, 0, (-1)) := by decide +kernel
theorem t114_12 : g_at 114 12 = some (.if_icmp .ne (6), 18, 0, 0) := by decide +kernel
theorem t114_15 : g_at 114 15 = some (.bipush (-9), 0, 0, (-9)) := by decide +kernel
theorem t114_17 : g_at 114 17 = some (.ireturn, 0, 0, 0) := by decide +kernel
theorem t114_18 : g_at 114 18 = some (.iload_n 1, 0, 0, 0) := by decide +kernel
theorem t114_19 : g_at 114 19 = some (.ifCond .ge (5), 24, 0, 0) := by decide +kernel
theorem t114_22 : g_at 114 22 = some (.iload_n 2, 0, 0, 0) := by decide +kernel
theorem t114_23 : g_at 114 23 = some (.ireturn, 0, 0, 0) := by decide +kernel
theorem t114_24 : g_at 114 24 = some (.aload_n 0, 0, 0, 0) := by decide +kernel
theorem t114_25 : g_at 114 25 = some (.getfield 95, 3, 4, 0) := by decide +kernel
theorem t114_28 : g_at 114 28 = some (.istore_n 3, 0, 0, 0) := by decide +kernel
theorem t114_29 : g_at 114 29 = some (.iconst 0, 0, 0, 0) := by decide +kernel
theorem t114_30 : g_at 114 30 = some (.istore 4, 0, 0, 0) := by decide +kernel
theorem t114_32 : g_at 114 32 = some (.iload 4, 0, 0, 0) := by decide +kernel
theorem t114_34 : g_at 114 34 = some (.sipush (256), 0, 0, 256) := by decide +kernel
theorem t114_37 : g_at 114 37 = some (.if_icmp .ge (57), 94, 0, 0) := by decide +kernel
theorem t114_40 : g_at 114 40 = some (.iload 4, 0, 0, 0) := by decide +kernel
theorem t114_42 : g_at 114 42 = some (.iload_n 1, 0, 0, 0) := by decide +kernel
theorem t114_43 : g_at 114 43 = some (.if_icmp .gt (51), 94, 0, 0) := by decide +kernel
theorem t114_46 : g_at 114 46 = some (.aload_n 0, 0, 0, 0) := by decide +kernel
theorem t114_47 : g_at 114 47 = some (.getfield 49, 3, 15, 0) := by decide +kernel
theorem t114_50 : g_at 114 50 = some (.iload_n 3, 0, 0, 0) := by decide +kernel
theorem t114_51 : g_at 114 51 = some (.iaload, 0, 0, 0) := by decide +kernel
theorem t114_52 : g_at 114 52 = some (.ifCond .le (42), 94, 0, 0) := by decide +kernel
theorem t114_55 : g_at 114 55 = some (.aload_n 0, 0, 0, 0) := by decide +kernel
theorem t114_56 : g_at 114 56 = some (.iload_n 3, 0, 0, 0) := by decide +kernel
theorem t114_57 : g_at 114 57 = some (.invokevirtual 233, 113, 1, 0) := by decide +kernel
theorem t114_60 : g_at 114 60 = some (.istore 5, 0, 0, 0) := by decide +kernel
theorem t114_62 : g_at 114 62 = some (.iload 5, 0, 0, 0) := by decide +kernel
theorem t114_64 : g_at 114 64 = some (.bipush (-9), 0, 0, (-9)) := by decide +kernel
theorem t114_66 : g_at 114 66 = some (.if_icmp .ne (6), 72, 0, 0) := by decide +kernel
theorem t114_69 : g_at 114 69 = some (.bipush (-9), 0, 0, (-9)) := by decide +kernel
theorem t114_71 : g_at 114 71 = some (.ireturn, 0, 0, 0) := by decide +kernel
theorem t114_72 : g_at 114 72 = some (.iload 4, 0, 0, 0) := by decide +kernel
theorem t114_74 : g_at 114 74 = some (.iload_n 1, 0, 0, 0) := by decide +kernel
theorem t114_75 : g_at 114 75 = some (.if_icmp .ne (6), 81, 0, 0) := by decide +kernel
theorem t114_78 : g_at 114 78 = some (.iload 5, 0, 0, 0) := by decide +kernel
theorem t114_80 : g_at 114 80 = some (.ireturn, 0, 0, 0) := by decide +kernel
theorem t114_81 : g_at 114 81 = some (.iload_n 3, 0, 0, 0) := by decide +kernel
theorem t114_82 : g_at 114 82 = some (.iconst 1, 0, 0, 1) := by decide +kernel
theorem t114_83 : g_at 114 83 = some (.iload 5, 0, 0, 0) := by decide +kernel
theorem t114_85 : g_at 114 85 = some (.ishl, 0, 0, 0) := by decide +kernel
theorem t114_86 : g_at 114 86 = some (.ixor, 0, 0, 0) := by decide +kernel
theorem t114_87 : g_at 114 87 = some (.istore_n 3, 0, 0, 0) := by decide +kernel
theorem t114_88 : g_at 114 88 = some (.iinc 4 (1), 0, 0, 1) := by decide +kernel
theorem t114_91 : g_at 114 91 = some (.goto (-59), 32, 0, 0) := by decide +kernel
theorem t114_94 : g_at 114 94 = some (.bipush (-9), 0, 0, (-9)) := by decide +kernel
theorem t114_96 : g_at 114 96 = some (.ireturn, 0, 0, 0) := by decide +kernel
theorem t115_0 : g_at 115 0 = some (.iload_n 1, 0, 0, 0) := by decide +kernel
theorem t115_1 : g_at 115 1 = some (.aload_n 0, 0, 0, 0) := by decide +kernel
theorem t115_2 : g_at 115 2 = some (.getfield 26, 3, 2, 0) := by decide +kernel
theorem t115_5 : g_at 115 5 = some (.invokevirtual 166, 35, 0, 0) := by decide +kernel
theorem t115_8 : g_at 115 8 = some (.iconst (-1), 0, 0, (-1)) := by decide +kernel
theorem t115_9 : g_at 115 9 = some (.ixor, 0, 0, 0) := by decide +kernel
theorem t115_10 : g_at 115 10 = some (.iand, 0, 0, 0) := by decide +kernel
theorem t115_11 : g_at 115 11 = some (.ifCond .ne (16), 27, 0, 0) := by decide +kernel
theorem t115_14 : g_at 115 14 = some (.iload_n 2, 0, 0, 0) := by decide +kernel
theorem t115_15 : g_at 115 15 = some (.iload_n 1, 0, 0, 0) := by decide +kernel
theorem t115_16 : g_at 115 16 = some (.iconst (-1), 0, 0, (-1)) := by decide +kernel
theorem t115_17 : g_at 115 17 = some (.ixor, 0, 0, 0) := by decide +kernel
theorem t115_18 : g_at 115 18 = some (.iand, 0, 0, 0) := by decide +kernel
theorem t115_19 : g_at 115 19 = some (.ifCond .ne (8), 27, 0, 0) := by decide +kernel
theorem t115_22 : g_at 115 22 = some (.iload_n 3, 0, 0, 0) := by decide +kernel
theorem t115_23 : g_at 115 23 = some (.iconst (-1), 0, 0, (-1)) := by decide +kernel
theorem t115_24 : g_at 115 24 = some (.if_icmp .ge (5), 29, 0, 0) := by decide +kernel
theorem t115_27 : g_at 115 27 = some (.iconst (-1), 0, 0, (-1)) := by decide +kernel
theorem t115_28 : g_at 115 28 = some (.ireturn, 0, 0, 0) := by decide +kernel
theorem t115_29 : g_at 115 29 = some (.aload_n 0, 0, 0, 0) := by decide +kernel
theorem t115_30 : g_at 115 30 = some (.iload_n 1, 0, 0, 0) := by decide +kernel
theorem t115_31 : g_at 115 31 = some (.iload_n 2, 0, 0, 0) := by decide +kernel
theorem t115_32 : g_at 115 32 = some (.iconst 0, 0, 0, 0) := by decide +kernel
theorem t115_33 : g_at 115 33 = some (.iconst 0, 0, 0, 0) := by decide +kernel
theorem t115_34 : g_at 115 34 = some (.invokevirtual 169, 83, 4, 0) := by decide +kernel
theorem t115_37 : g_at 115 37 = some (.aload_n 0, 0, 0, 0) := by decide +kernel
theorem t115_38 : g_at 115 38 = some (.iload_n 3, 0, 0, 0) := by decide +kernel
theorem t115_39 : g_at 115 39 = some (.invokevirtual 173, 114, 1, 0) := by decide +kernel
theorem t115_42 : g_at 115 42 = some (.ireturn, 0, 0, 0) := by decide +kernel
theorem t116_0 : g_at 116 0 = some (.aload_n 0, 0, 0, 0) := by decide +kernel
theorem t116_1 : g_at 116 1 = some (.invokevirtual 186, 90, 0, 0) := by decide +kernel
theorem t116_4 : g_at 116 4 = some (.iconst 0, 0, 0, 0) := by decide +kernel
theorem t116_5 : g_at 116 5 = some (.istore_n 1, 0, 0, 0) := by decide +kernel
theorem t116_6 : g_at 116 6 = some (.iload_n 1, 0, 0, 0) := by decide +kernel
theorem t116_7 : g_at 116 7 = some (.aload_n 0, 0, 0, 0) := by decide +kernel
theorem t116_8 : g_at 116 8 = some (.invokevirtual 183, 89, 0, 0) := by decide +kernel
theorem t116_11 : g_at 116 11 = some (.if_icmp .ge (30), 41, 0, 0) := by decide +kernel
theorem t116_14 : g_at 116 14 = some (.aload_n 0, 0, 0, 0) := by decide +kernel
theorem t116_15 : g_at 116 15 = some (.getfield 47, 4, 22, 0) := by decide +kernel
theorem t116_18 : g_at 116 18 = some (.iload_n 1, 0, 0, 0) := by decide +kernel
theorem t116_19 : g_at 116 19 = some (.aload_n 0, 0, 0, 0) := by decide +kernel
theorem t116_20 : g_at 116 20 = some (.getfield 50, 4, 23, 0) := by decide +kernel
theorem t116_23 : g_at 116 23 = some (.iload_n 1, 0, 0, 0) := by decide +kernel
theorem t116_24 : g_at 116 24 = some (.baload, 0, 0, 0) := by decide +kernel
theorem t116_25 : g_at 116 25 = some (.ifCond .eq (7), 32, 0, 0) := by decide +kernel
theorem t116_28 : g_at 116 28 = some (.iconst 0, 0, 0, 0) := by decide +kernel
theorem t116_29 : g_at 116 29 = some (.goto (5), 34, 0, 0) := by decide +kernel
theorem t116_32 : g_at 116 32 = some (.ldc 189, 0, 0, 99999) := by decide +kernel
theorem t116_34 : g_at 116 34 = some (.iastore, 0, 0, 0) := by decide +kernel
theorem t116_35 : g_at 116 35 = some (.iinc 1 (1), 0, 0, 1) := by decide +kernel
theorem t116_38 : g_at 116 38 = some (.goto (-32), 6, 0, 0) := by decide +kernel
theorem t116_41 : g_at 116 41 = some (.iconst 1, 0, 0, 1) := by decide +kernel
theorem t116_42 : g_at 116 42 = some (.istore_n 1, 0, 0, 0) := by decide +kernel
theorem t116_43 : g_at 116 43 = some (.iload_n 1, 0, 0, 0) := by decide +kernel
theorem t116_44 : g_at 116 44 = some (.ifCond .eq (128), 172, 0, 0) := by decide +kernel
theorem t116_47 : g_at 116 47 = some (.iconst 0, 0, 0, 0) := by decide +kernel
theorem t116_48 : g_at 116 48 = some (.istore_n 1, 0, 0, 0) := by decide +kernel
theorem t116_49 : g_at 116 49 = some (.iconst 0, 0, 0, 0) := by decide +kernel
theorem t116_50 : g_at 116 50 = some (.istore_n 2, 0, 0, 0) := by decide +kernel
theorem t116_51 : g_at 116 51 = some (.iload_n 2, 0, 0, 0) := by decide +kernel
theorem t116_52 : g_at 116 52 = some (.aload_n 0, 0, 0, 0) := by decide +kernel
theorem t116_53 : g_at 116 53 = some (.invokevirtual 183, 89, 0, 0) := by decide +kernel
theorem t116_56 : g_at 116 56 = some (.if_icmp .ge (113), 169, 0, 0) := by decide +kernel
theorem t116_59 : g_at 116 59 = some (.iconst 0, 0, 0, 0) := by decide +kernel
theorem t116_60 : g_at 116 60 = some (.istore_n 3, 0, 0, 0) := by decide +kernel
theorem t116_61 : g_at 116 61 = some (.iload_n 3, 0, 0, 0) := by decide +kernel
theorem t116_62 : g_at 116 62 = some (.aload_n 0, 0, 0, 0) := by decide +kernel
theorem t116_63 : g_at 116 63 = some (.getfield 13, 4, 8, 0) := by decide +kernel
theorem t116_66 : g_at 116 66 = some (.iconst 3, 0, 0, 3) := by decide +kernel
theorem t116_67 : g_at 116 67 = some (.iaload, 0, 0, 0) := by decide +kernel
theorem t116_68 : g_at 116 68 = some (.if_icmp .ge (95), 163, 0, 0) := by decide +kernel
theorem t116_71 : g_at 116 71 = some (.aload_n 0, 0, 0, 0) := by decide +kernel
theorem t116_72 : g_at 116 72 = some (.getfield 53, 4, 24, 0) := by decide +kernel
theorem t116_75 : g_at 116 75 = some (.bipush (8), 0, 0, 8) := by decide +kernel
theorem t116_77 : g_at 116 77 = some (.iload_n 2, 0, 0, 0) := by decide +kernel
theorem t116_78 : g_at 116 78 = some (.imul, 0, 0, 0) := by decide +kernel
theorem t116_79 : g_at 116 79 = some (.iload_n 3, 0, 0, 0) := by decide +kernel
theorem t116_80 : g_at 116 80 = some (.iadd, 0, 0, 0) := by decide +kernel
theorem t116_81 : g_at 116 81 = some (.baload, 0, 0, 0) := by decide +kernel
theorem t116_82 : g_at 116 82 = some (.ifCond .eq (22), 104, 0, 0) := by decide +kernel
theorem t116_85 : g_at 116 85 = some (.aload_n 0, 0, 0, 0) := by decide +kernel
theorem t116_86 : g_at 116 86 = some (.getfield 47, 4, 22, 0) := by decide +kernel
theorem t116_89 : g_at 116 89 = some (.iload_n 2, 0, 0, 0) := by decide +kernel
theorem t116_90 : g_at 116 90 = some (.iconst 1, 0, 0, 1) := by decide +kernel
theorem t116_91 : g_at 116 91 = some (.iload_n 3, 0, 0, 0) := by decide +kernel
theorem t116_92 : g_at 116 92 = some (.ishl, 0, 0, 0) := by decide +kernel
theorem t116_93 : g_at 116 93 = some (.ixor, 0, 0, 0) := by decide +kernel
theorem t116_94 : g_at 116 94 = some (.iaload, 0, 0, 0) := by decide +kernel
theorem t116_95 : g_at 116 95 = some (.aload_n 0, 0, 0, 0) := by decide +kernel
theorem t116_96 : g_at 116 96 = some (.iload_n 3, 0, 0, 0) := by decide +kernel
theorem t116_97 : g_at 116 97 = some (.invokevirtual 190, 91, 1, 0) := by decide +kernel
theorem t116_100 : g_at 116 100 = some (.iadd, 0, 0, 0) := by decide +kernel
theorem t116_101 : g_at 116 101 = some (.goto (5), 106, 0, 0) := by decide +kernel
theorem t116_104 : g_at 116 104 = some (.ldc 189, 0, 0, 99999) := by decide +kernel
theorem t116_106 : g_at 116 106 = some (.istore 4, 0, 0, 0) := by decide +kernel
theorem t116_108 : g_at 116 108 = some (.iload_n 1, 0, 0, 0) := by decide +kernel
theorem t116_109 : g_at 116 109 = some (.ifCond .ne (14), 123, 0, 0) := by decide +kernel
theorem t116_112 : g_at 116 112 = some (.iload 4, 0, 0, 0) := by decide +kernel
theorem t116_114 : g_at 116 114 = some (.aload_n 0, 0, 0, 0) := by decide +kernel
theorem t116_115 : g_at 116 115 = some (.getfield 47, 4, 22, 0) := by decide +kernel
theorem t116_118 : g_at 116 118 = some (.iload_n 2, 0, 0, 0) := by decide +kernel
theorem t116_119 : g_at 116 119 = some (.iaload, 0, 0, 0) := by decide +kernel
theorem t116_120 : g_at 116 120 = some (.if_icmp .ge (7), 127, 0, 0) := by decide +kernel
theorem t116_123 : g_at 116 123 = some (.iconst 1, 0, 0, 1) := by decide +kernel
theorem t116_124 : g_at 116 124 = some (.goto (4), 128, 0, 0) := by decide +kernel
theorem t116_127 : g_at 116 127 = some (.iconst 0, 0, 0, 0) := by decide +kernel
theorem t116_128 : g_at 116 128 = some (.istore_n 1, 0, 0, 0) := by decide +kernel
theorem t116_129 : g_at 116 129 = some (.aload_n 0, 0, 0, 0) := by decide +kernel
theorem t116_130 : g_at 116 130 = some (.getfield 47, 4, 22, 0) := by decide +kernel
theorem t116_133 : g_at 116 133 = some (.iload_n 2, 0, 0, 0) := by decide +kernel
theorem t116_134 : g_at 116 134 = some (.iload 4, 0, 0, 0) := by decide +kernel
theorem t116_136 : g_at 116 136 = some (.aload_n 0, 0, 0, 0) := by decide +kernel
theorem t116_137 : g_at 116 137 = some (.getfield 47, 4, 22, 0) := by decide +kernel
theorem t116_140 : g_at 116 140 = some (.iload_n 2, 0, 0, 0) := by decide +kernel
theorem t116_141 : g_at 116 141 = some (.iaload, 0, 0, 0) := by decide +kernel
theorem t116_142 : g_at 116 142 = some (.if_icmp .ge (8), 150, 0, 0) := by decide +kernel
theorem t116_145 : g_at 116 145 = some (.iload 4, 0, 0, 0) := by decide +kernel
theorem t116_147 : g_at 116 147 = some (.goto (9), 156, 0, 0) := by decide +kernel
theorem t116_150 : g_at 116 150 = some (.aload_n 0, 0, 0, 0) := by decide +kernel
theorem t116_151 : g_at 116 151 = some (.getfield 47, 4, 22, 0) := by decide +kernel
theorem t116_154 : g_at 116 154 = some (.iload_n 2, 0, 0, 0) := by decide +kernel
theorem t116_155 : g_at 116 155 = some (.iaload, 0, 0, 0) := by decide +kernel
theorem t116_156 : g_at 116 156 = some (.iastore, 0, 0, 0) := by decide +kernel
theorem t116_157 : g_at 116 157 = some (.iinc 3 (1), 0, 0, 1) := by decide +kernel
theorem t116_160 : g_at 116 160 = some (.goto (-99), 61, 0, 0) := by decide +kernel
theorem t116_163 : g_at 116 163 = some (.iinc 2 (1), 0, 0, 1) := by decide +kernel
theorem t116_166 : g_at 116 166 = some (.goto (-115), 51, 0, 0) := by decide +kernel
theorem t116_169 : g_at 116 169 = some (.goto (-126), 43, 0, 0) := by decide +kernel
theorem t116_172 : g_at 116 172 = some (.return_, 0, 0, 0) := by decide +kernel
theorem t117_0 : g_at 117 0 = some (.aload_n 0, 0, 0, 0) := by decide +kernel
theorem t117_1 : g_at 117 1 = some (.invokevirtual 193, 116, 0, 0) := by decide +kernel
theorem t117_4 : g_at 117 4 = some (.aload_n 0, 0, 0, 0) := by decide +kernel
theorem t117_5 : g_at 117 5 = some (.getfield 22, 4, 11, 0) := by decide +kernel
theorem t117_8 : g_at 117 8 = some (.iconst 0, 0, 0, 0) := by decide +kernel
theorem t117_9 : g_at 117 9 = some (.iaload, 0, 0, 0) := by decide +kernel
theorem t117_10 : g_at 117 10 = some (.istore_n 2, 0, 0, 0) := by decide +kernel
theorem t117_11 : g_at 117 11 = some (.aload_n 0, 0, 0, 0) := by decide +kernel
theorem t117_12 : g_at 117 12 = some (.getfield 47, 4, 22, 0) := by decide +kernel
theorem t117_15 : g_at 117 15 = some (.iload_n 2, 0, 0, 0) := by decide +kernel
theorem t117_16 : g_at 117 16 = some (.iaload, 0, 0, 0) := by decide +kernel
theorem t117_17 : g_at 117 17 = some (.ldc 189, 0, 0, 99999) := by decide +kernel
theorem t117_19 : g_at 117 19 = some (.if_icmp .lt (6), 25, 0, 0) := by decide +kernel
theorem t117_22 : g_at 117 22 = some (.bipush (-9), 0, 0, (-9)) := by decide +kernel
theorem t117_24 : g_at 117 24 = some (.ireturn, 0, 0, 0) := by decide +kernel
theorem t117_25 : g_at 117 25 = some (.aload_n 0, 0, 0, 0) := by decide +kernel
theorem t117_26 : g_at 117 26 = some (.getfield 47, 4, 22, 0) := by decide +kernel
theorem t117_29 : g_at 117 29 = some (.iload_n 2, 0, 0, 0) := by decide +kernel
theorem t117_30 : g_at 117 30 = some (.iaload, 0, 0, 0) := by decide +kernel
theorem t117_31 : g_at 117 31 = some (.istore_n 3, 0, 0, 0) := by decide +kernel
theorem t117_32 : g_at 117 32 = some (.iconst 0, 0, 0, 0) := by decide +kernel
theorem t117_33 : g_at 117 33 = some (.istore 4, 0, 0, 0) := by decide +kernel
theorem t117_35 : g_at 117 35 = some (.iload 4, 0, 0, 0) := by decide +kernel
theorem t117_37 : g_at 117 37 = some (.iload_n 1, 0, 0, 0) := by decide +kernel
theorem t117_38 : g_at 117 38 = some (.if_icmp .gt (82), 120, 0, 0) := by decide +kernel
theorem t117_41 : g_at 117 41 = some (.aload_n 0, 0, 0, 0) := by decide +kernel
theorem t117_42 : g_at 117 42 = some (.getfield 47, 4, 22, 0) := by decide +kernel
theorem t117_45 : g_at 117 45 = some (.iload_n 2, 0, 0, 0) := by decide +kernel
theorem t117_46 : g_at 117 46 = some (.iaload, 0, 0, 0) := by decide +kernel
theorem t117_47 : g_at 117 47 = some (.ifCond .ne (6), 53, 0, 0) := by decide +kernel
theorem t117_50 : g_at 117 50 = some (.bipush (-9), 0, 0, (-9)) := by decide +kernel
theorem t117_52 : g_at 117 52 = some (.ireturn, 0, 0, 0) := by decide +kernel
theorem t117_53 : g_at 117 53 = some (.iconst 0, 0, 0, 0) := by decide +kernel
theorem t117_54 : g_at 117 54 = some (.istore 5, 0, 0, 0) := by decide +kernel
theorem t117_56 : g_at 117 56 = some (.aload_n 0, 0, 0, 0) := by decide +kernel
theorem t117_57 : g_at 117 57 = some (.getfield 53, 4, 24, 0) := by decide +kernel
theorem t117_60 : g_at 117 60 = some (.bipush (8), 0, 0, 8) := by decide +kernel
theorem t117_62 : g_at 117 62 = some (.iload_n 2, 0, 0, 0) := by decide +kernel
theorem t117_63 : g_at 117 63 = some (.imul, 0, 0, 0) := by decide +kernel
theorem t117_64 : g_at 117 64 = some (.iload 5, 0, 0, 0) := by decide +kernel
theorem t117_66 : g_at 117 66 = some (.iadd, 0, 0, 0) := by decide +kernel
theorem t117_67 : g_at 117 67 = some (.baload, 0, 0, 0) := by decide +kernel
theorem t117_68 : g_at 117 68 = some (.ifCond .eq (30), 98, 0, 0) := by decide +kernel
theorem t117_71 : g_at 117 71 = some (.aload_n 0, 0, 0, 0) := by decide +kernel
theorem t117_72 : g_at 117 72 = some (.getfield 47, 4, 22, 0) := by decide +kernel
theorem t117_75 : g_at 117 75 = some (.iload_n 2, 0, 0, 0) := by decide +kernel
theorem t117_76 : g_at 117 76 = some (.iconst 1, 0, 0, 1) := by decide +kernel
theorem t117_77 : g_at 117 77 = some (.iload 5, 0, 0, 0) := by decide +kernel
theorem t117_79 : g_at 117 79 = some (.ishl, 0, 0, 0) := by decide +kernel
theorem t117_80 : g_at 117 80 = some (.ixor, 0, 0, 0) := by decide +kernel
theorem t117_81 : g_at 117 81 = some (.iaload, 0, 0, 0) := by decide +kernel
theorem t117_82 : g_at 117 82 = some (.aload_n 0, 0, 0, 0) := by decide +kernel
theorem t117_83 : g_at 117 83 = some (.iload 5, 0, 0, 0) := by decide +kernel
theorem t117_85 : g_at 117 85 = some (.invokevirtual 190, 91, 1, 0) := by decide +kernel
theorem t117_88 : g_at 117 88 = some (.iadd, 0, 0, 0) := by decide +kernel
theorem t117_89 : g_at 117 89 = some (.aload_n 0, 0, 0, 0) := by decide +kernel
theorem t117_90 : g_at 117 90 = some (.getfield 47, 4, 22, 0) := by decide +kernel
theorem t117_93 : g_at 117 93 = some (.iload_n 2, 0, 0, 0) := by decide +kernel
theorem t117_94 : g_at 117 94 = some (.iaload, 0, 0, 0) := by decide +kernel
theorem t117_95 : g_at 117 95 = some (.if_icmp .eq (9), 104, 0, 0) := by decide +kernel
theorem t117_98 : g_at 117 98 = some (.iinc 5 (1), 0, 0, 1) := by decide +kernel
theorem t117_101 : g_at 117 101 = some (.goto (-45), 56, 0, 0) := by decide +kernel
theorem t117_104 : g_at 117 104 = some (.iload_n 2, 0, 0, 0) := by decide +kernel
theorem t117_105 : g_at 117 105 = some (.iconst 1, 0, 0, 1) := by decide +kernel
theorem t117_106 : g_at 117 106 = some (.iload 5, 0, 0, 0) := by decide +kernel
theorem t117_108 : g_at 117 108 = some (.ishl, 0, 0, 0) := by decide +kernel
theorem t117_109 : g_at 117 109 = some (.ixor, 0, 0, 0) := by decide +kernel
theorem t117_110 : g_at 117 110 = some (.istore_n 2, 0, 0, 0) := by decide +kernel
theorem t117_111 : g_at 117 111 = some (.iload 5, 0, 0, 0) := by decide +kernel
theorem t117_113 : g_at 117 113 = some (.istore_n 3, 0, 0, 0) := by decide +kernel
theorem t117_114 : g_at 117 114 = some (.iinc 4 (1), 0, 0, 1) := by decide +kernel
theorem t117_117 : g_at 117 117 = some (.goto (-82), 35, 0, 0) := by decide +kernel
theorem t117_120 : g_at 117 120 = some (.iload_n 3, 0, 0, 0) := by decide +kernel
theorem t117_121 : g_at 117 121 = some (.ireturn, 0, 0, 0) := by decide +kernel
theorem t118_0 : g_at 118 0 = some (.aload_n 0, 0, 0, 0) := by decide +kernel
theorem t118_1 : g_at 118 1 = some (.iconst 0, 0, 0, 0) := by decide +kernel
theorem t118_2 : g_at 118 2 = some (.putfield 62, 4, 0, 0) := by decide +kernel
theorem t118_5 : g_at 118 5 = some (.iload_n 1, 0, 0, 0) := by decide +kernel
theorem t118_6 : g_at 118 6 = some (.iconst 0, 0, 0, 0) := by decide +kernel
theorem t118_7 : g_at 118 7 = some (.aload_n 0, 0, 0, 0) := by decide +kernel
theorem t118_8 : g_at 118 8 = some (.invokevirtual 183, 89, 0, 0) := by decide +kernel
theorem t118_11 : g_at 118 11 = some (.iconst 1, 0, 0, 1) := by decide +kernel
theorem t118_12 : g_at 118 12 = some (.isub, 0, 0, 0) := by decide +kernel
theorem t118_13 : g_at 118 13 = some (.invokestatic 66, 10, 3, 0) := by decide +kernel
theorem t118_16 : g_at 118 16 = some (.ifCond .eq (20), 36, 0, 0) := by decide +kernel
theorem t118_19 : g_at 118 19 = some (.iload_n 2, 0, 0, 0) := by decide +kernel
theorem t118_20 : g_at 118 20 = some (.ifCond .lt (16), 36, 0, 0) := by decide +kernel
theorem t118_23 : g_at 118 23 = some (.iload_n 2, 0, 0, 0) := by decide +kernel
theorem t118_24 : g_at 118 24 = some (.iload_n 1, 0, 0, 0) := by decide +kernel
theorem t118_25 : g_at 118 25 = some (.iconst (-1), 0, 0, (-1)) := by decide +kernel
theorem t118_26 : g_at 118 26 = some (.ixor, 0, 0, 0) := by decide +kernel
theorem t118_27 : g_at 118 27 = some (.iand, 0, 0, 0) := by decide +kernel
theorem t118_28 : g_at 118 28 = some (.ifCond .ne (8), 36, 0, 0) := by decide +kernel
theorem t118_31 : g_at 118 31 = some (.iload_n 3, 0, 0, 0) := by decide +kernel
theorem t118_32 : g_at 118 32 = some (.iconst (-1), 0, 0, (-1)) := by decide +kernel
theorem t118_33 : g_at 118 33 = some (.if_icmp .ge (5), 38, 0, 0) := by decide +kernel
theorem t118_36 : g_at 118 36 = some (.iconst (-1), 0, 0, (-1)) := by decide +kernel
theorem t118_37 : g_at 118 37 = some (.ireturn, 0, 0, 0) := by decide +kernel
theorem t118_38 : g_at 118 38 = some (.iconst 0, 0, 0, 0) := by decide +kernel
theorem t118_39 : g_at 118 39 = some (.istore 4, 0, 0, 0) := by decide +kernel
theorem t118_41 : g_at 118 41 = some (.iload 4, 0, 0, 0) := by decide +kernel
theorem t118_43 : g_at 118 43 = some (.aload_n 0, 0, 0, 0) := by decide +kernel
theorem t118_44 : g_at 118 44 = some (.invokevirtual 183, 89, 0, 0) := by decide +kernel
theorem t118_47 : g_at 118 47 = some (.if_icmp .ge (29), 76, 0, 0) := by decide +kernel
theorem t118_50 : g_at 118 50 = some (.aload_n 0, 0, 0, 0) := by decide +kernel
theorem t118_51 : g_at 118 51 = some (.getfield 50, 4, 23, 0) := by decide +kernel
theorem t118_54 : g_at 118 54 = some (.iload 4, 0, 0, 0) := by decide +kernel
theorem t118_56 : g_at 118 56 = some (.iload 4, 0, 0, 0) := by decide +kernel
theorem t118_58 : g_at 118 58 = some (.iload_n 1, 0, 0, 0) := by decide +kernel
theorem t118_59 : g_at 118 59 = some (.iand, 0, 0, 0) := by decide +kernel
theorem t118_60 : g_at 118 60 = some (.iload_n 2, 0, 0, 0) := by decide +kernel
theorem t118_61 : g_at 118 61 = some (.if_icmp .ne (7), 68, 0, 0) := by decide +kernel
theorem t118_64 : g_at 118 64 = some (.iconst 1, 0, 0, 1) := by decide +kernel
theorem t118_65 : g_at 118 65 = some (.goto (4), 69, 0, 0) := by decide +kernel
theorem t118_68 : g_at 118 68 = some (.iconst 0, 0, 0, 0) := by decide +kernel
theorem t118_69 : g_at 118 69 = some (.bastore, 0, 0, 0) := by decide +kernel
theorem t118_70 : g_at 118 70 = some (.iinc 4 (1), 0, 0, 1) := by decide +kernel
theorem t118_73 : g_at 118 73 = some (.goto (-32), 41, 0, 0) := by decide +kernel
theorem t118_76 : g_at 118 76 = some (.aload_n 0, 0, 0, 0) := by decide +kernel
theorem t118_77 : g_at 118 77 = some (.iload_n 3, 0, 0, 0) := by decide +kernel
theorem t118_78 : g_at 118 78 = some (.invokevirtual 196, 117, 1, 0) := by decide +kernel
theorem t118_81 : g_at 118 81 = some (.ireturn, 0, 0, 0) := by decide +kernel
theorem t119_0 : g_at 119 0 = some (.aload_n 0, 0, 0, 0) := by decide +kernel
theorem t119_1 : g_at 119 1 = some (.iload_n 1, 0, 0, 0) := by decide +kernel
theorem t119_2 : g_at 119 2 = some (.invokevirtual 115, 74, 1, 0) := by decide +kernel
theorem t119_5 : g_at 119 5 = some (.ifCond .eq (8), 13, 0, 0) := by decide +kernel
theorem t119_8 : g_at 119 8 = some (.iload_n 2, 0, 0, 0) := by decide +kernel
theorem t119_9 : g_at 119 9 = some (.iconst (-1), 0, 0, (-1)) := by decide +kernel
theorem t119_10 : g_at 119 10 = some (.if_icmp .ge (5), 15, 0, 0) := by decide +kernel
theorem t119_13 : g_at 119 13 = some (.iconst (-1), 0, 0, (-1)) := by decide +kernel
theorem t119_14 : g_at 119 14 = some (.ireturn, 0, 0, 0) := by decide +kernel
theorem t119_15 : g_at 119 15 = some (.aload_n 0, 0, 0, 0) := by decide +kernel
theorem t119_16 : g_at 119 16 = some (.iconst 0, 0, 0, 0) := by decide +kernel
theorem t119_17 : g_at 119 17 = some (.iconst 0, 0, 0, 0) := by decide +kernel
theorem t119_18 : g_at 119 18 = some (.iconst 1, 0, 0, 1) := by decide +kernel
theorem t119_19 : g_at 119 19 = some (.iload_n 1, 0, 0, 0) := by decide +kernel
theorem t119_20 : g_at 119 20 = some (.ishl, 0, 0, 0) := by decide +kernel
theorem t119_21 : g_at 119 21 = some (.iconst 0, 0, 0, 0) := by decide +kernel
theorem t119_22 : g_at 119 22 = some (.invokevirtual 169, 83, 4, 0) := by decide +kernel
theorem t119_25 : g_at 119 25 = some (.aload_n 0, 0, 0, 0) := by decide +kernel
theorem t119_26 : g_at 119 26 = some (.iload_n 2, 0, 0, 0) := by decide +kernel
theorem t119_27 : g_at 119 27 = some (.invokevirtual 173, 114, 1, 0) := by decide +kernel
theorem t119_30 : g_at 119 30 = some (.ireturn, 0, 0, 0) := by decide +kernel
theorem t120_0 : g_at 120 0 = some (.aload_n 0, 0, 0, 0) := by decide +kernel
theorem t120_1 : g_at 120 1 = some (.iconst 0, 0, 0, 0) := by decide +kernel
theorem t120_2 : g_at 120 2 = some (.putfield 62, 4, 0, 0) := by decide +kernel
theorem t120_5 : g_at 120 5 = some (.aload_n 0, 0, 0, 0) := by decide +kernel
theorem t120_6 : g_at 120 6 = some (.iload_n 1, 0, 0, 0) := by decide +kernel
theorem t120_7 : g_at 120 7 = some (.invokevirtual 167, 77, 1, 0) := by decide +kernel
theorem t120_10 : g_at 120 10 = some (.ifCond .eq (8), 18, 0, 0) := by decide +kernel
theorem t120_13 : g_at 120 13 = some (.iload_n 2, 0, 0, 0) := by decide +kernel
theorem t120_14 : g_at 120 14 = some (.iconst (-1), 0, 0, (-1)) := by decide +kernel
theorem t120_15 : g_at 120 15 = some (.if_icmp .ge (5), 20, 0, 0) := by decide +kernel
theorem t120_18 : g_at 120 18 = some (.iconst (-1), 0, 0, (-1)) := by decide +kernel
theorem t120_19 : g_at 120 19 = some (.ireturn, 0, 0, 0) := by decide +kernel
theorem t120_20 : g_at 120 20 = some (.iconst 0, 0, 0, 0) := by decide +kernel
theorem t120_21 : g_at 120 21 = some (.istore_n 3, 0, 0, 0) := by decide +kernel
theorem t120_22 : g_at 120 22 = some (.iload_n 3, 0, 0, 0) := by decide +kernel
theorem t120_23 : g_at 120 23 = some (.aload_n 0, 0, 0, 0) := by decide +kernel
theorem t120_24 : g_at 120 24 = some (.invokevirtual 183, 89, 0, 0) := by decide +kernel
theorem t120_27 : g_at 120 27 = some (.if_icmp .ge (52), 79, 0, 0) := by decide +kernel
theorem t120_30 : g_at 120 30 = some (.aload_n 0, 0, 0, 0) := by decide +kernel
theorem t120_31 : g_at 120 31 = some (.getfield 50, 4, 23, 0) := by decide +kernel
theorem t120_34 : g_at 120 34 = some (.iload_n 3, 0, 0, 0) := by decide +kernel
theorem t120_35 : g_at 120 35 = some (.aload_n 0, 0, 0, 0) := by decide +kernel
theorem t120_36 : g_at 120 36 = some (.aload_n 0, 0, 0, 0) := by decide +kernel
theorem t120_37 : g_at 120 37 = some (.getfield 13, 4, 8, 0) := by decide +kernel
theorem t120_40 : g_at 120 40 = some (.iload_n 3, 0, 0, 0) := by decide +kernel
theorem t120_41 : g_at 120 41 = some (.invokevirtual 135, 61, 2, 0) := by decide +kernel
theorem t120_44 : g_at 120 44 = some (.iload_n 1, 0, 0, 0) := by decide +kernel
theorem t120_45 : g_at 120 45 = some (.invokestatic 111, 53, 2, 0) := by decide +kernel
theorem t120_48 : g_at 120 48 = some (.ifCond .ne (23), 71, 0, 0) := by decide +kernel
theorem t120_51 : g_at 120 51 = some (.aload_n 0, 0, 0, 0) := by decide +kernel
theorem t120_52 : g_at 120 52 = some (.aload_n 0, 0, 0, 0) := by decide +kernel
theorem t120_53 : g_at 120 53 = some (.getfield 13, 4, 8, 0) := by decide +kernel
theorem t120_56 : g_at 120 56 = some (.iload_n 3, 0, 0, 0) := by decide +kernel
theorem t120_57 : g_at 120 57 = some (.invokevirtual 138, 62, 2, 0) := by decide +kernel
theorem t120_60 : g_at 120 60 = some (.iload_n 1, 0, 0, 0) := by decide +kernel
theorem t120_61 : g_at 120 61 = some (.invokestatic 111, 53, 2, 0) := by decide +kernel
theorem t120_64 : g_at 120 64 = some (.ifCond .eq (7), 71, 0, 0) := by decide +kernel
theorem t120_67 : g_at 120 67 = some (.iconst 1, 0, 0, 1) := by decide +kernel
theorem t120_68 : g_at 120 68 = some (.goto (4), 72, 0, 0) := by decide +kernel
theorem t120_71 : g_at 120 71 = some (.iconst 0, 0, 0, 0) := by decide +kernel
theorem t120_72 : g_at 120 72 = some (.bastore, 0, 0, 0) := by decide +kernel
theorem t120_73 : g_at 120 73 = some (.iinc 3 (1), 0, 0, 1) := by decide +kernel
theorem t120_76 : g_at 120 76 = some (.goto (-54), 22, 0, 0) := by decide +kernel
theorem t120_79 : g_at 120 79 = some (.aload_n 0, 0, 0, 0) := by decide +kernel
theorem t120_80 : g_at 120 80 = some (.iload_n 2, 0, 0, 0) := by decide +kernel
theorem t120_81 : g_at 120 81 = some (.invokevirtual 196, 117, 1, 0) := by decide +kernel
theorem t120_84 : g_at 120 84 = some (.ireturn, 0, 0, 0) := by decide +kernel
theorem t121_0 : g_at 121 0 = some (.iload_n 1, 0, 0, 0) := by decide +kernel
theorem t121_1 : g_at 121 1 = some (.iconst (-1), 0, 0, (-1)) := by decide +kernel
theorem t121_2 : g_at 121 2 = some (.if_icmp .ge (5), 7, 0, 0) := by decide +kernel
theorem t121_5 : g_at 121 5 = some (.iconst (-1), 0, 0, (-1)) := by decide +kernel
theorem t121_6 : g_at 121 6 = some (.ireturn, 0, 0, 0) := by decide +kernel
theorem t121_7 : g_at 121 7 = some (.aload_n 0, 0, 0, 0) := by decide +kernel
theorem t121_8 : g_at 121 8 = some (.iconst 0, 0, 0, 0) := by decide +kernel
theorem t121_9 : g_at 121 9 = some (.iconst 0, 0, 0, 0) := by decide +kernel
theorem t121_10 : g_at 121 10 = some (.iconst 0, 0, 0, 0) := by decide +kernel
theorem t121_11 : g_at 121 11 = some (.aload_n 0, 0, 0, 0) := by decide +kernel
theorem t121_12 : g_at 121 12 = some (.getfield 26, 3, 2, 0) := by decide +kernel
theorem t121_15 : g_at 121 15 = some (.getfield 130, 1, 2, 0) := by decide +kernel
theorem t121_18 : g_at 121 18 = some (.invokevirtual 169, 83, 4, 0) := by decide +kernel
theorem t121_21 : g_at 121 21 = some (.aload_n 0, 0, 0, 0) := by decide +kernel
theorem t121_22 : g_at 121 22 = some (.iload_n 1, 0, 0, 0) := by decide +kernel
theorem t121_23 : g_at 121 23 = some (.invokevirtual 173, 114, 1, 0) := by decide +kernel
theorem t121_26 : g_at 121 26 = some (.ireturn, 0, 0, 0) := by decide +kernel
theorem t122_0 : g_at 122 0 = some (.aload_n 0, 0, 0, 0) := by decide +kernel
theorem t122_1 : g_at 122 1 = some (.iconst 0, 0, 0, 0) := by decide +kernel
theorem t122_2 : g_at 122 2 = some (.putfield 62, 4, 0, 0) := by decide +kernel
theorem t122_5 : g_at 122 5 = some (.iload_n 1, 0, 0, 0) := by decide +kernel
theorem t122_6 : g_at 122 6 = some (.iconst (-1), 0, 0, (-1)) := by decide +kernel
theorem t122_7 : g_at 122 7 = some (.if_icmp .ge (5), 12, 0, 0) := by decide +kernel
theorem t122_10 : g_at 122 10 = some (.iconst (-1), 0, 0, (-1)) := by decide +kernel
theorem t122_11 : g_at 122 11 = some (.ireturn, 0, 0, 0) := by decide +kernel
theorem t122_12 : g_at 122 12 = some (.iconst 0, 0, 0, 0) := by decide +kernel
theorem t122_13 : g_at 122 13 = some (.istore_n 2, 0, 0, 0) := by decide +kernel
theorem t122_14 : g_at 122 14 = some (.iload_n 2, 0, 0, 0) := by decide +kernel
theorem t122_15 : g_at 122 15 = some (.aload_n 0, 0, 0, 0) := by decide +kernel
theorem t122_16 : g_at 122 16 = some (.invokevirtual 183, 89, 0, 0) := by decide +kernel
theorem t122_19 : g_at 122 19 = some (.if_icmp .ge (41), 60, 0, 0) := by decide +kernel
theorem t122_22 : g_at 122 22 = some (.aload_n 0, 0, 0, 0) := by decide +kernel
theorem t122_23 : g_at 122 23 = some (.getfield 50, 4, 23, 0) := by decide +kernel
theorem t122_26 : g_at 122 26 = some (.iload_n 2, 0, 0, 0) := by decide +kernel
theorem t122_27 : g_at 122 27 = some (.aload_n 0, 0, 0, 0) := by decide +kernel
theorem t122_28 : g_at 122 28 = some (.getfield 13, 4, 8, 0) := by decide +kernel
theorem t122_31 : g_at 122 31 = some (.iconst 2, 0, 0, 2) := by decide +kernel
theorem t122_32 : g_at 122 32 = some (.iaload, 0, 0, 0) := by decide +kernel
theorem t122_33 : g_at 122 33 = some (.aload_n 0, 0, 0, 0) := by decide +kernel
theorem t122_34 : g_at 122 34 = some (.aload_n 0, 0, 0, 0) := by decide +kernel
theorem t122_35 : g_at 122 35 = some (.getfield 13, 4, 8, 0) := by decide +kernel
theorem t122_38 : g_at 122 38 = some (.iload_n 2, 0, 0, 0) := by decide +kernel
theorem t122_39 : g_at 122 39 = some (.invokevirtual 135, 61, 2, 0) := by decide +kernel
theorem t122_42 : g_at 122 42 = some (.iconst (-1), 0, 0, (-1)) := by decide +kernel
theorem t122_43 : g_at 122 43 = some (.ixor, 0, 0, 0) := by decide +kernel
theorem t122_44 : g_at 122 44 = some (.iand, 0, 0, 0) := by decide +kernel
theorem t122_45 : g_at 122 45 = some (.ifCond .ne (7), 52, 0, 0) := by decide +kernel
theorem t122_48 : g_at 122 48 = some (.iconst 1, 0, 0, 1) := by decide +kernel
theorem t122_49 : g_at 122 49 = some (.goto (4), 53, 0, 0) := by decide +kernel
theorem t122_52 : g_at 122 52 = some (.iconst 0, 0, 0, 0) := by decide +kernel
theorem t122_53 : g_at 122 53 = some (.bastore, 0, 0, 0) := by decide +kernel
theorem t122_54 : g_at 122 54 = some (.iinc 2 (1), 0, 0, 1) := by decide +kernel
theorem t122_57 : g_at 122 57 = some (.goto (-43), 14, 0, 0) := by decide +kernel
theorem t122_60 : g_at 122 60 = some (.aload_n 0, 0, 0, 0) := by decide +kernel
theorem t122_61 : g_at 122 61 = some (.iload_n 1, 0, 0, 0) := by decide +kernel
theorem t122_62 : g_at 122 62 = some (.invokevirtual 196, 117, 1, 0) := by decide +kernel
theorem t122_65 : g_at 122 65 = some (.ireturn, 0, 0, 0) := by decide +kernel
theorem t123_0 : g_at 123 0 = some (.iconst 0, 0, 0, 0) := by decide +kernel
theorem t123_1 : g_at 123 1 = some (.istore_n 2, 0, 0, 0) := by decide +kernel
theorem t123_2 : g_at 123 2 = some (.iconst 0, 0, 0, 0) := by decide +kernel
theorem t123_3 : g_at 123 3 = some (.istore_n 3, 0, 0, 0) := by decide +kernel
theorem t123_4 : g_at 123 4 = some (.iload_n 3, 0, 0, 0) := by decide +kernel
theorem t123_5 : g_at 123 5 = some (.aload_n 0, 0, 0, 0) := by decide +kernel
theorem t123_6 : g_at 123 6 = some (.getfield 51, 1, 3, 0) := by decide +kernel
theorem t123_9 : g_at 123 9 = some (.if_icmp .ge (25), 34, 0, 0) := by decide +kernel
theorem t123_12 : g_at 123 12 = some (.aload_n 0, 0, 0, 0) := by decide +kernel
theorem t123_13 : g_at 123 13 = some (.getfield 15, 1, 6, 0) := by decide +kernel
theorem t123_16 : g_at 123 16 = some (.iload_n 3, 0, 0, 0) := by decide +kernel
theorem t123_17 : g_at 123 17 = some (.iaload, 0, 0, 0) := by decide +kernel
theorem t123_18 : g_at 123 18 = some (.iload_n 1, 0, 0, 0) := by decide +kernel
theorem t123_19 : g_at 123 19 = some (.if_icmp .ne (9), 28, 0, 0) := by decide +kernel
theorem t123_22 : g_at 123 22 = some (.iload_n 2, 0, 0, 0) := by decide +kernel
theorem t123_23 : g_at 123 23 = some (.iconst 1, 0, 0, 1) := by decide +kernel
theorem t123_24 : g_at 123 24 = some (.iload_n 3, 0, 0, 0) := by decide +kernel
theorem t123_25 : g_at 123 25 = some (.ishl, 0, 0, 0) := by decide +kernel
theorem t123_26 : g_at 123 26 = some (.ior, 0, 0, 0) := by decide +kernel
theorem t123_27 : g_at 123 27 = some (.istore_n 2, 0, 0, 0) := by decide +kernel
theorem t123_28 : g_at 123 28 = some (.iinc 3 (1), 0, 0, 1) := by decide +kernel
theorem t123_31 : g_at 123 31 = some (.goto (-27), 4, 0, 0) := by decide +kernel
theorem t123_34 : g_at 123 34 = some (.iload_n 2, 0, 0, 0) := by decide +kernel
theorem t123_35 : g_at 123 35 = some (.ireturn, 0, 0, 0) := by decide +kernel
theorem t124_0 : g_at 124 0 = some (.iconst 1, 0, 0, 1) := by decide +kernel
theorem t124_1 : g_at 124 1 = some (.istore_n 2, 0, 0, 0) := by decide +kernel
theorem t124_2 : g_at 124 2 = some (.iconst 0, 0, 0, 0) := by decide +kernel
theorem t124_3 : g_at 124 3 = some (.istore_n 3, 0, 0, 0) := by decide +kernel
theorem t124_4 : g_at 124 4 = some (.iload_n 3, 0, 0, 0) := by decide +kernel
theorem t124_5 : g_at 124 5 = some (.iload_n 1, 0, 0, 0) := by decide +kernel
theorem t124_6 : g_at 124 6 = some (.if_icmp .ge (13), 19, 0, 0) := by decide +kernel
theorem t124_9 : g_at 124 9 = some (.iload_n 2, 0, 0, 0) := by decide +kernel
theorem t124_10 : g_at 124 10 = some (.iload_n 0, 0, 0, 0) := by decide +kernel
theorem t124_11 : g_at 124 11 = some (.imul, 0, 0, 0) := by decide +kernel
theorem t124_12 : g_at 124 12 = some (.istore_n 2, 0, 0, 0) := by decide +kernel
theorem t124_13 : g_at 124 13 = some (.iinc 3 (1), 0, 0, 1) := by decide +kernel
theorem t124_16 : g_at 124 16 = some (.goto (-12), 4, 0, 0) := by decide +kernel
theorem t124_19 : g_at 124 19 = some (.iload_n 2, 0, 0, 0) := by decide +kernel
theorem t124_20 : g_at 124 20 = some (.ireturn, 0, 0, 0) := by decide +kernel
theorem t125_0 : g_at 125 0 = some (.aload_n 0, 0, 0, 0) := by decide +kernel
theorem t125_1 : g_at 125 1 = some (.getfield 26, 3, 2, 0) := by decide +kernel
theorem t125_4 : g_at 125 4 = some (.getfield 118, 1, 10, 0) := by decide +kernel
theorem t125_7 : g_at 125 7 = some (.aload_n 0, 0, 0, 0) := by decide +kernel
theorem t125_8 : g_at 125 8 = some (.getfield 95, 3, 4, 0) := by decide +kernel
theorem t125_11 : g_at 125 11 = some (.iaload, 0, 0, 0) := by decide +kernel
theorem t125_12 : g_at 125 12 = some (.aload_n 0, 0, 0, 0) := by decide +kernel
theorem t125_13 : g_at 125 13 = some (.getfield 26, 3, 2, 0) := by decide +kernel
theorem t125_16 : g_at 125 16 = some (.getfield 130, 1, 2, 0) := by decide +kernel
theorem t125_19 : g_at 125 19 = some (.iand, 0, 0, 0) := by decide +kernel
theorem t125_20 : g_at 125 20 = some (.istore_n 3, 0, 0, 0) := by decide +kernel
theorem t125_21 : g_at 125 21 = some (.iconst 0, 0, 0, 0) := by decide +kernel
theorem t125_22 : g_at 125 22 = some (.istore 4, 0, 0, 0) := by decide +kernel
theorem t125_24 : g_at 125 24 = some (.iconst 0, 0, 0, 0) := by decide +kernel
theorem t125_25 : g_at 125 25 = some (.istore 5, 0, 0, 0) := by decide +kernel
theorem t125_27 : g_at 125 27 = some (.iload 5, 0, 0, 0) := by decide +kernel
theorem t125_29 : g_at 125 29 = some (.iload_n 1, 0, 0, 0) := by decide +kernel
theorem t125_30 : g_at 125 30 = some (.if_icmp .gt (72), 102, 0, 0) := by decide +kernel
theorem t125_33 : g_at 125 33 = some (.iload 5, 0, 0, 0) := by decide +kernel
theorem t125_35 : g_at 125 35 = some (.iload_n 1, 0, 0, 0) := by decide +kernel
theorem t125_36 : g_at 125 36 = some (.iconst (-1), 0, 0, (-1)) := by decide +kernel
theorem t125_37 : g_at 125 37 = some (.ixor, 0, 0, 0) := by decide +kernel
theorem t125_38 : g_at 125 38 = some (.iand, 0, 0, 0) := by decide +kernel
theorem t125_39 : g_at 125 39 = some (.ifCond .ne (57), 96, 0, 0) := by decide +kernel
theorem t125_42 : g_at 125 42 = some (.aload_n 0, 0, 0, 0) := by decide +kernel
theorem t125_43 : g_at 125 43 = some (.getfield 26, 3, 2, 0) := by decide +kernel
theorem t125_46 : g_at 125 46 = some (.getfield 118, 1, 10, 0) := by decide +kernel
theorem t125_49 : g_at 125 49 = some (.aload_n 0, 0, 0, 0) := by decide +kernel
theorem t125_50 : g_at 125 50 = some (.getfield 95, 3, 4, 0) := by decide +kernel
theorem t125_53 : g_at 125 53 = some (.iload 5, 0, 0, 0) := by decide +kernel
theorem t125_55 : g_at 125 55 = some (.iconst (-1), 0, 0, (-1)) := by decide +kernel
theorem t125_56 : g_at 125 56 = some (.ixor, 0, 0, 0) := by decide +kernel
theorem t125_57 : g_at 125 57 = some (.iand, 0, 0, 0) := by decide +kernel
theorem t125_58 : g_at 125 58 = some (.iaload, 0, 0, 0) := by decide +kernel
theorem t125_59 : g_at 125 59 = some (.iload_n 3, 0, 0, 0) := by decide +kernel
theorem t125_60 : g_at 125 60 = some (.iand, 0, 0, 0) := by decide +kernel
theorem t125_61 : g_at 125 61 = some (.iload_n 3, 0, 0, 0) := by decide +kernel
theorem t125_62 : g_at 125 62 = some (.if_icmp .ne (34), 96, 0, 0) := by decide +kernel
theorem t125_65 : g_at 125 65 = some (.iload 4, 0, 0, 0) := by decide +kernel
theorem t125_67 : g_at 125 67 = some (.iload_n 2, 0, 0, 0) := by decide +kernel
theorem t125_68 : g_at 125 68 = some (.iload 5, 0, 0, 0) := by decide +kernel
theorem t125_70 : g_at 125 70 = some (.invokestatic 179, 26, 1, 0) := by decide +kernel
theorem t125_73 : g_at 125 73 = some (.invokestatic 184, 124, 2, 0) := by decide +kernel
theorem t125_76 : g_at 125 76 = some (.bipush (10), 0, 0, 10) := by decide +kernel
theorem t125_78 : g_at 125 78 = some (.iload_n 2, 0, 0, 0) := by decide +kernel
theorem t125_79 : g_at 125 79 = some (.isub, 0, 0, 0) := by decide +kernel
theorem t125_80 : g_at 125 80 = some (.iload_n 1, 0, 0, 0) := by decide +kernel
theorem t125_81 : g_at 125 81 = some (.iload 5, 0, 0, 0) := by decide +kernel
theorem t125_83 : g_at 125 83 = some (.iconst (-1), 0, 0, (-1)) := by decide +kernel
theorem t125_84 : g_at 125 84 = some (.ixor, 0, 0, 0) := by decide +kernel
theorem t125_85 : g_at 125 85 = some (.iand, 0, 0, 0) := by decide +kernel
theorem t125_86 : g_at 125 86 = some (.invokestatic 179, 26, 1, 0) := by decide +kernel
theorem t125_89 : g_at 125 89 = some (.invokestatic 184, 124, 2, 0) := by decide +kernel
theorem t125_92 : g_at 125 92 = some (.imul, 0, 0, 0) := by decide +kernel
theorem t125_93 : g_at 125 93 = some (.iadd, 0, 0, 0) := by decide +kernel
theorem t125_94 : g_at 125 94 = some (.istore 4, 0, 0, 0) := by decide +kernel
theorem t125_96 : g_at 125 96 = some (.iinc 5 (1), 0, 0, 1) := by decide +kernel
theorem t125_99 : g_at 125 99 = some (.goto (-72), 27, 0, 0) := by decide +kernel
theorem t125_102 : g_at 125 102 = some (.iload 4, 0, 0, 0) := by decide +kernel
theorem t125_104 : g_at 125 104 = some (.ireturn, 0, 0, 0) := by decide +kernel
theorem t126_0 : g_at 126 0 = some (.iload_n 0, 0, 0, 0) := by decide +kernel
theorem t126_1 : g_at 126 1 = some (.istore_n 2, 0, 0, 0) := by decide +kernel
theorem t126_2 : g_at 126 2 = some (.iload_n 1, 0, 0, 0) := by decide +kernel
theorem t126_3 : g_at 126 3 = some (.istore_n 3, 0, 0, 0) := by decide +kernel
theorem t126_4 : g_at 126 4 = some (.iconst 0, 0, 0, 0) := by decide +kernel
theorem t126_5 : g_at 126 5 = some (.istore 4, 0, 0, 0) := by decide +kernel
theorem t126_7 : g_at 126 7 = some (.iload 4, 0, 0, 0) := by decide +kernel
theorem t126_9 : g_at 126 9 = some (.bipush (100), 0, 0, 100) := by decide +kernel
theorem t126_11 : g_at 126 11 = some (.if_icmp .ge (23), 34, 0, 0) := by decide +kernel
theorem t126_14 : g_at 126 14 = some (.iload_n 3, 0, 0, 0) := by decide +kernel
theorem t126_15 : g_at 126 15 = some (.ifCond .eq (19), 34, 0, 0) := by decide +kernel
theorem t126_18 : g_at 126 18 = some (.iload_n 2, 0, 0, 0) := by decide +kernel
theorem t126_19 : g_at 126 19 = some (.iload_n 3, 0, 0, 0) := by decide +kernel
theorem t126_20 : g_at 126 20 = some (.irem, 0, 0, 0) := by decide +kernel
theorem t126_21 : g_at 126 21 = some (.istore 5, 0, 0, 0) := by decide +kernel
theorem t126_23 : g_at 126 23 = some (.iload_n 3, 0, 0, 0) := by decide +kernel
theorem t126_24 : g_at 126 24 = some (.istore_n 2, 0, 0, 0) := by decide +kernel
theorem t126_25 : g_at 126 25 = some (.iload 5, 0, 0, 0) := by decide +kernel
theorem t126_27 : g_at 126 27 = some (.istore_n 3, 0, 0, 0) := by decide +kernel
theorem t126_28 : g_at 126 28 = some (.iinc 4 (1), 0, 0, 1) := by decide +kernel
theorem t126_31 : g_at 126 31 = some (.goto (-24), 7, 0, 0) := by decide +kernel
theorem t126_34 : g_at 126 34 = some (.iload_n 2, 0, 0, 0) := by decide +kernel
theorem t126_35 : g_at 126 35 = some (.ireturn, 0, 0, 0) := by decide +kernel
theorem t127_0 : g_at 127 0 = some (.iload_n 1, 0, 0, 0) := by decide +kernel
theorem t127_1 : g_at 127 1 = some (.ifCond .lt (18), 19, 0, 0) := by decide +kernel
theorem t127_4 : g_at 127 4 = some (.iload_n 1, 0, 0, 0) := by decide +kernel
theorem t127_5 : g_at 127 5 = some (.bipush (10), 0, 0, 10) := by decide +kernel
theorem t127_7 : g_at 127 7 = some (.if_icmp .gt (12), 19, 0, 0) := by decide +kernel
theorem t127_10 : g_at 127 10 = some (.iload_n 2, 0, 0, 0) := by decide +kernel
theorem t127_11 : g_at 127 11 = some (.ifCond .lt (8), 19, 0, 0) := by decide +kernel
theorem t127_14 : g_at 127 14 = some (.iload_n 2, 0, 0, 0) := by decide +kernel
theorem t127_15 : g_at 127 15 = some (.iconst 1, 0, 0, 1) := by decide +kernel
theorem t127_16 : g_at 127 16 = some (.if_icmp .le (5), 21, 0, 0) := by decide +kernel
theorem t127_19 : g_at 127 19 = some (.iconst (-1), 0, 0, (-1)) := by decide +kernel
theorem t127_20 : g_at 127 20 = some (.ireturn, 0, 0, 0) := by decide +kernel
theorem t127_21 : g_at 127 21 = some (.aload_n 0, 0, 0, 0) := by decide +kernel
theorem t127_22 : g_at 127 22 = some (.getfield 95, 3, 4, 0) := by decide +kernel
theorem t127_25 : g_at 127 25 = some (.aload_n 0, 0, 0, 0) := by decide +kernel
theorem t127_26 : g_at 127 26 = some (.getfield 26, 3, 2, 0) := by decide +kernel
theorem t127_29 : g_at 127 29 = some (.iconst 0, 0, 0, 0) := by decide +kernel
theorem t127_30 : g_at 127 30 = some (.invokevirtual 176, 123, 1, 0) := by decide +kernel
theorem t127_33 : g_at 127 33 = some (.iand, 0, 0, 0) := by decide +kernel
theorem t127_34 : g_at 127 34 = some (.istore_n 3, 0, 0, 0) := by decide +kernel
theorem t127_35 : g_at 127 35 = some (.bipush (10), 0, 0, 10) := by decide +kernel
theorem t127_37 : g_at 127 37 = some (.iload_n 3, 0, 0, 0) := by decide +kernel
theorem t127_38 : g_at 127 38 = some (.invokestatic 179, 26, 1, 0) := by decide +kernel
theorem t127_41 : g_at 127 41 = some (.invokestatic 184, 124, 2, 0) := by decide +kernel
theorem t127_44 : g_at 127 44 = some (.istore 4, 0, 0, 0) := by decide +kernel
theorem t127_46 : g_at 127 46 = some (.aload_n 0, 0, 0, 0) := by decide +kernel
theorem t127_47 : g_at 127 47 = some (.iload_n 3, 0, 0, 0) := by decide +kernel
theorem t127_48 : g_at 127 48 = some (.iload_n 1, 0, 0, 0) := by decide +kernel
theorem t127_49 : g_at 127 49 = some (.invokevirtual 187, 125, 2, 0) := by decide +kernel
theorem t127_52 : g_at 127 52 = some (.istore 5, 0, 0, 0) := by decide +kernel
theorem t127_54 : g_at 127 54 = some (.iload 4, 0, 0, 0) := by decide +kernel
theorem t127_56 : g_at 127 56 = some (.iload 5, 0, 0, 0) := by decide +kernel
theorem t127_58 : g_at 127 58 = some (.invokestatic 190, 126, 2, 0) := by decide +kernel
theorem t127_61 : g_at 127 61 = some (.istore 6, 0, 0, 0) := by decide +kernel
theorem t127_63 : g_at 127 63 = some (.iload 6, 0, 0, 0) := by decide +kernel
theorem t127_65 : g_at 127 65 = some (.ifCond .ne (5), 70, 0, 0) := by decide +kernel
theorem t127_68 : g_at 127 68 = some (.iconst (-1), 0, 0, (-1)) := by decide +kernel
theorem t127_69 : g_at 127 69 = some (.ireturn, 0, 0, 0) := by decide +kernel
theorem t127_70 : g_at 127 70 = some (.iload_n 2, 0, 0, 0) := by decide +kernel
theorem t127_71 : g_at 127 71 = some (.ifCond .ne (8), 79, 0, 0) := by decide +kernel
theorem t127_74 : g_at 127 74 = some (.iload 5, 0, 0, 0) := by decide +kernel
theorem t127_76 : g_at 127 76 = some (.goto (5), 81, 0, 0) := by decide +kernel
theorem t127_79 : g_at 127 79 = some (.iload 4, 0, 0, 0) := by decide +kernel
theorem t127_81 : g_at 127 81 = some (.iload 6, 0, 0, 0) := by decide +kernel
theorem t127_83 : g_at 127 83 = some (.idiv, 0, 0, 0) := by decide +kernel
theorem t127_84 : g_at 127 84 = some (.ireturn, 0, 0, 0) := by decide +kernel
theorem t128_0 : g_at 128 0 = some (.iload_n 0, 0, 0, 0) := by decide +kernel
theorem t128_1 : g_at 128 1 = some (.istore_n 2, 0, 0, 0) := by decide +kernel
theorem t128_2 : g_at 128 2 = some (.iload_n 1, 0, 0, 0) := by decide +kernel
theorem t128_3 : g_at 128 3 = some (.istore_n 3, 0, 0, 0) := by decide +kernel
theorem t128_4 : g_at 128 4 = some (.iload_n 3, 0, 0, 0) := by decide +kernel
theorem t128_5 : g_at 128 5 = some (.ifCond .eq (16), 21, 0, 0) := by decide +kernel
theorem t128_8 : g_at 128 8 = some (.iload_n 2, 0, 0, 0) := by decide +kernel
theorem t128_9 : g_at 128 9 = some (.iload_n 3, 0, 0, 0) := by decide +kernel
theorem t128_10 : g_at 128 10 = some (.irem, 0, 0, 0) := by decide +kernel
theorem t128_11 : g_at 128 11 = some (.istore 4, 0, 0, 0) := by decide +kernel
theorem t128_13 : g_at 128 13 = some (.iload_n 3, 0, 0, 0) := by decide +kernel
theorem t128_14 : g_at 128 14 = some (.istore_n 2, 0, 0, 0) := by decide +kernel
theorem t128_15 : g_at 128 15 = some (.iload 4, 0, 0, 0) := by decide +kernel
theorem t128_17 : g_at 128 17 = some (.istore_n 3, 0, 0, 0) := by decide +kernel
theorem t128_18 : g_at 128 18 = some (.goto (-14), 4, 0, 0) := by decide +kernel
theorem t128_21 : g_at 128 21 = some (.iload_n 2, 0, 0, 0) := by decide +kernel
theorem t128_22 : g_at 128 22 = some (.ireturn, 0, 0, 0) := by decide +kernel
theorem t129_0 : g_at 129 0 = some (.aload_n 0, 0, 0, 0) := by decide +kernel
theorem t129_1 : g_at 129 1 = some (.iconst 0, 0, 0, 0) := by decide +kernel
theorem t129_2 : g_at 129 2 = some (.putfield 62, 4, 0, 0) := by decide +kernel
theorem t129_5 : g_at 129 5 = some (.iload_n 1, 0, 0, 0) := by decide +kernel
theorem t129_6 : g_at 129 6 = some (.iconst 0, 0, 0, 0) := by decide +kernel
theorem t129_7 : g_at 129 7 = some (.bipush (10), 0, 0, 10) := by decide +kernel
theorem t129_9 : g_at 129 9 = some (.invokestatic 66, 10, 3, 0) := by decide +kernel
theorem t129_12 : g_at 129 12 = some (.ifCond .eq (12), 24, 0, 0) := by decide +kernel
theorem t129_15 : g_at 129 15 = some (.iload_n 2, 0, 0, 0) := by decide +kernel
theorem t129_16 : g_at 129 16 = some (.iconst 0, 0, 0, 0) := by decide +kernel
theorem t129_17 : g_at 129 17 = some (.iconst 1, 0, 0, 1) := by decide +kernel
theorem t129_18 : g_at 129 18 = some (.invokestatic 66, 10, 3, 0) := by decide +kernel
theorem t129_21 : g_at 129 21 = some (.ifCond .ne (5), 26, 0, 0) := by decide +kernel
theorem t129_24 : g_at 129 24 = some (.iconst (-1), 0, 0, (-1)) := by decide +kernel
theorem t129_25 : g_at 129 25 = some (.ireturn, 0, 0, 0) := by decide +kernel
theorem t129_26 : g_at 129 26 = some (.iconst 0, 0, 0, 0) := by decide +kernel
theorem t129_27 : g_at 129 27 = some (.istore_n 3, 0, 0, 0) := by decide +kernel
theorem t129_28 : g_at 129 28 = some (.iconst 1, 0, 0, 1) := by decide +kernel
theorem t129_29 : g_at 129 29 = some (.istore 4, 0, 0, 0) := by decide +kernel
theorem t129_31 : g_at 129 31 = some (.iconst 0, 0, 0, 0) := by decide +kernel
theorem t129_32 : g_at 129 32 = some (.istore 5, 0, 0, 0) := by decide +kernel
theorem t129_34 : g_at 129 34 = some (.iload 5, 0, 0, 0) := by decide +kernel
theorem t129_36 : g_at 129 36 = some (.aload_n 0, 0, 0, 0) := by decide +kernel
theorem t129_37 : g_at 129 37 = some (.getfield 13, 4, 8, 0) := by decide +kernel
theorem t129_40 : g_at 129 40 = some (.iconst 3, 0, 0, 3) := by decide +kernel
theorem t129_41 : g_at 129 41 = some (.iaload, 0, 0, 0) := by decide +kernel
theorem t129_42 : g_at 129 42 = some (.if_icmp .ge (49), 91, 0, 0) := by decide +kernel
theorem t129_45 : g_at 129 45 = some (.aload_n 0, 0, 0, 0) := by decide +kernel
theorem t129_46 : g_at 129 46 = some (.getfield 22, 4, 11, 0) := by decide +kernel
theorem t129_49 : g_at 129 49 = some (.iconst 0, 0, 0, 0) := by decide +kernel
theorem t129_50 : g_at 129 50 = some (.iaload, 0, 0, 0) := by decide +kernel
theorem t129_51 : g_at 129 51 = some (.iload 5, 0, 0, 0) := by decide +kernel
theorem t129_53 : g_at 129 53 = some (.invokestatic 111, 53, 2, 0) := by decide +kernel
theorem t129_56 : g_at 129 56 = some (.ifCond .eq (29), 85, 0, 0) := by decide +kernel
theorem t129_59 : g_at 129 59 = some (.aload_n 0, 0, 0, 0) := by decide +kernel
theorem t129_60 : g_at 129 60 = some (.getfield 13, 4, 8, 0) := by decide +kernel
theorem t129_63 : g_at 129 63 = some (.iconst 4, 0, 0, 4) := by decide +kernel
theorem t129_64 : g_at 129 64 = some (.iload 5, 0, 0, 0) := by decide +kernel
theorem t129_66 : g_at 129 66 = some (.iadd, 0, 0, 0) := by decide +kernel
theorem t129_67 : g_at 129 67 = some (.iaload, 0, 0, 0) := by decide +kernel
theorem t129_68 : g_at 129 68 = some (.ifCond .ne (17), 85, 0, 0) := by decide +kernel
theorem t129_71 : g_at 129 71 = some (.iload_n 3, 0, 0, 0) := by decide +kernel
theorem t129_72 : g_at 129 72 = some (.iconst 1, 0, 0, 1) := by decide +kernel
theorem t129_73 : g_at 129 73 = some (.iload 5, 0, 0, 0) := by decide +kernel
theorem t129_75 : g_at 129 75 = some (.ishl, 0, 0, 0) := by decide +kernel
theorem t129_76 : g_at 129 76 = some (.ior, 0, 0, 0) := by decide +kernel
theorem t129_77 : g_at 129 77 = some (.istore_n 3, 0, 0, 0) := by decide +kernel
theorem t129_78 : g_at 129 78 = some (.iload 4, 0, 0, 0) := by decide +kernel
theorem t129_80 : g_at 129 80 = some (.bipush (10), 0, 0, 10) := by decide +kernel
theorem t129_82 : g_at 129 82 = some (.imul, 0, 0, 0) := by decide +kernel
theorem t129_83 : g_at 129 83 = some (.istore 4, 0, 0, 0) := by decide +kernel
theorem t129_85 : g_at 129 85 = some (.iinc 5 (1), 0, 0, 1) := by decide +kernel
theorem t129_88 : g_at 129 88 = some (.goto (-54), 34, 0, 0) := by decide +kernel
theorem t129_91 : g_at 129 91 = some (.aload_n 0, 0, 0, 0) := by decide +kernel
theorem t129_92 : g_at 129 92 = some (.aload_n 0, 0, 0, 0) := by decide +kernel
theorem t129_93 : g_at 129 93 = some (.getfield 13, 4, 8, 0) := by decide +kernel
theorem t129_96 : g_at 129 96 = some (.aload_n 0, 0, 0, 0) := by decide +kernel
theorem t129_97 : g_at 129 97 = some (.getfield 22, 4, 11, 0) := by decide +kernel
theorem t129_100 : g_at 129 100 = some (.iconst 0, 0, 0, 0) := by decide +kernel
theorem t129_101 : g_at 129 101 = some (.iaload, 0, 0, 0) := by decide +kernel
theorem t129_102 : g_at 129 102 = some (.invokevirtual 135, 61, 2, 0) := by decide +kernel
theorem t129_105 : g_at 129 105 = some (.aload_n 0, 0, 0, 0) := by decide +kernel
theorem t129_106 : g_at 129 106 = some (.getfield 13, 4, 8, 0) := by decide +kernel
theorem t129_109 : g_at 129 109 = some (.iconst 2, 0, 0, 2) := by decide +kernel
theorem t129_110 : g_at 129 110 = some (.iaload, 0, 0, 0) := by decide +kernel
theorem t129_111 : g_at 129 111 = some (.iand, 0, 0, 0) := by decide +kernel
theorem t129_112 : g_at 129 112 = some (.istore 5, 0, 0, 0) := by decide +kernel
theorem t129_114 : g_at 129 114 = some (.iconst 0, 0, 0, 0) := by decide +kernel
theorem t129_115 : g_at 129 115 = some (.istore 6, 0, 0, 0) := by decide +kernel
theorem t129_117 : g_at 129 117 = some (.iconst 0, 0, 0, 0) := by decide +kernel
theorem t129_118 : g_at 129 118 = some (.istore 7, 0, 0, 0) := by decide +kernel
theorem t129_120 : g_at 129 120 = some (.iload 7, 0, 0, 0) := by decide +kernel
theorem t129_122 : g_at 129 122 = some (.aload_n 0, 0, 0, 0) := by decide +kernel
theorem t129_123 : g_at 129 123 = some (.invokevirtual 183, 89, 0, 0) := by decide +kernel
theorem t129_126 : g_at 129 126 = some (.if_icmp .ge (111), 237, 0, 0) := by decide +kernel
theorem t129_129 : g_at 129 129 = some (.iload 7, 0, 0, 0) := by decide +kernel
theorem t129_131 : g_at 129 131 = some (.iload_n 3, 0, 0, 0) := by decide +kernel
theorem t129_132 : g_at 129 132 = some (.iconst (-1), 0, 0, (-1)) := by decide +kernel
theorem t129_133 : g_at 129 133 = some (.ixor, 0, 0, 0) := by decide +kernel
theorem t129_134 : g_at 129 134 = some (.iand, 0, 0, 0) := by decide +kernel
theorem t129_135 : g_at 129 135 = some (.ifCond .ne (96), 231, 0, 0) := by decide +kernel
theorem t129_138 : g_at 129 138 = some (.iload 5, 0, 0, 0) := by decide +kernel
theorem t129_140 : g_at 129 140 = some (.aload_n 0, 0, 0, 0) := by decide +kernel
theorem t129_141 : g_at 129 141 = some (.aload_n 0, 0, 0, 0) := by decide +kernel
theorem t129_142 : g_at 129 142 = some (.getfield 13, 4, 8, 0) := by decide +kernel
theorem t129_145 : g_at 129 145 = some (.aload_n 0, 0, 0, 0) := by decide +kernel
theorem t129_146 : g_at 129 146 = some (.getfield 22, 4, 11, 0) := by decide +kernel
theorem t129_149 : g_at 129 149 = some (.iconst 0, 0, 0, 0) := by decide +kernel
theorem t129_150 : g_at 129 150 = some (.iaload, 0, 0, 0) := by decide +kernel
theorem t129_151 : g_at 129 151 = some (.iload 7, 0, 0, 0) := by decide +kernel
theorem t129_153 : g_at 129 153 = some (.iconst (-1), 0, 0, (-1)) := by decide +kernel
theorem t129_154 : g_at 129 154 = some (.ixor, 0, 0, 0) := by decide +kernel
theorem t129_155 : g_at 129 155 = some (.iand, 0, 0, 0) := by decide +kernel
theorem t129_156 : g_at 129 156 = some (.invokevirtual 135, 61, 2, 0) := by decide +kernel
theorem t129_159 : g_at 129 159 = some (.iconst (-1), 0, 0, (-1)) := by decide +kernel
theorem t129_160 : g_at 129 160 = some (.ixor, 0, 0, 0) := by decide +kernel
theorem t129_161 : g_at 129 161 = some (.iand, 0, 0, 0) := by decide +kernel
theorem t129_162 : g_at 129 162 = some (.ifCond .ne (69), 231, 0, 0) := by decide +kernel
theorem t129_165 : g_at 129 165 = some (.iconst 1, 0, 0, 1) := by decide +kernel
theorem t129_166 : g_at 129 166 = some (.istore 8, 0, 0, 0) := by decide +kernel
theorem t129_168 : g_at 129 168 = some (.iconst 0, 0, 0, 0) := by decide +kernel
theorem t129_169 : g_at 129 169 = some (.istore 9, 0, 0, 0) := by decide +kernel
theorem t129_171 : g_at 129 171 = some (.iload 9, 0, 0, 0) := by decide +kernel
theorem t129_173 : g_at 129 173 = some (.aload_n 0, 0, 0, 0) := by decide +kernel
theorem t129_174 : g_at 129 174 = some (.getfield 13, 4, 8, 0) := by decide +kernel
theorem t129_177 : g_at 129 177 = some (.iconst 3, 0, 0, 3) := by decide +kernel
theorem t129_178 : g_at 129 178 = some (.iaload, 0, 0, 0) := by decide +kernel
theorem t129_179 : g_at 129 179 = some (.if_icmp .ge (45), 224, 0, 0) := by decide +kernel
theorem t129_182 : g_at 129 182 = some (.iload 8, 0, 0, 0) := by decide +kernel
theorem t129_184 : g_at 129 184 = some (.iload_n 3, 0, 0, 0) := by decide +kernel
theorem t129_185 : g_at 129 185 = some (.iload 9, 0, 0, 0) := by decide +kernel
theorem t129_187 : g_at 129 187 = some (.invokestatic 111, 53, 2, 0) := by decide +kernel
theorem t129_190 : g_at 129 190 = some (.ifCond .ne (7), 197, 0, 0) := by decide +kernel
theorem t129_193 : g_at 129 193 = some (.iconst 1, 0, 0, 1) := by decide +kernel
theorem t129_194 : g_at 129 194 = some (.goto (21), 215, 0, 0) := by decide +kernel
theorem t129_197 : g_at 129 197 = some (.iload 7, 0, 0, 0) := by decide +kernel
theorem t129_199 : g_at 129 199 = some (.iload 9, 0, 0, 0) := by decide +kernel
theorem t129_201 : g_at 129 201 = some (.invokestatic 111, 53, 2, 0) := by decide +kernel
theorem t129_204 : g_at 129 204 = some (.ifCond .eq (7), 211, 0, 0) := by decide +kernel
theorem t129_207 : g_at 129 207 = some (.iload_n 1, 0, 0, 0) := by decide +kernel
theorem t129_208 : g_at 129 208 = some (.goto (7), 215, 0, 0) := by decide +kernel
theorem t129_211 : g_at 129 211 = some (.bipush (10), 0, 0, 10) := by decide +kernel
theorem t129_213 : g_at 129 213 = some (.iload_n 1, 0, 0, 0) := by decide +kernel
theorem t129_214 : g_at 129 214 = some (.isub, 0, 0, 0) := by decide +kernel
theorem t129_215 : g_at 129 215 = some (.imul, 0, 0, 0) := by decide +kernel
theorem t129_216 : g_at 129 216 = some (.istore 8, 0, 0, 0) := by decide +kernel
theorem t129_218 : g_at 129 218 = some (.iinc 9 (1), 0, 0, 1) := by decide +kernel
theorem t129_221 : g_at 129 221 = some (.goto (-50), 171, 0, 0) := by decide +kernel
theorem t129_224 : g_at 129 224 = some (.iload 6, 0, 0, 0) := by decide +kernel
theorem t129_226 : g_at 129 226 = some (.iload 8, 0, 0, 0) := by decide +kernel
theorem t129_228 : g_at 129 228 = some (.iadd, 0, 0, 0) := by decide +kernel
theorem t129_229 : g_at 129 229 = some (.istore 6, 0, 0, 0) := by decide +kernel
theorem t129_231 : g_at 129 231 = some (.iinc 7 (1), 0, 0, 1) := by decide +kernel
theorem t129_234 : g_at 129 234 = some (.goto (-114), 120, 0, 0) := by decide +kernel
theorem t129_237 : g_at 129 237 = some (.iload 6, 0, 0, 0) := by decide +kernel
theorem t129_239 : g_at 129 239 = some (.iload 4, 0, 0, 0) := by decide +kernel
theorem t129_241 : g_at 129 241 = some (.invokestatic 199, 128, 2, 0) := by decide +kernel
theorem t129_244 : g_at 129 244 = some (.istore 7, 0, 0, 0) := by decide +kernel
theorem t129_246 : g_at 129 246 = some (.iload_n 2, 0, 0, 0) := by decide +kernel
theorem t129_247 : g_at 129 247 = some (.ifCond .ne (11), 258, 0, 0) := by decide +kernel
theorem t129_250 : g_at 129 250 = some (.iload 6, 0, 0, 0) := by decide +kernel
theorem t129_252 : g_at 129 252 = some (.iload 7, 0, 0, 0) := by decide +kernel
theorem t129_254 : g_at 129 254 = some (.idiv, 0, 0, 0) := by decide +kernel
theorem t129_255 : g_at 129 255 = some (.goto (8), 263, 0, 0) := by decide +kernel
theorem t129_258 : g_at 129 258 = some (.iload 4, 0, 0, 0) := by decide +kernel
theorem t129_260 : g_at 129 260 = some (.iload 7, 0, 0, 0) := by decide +kernel
theorem t129_262 : g_at 129 262 = some (.idiv, 0, 0, 0) := by decide +kernel
theorem t129_263 : g_at 129 263 = some (.ireturn, 0, 0, 0) := by decide +kernel
theorem t130_0 : g_at 130 0 = some (.aload_n 0, 0, 0, 0) := by decide +kernel
theorem t130_1 : g_at 130 1 = some (.iload_n 1, 0, 0, 0) := by decide +kernel
theorem t130_2 : g_at 130 2 = some (.invokevirtual 115, 74, 1, 0) := by decide +kernel
theorem t130_5 : g_at 130 5 = some (.ifCond .eq (12), 17, 0, 0) := by decide +kernel
theorem t130_8 : g_at 130 8 = some (.iload_n 2, 0, 0, 0) := by decide +kernel
theorem t130_9 : g_at 130 9 = some (.ifCond .lt (8), 17, 0, 0) := by decide +kernel
theorem t130_12 : g_at 130 12 = some (.iload_n 2, 0, 0, 0) := by decide +kernel
theorem t130_13 : g_at 130 13 = some (.iconst 1, 0, 0, 1) := by decide +kernel
theorem t130_14 : g_at 130 14 = some (.if_icmp .le (5), 19, 0, 0) := by decide +kernel
theorem t130_17 : g_at 130 17 = some (.iconst (-1), 0, 0, (-1)) := by decide +kernel
theorem t130_18 : g_at 130 18 = some (.ireturn, 0, 0, 0) := by decide +kernel
theorem t130_19 : g_at 130 19 = some (.aload_n 0, 0, 0, 0) := by decide +kernel
theorem t130_20 : g_at 130 20 = some (.getfield 193, 3, 14, 0) := by decide +kernel
theorem t130_23 : g_at 130 23 = some (.bipush (6), 0, 0, 6) := by decide +kernel
theorem t130_25 : g_at 130 25 = some (.if_icmp .lt (6), 31, 0, 0) := by decide +kernel
theorem t130_28 : g_at 130 28 = some (.bipush (-3), 0, 0, (-3)) := by decide +kernel
theorem t130_30 : g_at 130 30 = some (.ireturn, 0, 0, 0) := by decide +kernel
theorem t130_31 : g_at 130 31 = some (.aload_n 0, 0, 0, 0) := by decide +kernel
theorem t130_32 : g_at 130 32 = some (.getfield 46, 3, 13, 0) := by decide +kernel
theorem t130_35 : g_at 130 35 = some (.aload_n 0, 0, 0, 0) := by decide +kernel
theorem t130_36 : g_at 130 36 = some (.getfield 193, 3, 14, 0) := by decide +kernel
theorem t130_39 : g_at 130 39 = some (.iconst 2, 0, 0, 2) := by decide +kernel
theorem t130_40 : g_at 130 40 = some (.iload_n 1, 0, 0, 0) := by decide +kernel
theorem t130_41 : g_at 130 41 = some (.imul, 0, 0, 0) := by decide +kernel
theorem t130_42 : g_at 130 42 = some (.iload_n 2, 0, 0, 0) := by decide +kernel
theorem t130_43 : g_at 130 43 = some (.iadd, 0, 0, 0) := by decide +kernel
theorem t130_44 : g_at 130 44 = some (.iastore, 0, 0, 0) := by decide +kernel
theorem t130_45 : g_at 130 45 = some (.aload_n 0, 0, 0, 0) := by decide +kernel
theorem t130_46 : g_at 130 46 = some (.dup, 0, 0, 0) := by decide +kernel
theorem t130_47 : g_at 130 47 = some (.getfield 193, 3, 14, 0) := by decide +kernel
theorem t130_50 : g_at 130 50 = some (.iconst 1, 0, 0, 1) := by decide +kernel
theorem t130_51 : g_at 130 51 = some (.iadd, 0, 0, 0) := by decide +kernel
theorem t130_52 : g_at 130 52 = some (.putfield 193, 3, 14, 0) := by decide +kernel
theorem t130_55 : g_at 130 55 = some (.aload_n 0, 0, 0, 0) := by decide +kernel
theorem t130_56 : g_at 130 56 = some (.getfield 193, 3, 14, 0) := by decide +kernel
theorem t130_59 : g_at 130 59 = some (.ireturn, 0, 0, 0) := by decide +kernel
theorem t131_0 : g_at 131 0 = some (.aload_n 0, 0, 0, 0) := by decide +kernel
theorem t131_1 : g_at 131 1 = some (.iconst 0, 0, 0, 0) := by decide +kernel
theorem t131_2 : g_at 131 2 = some (.putfield 62, 4, 0, 0) := by decide +kernel
theorem t131_5 : g_at 131 5 = some (.aload_n 0, 0, 0, 0) := by decide +kernel
theorem t131_6 : g_at 131 6 = some (.iload_n 1, 0, 0, 0) := by decide +kernel
theorem t131_7 : g_at 131 7 = some (.invokevirtual 167, 77, 1, 0) := by decide +kernel
theorem t131_10 : g_at 131 10 = some (.ifCond .eq (12), 22, 0, 0) := by decide +kernel
theorem t131_13 : g_at 131 13 = some (.iload_n 2, 0, 0, 0) := by decide +kernel
theorem t131_14 : g_at 131 14 = some (.iconst 0, 0, 0, 0) := by decide +kernel
theorem t131_15 : g_at 131 15 = some (.iconst 1, 0, 0, 1) := by decide +kernel
theorem t131_16 : g_at 131 16 = some (.invokestatic 66, 10, 3, 0) := by decide +kernel
theorem t131_19 : g_at 131 19 = some (.ifCond .ne (5), 24, 0, 0) := by decide +kernel
theorem t131_22 : g_at 131 22 = some (.iconst (-1), 0, 0, (-1)) := by decide +kernel
theorem t131_23 : g_at 131 23 = some (.ireturn, 0, 0, 0) := by decide +kernel
theorem t131_24 : g_at 131 24 = some (.aload_n 0, 0, 0, 0) := by decide +kernel
theorem t131_25 : g_at 131 25 = some (.getfield 144, 4, 20, 0) := by decide +kernel
theorem t131_28 : g_at 131 28 = some (.bipush (6), 0, 0, 6) := by decide +kernel
theorem t131_30 : g_at 131 30 = some (.if_icmp .ne (6), 36, 0, 0) := by decide +kernel
theorem t131_33 : g_at 131 33 = some (.bipush (-3), 0, 0, (-3)) := by decide +kernel
theorem t131_35 : g_at 131 35 = some (.ireturn, 0, 0, 0) := by decide +kernel
theorem t131_36 : g_at 131 36 = some (.aload_n 0, 0, 0, 0) := by decide +kernel
theorem t131_37 : g_at 131 37 = some (.getfield 38, 4, 18, 0) := by decide +kernel
theorem t131_40 : g_at 131 40 = some (.aload_n 0, 0, 0, 0) := by decide +kernel
theorem t131_41 : g_at 131 41 = some (.getfield 144, 4, 20, 0) := by decide +kernel
theorem t131_44 : g_at 131 44 = some (.iload_n 1, 0, 0, 0) := by decide +kernel
theorem t131_45 : g_at 131 45 = some (.iastore, 0, 0, 0) := by decide +kernel
theorem t131_46 : g_at 131 46 = some (.aload_n 0, 0, 0, 0) := by decide +kernel
theorem t131_47 : g_at 131 47 = some (.getfield 41, 4, 19, 0) := by decide +kernel
theorem t131_50 : g_at 131 50 = some (.aload_n 0, 0, 0, 0) := by decide +kernel
theorem t131_51 : g_at 131 51 = some (.getfield 144, 4, 20, 0) := by decide +kernel
theorem t131_54 : g_at 131 54 = some (.iload_n 2, 0, 0, 0) := by decide +kernel
theorem t131_55 : g_at 131 55 = some (.iastore, 0, 0, 0) := by decide +kernel
theorem t131_56 : g_at 131 56 = some (.aload_n 0, 0, 0, 0) := by decide +kernel
theorem t131_57 : g_at 131 57 = some (.dup, 0, 0, 0) := by decide +kernel
theorem t131_58 : g_at 131 58 = some (.getfield 144, 4, 20, 0) := by decide +kernel
theorem t131_61 : g_at 131 61 = some (.iconst 1, 0, 0, 1) := by decide +kernel
theorem t131_62 : g_at 131 62 = some (.iadd, 0, 0, 0) := by decide +kernel
theorem t131_63 : g_at 131 63 = some (.putfield 144, 4, 20, 0) := by decide +kernel
theorem t131_66 : g_at 131 66 = some (.aload_n 0, 0, 0, 0) := by decide +kernel
theorem t131_67 : g_at 131 67 = some (.getfield 144, 4, 20, 0) := by decide +kernel
theorem t131_70 : g_at 131 70 = some (.ireturn, 0, 0, 0) := by decide +kernel
theorem t132_0 : g_at 132 0 = some (.aload_n 0, 0, 0, 0) := by decide +kernel
theorem t132_1 : g_at 132 1 = some (.getfield 193, 3, 14, 0) := by decide +kernel
theorem t132_4 : g_at 132 4 = some (.istore_n 1, 0, 0, 0) := by decide +kernel
theorem t132_5 : g_at 132 5 = some (.aload_n 0, 0, 0, 0) := by decide +kernel
theorem t132_6 : g_at 132 6 = some (.iconst 0, 0, 0, 0) := by decide +kernel
theorem t132_7 : g_at 132 7 = some (.putfield 193, 3, 14, 0) := by decide +kernel
theorem t132_10 : g_at 132 10 = some (.iload_n 1, 0, 0, 0) := by decide +kernel
theorem t132_11 : g_at 132 11 = some (.ireturn, 0, 0, 0) := by decide +kernel
theorem t133_0 : g_at 133 0 = some (.aload_n 0, 0, 0, 0) := by decide +kernel
theorem t133_1 : g_at 133 1 = some (.iconst 0, 0, 0, 0) := by decide +kernel
theorem t133_2 : g_at 133 2 = some (.putfield 62, 4, 0, 0) := by decide +kernel
theorem t133_5 : g_at 133 5 = some (.aload_n 0, 0, 0, 0) := by decide +kernel
theorem t133_6 : g_at 133 6 = some (.getfield 144, 4, 20, 0) := by decide +kernel
theorem t133_9 : g_at 133 9 = some (.istore_n 1, 0, 0, 0) := by decide +kernel
theorem t133_10 : g_at 133 10 = some (.aload_n 0, 0, 0, 0) := by decide +kernel
theorem t133_11 : g_at 133 11 = some (.iconst 0, 0, 0, 0) := by decide +kernel
theorem t133_12 : g_at 133 12 = some (.putfield 144, 4, 20, 0) := by decide +kernel
theorem t133_15 : g_at 133 15 = some (.iload_n 1, 0, 0, 0) := by decide +kernel
theorem t133_16 : g_at 133 16 = some (.ireturn, 0, 0, 0) := by decide +kernel
theorem t134_0 : g_at 134 0 = some (.aload_n 0, 0, 0, 0) := by decide +kernel
theorem t134_1 : g_at 134 1 = some (.getfield 26, 3, 2, 0) := by decide +kernel
theorem t134_4 : g_at 134 4 = some (.getfield 118, 1, 10, 0) := by decide +kernel
theorem t134_7 : g_at 134 7 = some (.aload_n 0, 0, 0, 0) := by decide +kernel
theorem t134_8 : g_at 134 8 = some (.getfield 95, 3, 4, 0) := by decide +kernel
theorem t134_11 : g_at 134 11 = some (.iconst 1, 0, 0, 1) := by decide +kernel
theorem t134_12 : g_at 134 12 = some (.iload_n 1, 0, 0, 0) := by decide +kernel
theorem t134_13 : g_at 134 13 = some (.ishl, 0, 0, 0) := by decide +kernel
theorem t134_14 : g_at 134 14 = some (.ixor, 0, 0, 0) := by decide +kernel
theorem t134_15 : g_at 134 15 = some (.iaload, 0, 0, 0) := by decide +kernel
theorem t134_16 : g_at 134 16 = some (.istore_n 2, 0, 0, 0) := by decide +kernel
theorem t134_17 : g_at 134 17 = some (.iconst 0, 0, 0, 0) := by decide +kernel
theorem t134_18 : g_at 134 18 = some (.istore_n 3, 0, 0, 0) := by decide +kernel
theorem t134_19 : g_at 134 19 = some (.iload_n 3, 0, 0, 0) := by decide +kernel
theorem t134_20 : g_at 134 20 = some (.aload_n 0, 0, 0, 0) := by decide +kernel
theorem t134_21 : g_at 134 21 = some (.getfield 193, 3, 14, 0) := by decide +kernel
theorem t134_24 : g_at 134 24 = some (.if_icmp .ge (34), 58, 0, 0) := by decide +kernel
theorem t134_27 : g_at 134 27 = some (.iload_n 2, 0, 0, 0) := by decide +kernel
theorem t134_28 : g_at 134 28 = some (.aload_n 0, 0, 0, 0) := by decide +kernel
theorem t134_29 : g_at 134 29 = some (.getfield 46, 3, 13, 0) := by decide +kernel
theorem t134_32 : g_at 134 32 = some (.iload_n 3, 0, 0, 0) := by decide +kernel
theorem t134_33 : g_at 134 33 = some (.iaload, 0, 0, 0) := by decide +kernel
theorem t134_34 : g_at 134 34 = some (.iconst 2, 0, 0, 2) := by decide +kernel
theorem t134_35 : g_at 134 35 = some (.idiv, 0, 0, 0) := by decide +kernel
theorem t134_36 : g_at 134 36 = some (.invokestatic 98, 19, 2, 0) := by decide +kernel
theorem t134_39 : g_at 134 39 = some (.aload_n 0, 0, 0, 0) := by decide +kernel
theorem t134_40 : g_at 134 40 = some (.getfield 46, 3, 13, 0) := by decide +kernel
theorem t134_43 : g_at 134 43 = some (.iload_n 3, 0, 0, 0) := by decide +kernel
theorem t134_44 : g_at 134 44 = some (.iaload, 0, 0, 0) := by decide +kernel
theorem t134_45 : g_at 134 45 = some (.iconst 2, 0, 0, 2) := by decide +kernel
theorem t134_46 : g_at 134 46 = some (.irem, 0, 0, 0) := by decide +kernel
theorem t134_47 : g_at 134 47 = some (.if_icmp .eq (5), 52, 0, 0) := by decide +kernel
theorem t134_50 : g_at 134 50 = some (.iconst 0, 0, 0, 0) := by decide +kernel
theorem t134_51 : g_at 134 51 = some (.ireturn, 0, 0, 0) := by decide +kernel
theorem t134_52 : g_at 134 52 = some (.iinc 3 (1), 0, 0, 1) := by decide +kernel
theorem t134_55 : g_at 134 55 = some (.goto (-36), 19, 0, 0) := by decide +kernel
theorem t134_58 : g_at 134 58 = some (.iconst 1, 0, 0, 1) := by decide +kernel
theorem t134_59 : g_at 134 59 = some (.ireturn, 0, 0, 0) := by decide +kernel
theorem t135_0 : g_at 135 0 = some (.iconst 0, 0, 0, 0) := by decide +kernel
theorem t135_1 : g_at 135 1 = some (.istore_n 1, 0, 0, 0) := by decide +kernel
theorem t135_2 : g_at 135 2 = some (.iconst 0, 0, 0, 0) := by decide +kernel
theorem t135_3 : g_at 135 3 = some (.istore_n 2, 0, 0, 0) := by decide +kernel
theorem t135_4 : g_at 135 4 = some (.iload_n 2, 0, 0, 0) := by decide +kernel
theorem t135_5 : g_at 135 5 = some (.aload_n 0, 0, 0, 0) := by decide +kernel
theorem t135_6 : g_at 135 6 = some (.getfield 26, 3, 2, 0) := by decide +kernel
theorem t135_9 : g_at 135 9 = some (.getfield 112, 1, 3, 0) := by decide +kernel
theorem t135_12 : g_at 135 12 = some (.if_icmp .ge (23), 35, 0, 0) := by decide +kernel
theorem t135_15 : g_at 135 15 = some (.aload_n 0, 0, 0, 0) := by decide +kernel
theorem t135_16 : g_at 135 16 = some (.iload_n 2, 0, 0, 0) := by decide +kernel
theorem t135_17 : g_at 135 17 = some (.invokevirtual 196, 134, 1, 0) := by decide +kernel
theorem t135_20 : g_at 135 20 = some (.ifCond .eq (9), 29, 0, 0) := by decide +kernel
theorem t135_23 : g_at 135 23 = some (.iload_n 1, 0, 0, 0) := by decide +kernel
theorem t135_24 : g_at 135 24 = some (.iconst 1, 0, 0, 1) := by decide +kernel
theorem t135_25 : g_at 135 25 = some (.iload_n 2, 0, 0, 0) := by decide +kernel
theorem t135_26 : g_at 135 26 = some (.ishl, 0, 0, 0) := by decide +kernel
theorem t135_27 : g_at 135 27 = some (.ior, 0, 0, 0) := by decide +kernel
theorem t135_28 : g_at 135 28 = some (.istore_n 1, 0, 0, 0) := by decide +kernel
theorem t135_29 : g_at 135 29 = some (.iinc 2 (1), 0, 0, 1) := by decide +kernel
theorem t135_32 : g_at 135 32 = some (.goto (-28), 4, 0, 0) := by decide +kernel
theorem t135_35 : g_at 135 35 = some (.iload_n 1, 0, 0, 0) := by decide +kernel
theorem t135_36 : g_at 135 36 = some (.ireturn, 0, 0, 0) := by decide +kernel
theorem t136_0 : g_at 136 0 = some (.iconst 0, 0, 0, 0) := by decide +kernel
theorem t136_1 : g_at 136 1 = some (.istore_n 1, 0, 0, 0) := by decide +kernel
theorem t136_2 : g_at 136 2 = some (.iconst 0, 0, 0, 0) := by decide +kernel
theorem t136_3 : g_at 136 3 = some (.istore_n 2, 0, 0, 0) := by decide +kernel
theorem t136_4 : g_at 136 4 = some (.iload_n 2, 0, 0, 0) := by decide +kernel
theorem t136_5 : g_at 136 5 = some (.aload_n 0, 0, 0, 0) := by decide +kernel
theorem t136_6 : g_at 136 6 = some (.getfield 13, 4, 8, 0) := by decide +kernel
theorem t136_9 : g_at 136 9 = some (.iconst 3, 0, 0, 3) := by decide +kernel
theorem t136_10 : g_at 136 10 = some (.iaload, 0, 0, 0) := by decide +kernel
theorem t136_11 : g_at 136 11 = some (.if_icmp .ge (97), 108, 0, 0) := by decide +kernel
theorem t136_14 : g_at 136 14 = some (.aload_n 0, 0, 0, 0) := by decide +kernel
theorem t136_15 : g_at 136 15 = some (.aload_n 0, 0, 0, 0) := by decide +kernel
theorem t136_16 : g_at 136 16 = some (.getfield 13, 4, 8, 0) := by decide +kernel
theorem t136_19 : g_at 136 19 = some (.aload_n 0, 0, 0, 0) := by decide +kernel
theorem t136_20 : g_at 136 20 = some (.getfield 22, 4, 11, 0) := by decide +kernel
theorem t136_23 : g_at 136 23 = some (.iconst 0, 0, 0, 0) := by decide +kernel
theorem t136_24 : g_at 136 24 = some (.iaload, 0, 0, 0) := by decide +kernel
theorem t136_25 : g_at 136 25 = some (.iconst 1, 0, 0, 1) := by decide +kernel
theorem t136_26 : g_at 136 26 = some (.iload_n 2, 0, 0, 0) := by decide +kernel
theorem t136_27 : g_at 136 27 = some (.ishl, 0, 0, 0) := by decide +kernel
theorem t136_28 : g_at 136 28 = some (.ixor, 0, 0, 0) := by decide +kernel
theorem t136_29 : g_at 136 29 = some (.invokevirtual 135, 61, 2, 0) := by decide +kernel
theorem t136_32 : g_at 136 32 = some (.istore_n 3, 0, 0, 0) := by decide +kernel
theorem t136_33 : g_at 136 33 = some (.iconst 1, 0, 0, 1) := by decide +kernel
theorem t136_34 : g_at 136 34 = some (.istore 4, 0, 0, 0) := by decide +kernel
theorem t136_36 : g_at 136 36 = some (.iconst 0, 0, 0, 0) := by decide +kernel
theorem t136_37 : g_at 136 37 = some (.istore 5, 0, 0, 0) := by decide +kernel
theorem t136_39 : g_at 136 39 = some (.iload 5, 0, 0, 0) := by decide +kernel
theorem t136_41 : g_at 136 41 = some (.aload_n 0, 0, 0, 0) := by decide +kernel
theorem t136_42 : g_at 136 42 = some (.getfield 144, 4, 20, 0) := by decide +kernel
theorem t136_45 : g_at 136 45 = some (.if_icmp .ge (42), 87, 0, 0) := by decide +kernel
theorem t136_48 : g_at 136 48 = some (.iload 4, 0, 0, 0) := by decide +kernel
theorem t136_50 : g_at 136 50 = some (.ifCond .eq (28), 78, 0, 0) := by decide +kernel
theorem t136_53 : g_at 136 53 = some (.iload_n 3, 0, 0, 0) := by decide +kernel
theorem t136_54 : g_at 136 54 = some (.aload_n 0, 0, 0, 0) := by decide +kernel
theorem t136_55 : g_at 136 55 = some (.getfield 38, 4, 18, 0) := by decide +kernel
theorem t136_58 : g_at 136 58 = some (.iload 5, 0, 0, 0) := by decide +kernel
theorem t136_60 : g_at 136 60 = some (.iaload, 0, 0, 0) := by decide +kernel
theorem t136_61 : g_at 136 61 = some (.ishr, 0, 0, 0) := by decide +kernel
theorem t136_62 : g_at 136 62 = some (.iconst 1, 0, 0, 1) := by decide +kernel
theorem t136_63 : g_at 136 63 = some (.iand, 0, 0, 0) := by decide +kernel
theorem t136_64 : g_at 136 64 = some (.aload_n 0, 0, 0, 0) := by decide +kernel
theorem t136_65 : g_at 136 65 = some (.getfield 41, 4, 19, 0) := by decide +kernel
theorem t136_68 : g_at 136 68 = some (.iload 5, 0, 0, 0) := by decide +kernel
theorem t136_70 : g_at 136 70 = some (.iaload, 0, 0, 0) := by decide +kernel
theorem t136_71 : g_at 136 71 = some (.if_icmp .ne (7), 78, 0, 0) := by decide +kernel
theorem t136_74 : g_at 136 74 = some (.iconst 1, 0, 0, 1) := by decide +kernel
theorem t136_75 : g_at 136 75 = some (.goto (4), 79, 0, 0) := by decide +kernel
theorem t136_78 : g_at 136 78 = some (.iconst 0, 0, 0, 0) := by decide +kernel
theorem t136_79 : g_at 136 79 = some (.istore 4, 0, 0, 0) := by decide +kernel
theorem t136_81 : g_at 136 81 = some (.iinc 5 (1), 0, 0, 1) := by decide +kernel
theorem t136_84 : g_at 136 84 = some (.goto (-45), 39, 0, 0) := by decide +kernel
theorem t136_87 : g_at 136 87 = some (.iload_n 1, 0, 0, 0) := by decide +kernel
theorem t136_88 : g_at 136 88 = some (.iload 4, 0, 0, 0) := by decide +kernel
theorem t136_90 : g_at 136 90 = some (.ifCond .eq (9), 99, 0, 0) := by decide +kernel
theorem t136_93 : g_at 136 93 = some (.iconst 1, 0, 0, 1) := by decide +kernel
theorem t136_94 : g_at 136 94 = some (.iload_n 2, 0, 0, 0) := by decide +kernel
theorem t136_95 : g_at 136 95 = some (.ishl, 0, 0, 0) := by decide +kernel
theorem t136_96 : g_at 136 96 = some (.goto (4), 100, 0, 0) := by decide +kernel
theorem t136_99 : g_at 136 99 = some (.iconst 0, 0, 0, 0) := by decide +kernel
theorem t136_100 : g_at 136 100 = some (.ior, 0, 0, 0) := by decide +kernel
theorem t136_101 : g_at 136 101 = some (.istore_n 1, 0, 0, 0) := by decide +kernel
theorem t136_102 : g_at 136 102 = some (.iinc 2 (1), 0, 0, 1) := by decide +kernel
theorem t136_105 : g_at 136 105 = some (.goto (-101), 4, 0, 0) := by decide +kernel
theorem t136_108 : g_at 136 108 = some (.iload_n 1, 0, 0, 0) := by decide +kernel
theorem t136_109 : g_at 136 109 = some (.ireturn, 0, 0, 0) := by decide +kernel
theorem t137_0 : g_at 137 0 = some (.aload_n 0, 0, 0, 0) := by decide +kernel
theorem t137_1 : g_at 137 1 = some (.iconst 0, 0, 0, 0) := by decide +kernel
theorem t137_2 : g_at 137 2 = some (.putfield 62, 4, 0, 0) := by decide +kernel
theorem t137_5 : g_at 137 5 = some (.aload_n 0, 0, 0, 0) := by decide +kernel
theorem t137_6 : g_at 137 6 = some (.invokevirtual 202, 136, 0, 0) := by decide +kernel
theorem t137_9 : g_at 137 9 = some (.ireturn, 0, 0, 0) := by decide +kernel
theorem t138_0 : g_at 138 0 = some (.iconst 0, 0, 0, 0) := by decide +kernel
theorem t138_1 : g_at 138 1 = some (.istore_n 3, 0, 0, 0) := by decide +kernel
theorem t138_2 : g_at 138 2 = some (.iconst 0, 0, 0, 0) := by decide +kernel
theorem t138_3 : g_at 138 3 = some (.istore 4, 0, 0, 0) := by decide +kernel
theorem t138_5 : g_at 138 5 = some (.iload 4, 0, 0, 0) := by decide +kernel
theorem t138_7 : g_at 138 7 = some (.aload_n 0, 0, 0, 0) := by decide +kernel
theorem t138_8 : g_at 138 8 = some (.getfield 26, 3, 2, 0) := by decide +kernel
theorem t138_11 : g_at 138 11 = some (.getfield 112, 1, 3, 0) := by decide +kernel
theorem t138_14 : g_at 138 14 = some (.if_icmp .ge (43), 57, 0, 0) := by decide +kernel
theorem t138_17 : g_at 138 17 = some (.iload_n 2, 0, 0, 0) := by decide +kernel
theorem t138_18 : g_at 138 18 = some (.iload 4, 0, 0, 0) := by decide +kernel
theorem t138_20 : g_at 138 20 = some (.invokestatic 98, 19, 2, 0) := by decide +kernel
theorem t138_23 : g_at 138 23 = some (.iconst 1, 0, 0, 1) := by decide +kernel
theorem t138_24 : g_at 138 24 = some (.if_icmp .ne (27), 51, 0, 0) := by decide +kernel
theorem t138_27 : g_at 138 27 = some (.iload_n 3, 0, 0, 0) := by decide +kernel
theorem t138_28 : g_at 138 28 = some (.aload_n 0, 0, 0, 0) := by decide +kernel
theorem t138_29 : g_at 138 29 = some (.getfield 26, 3, 2, 0) := by decide +kernel
theorem t138_32 : g_at 138 32 = some (.getfield 118, 1, 10, 0) := by decide +kernel
theorem t138_35 : g_at 138 35 = some (.aload_n 0, 0, 0, 0) := by decide +kernel
theorem t138_36 : g_at 138 36 = some (.getfield 95, 3, 4, 0) := by decide +kernel
theorem t138_39 : g_at 138 39 = some (.iconst 1, 0, 0, 1) := by decide +kernel
theorem t138_40 : g_at 138 40 = some (.iload 4, 0, 0, 0) := by decide +kernel
theorem t138_42 : g_at 138 42 = some (.ishl, 0, 0, 0) := by decide +kernel
theorem t138_43 : g_at 138 43 = some (.ixor, 0, 0, 0) := by decide +kernel
theorem t138_44 : g_at 138 44 = some (.iaload, 0, 0, 0) := by decide +kernel
theorem t138_45 : g_at 138 45 = some (.iload_n 1, 0, 0, 0) := by decide +kernel
theorem t138_46 : g_at 138 46 = some (.invokestatic 98, 19, 2, 0) := by decide +kernel
theorem t138_49 : g_at 138 49 = some (.iadd, 0, 0, 0) := by decide +kernel
theorem t138_50 : g_at 138 50 = some (.istore_n 3, 0, 0, 0) := by decide +kernel
theorem t138_51 : g_at 138 51 = some (.iinc 4 (1), 0, 0, 1) := by decide +kernel
theorem t138_54 : g_at 138 54 = some (.goto (-49), 5, 0, 0) := by decide +kernel
theorem t138_57 : g_at 138 57 = some (.iload_n 3, 0, 0, 0) := by decide +kernel
theorem t138_58 : g_at 138 58 = some (.ireturn, 0, 0, 0) := by decide +kernel
theorem t139_0 : g_at 139 0 = some (.aload_n 0, 0, 0, 0) := by decide +kernel
theorem t139_1 : g_at 139 1 = some (.invokevirtual 199, 135, 0, 0) := by decide +kernel
theorem t139_4 : g_at 139 4 = some (.istore_n 1, 0, 0, 0) := by decide +kernel
theorem t139_5 : g_at 139 5 = some (.iload_n 1, 0, 0, 0) := by decide +kernel
theorem t139_6 : g_at 139 6 = some (.invokestatic 179, 26, 1, 0) := by decide +kernel
theorem t139_9 : g_at 139 9 = some (.istore_n 2, 0, 0, 0) := by decide +kernel
theorem t139_10 : g_at 139 10 = some (.iload_n 2, 0, 0, 0) := by decide +kernel
theorem t139_11 : g_at 139 11 = some (.iconst 1, 0, 0, 1) := by decide +kernel
theorem t139_12 : g_at 139 12 = some (.if_icmp .gt (6), 18, 0, 0) := by decide +kernel
theorem t139_15 : g_at 139 15 = some (.bipush (-9), 0, 0, (-9)) := by decide +kernel
theorem t139_17 : g_at 139 17 = some (.ireturn, 0, 0, 0) := by decide +kernel
theorem t139_18 : g_at 139 18 = some (.bipush (-9), 0, 0, (-9)) := by decide +kernel
theorem t139_20 : g_at 139 20 = some (.istore_n 3, 0, 0, 0) := by decide +kernel
theorem t139_21 : g_at 139 21 = some (.iload_n 2, 0, 0, 0) := by decide +kernel
theorem t139_22 : g_at 139 22 = some (.iconst 1, 0, 0, 1) := by decide +kernel
theorem t139_23 : g_at 139 23 = some (.iadd, 0, 0, 0) := by decide +kernel
theorem t139_24 : g_at 139 24 = some (.istore 4, 0, 0, 0) := by decide +kernel
theorem t139_26 : g_at 139 26 = some (.iconst 0, 0, 0, 0) := by decide +kernel
theorem t139_27 : g_at 139 27 = some (.istore 5, 0, 0, 0) := by decide +kernel
theorem t139_29 : g_at 139 29 = some (.iload 5, 0, 0, 0) := by decide +kernel
theorem t139_31 : g_at 139 31 = some (.aload_n 0, 0, 0, 0) := by decide +kernel
theorem t139_32 : g_at 139 32 = some (.getfield 26, 3, 2, 0) := by decide +kernel
theorem t139_35 : g_at 139 35 = some (.getfield 202, 1, 0, 0) := by decide +kernel
theorem t139_38 : g_at 139 38 = some (.if_icmp .ge (43), 81, 0, 0) := by decide +kernel
theorem t139_41 : g_at 139 41 = some (.aload_n 0, 0, 0, 0) := by decide +kernel
theorem t139_42 : g_at 139 42 = some (.iload 5, 0, 0, 0) := by decide +kernel
theorem t139_44 : g_at 139 44 = some (.iload_n 1, 0, 0, 0) := by decide +kernel
theorem t139_45 : g_at 139 45 = some (.invokevirtual 205, 138, 2, 0) := by decide +kernel
theorem t139_48 : g_at 139 48 = some (.istore 6, 0, 0, 0) := by decide +kernel
theorem t139_50 : g_at 139 50 = some (.iload 6, 0, 0, 0) := by decide +kernel
theorem t139_52 : g_at 139 52 = some (.iload_n 2, 0, 0, 0) := by decide +kernel
theorem t139_53 : g_at 139 53 = some (.iload 6, 0, 0, 0) := by decide +kernel
theorem t139_55 : g_at 139 55 = some (.isub, 0, 0, 0) := by decide +kernel
theorem t139_56 : g_at 139 56 = some (.invokestatic 208, 998, 2, 0) := by decide +kernel
theorem t139_59 : g_at 139 59 = some (.istore 7, 0, 0, 0) := by decide +kernel
theorem t139_61 : g_at 139 61 = some (.iload 7, 0, 0, 0) := by decide +kernel
theorem t139_63 : g_at 139 63 = some (.iload 4, 0, 0, 0) := by decide +kernel
theorem t139_65 : g_at 139 65 = some (.if_icmp .ge (10), 75, 0, 0) := by decide +kernel
theorem t139_68 : g_at 139 68 = some (.iload 7, 0, 0, 0) := by decide +kernel
theorem t139_70 : g_at 139 70 = some (.istore 4, 0, 0, 0) := by decide +kernel
theorem t139_72 : g_at 139 72 = some (.iload 5, 0, 0, 0) := by decide +kernel
theorem t139_74 : g_at 139 74 = some (.istore_n 3, 0, 0, 0) := by decide +kernel
theorem t139_75 : g_at 139 75 = some (.iinc 5 (1), 0, 0, 1) := by decide +kernel
theorem t139_78 : g_at 139 78 = some (.goto (-49), 29, 0, 0) := by decide +kernel
theorem t139_81 : g_at 139 81 = some (.iload_n 3, 0, 0, 0) := by decide +kernel
theorem t139_82 : g_at 139 82 = some (.ireturn, 0, 0, 0) := by decide +kernel
theorem t140_0 : g_at 140 0 = some (.iconst 0, 0, 0, 0) := by decide +kernel
theorem t140_1 : g_at 140 1 = some (.istore_n 1, 0, 0, 0) := by decide +kernel
theorem t140_2 : g_at 140 2 = some (.iload_n 0, 0, 0, 0) := by decide +kernel
theorem t140_3 : g_at 140 3 = some (.istore_n 2, 0, 0, 0) := by decide +kernel
theorem t140_4 : g_at 140 4 = some (.iload_n 2, 0, 0, 0) := by decide +kernel
theorem t140_5 : g_at 140 5 = some (.ifCond .eq (15), 20, 0, 0) := by decide +kernel
theorem t140_8 : g_at 140 8 = some (.iinc 1 (1), 0, 0, 1) := by decide +kernel
theorem t140_11 : g_at 140 11 = some (.iload_n 2, 0, 0, 0) := by decide +kernel
theorem t140_12 : g_at 140 12 = some (.iload_n 2, 0, 0, 0) := by decide +kernel
theorem t140_13 : g_at 140 13 = some (.iconst 1, 0, 0, 1) := by decide +kernel
theorem t140_14 : g_at 140 14 = some (.isub, 0, 0, 0) := by decide +kernel
theorem t140_15 : g_at 140 15 = some (.iand, 0, 0, 0) := by decide +kernel
theorem t140_16 : g_at 140 16 = some (.istore_n 2, 0, 0, 0) := by decide +kernel
theorem t140_17 : g_at 140 17 = some (.goto (-13), 4, 0, 0) := by decide +kernel
theorem t140_20 : g_at 140 20 = some (.iload_n 1, 0, 0, 0) := by decide +kernel
theorem t140_21 : g_at 140 21 = some (.ireturn, 0, 0, 0) := by decide +kernel
theorem t141_0 : g_at 141 0 = some (.aload_n 0, 0, 0, 0) := by decide +kernel
theorem t141_1 : g_at 141 1 = some (.iconst 0, 0, 0, 0) := by decide +kernel
theorem t141_2 : g_at 141 2 = some (.putfield 62, 4, 0, 0) := by decide +kernel
theorem t141_5 : g_at 141 5 = some (.aload_n 0, 0, 0, 0) := by decide +kernel
theorem t141_6 : g_at 141 6 = some (.invokevirtual 202, 136, 0, 0) := by decide +kernel
theorem t141_9 : g_at 141 9 = some (.istore_n 1, 0, 0, 0) := by decide +kernel
theorem t141_10 : g_at 141 10 = some (.iload_n 1, 0, 0, 0) := by decide +kernel
theorem t141_11 : g_at 141 11 = some (.invokestatic 205, 140, 1, 0) := by decide +kernel
theorem t141_14 : g_at 141 14 = some (.istore_n 2, 0, 0, 0) := by decide +kernel
theorem t141_15 : g_at 141 15 = some (.bipush (-9), 0, 0, (-9)) := by decide +kernel
theorem t141_17 : g_at 141 17 = some (.istore_n 3, 0, 0, 0) := by decide +kernel
theorem t141_18 : g_at 141 18 = some (.bipush (99), 0, 0, 99) := by decide +kernel
theorem t141_20 : g_at 141 20 = some (.istore 4, 0, 0, 0) := by decide +kernel
theorem t141_22 : g_at 141 22 = some (.iconst 0, 0, 0, 0) := by decide +kernel
theorem t141_23 : g_at 141 23 = some (.istore 5, 0, 0, 0) := by decide +kernel
theorem t141_25 : g_at 141 25 = some (.iload 5, 0, 0, 0) := by decide +kernel
theorem t141_27 : g_at 141 27 = some (.aload_n 0, 0, 0, 0) := by decide +kernel
theorem t141_28 : g_at 141 28 = some (.getfield 13, 4, 8, 0) := by decide +kernel
theorem t141_31 : g_at 141 31 = some (.iconst 0, 0, 0, 0) := by decide +kernel
theorem t141_32 : g_at 141 32 = some (.iaload, 0, 0, 0) := by decide +kernel
theorem t141_33 : g_at 141 33 = some (.if_icmp .ge (133), 166, 0, 0) := by decide +kernel
theorem t141_36 : g_at 141 36 = some (.iload_n 2, 0, 0, 0) := by decide +kernel
theorem t141_37 : g_at 141 37 = some (.iconst 1, 0, 0, 1) := by decide +kernel
theorem t141_38 : g_at 141 38 = some (.if_icmp .le (128), 166, 0, 0) := by decide +kernel
theorem t141_41 : g_at 141 41 = some (.iconst 0, 0, 0, 0) := by decide +kernel
theorem t141_42 : g_at 141 42 = some (.istore 6, 0, 0, 0) := by decide +kernel
theorem t141_44 : g_at 141 44 = some (.iconst 0, 0, 0, 0) := by decide +kernel
theorem t141_45 : g_at 141 45 = some (.istore 7, 0, 0, 0) := by decide +kernel
theorem t141_47 : g_at 141 47 = some (.iload 7, 0, 0, 0) := by decide +kernel
theorem t141_49 : g_at 141 49 = some (.aload_n 0, 0, 0, 0) := by decide +kernel
theorem t141_50 : g_at 141 50 = some (.getfield 13, 4, 8, 0) := by decide +kernel
theorem t141_53 : g_at 141 53 = some (.iconst 3, 0, 0, 3) := by decide +kernel
theorem t141_54 : g_at 141 54 = some (.iaload, 0, 0, 0) := by decide +kernel
theorem t141_55 : g_at 141 55 = some (.if_icmp .ge (55), 110, 0, 0) := by decide +kernel
theorem t141_58 : g_at 141 58 = some (.iload 6, 0, 0, 0) := by decide +kernel
theorem t141_60 : g_at 141 60 = some (.iload_n 1, 0, 0, 0) := by decide +kernel
theorem t141_61 : g_at 141 61 = some (.iload 7, 0, 0, 0) := by decide +kernel
theorem t141_63 : g_at 141 63 = some (.invokestatic 111, 53, 2, 0) := by decide +kernel
theorem t141_66 : g_at 141 66 = some (.ifCond .eq (34), 100, 0, 0) := by decide +kernel
theorem t141_69 : g_at 141 69 = some (.aload_n 0, 0, 0, 0) := by decide +kernel
theorem t141_70 : g_at 141 70 = some (.aload_n 0, 0, 0, 0) := by decide +kernel
theorem t141_71 : g_at 141 71 = some (.getfield 13, 4, 8, 0) := by decide +kernel
theorem t141_74 : g_at 141 74 = some (.aload_n 0, 0, 0, 0) := by decide +kernel
theorem t141_75 : g_at 141 75 = some (.getfield 22, 4, 11, 0) := by decide +kernel
theorem t141_78 : g_at 141 78 = some (.iconst 0, 0, 0, 0) := by decide +kernel
theorem t141_79 : g_at 141 79 = some (.iaload, 0, 0, 0) := by decide +kernel
theorem t141_80 : g_at 141 80 = some (.iconst 1, 0, 0, 1) := by decide +kernel
theorem t141_81 : g_at 141 81 = some (.iload 7, 0, 0, 0) := by decide +kernel
theorem t141_83 : g_at 141 83 = some (.ishl, 0, 0, 0) := by decide +kernel
theorem t141_84 : g_at 141 84 = some (.ixor, 0, 0, 0) := by decide +kernel
theorem t141_85 : g_at 141 85 = some (.invokevirtual 135, 61, 2, 0) := by decide +kernel
theorem t141_88 : g_at 141 88 = some (.iload 5, 0, 0, 0) := by decide +kernel
theorem t141_90 : g_at 141 90 = some (.invokestatic 111, 53, 2, 0) := by decide +kernel
theorem t141_93 : g_at 141 93 = some (.ifCond .eq (7), 100, 0, 0) := by decide +kernel
theorem t141_96 : g_at 141 96 = some (.iconst 1, 0, 0, 1) := by decide +kernel
theorem t141_97 : g_at 141 97 = some (.goto (4), 101, 0, 0) := by decide +kernel
theorem t141_100 : g_at 141 100 = some (.iconst 0, 0, 0, 0) := by decide +kernel
theorem t141_101 : g_at 141 101 = some (.iadd, 0, 0, 0) := by decide +kernel
theorem t141_102 : g_at 141 102 = some (.istore 6, 0, 0, 0) := by decide +kernel
theorem t141_104 : g_at 141 104 = some (.iinc 7 (1), 0, 0, 1) := by decide +kernel
theorem t141_107 : g_at 141 107 = some (.goto (-60), 47, 0, 0) := by decide +kernel
theorem t141_110 : g_at 141 110 = some (.iload 6, 0, 0, 0) := by decide +kernel
theorem t141_112 : g_at 141 112 = some (.iload_n 2, 0, 0, 0) := by decide +kernel
theorem t141_113 : g_at 141 113 = some (.iload 6, 0, 0, 0) := by decide +kernel
theorem t141_115 : g_at 141 115 = some (.isub, 0, 0, 0) := by decide +kernel
theorem t141_116 : g_at 141 116 = some (.if_icmp .le (8), 124, 0, 0) := by decide +kernel
theorem t141_119 : g_at 141 119 = some (.iload 6, 0, 0, 0) := by decide +kernel
theorem t141_121 : g_at 141 121 = some (.goto (7), 128, 0, 0) := by decide +kernel
theorem t141_124 : g_at 141 124 = some (.iload_n 2, 0, 0, 0) := by decide +kernel
theorem t141_125 : g_at 141 125 = some (.iload 6, 0, 0, 0) := by decide +kernel
theorem t141_127 : g_at 141 127 = some (.isub, 0, 0, 0) := by decide +kernel
theorem t141_128 : g_at 141 128 = some (.istore 7, 0, 0, 0) := by decide +kernel
theorem t141_130 : g_at 141 130 = some (.iload 7, 0, 0, 0) := by decide +kernel
theorem t141_132 : g_at 141 132 = some (.iload 4, 0, 0, 0) := by decide +kernel
theorem t141_134 : g_at 141 134 = some (.if_icmp .ge (8), 142, 0, 0) := by decide +kernel
theorem t141_137 : g_at 141 137 = some (.iload 5, 0, 0, 0) := by decide +kernel
theorem t141_139 : g_at 141 139 = some (.goto (4), 143, 0, 0) := by decide +kernel
theorem t141_142 : g_at 141 142 = some (.iload_n 3, 0, 0, 0) := by decide +kernel
theorem t141_143 : g_at 141 143 = some (.istore_n 3, 0, 0, 0) := by decide +kernel
theorem t141_144 : g_at 141 144 = some (.iload 7, 0, 0, 0) := by decide +kernel
theorem t141_146 : g_at 141 146 = some (.iload 4, 0, 0, 0) := by decide +kernel
theorem t141_148 : g_at 141 148 = some (.if_icmp .ge (8), 156, 0, 0) := by decide +kernel
theorem t141_151 : g_at 141 151 = some (.iload 7, 0, 0, 0) := by decide +kernel
theorem t141_153 : g_at 141 153 = some (.goto (5), 158, 0, 0) := by decide +kernel
theorem t141_156 : g_at 141 156 = some (.iload 4, 0, 0, 0) := by decide +kernel
theorem t141_158 : g_at 141 158 = some (.istore 4, 0, 0, 0) := by decide +kernel
theorem t141_160 : g_at 141 160 = some (.iinc 5 (1), 0, 0, 1) := by decide +kernel
theorem t141_163 : g_at 141 163 = some (.goto (-138), 25, 0, 0) := by decide +kernel
theorem t141_166 : g_at 141 166 = some (.iload_n 3, 0, 0, 0) := by decide +kernel
theorem t141_167 : g_at 141 167 = some (.ireturn, 0, 0, 0) := by decide +kernel
theorem t142_0 : g_at 142 0 = some (.iload_n 0, 0, 0, 0) := by decide +kernel
theorem t142_1 : g_at 142 1 = some (.ifCond .lt (12), 13, 0, 0) := by decide +kernel
theorem t142_4 : g_at 142 4 = some (.iload_n 0, 0, 0, 0) := by decide +kernel
theorem t142_5 : g_at 142 5 = some (.iconst 2, 0, 0, 2) := by decide +kernel
theorem t142_6 : g_at 142 6 = some (.if_icmp .ge (7), 13, 0, 0) := by decide +kernel
theorem t142_9 : g_at 142 9 = some (.iconst 1, 0, 0, 1) := by decide +kernel
theorem t142_10 : g_at 142 10 = some (.goto (4), 14, 0, 0) := by decide +kernel
theorem t142_13 : g_at 142 13 = some (.iconst 0, 0, 0, 0) := by decide +kernel
theorem t142_14 : g_at 142 14 = some (.ireturn, 0, 0, 0) := by decide +kernel
theorem t143_0 : g_at 143 0 = some (.iload_n 1, 0, 0, 0) := by decide +kernel
theorem t143_1 : g_at 143 1 = some (.invokestatic 213, 142, 1, 0) := by decide +kernel
theorem t143_4 : g_at 143 4 = some (.ifCond .ne (5), 9, 0, 0) := by decide +kernel
theorem t143_7 : g_at 143 7 = some (.iconst (-1), 0, 0, (-1)) := by decide +kernel
theorem t143_8 : g_at 143 8 = some (.ireturn, 0, 0, 0) := by decide +kernel
theorem t143_9 : g_at 143 9 = some (.aload_n 0, 0, 0, 0) := by decide +kernel
theorem t143_10 : g_at 143 10 = some (.getfield 43, 3, 11, 0) := by decide +kernel
theorem t143_13 : g_at 143 13 = some (.iload_n 1, 0, 0, 0) := by decide +kernel
theorem t143_14 : g_at 143 14 = some (.aload_n 0, 0, 0, 0) := by decide +kernel
theorem t143_15 : g_at 143 15 = some (.invokevirtual 216, 94, 0, 0) := by decide +kernel
theorem t143_18 : g_at 143 18 = some (.iastore, 0, 0, 0) := by decide +kernel
theorem t143_19 : g_at 143 19 = some (.aload_n 0, 0, 0, 0) := by decide +kernel
theorem t143_20 : g_at 143 20 = some (.dup, 0, 0, 0) := by decide +kernel
theorem t143_21 : g_at 143 21 = some (.getfield 219, 3, 12, 0) := by decide +kernel
theorem t143_24 : g_at 143 24 = some (.iconst 1, 0, 0, 1) := by decide +kernel
theorem t143_25 : g_at 143 25 = some (.iload_n 1, 0, 0, 0) := by decide +kernel
theorem t143_26 : g_at 143 26 = some (.ishl, 0, 0, 0) := by decide +kernel
theorem t143_27 : g_at 143 27 = some (.ior, 0, 0, 0) := by decide +kernel
theorem t143_28 : g_at 143 28 = some (.putfield 219, 3, 12, 0) := by decide +kernel
theorem t143_31 : g_at 143 31 = some (.aload_n 0, 0, 0, 0) := by decide +kernel
theorem t143_32 : g_at 143 32 = some (.getfield 95, 3, 4, 0) := by decide +kernel
theorem t143_35 : g_at 143 35 = some (.ireturn, 0, 0, 0) := by decide +kernel
theorem t144_0 : g_at 144 0 = some (.aload_n 0, 0, 0, 0) := by decide +kernel
theorem t144_1 : g_at 144 1 = some (.iconst 0, 0, 0, 0) := by decide +kernel
theorem t144_2 : g_at 144 2 = some (.putfield 62, 4, 0, 0) := by decide +kernel
theorem t144_5 : g_at 144 5 = some (.iload_n 1, 0, 0, 0) := by decide +kernel
theorem t144_6 : g_at 144 6 = some (.iconst 0, 0, 0, 0) := by decide +kernel
theorem t144_7 : g_at 144 7 = some (.iconst 1, 0, 0, 1) := by decide +kernel
theorem t144_8 : g_at 144 8 = some (.invokestatic 66, 10, 3, 0) := by decide +kernel
theorem t144_11 : g_at 144 11 = some (.ifCond .ne (5), 16, 0, 0) := by decide +kernel
theorem t144_14 : g_at 144 14 = some (.iconst (-1), 0, 0, (-1)) := by decide +kernel
theorem t144_15 : g_at 144 15 = some (.ireturn, 0, 0, 0) := by decide +kernel
theorem t144_16 : g_at 144 16 = some (.iconst 0, 0, 0, 0) := by decide +kernel
theorem t144_17 : g_at 144 17 = some (.istore_n 2, 0, 0, 0) := by decide +kernel
theorem t144_18 : g_at 144 18 = some (.iload_n 2, 0, 0, 0) := by decide +kernel
theorem t144_19 : g_at 144 19 = some (.iconst 5, 0, 0, 5) := by decide +kernel
theorem t144_20 : g_at 144 20 = some (.if_icmp .ge (25), 45, 0, 0) := by decide +kernel
theorem t144_23 : g_at 144 23 = some (.aload_n 0, 0, 0, 0) := by decide +kernel
theorem t144_24 : g_at 144 24 = some (.getfield 28, 4, 14, 0) := by decide +kernel
theorem t144_27 : g_at 144 27 = some (.iconst 5, 0, 0, 5) := by decide +kernel
theorem t144_28 : g_at 144 28 = some (.iload_n 1, 0, 0, 0) := by decide +kernel
theorem t144_29 : g_at 144 29 = some (.imul, 0, 0, 0) := by decide +kernel
theorem t144_30 : g_at 144 30 = some (.iload_n 2, 0, 0, 0) := by decide +kernel
theorem t144_31 : g_at 144 31 = some (.iadd, 0, 0, 0) := by decide +kernel
theorem t144_32 : g_at 144 32 = some (.aload_n 0, 0, 0, 0) := by decide +kernel
theorem t144_33 : g_at 144 33 = some (.getfield 22, 4, 11, 0) := by decide +kernel
theorem t144_36 : g_at 144 36 = some (.iload_n 2, 0, 0, 0) := by decide +kernel
theorem t144_37 : g_at 144 37 = some (.iaload, 0, 0, 0) := by decide +kernel
theorem t144_38 : g_at 144 38 = some (.iastore, 0, 0, 0) := by decide +kernel
theorem t144_39 : g_at 144 39 = some (.iinc 2 (1), 0, 0, 1) := by decide +kernel
theorem t144_42 : g_at 144 42 = some (.goto (-24), 18, 0, 0) := by decide +kernel
theorem t144_45 : g_at 144 45 = some (.aload_n 0, 0, 0, 0) := by decide +kernel
theorem t144_46 : g_at 144 46 = some (.getfield 31, 4, 15, 0) := by decide +kernel
theorem t144_49 : g_at 144 49 = some (.iload_n 1, 0, 0, 0) := by decide +kernel
theorem t144_50 : g_at 144 50 = some (.iconst 1, 0, 0, 1) := by decide +kernel
theorem t144_51 : g_at 144 51 = some (.bastore, 0, 0, 0) := by decide +kernel
theorem t144_52 : g_at 144 52 = some (.aload_n 0, 0, 0, 0) := by decide +kernel
theorem t144_53 : g_at 144 53 = some (.getfield 22, 4, 11, 0) := by decide +kernel
theorem t144_56 : g_at 144 56 = some (.iconst 0, 0, 0, 0) := by decide +kernel
theorem t144_57 : g_at 144 57 = some (.iaload, 0, 0, 0) := by decide +kernel
theorem t144_58 : g_at 144 58 = some (.ireturn, 0, 0, 0) := by decide +kernel
theorem t145_0 : g_at 145 0 = some (.iload_n 1, 0, 0, 0) := by decide +kernel
theorem t145_1 : g_at 145 1 = some (.invokestatic 213, 142, 1, 0) := by decide +kernel
theorem t145_4 : g_at 145 4 = some (.ifCond .ne (5), 9, 0, 0) := by decide +kernel
theorem t145_7 : g_at 145 7 = some (.iconst (-1), 0, 0, (-1)) := by decide +kernel
theorem t145_8 : g_at 145 8 = some (.ireturn, 0, 0, 0) := by decide +kernel
theorem t145_9 : g_at 145 9 = some (.aload_n 0, 0, 0, 0) := by decide +kernel
theorem t145_10 : g_at 145 10 = some (.getfield 219, 3, 12, 0) := by decide +kernel
theorem t145_13 : g_at 145 13 = some (.iload_n 1, 0, 0, 0) := by decide +kernel
theorem t145_14 : g_at 145 14 = some (.invokestatic 98, 19, 2, 0) := by decide +kernel
theorem t145_17 : g_at 145 17 = some (.ifCond .ne (6), 23, 0, 0) := by decide +kernel
theorem t145_20 : g_at 145 20 = some (.bipush (-2), 0, 0, (-2)) := by decide +kernel
theorem t145_22 : g_at 145 22 = some (.ireturn, 0, 0, 0) := by decide +kernel
theorem t145_23 : g_at 145 23 = some (.aload_n 0, 0, 0, 0) := by decide +kernel
theorem t145_24 : g_at 145 24 = some (.aload_n 0, 0, 0, 0) := by decide +kernel
theorem t145_25 : g_at 145 25 = some (.getfield 43, 3, 11, 0) := by decide +kernel
theorem t145_28 : g_at 145 28 = some (.iload_n 1, 0, 0, 0) := by decide +kernel
theorem t145_29 : g_at 145 29 = some (.iaload, 0, 0, 0) := by decide +kernel
theorem t145_30 : g_at 145 30 = some (.invokevirtual 162, 110, 1, 0) := by decide +kernel
theorem t145_33 : g_at 145 33 = some (.aload_n 0, 0, 0, 0) := by decide +kernel
theorem t145_34 : g_at 145 34 = some (.iconst 0, 0, 0, 0) := by decide +kernel
theorem t145_35 : g_at 145 35 = some (.putfield 146, 3, 10, 0) := by decide +kernel
theorem t145_38 : g_at 145 38 = some (.aload_n 0, 0, 0, 0) := by decide +kernel
theorem t145_39 : g_at 145 39 = some (.getfield 95, 3, 4, 0) := by decide +kernel
theorem t145_42 : g_at 145 42 = some (.ireturn, 0, 0, 0) := by decide +kernel
theorem t146_0 : g_at 146 0 = some (.aload_n 0, 0, 0, 0) := by decide +kernel
theorem t146_1 : g_at 146 1 = some (.iconst 0, 0, 0, 0) := by decide +kernel
theorem t146_2 : g_at 146 2 = some (.putfield 62, 4, 0, 0) := by decide +kernel
theorem t146_5 : g_at 146 5 = some (.iload_n 1, 0, 0, 0) := by decide +kernel
theorem t146_6 : g_at 146 6 = some (.iconst 0, 0, 0, 0) := by decide +kernel
theorem t146_7 : g_at 146 7 = some (.iconst 1, 0, 0, 1) := by decide +kernel
theorem t146_8 : g_at 146 8 = some (.invokestatic 66, 10, 3, 0) := by decide +kernel
theorem t146_11 : g_at 146 11 = some (.ifCond .ne (5), 16, 0, 0) := by decide +kernel
theorem t146_14 : g_at 146 14 = some (.iconst (-1), 0, 0, (-1)) := by decide +kernel
theorem t146_15 : g_at 146 15 = some (.ireturn, 0, 0, 0) := by decide +kernel
theorem t146_16 : g_at 146 16 = some (.aload_n 0, 0, 0, 0) := by decide +kernel
theorem t146_17 : g_at 146 17 = some (.getfield 31, 4, 15, 0) := by decide +kernel
theorem t146_20 : g_at 146 20 = some (.iload_n 1, 0, 0, 0) := by decide +kernel
theorem t146_21 : g_at 146 21 = some (.baload, 0, 0, 0) := by decide +kernel
theorem t146_22 : g_at 146 22 = some (.ifCond .ne (6), 28, 0, 0) := by decide +kernel
theorem t146_25 : g_at 146 25 = some (.bipush (-2), 0, 0, (-2)) := by decide +kernel
theorem t146_27 : g_at 146 27 = some (.ireturn, 0, 0, 0) := by decide +kernel
theorem t146_28 : g_at 146 28 = some (.iconst 0, 0, 0, 0) := by decide +kernel
theorem t146_29 : g_at 146 29 = some (.istore_n 2, 0, 0, 0) := by decide +kernel
theorem t146_30 : g_at 146 30 = some (.iload_n 2, 0, 0, 0) := by decide +kernel
theorem t146_31 : g_at 146 31 = some (.iconst 5, 0, 0, 5) := by decide +kernel
theorem t146_32 : g_at 146 32 = some (.if_icmp .ge (25), 57, 0, 0) := by decide +kernel
theorem t146_35 : g_at 146 35 = some (.aload_n 0, 0, 0, 0) := by decide +kernel
theorem t146_36 : g_at 146 36 = some (.getfield 22, 4, 11, 0) := by decide +kernel
theorem t146_39 : g_at 146 39 = some (.iload_n 2, 0, 0, 0) := by decide +kernel
theorem t146_40 : g_at 146 40 = some (.aload_n 0, 0, 0, 0) := by decide +kernel
theorem t146_41 : g_at 146 41 = some (.getfield 28, 4, 14, 0) := by decide +kernel
theorem t146_44 : g_at 146 44 = some (.iconst 5, 0, 0, 5) := by decide +kernel
theorem t146_45 : g_at 146 45 = some (.iload_n 1, 0, 0, 0) := by decide +kernel
theorem t146_46 : g_at 146 46 = some (.imul, 0, 0, 0) := by decide +kernel
theorem t146_47 : g_at 146 47 = some (.iload_n 2, 0, 0, 0) := by decide +kernel
theorem t146_48 : g_at 146 48 = some (.iadd, 0, 0, 0) := by decide +kernel
theorem t146_49 : g_at 146 49 = some (.iaload, 0, 0, 0) := by decide +kernel
theorem t146_50 : g_at 146 50 = some (.iastore, 0, 0, 0) := by decide +kernel
theorem t146_51 : g_at 146 51 = some (.iinc 2 (1), 0, 0, 1) := by decide +kernel
theorem t146_54 : g_at 146 54 = some (.goto (-24), 30, 0, 0) := by decide +kernel
theorem t146_57 : g_at 146 57 = some (.aload_n 0, 0, 0, 0) := by decide +kernel
theorem t146_58 : g_at 146 58 = some (.iconst 0, 0, 0, 0) := by decide +kernel
theorem t146_59 : g_at 146 59 = some (.putfield 147, 4, 13, 0) := by decide +kernel
theorem t146_62 : g_at 146 62 = some (.aload_n 0, 0, 0, 0) := by decide +kernel
theorem t146_63 : g_at 146 63 = some (.getfield 22, 4, 11, 0) := by decide +kernel
theorem t146_66 : g_at 146 66 = some (.iconst 0, 0, 0, 0) := by decide +kernel
theorem t146_67 : g_at 146 67 = some (.iaload, 0, 0, 0) := by decide +kernel
theorem t146_68 : g_at 146 68 = some (.ireturn, 0, 0, 0) := by decide +kernel
theorem t147_0 : g_at 147 0 = some (.iload_n 1, 0, 0, 0) := by decide +kernel
theorem t147_1 : g_at 147 1 = some (.tableswitch (102) (0) (7) #[47, 55, 63, 68, 73, 81, 88, 95], 0, 0, 0) := by decide +kernel
theorem t147_48 : g_at 147 48 = some (.aload_n 0, 0, 0, 0) := by decide +kernel
theorem t147_49 : g_at 147 49 = some (.getfield 26, 3, 2, 0) := by decide +kernel
theorem t147_52 : g_at 147 52 = some (.getfield 202, 1, 0, 0) := by decide +kernel
theorem t147_55 : g_at 147 55 = some (.ireturn, 0, 0, 0) := by decide +kernel
theorem t147_56 : g_at 147 56 = some (.aload_n 0, 0, 0, 0) := by decide +kernel
theorem t147_57 : g_at 147 57 = some (.getfield 26, 3, 2, 0) := by decide +kernel
theorem t147_60 : g_at 147 60 = some (.getfield 112, 1, 3, 0) := by decide +kernel
theorem t147_63 : g_at 147 63 = some (.ireturn, 0, 0, 0) := by decide +kernel
theorem t147_64 : g_at 147 64 = some (.aload_n 0, 0, 0, 0) := by decide +kernel
theorem t147_65 : g_at 147 65 = some (.getfield 159, 3, 8, 0) := by decide +kernel
theorem t147_68 : g_at 147 68 = some (.ireturn, 0, 0, 0) := by decide +kernel
theorem t147_69 : g_at 147 69 = some (.aload_n 0, 0, 0, 0) := by decide +kernel
theorem t147_70 : g_at 147 70 = some (.getfield 193, 3, 14, 0) := by decide +kernel
theorem t147_73 : g_at 147 73 = some (.ireturn, 0, 0, 0) := by decide +kernel
theorem t147_74 : g_at 147 74 = some (.aload_n 0, 0, 0, 0) := by decide +kernel
theorem t147_75 : g_at 147 75 = some (.getfield 12, 3, 0, 0) := by decide +kernel
theorem t147_78 : g_at 147 78 = some (.getfield 55, 2, 1, 0) := by decide +kernel
theorem t147_81 : g_at 147 81 = some (.ireturn, 0, 0, 0) := by decide +kernel
theorem t147_82 : g_at 147 82 = some (.aload_n 0, 0, 0, 0) := by decide +kernel
theorem t147_83 : g_at 147 83 = some (.getfield 33, 3, 6, 0) := by decide +kernel
theorem t147_86 : g_at 147 86 = some (.iconst 0, 0, 0, 0) := by decide +kernel
theorem t147_87 : g_at 147 87 = some (.iaload, 0, 0, 0) := by decide +kernel
theorem t147_88 : g_at 147 88 = some (.ireturn, 0, 0, 0) := by decide +kernel
theorem t147_89 : g_at 147 89 = some (.aload_n 0, 0, 0, 0) := by decide +kernel
theorem t147_90 : g_at 147 90 = some (.getfield 33, 3, 6, 0) := by decide +kernel
theorem t147_93 : g_at 147 93 = some (.iconst 1, 0, 0, 1) := by decide +kernel
theorem t147_94 : g_at 147 94 = some (.iaload, 0, 0, 0) := by decide +kernel
theorem t147_95 : g_at 147 95 = some (.ireturn, 0, 0, 0) := by decide +kernel
theorem t147_96 : g_at 147 96 = some (.aload_n 0, 0, 0, 0) := by decide +kernel
theorem t147_97 : g_at 147 97 = some (.getfield 33, 3, 6, 0) := by decide +kernel
theorem t147_100 : g_at 147 100 = some (.iconst 2, 0, 0, 2) := by decide +kernel
theorem t147_101 : g_at 147 101 = some (.iaload, 0, 0, 0) := by decide +kernel
theorem t147_102 : g_at 147 102 = some (.ireturn, 0, 0, 0) := by decide +kernel
theorem t147_103 : g_at 147 103 = some (.iconst (-1), 0, 0, (-1)) := by decide +kernel
theorem t147_104 : g_at 147 104 = some (.ireturn, 0, 0, 0) := by decide +kernel
theorem t148_0 : g_at 148 0 = some (.aload_n 0, 0, 0, 0) := by decide +kernel
theorem t148_1 : g_at 148 1 = some (.iconst 0, 0, 0, 0) := by decide +kernel
theorem t148_2 : g_at 148 2 = some (.putfield 62, 4, 0, 0) := by decide +kernel
theorem t148_5 : g_at 148 5 = some (.iload_n 1, 0, 0, 0) := by decide +kernel
theorem t148_6 : g_at 148 6 = some (.iconst 0, 0, 0, 0) := by decide +kernel
theorem t148_7 : g_at 148 7 = some (.bipush (7), 0, 0, 7) := by decide +kernel
theorem t148_9 : g_at 148 9 = some (.invokestatic 66, 10, 3, 0) := by decide +kernel
theorem t148_12 : g_at 148 12 = some (.ifCond .ne (5), 17, 0, 0) := by decide +kernel
theorem t148_15 : g_at 148 15 = some (.iconst (-1), 0, 0, (-1)) := by decide +kernel
theorem t148_16 : g_at 148 16 = some (.ireturn, 0, 0, 0) := by decide +kernel
theorem t148_17 : g_at 148 17 = some (.iload_n 1, 0, 0, 0) := by decide +kernel
theorem t148_18 : g_at 148 18 = some (.iconst 4, 0, 0, 4) := by decide +kernel
theorem t148_19 : g_at 148 19 = some (.if_icmp .ge (47), 66, 0, 0) := by decide +kernel
theorem t148_22 : g_at 148 22 = some (.iload_n 1, 0, 0, 0) := by decide +kernel
theorem t148_23 : g_at 148 23 = some (.ifCond .ne (12), 35, 0, 0) := by decide +kernel
theorem t148_26 : g_at 148 26 = some (.aload_n 0, 0, 0, 0) := by decide +kernel
theorem t148_27 : g_at 148 27 = some (.getfield 13, 4, 8, 0) := by decide +kernel
theorem t148_30 : g_at 148 30 = some (.iconst 0, 0, 0, 0) := by decide +kernel
theorem t148_31 : g_at 148 31 = some (.iaload, 0, 0, 0) := by decide +kernel
theorem t148_32 : g_at 148 32 = some (.goto (33), 65, 0, 0) := by decide +kernel
theorem t148_35 : g_at 148 35 = some (.iload_n 1, 0, 0, 0) := by decide +kernel
theorem t148_36 : g_at 148 36 = some (.iconst 1, 0, 0, 1) := by decide +kernel
theorem t148_37 : g_at 148 37 = some (.if_icmp .ne (12), 49, 0, 0) := by decide +kernel
theorem t148_40 : g_at 148 40 = some (.aload_n 0, 0, 0, 0) := by decide +kernel
theorem t148_41 : g_at 148 41 = some (.getfield 13, 4, 8, 0) := by decide +kernel
theorem t148_44 : g_at 148 44 = some (.iconst 3, 0, 0, 3) := by decide +kernel
theorem t148_45 : g_at 148 45 = some (.iaload, 0, 0, 0) := by decide +kernel
theorem t148_46 : g_at 148 46 = some (.goto (19), 65, 0, 0) := by decide +kernel
theorem t148_49 : g_at 148 49 = some (.iload_n 1, 0, 0, 0) := by decide +kernel
theorem t148_50 : g_at 148 50 = some (.iconst 2, 0, 0, 2) := by decide +kernel
theorem t148_51 : g_at 148 51 = some (.if_icmp .ne (10), 61, 0, 0) := by decide +kernel
theorem t148_54 : g_at 148 54 = some (.aload_n 0, 0, 0, 0) := by decide +kernel
theorem t148_55 : g_at 148 55 = some (.getfield 141, 4, 17, 0) := by decide +kernel
theorem t148_58 : g_at 148 58 = some (.goto (7), 65, 0, 0) := by decide +kernel
theorem t148_61 : g_at 148 61 = some (.aload_n 0, 0, 0, 0) := by decide +kernel
theorem t148_62 : g_at 148 62 = some (.getfield 144, 4, 20, 0) := by decide +kernel
theorem t148_65 : g_at 148 65 = some (.ireturn, 0, 0, 0) := by decide +kernel
theorem t148_66 : g_at 148 66 = some (.iload_n 1, 0, 0, 0) := by decide +kernel
theorem t148_67 : g_at 148 67 = some (.iconst 4, 0, 0, 4) := by decide +kernel
theorem t148_68 : g_at 148 68 = some (.if_icmp .ne (10), 78, 0, 0) := by decide +kernel
theorem t148_71 : g_at 148 71 = some (.aload_n 0, 0, 0, 0) := by decide +kernel
theorem t148_72 : g_at 148 72 = some (.getfield 70, 4, 2, 0) := by decide +kernel
theorem t148_75 : g_at 148 75 = some (.goto (13), 88, 0, 0) := by decide +kernel
theorem t148_78 : g_at 148 78 = some (.aload_n 0, 0, 0, 0) := by decide +kernel
theorem t148_79 : g_at 148 79 = some (.getfield 22, 4, 11, 0) := by decide +kernel
theorem t148_82 : g_at 148 82 = some (.iconst 2, 0, 0, 2) := by decide +kernel
theorem t148_83 : g_at 148 83 = some (.iload_n 1, 0, 0, 0) := by decide +kernel
theorem t148_84 : g_at 148 84 = some (.iadd, 0, 0, 0) := by decide +kernel
theorem t148_85 : g_at 148 85 = some (.iconst 5, 0, 0, 5) := by decide +kernel
theorem t148_86 : g_at 148 86 = some (.isub, 0, 0, 0) := by decide +kernel
theorem t148_87 : g_at 148 87 = some (.iaload, 0, 0, 0) := by decide +kernel
theorem t148_88 : g_at 148 88 = some (.ireturn, 0, 0, 0) := by decide +kernel
theorem t149_0 : g_at 149 0 = some (.new 7, 3, 0, 0) := by decide +kernel
theorem t149_3 : g_at 149 3 = some (.dup, 0, 0, 0) := by decide +kernel
theorem t149_4 : g_at 149 4 = some (.invokespecial 9, 5, 0, 0) := by decide +kernel
theorem t149_7 : g_at 149 7 = some (.astore_n 1, 0, 0, 0) := by decide +kernel
theorem t149_8 : g_at 149 8 = some (.new 10, 4, 0, 0) := by decide +kernel
theorem t149_11 : g_at 149 11 = some (.dup, 0, 0, 0) := by decide +kernel
theorem t149_12 : g_at 149 12 = some (.invokespecial 12, 8, 0, 0) := by decide +kernel
theorem t149_15 : g_at 149 15 = some (.astore_n 2, 0, 0, 0) := by decide +kernel
theorem t149_16 : g_at 149 16 = some (.iconst 0, 0, 0, 0) := by decide +kernel
theorem t149_17 : g_at 149 17 = some (.istore_n 3, 0, 0, 0) := by decide +kernel
theorem t149_18 : g_at 149 18 = some (.iload_n 3, 0, 0, 0) := by decide +kernel
theorem t149_19 : g_at 149 19 = some (.aload_n 0, 0, 0, 0) := by decide +kernel
theorem t149_20 : g_at 149 20 = some (.arraylength, 0, 0, 0) := by decide +kernel
theorem t149_21 : g_at 149 21 = some (.iconst 4, 0, 0, 4) := by decide +kernel
theorem t149_22 : g_at 149 22 = some (.isub, 0, 0, 0) := by decide +kernel
theorem t149_23 : g_at 149 23 = some (.if_icmp .gt (716), 739, 0, 0) := by decide +kernel
theorem t149_26 : g_at 149 26 = some (.aload_n 0, 0, 0, 0) := by decide +kernel
theorem t149_27 : g_at 149 27 = some (.iload_n 3, 0, 0, 0) := by decide +kernel
theorem t149_28 : g_at 149 28 = some (.iaload, 0, 0, 0) := by decide +kernel
theorem t149_29 : g_at 149 29 = some (.bipush (31), 0, 0, 31) := by decide +kernel
theorem t149_31 : g_at 149 31 = some (.iand, 0, 0, 0) := by decide +kernel
theorem t149_32 : g_at 149 32 = some (.tableswitch (701) (0) (24) #[116, 139, 152, 165, 198, 221, 254, 277, 300, 323, 366, 389, 402, 415, 428, 471, 504, 527, 560, 593, 606, 619, 632, 655, 678], 0, 0, 0) := by decide +kernel
theorem t149_148 : g_at 149 148 = some (.aload_n 1, 0, 0, 0) := by decide +kernel
theorem t149_149 : g_at 149 149 = some (.aload_n 0, 0, 0, 0) := by decide +kernel
theorem t149_150 : g_at 149 150 = some (.iload_n 3, 0, 0, 0) := by decide +kernel
theorem t149_151 : g_at 149 151 = some (.iconst 1, 0, 0, 1) := by decide +kernel
theorem t149_152 : g_at 149 152 = some (.iadd, 0, 0, 0) := by decide +kernel
theorem t149_153 : g_at 149 153 = some (.iaload, 0, 0, 0) := by decide +kernel
theorem t149_154 : g_at 149 154 = some (.invokevirtual 13, 9, 1, 0) := by decide +kernel
theorem t149_157 : g_at 149 157 = some (.aload_n 2, 0, 0, 0) := by decide +kernel
theorem t149_158 : g_at 149 158 = some (.aload_n 0, 0, 0, 0) := by decide +kernel
theorem t149_159 : g_at 149 159 = some (.iload_n 3, 0, 0, 0) := by decide +kernel
theorem t149_160 : g_at 149 160 = some (.iconst 1, 0, 0, 1) := by decide +kernel
theorem t149_161 : g_at 149 161 = some (.iadd, 0, 0, 0) := by decide +kernel
theorem t149_162 : g_at 149 162 = some (.iaload, 0, 0, 0) := by decide +kernel
theorem t149_163 : g_at 149 163 = some (.invokevirtual 17, 11, 1, 0) := by decide +kernel
theorem t149_166 : g_at 149 166 = some (.if_icmp .eq (567), 733, 0, 0) := by decide +kernel
theorem t149_169 : g_at 149 169 = some (.iconst 0, 0, 0, 0) := by decide +kernel
theorem t149_170 : g_at 149 170 = some (.ireturn, 0, 0, 0) := by decide +kernel
theorem t149_171 : g_at 149 171 = some (.aload_n 1, 0, 0, 0) := by decide +kernel
theorem t149_172 : g_at 149 172 = some (.invokevirtual 18, 12, 0, 0) := by decide +kernel
theorem t149_175 : g_at 149 175 = some (.aload_n 2, 0, 0, 0) := by decide +kernel
theorem t149_176 : g_at 149 176 = some (.invokevirtual 22, 13, 0, 0) := by decide +kernel
theorem t149_179 : g_at 149 179 = some (.if_icmp .eq (554), 733, 0, 0) := by decide +kernel
theorem t149_182 : g_at 149 182 = some (.iconst 0, 0, 0, 0) := by decide +kernel
theorem t149_183 : g_at 149 183 = some (.ireturn, 0, 0, 0) := by decide +kernel
theorem t149_184 : g_at 149 184 = some (.aload_n 1, 0, 0, 0) := by decide +kernel
theorem t149_185 : g_at 149 185 = some (.invokevirtual 23, 45, 0, 0) := by decide +kernel
theorem t149_188 : g_at 149 188 = some (.aload_n 2, 0, 0, 0) := by decide +kernel
theorem t149_189 : g_at 149 189 = some (.invokevirtual 26, 63, 0, 0) := by decide +kernel
theorem t149_192 : g_at 149 192 = some (.if_icmp .eq (541), 733, 0, 0) := by decide +kernel
theorem t149_195 : g_at 149 195 = some (.iconst 0, 0, 0, 0) := by decide +kernel
theorem t149_196 : g_at 149 196 = some (.ireturn, 0, 0, 0) := by decide +kernel
theorem t149_197 : g_at 149 197 = some (.aload_n 1, 0, 0, 0) := by decide +kernel
theorem t149_198 : g_at 149 198 = some (.aload_n 0, 0, 0, 0) := by decide +kernel
theorem t149_199 : g_at 149 199 = some (.iload_n 3, 0, 0, 0) := by decide +kernel
theorem t149_200 : g_at 149 200 = some (.iconst 1, 0, 0, 1) := by decide +kernel
theorem t149_201 : g_at 149 201 = some (.iadd, 0, 0, 0) := by decide +kernel
theorem t149_202 : g_at 149 202 = some (.iaload, 0, 0, 0) := by decide +kernel
theorem t149_203 : g_at 149 203 = some (.aload_n 0, 0, 0, 0) := by decide +kernel
theorem t149_204 : g_at 149 204 = some (.iload_n 3, 0, 0, 0) := by decide +kernel
theorem t149_205 : g_at 149 205 = some (.iconst 2, 0, 0, 2) := by decide +kernel
theorem t149_206 : g_at 149 206 = some (.iadd, 0, 0, 0) := by decide +kernel
theorem t149_207 : g_at 149 207 = some (.iaload, 0, 0, 0) := by decide +kernel
theorem t149_208 : g_at 149 208 = some (.invokevirtual 27, 67, 2, 0) := by decide +kernel
theorem t149_211 : g_at 149 211 = some (.aload_n 2, 0, 0, 0) := by decide +kernel
theorem t149_212 : g_at 149 212 = some (.aload_n 0, 0, 0, 0) := by decide +kernel
theorem t149_213 : g_at 149 213 = some (.iload_n 3, 0, 0, 0) := by decide +kernel
theorem t149_214 : g_at 149 214 = some (.iconst 1, 0, 0, 1) := by decide +kernel
theorem t149_215 : g_at 149 215 = some (.iadd, 0, 0, 0) := by decide +kernel
theorem t149_216 : g_at 149 216 = some (.iaload, 0, 0, 0) := by decide +kernel
theorem t149_217 : g_at 149 217 = some (.aload_n 0, 0, 0, 0) := by decide +kernel
theorem t149_218 : g_at 149 218 = some (.iload_n 3, 0, 0, 0) := by decide +kernel
theorem t149_219 : g_at 149 219 = some (.iconst 2, 0, 0, 2) := by decide +kernel
theorem t149_220 : g_at 149 220 = some (.iadd, 0, 0, 0) := by decide +kernel
theorem t149_221 : g_at 149 221 = some (.iaload, 0, 0, 0) := by decide +kernel
theorem t149_222 : g_at 149 222 = some (.invokevirtual 31, 71, 2, 0) := by decide +kernel
theorem t149_225 : g_at 149 225 = some (.if_icmp .eq (508), 733, 0, 0) := by decide +kernel
theorem t149_228 : g_at 149 228 = some (.iconst 0, 0, 0, 0) := by decide +kernel
theorem t149_229 : g_at 149 229 = some (.ireturn, 0, 0, 0) := by decide +kernel
theorem t149_230 : g_at 149 230 = some (.aload_n 1, 0, 0, 0) := by decide +kernel
theorem t149_231 : g_at 149 231 = some (.aload_n 0, 0, 0, 0) := by decide +kernel
theorem t149_232 : g_at 149 232 = some (.iload_n 3, 0, 0, 0) := by decide +kernel
theorem t149_233 : g_at 149 233 = some (.iconst 1, 0, 0, 1) := by decide +kernel
theorem t149_234 : g_at 149 234 = some (.iadd, 0, 0, 0) := by decide +kernel
theorem t149_235 : g_at 149 235 = some (.iaload, 0, 0, 0) := by decide +kernel
theorem t149_236 : g_at 149 236 = some (.invokevirtual 32, 72, 1, 0) := by decide +kernel
theorem t149_239 : g_at 149 239 = some (.aload_n 2, 0, 0, 0) := by decide +kernel
theorem t149_240 : g_at 149 240 = some (.aload_n 0, 0, 0, 0) := by decide +kernel
theorem t149_241 : g_at 149 241 = some (.iload_n 3, 0, 0, 0) := by decide +kernel
theorem t149_242 : g_at 149 242 = some (.iconst 1, 0, 0, 1) := by decide +kernel
theorem t149_243 : g_at 149 243 = some (.iadd, 0, 0, 0) := by decide +kernel
theorem t149_244 : g_at 149 244 = some (.iaload, 0, 0, 0) := by decide +kernel
theorem t149_245 : g_at 149 245 = some (.invokevirtual 35, 73, 1, 0) := by decide +kernel
theorem t149_248 : g_at 149 248 = some (.if_icmp .eq (485), 733, 0, 0) := by decide +kernel
theorem t149_251 : g_at 149 251 = some (.iconst 0, 0, 0, 0) := by decide +kernel
theorem t149_252 : g_at 149 252 = some (.ireturn, 0, 0, 0) := by decide +kernel
theorem t149_253 : g_at 149 253 = some (.aload_n 1, 0, 0, 0) := by decide +kernel
theorem t149_254 : g_at 149 254 = some (.aload_n 0, 0, 0, 0) := by decide +kernel
theorem t149_255 : g_at 149 255 = some (.iload_n 3, 0, 0, 0) := by decide +kernel
theorem t149_256 : g_at 149 256 = some (.iconst 1, 0, 0, 1) := by decide +kernel
theorem t149_257 : g_at 149 257 = some (.iadd, 0, 0, 0) := by decide +kernel
theorem t149_258 : g_at 149 258 = some (.iaload, 0, 0, 0) := by decide +kernel
theorem t149_259 : g_at 149 259 = some (.aload_n 0, 0, 0, 0) := by decide +kernel
theorem t149_260 : g_at 149 260 = some (.iload_n 3, 0, 0, 0) := by decide +kernel
theorem t149_261 : g_at 149 261 = some (.iconst 2, 0, 0, 2) := by decide +kernel
theorem t149_262 : g_at 149 262 = some (.iadd, 0, 0, 0) := by decide +kernel
theorem t149_263 : g_at 149 263 = some (.iaload, 0, 0, 0) := by decide +kernel
theorem t149_264 : g_at 149 264 = some (.invokevirtual 36, 76, 2, 0) := by decide +kernel
theorem t149_267 : g_at 149 267 = some (.aload_n 2, 0, 0, 0) := by decide +kernel
theorem t149_268 : g_at 149 268 = some (.aload_n 0, 0, 0, 0) := by decide +kernel
theorem t149_269 : g_at 149 269 = some (.iload_n 3, 0, 0, 0) := by decide +kernel
theorem t149_270 : g_at 149 270 = some (.iconst 1, 0, 0, 1) := by decide +kernel
theorem t149_271 : g_at 149 271 = some (.iadd, 0, 0, 0) := by decide +kernel
theorem t149_272 : g_at 149 272 = some (.iaload, 0, 0, 0) := by decide +kernel
theorem t149_273 : g_at 149 273 = some (.aload_n 0, 0, 0, 0) := by decide +kernel
theorem t149_274 : g_at 149 274 = some (.iload_n 3, 0, 0, 0) := by decide +kernel
theorem t149_275 : g_at 149 275 = some (.iconst 2, 0, 0, 2) := by decide +kernel
theorem t149_276 : g_at 149 276 = some (.iadd, 0, 0, 0) := by decide +kernel
theorem t149_277 : g_at 149 277 = some (.iaload, 0, 0, 0) := by decide +kernel
theorem t149_278 : g_at 149 278 = some (.invokevirtual 39, 78, 2, 0) := by decide +kernel
theorem t149_281 : g_at 149 281 = some (.if_icmp .eq (452), 733, 0, 0) := by decide +kernel
theorem t149_284 : g_at 149 284 = some (.iconst 0, 0, 0, 0) := by decide +kernel
theorem t149_285 : g_at 149 285 = some (.ireturn, 0, 0, 0) := by decide +kernel
theorem t149_286 : g_at 149 286 = some (.aload_n 1, 0, 0, 0) := by decide +kernel
theorem t149_287 : g_at 149 287 = some (.aload_n 0, 0, 0, 0) := by decide +kernel
theorem t149_288 : g_at 149 288 = some (.iload_n 3, 0, 0, 0) := by decide +kernel
theorem t149_289 : g_at 149 289 = some (.iconst 1, 0, 0, 1) := by decide +kernel
theorem t149_290 : g_at 149 290 = some (.iadd, 0, 0, 0) := by decide +kernel
theorem t149_291 : g_at 149 291 = some (.iaload, 0, 0, 0) := by decide +kernel
theorem t149_292 : g_at 149 292 = some (.invokevirtual 40, 86, 1, 0) := by decide +kernel
theorem t149_295 : g_at 149 295 = some (.aload_n 2, 0, 0, 0) := by decide +kernel
theorem t149_296 : g_at 149 296 = some (.aload_n 0, 0, 0, 0) := by decide +kernel
theorem t149_297 : g_at 149 297 = some (.iload_n 3, 0, 0, 0) := by decide +kernel
theorem t149_298 : g_at 149 298 = some (.iconst 1, 0, 0, 1) := by decide +kernel
theorem t149_299 : g_at 149 299 = some (.iadd, 0, 0, 0) := by decide +kernel
theorem t149_300 : g_at 149 300 = some (.iaload, 0, 0, 0) := by decide +kernel
theorem t149_301 : g_at 149 301 = some (.invokevirtual 43, 93, 1, 0) := by decide +kernel
theorem t149_304 : g_at 149 304 = some (.if_icmp .eq (429), 733, 0, 0) := by decide +kernel
theorem t149_307 : g_at 149 307 = some (.iconst 0, 0, 0, 0) := by decide +kernel
theorem t149_308 : g_at 149 308 = some (.ireturn, 0, 0, 0) := by decide +kernel
theorem t149_309 : g_at 149 309 = some (.aload_n 1, 0, 0, 0) := by decide +kernel
theorem t149_310 : g_at 149 310 = some (.aload_n 0, 0, 0, 0) := by decide +kernel
theorem t149_311 : g_at 149 311 = some (.iload_n 3, 0, 0, 0) := by decide +kernel
theorem t149_312 : g_at 149 312 = some (.iconst 1, 0, 0, 1) := by decide +kernel
theorem t149_313 : g_at 149 313 = some (.iadd, 0, 0, 0) := by decide +kernel
theorem t149_314 : g_at 149 314 = some (.iaload, 0, 0, 0) := by decide +kernel
theorem t149_315 : g_at 149 315 = some (.invokevirtual 44, 96, 1, 0) := by decide +kernel
theorem t149_318 : g_at 149 318 = some (.aload_n 2, 0, 0, 0) := by decide +kernel
theorem t149_319 : g_at 149 319 = some (.aload_n 0, 0, 0, 0) := by decide +kernel
theorem t149_320 : g_at 149 320 = some (.iload_n 3, 0, 0, 0) := by decide +kernel
theorem t149_321 : g_at 149 321 = some (.iconst 1, 0, 0, 1) := by decide +kernel
theorem t149_322 : g_at 149 322 = some (.iadd, 0, 0, 0) := by decide +kernel
theorem t149_323 : g_at 149 323 = some (.iaload, 0, 0, 0) := by decide +kernel
theorem t149_324 : g_at 149 324 = some (.invokevirtual 47, 98, 1, 0) := by decide +kernel
theorem t149_327 : g_at 149 327 = some (.if_icmp .eq (406), 733, 0, 0) := by decide +kernel
theorem t149_330 : g_at 149 330 = some (.iconst 0, 0, 0, 0) := by decide +kernel
theorem t149_331 : g_at 149 331 = some (.ireturn, 0, 0, 0) := by decide +kernel
theorem t149_332 : g_at 149 332 = some (.aload_n 1, 0, 0, 0) := by decide +kernel
theorem t149_333 : g_at 149 333 = some (.aload_n 0, 0, 0, 0) := by decide +kernel
theorem t149_334 : g_at 149 334 = some (.iload_n 3, 0, 0, 0) := by decide +kernel
theorem t149_335 : g_at 149 335 = some (.iconst 1, 0, 0, 1) := by decide +kernel
theorem t149_336 : g_at 149 336 = some (.iadd, 0, 0, 0) := by decide +kernel
theorem t149_337 : g_at 149 337 = some (.iaload, 0, 0, 0) := by decide +kernel
theorem t149_338 : g_at 149 338 = some (.invokevirtual 48, 99, 1, 0) := by decide +kernel
theorem t149_341 : g_at 149 341 = some (.aload_n 2, 0, 0, 0) := by decide +kernel
theorem t149_342 : g_at 149 342 = some (.aload_n 0, 0, 0, 0) := by decide +kernel
theorem t149_343 : g_at 149 343 = some (.iload_n 3, 0, 0, 0) := by decide +kernel
theorem t149_344 : g_at 149 344 = some (.iconst 1, 0, 0, 1) := by decide +kernel
theorem t149_345 : g_at 149 345 = some (.iadd, 0, 0, 0) := by decide +kernel
theorem t149_346 : g_at 149 346 = some (.iaload, 0, 0, 0) := by decide +kernel
theorem t149_347 : g_at 149 347 = some (.invokevirtual 51, 100, 1, 0) := by decide +kernel
theorem t149_350 : g_at 149 350 = some (.if_icmp .eq (383), 733, 0, 0) := by decide +kernel
theorem t149_353 : g_at 149 353 = some (.iconst 0, 0, 0, 0) := by decide +kernel
theorem t149_354 : g_at 149 354 = some (.ireturn, 0, 0, 0) := by decide +kernel
theorem t149_355 : g_at 149 355 = some (.aload_n 1, 0, 0, 0) := by decide +kernel
theorem t149_356 : g_at 149 356 = some (.aload_n 0, 0, 0, 0) := by decide +kernel
theorem t149_357 : g_at 149 357 = some (.iload_n 3, 0, 0, 0) := by decide +kernel
theorem t149_358 : g_at 149 358 = some (.iconst 1, 0, 0, 1) := by decide +kernel
theorem t149_359 : g_at 149 359 = some (.iadd, 0, 0, 0) := by decide +kernel
theorem t149_360 : g_at 149 360 = some (.iaload, 0, 0, 0) := by decide +kernel
theorem t149_361 : g_at 149 361 = some (.aload_n 0, 0, 0, 0) := by decide +kernel
theorem t149_362 : g_at 149 362 = some (.iload_n 3, 0, 0, 0) := by decide +kernel
theorem t149_363 : g_at 149 363 = some (.iconst 2, 0, 0, 2) := by decide +kernel
theorem t149_364 : g_at 149 364 = some (.iadd, 0, 0, 0) := by decide +kernel
theorem t149_365 : g_at 149 365 = some (.iaload, 0, 0, 0) := by decide +kernel
theorem t149_366 : g_at 149 366 = some (.aload_n 0, 0, 0, 0) := by decide +kernel
theorem t149_367 : g_at 149 367 = some (.iload_n 3, 0, 0, 0) := by decide +kernel
theorem t149_368 : g_at 149 368 = some (.iconst 3, 0, 0, 3) := by decide +kernel
theorem t149_369 : g_at 149 369 = some (.iadd, 0, 0, 0) := by decide +kernel
theorem t149_370 : g_at 149 370 = some (.iaload, 0, 0, 0) := by decide +kernel
theorem t149_371 : g_at 149 371 = some (.invokevirtual 52, 102, 3, 0) := by decide +kernel
theorem t149_374 : g_at 149 374 = some (.aload_n 2, 0, 0, 0) := by decide +kernel
theorem t149_375 : g_at 149 375 = some (.aload_n 0, 0, 0, 0) := by decide +kernel
theorem t149_376 : g_at 149 376 = some (.iload_n 3, 0, 0, 0) := by decide +kernel
theorem t149_377 : g_at 149 377 = some (.iconst 1, 0, 0, 1) := by decide +kernel
theorem t149_378 : g_at 149 378 = some (.iadd, 0, 0, 0) := by decide +kernel
theorem t149_379 : g_at 149 379 = some (.iaload, 0, 0, 0) := by decide +kernel
theorem t149_380 : g_at 149 380 = some (.aload_n 0, 0, 0, 0) := by decide +kernel
theorem t149_381 : g_at 149 381 = some (.iload_n 3, 0, 0, 0) := by decide +kernel
theorem t149_382 : g_at 149 382 = some (.iconst 2, 0, 0, 2) := by decide +kernel
theorem t149_383 : g_at 149 383 = some (.iadd, 0, 0, 0) := by decide +kernel
theorem t149_384 : g_at 149 384 = some (.iaload, 0, 0, 0) := by decide +kernel
theorem t149_385 : g_at 149 385 = some (.aload_n 0, 0, 0, 0) := by decide +kernel
theorem t149_386 : g_at 149 386 = some (.iload_n 3, 0, 0, 0) := by decide +kernel
theorem t149_387 : g_at 149 387 = some (.iconst 3, 0, 0, 3) := by decide +kernel
theorem t149_388 : g_at 149 388 = some (.iadd, 0, 0, 0) := by decide +kernel
theorem t149_389 : g_at 149 389 = some (.iaload, 0, 0, 0) := by decide +kernel
theorem t149_390 : g_at 149 390 = some (.invokevirtual 56, 103, 3, 0) := by decide +kernel
theorem t149_393 : g_at 149 393 = some (.if_icmp .eq (340), 733, 0, 0) := by decide +kernel
theorem t149_396 : g_at 149 396 = some (.iconst 0, 0, 0, 0) := by decide +kernel
theorem t149_397 : g_at 149 397 = some (.ireturn, 0, 0, 0) := by decide +kernel
theorem t149_398 : g_at 149 398 = some (.aload_n 1, 0, 0, 0) := by decide +kernel
theorem t149_399 : g_at 149 399 = some (.aload_n 0, 0, 0, 0) := by decide +kernel
theorem t149_400 : g_at 149 400 = some (.iload_n 3, 0, 0, 0) := by decide +kernel
theorem t149_401 : g_at 149 401 = some (.iconst 1, 0, 0, 1) := by decide +kernel
theorem t149_402 : g_at 149 402 = some (.iadd, 0, 0, 0) := by decide +kernel
theorem t149_403 : g_at 149 403 = some (.iaload, 0, 0, 0) := by decide +kernel
theorem t149_404 : g_at 149 404 = some (.invokevirtual 57, 104, 1, 0) := by decide +kernel
theorem t149_407 : g_at 149 407 = some (.aload_n 2, 0, 0, 0) := by decide +kernel
theorem t149_408 : g_at 149 408 = some (.aload_n 0, 0, 0, 0) := by decide +kernel
theorem t149_409 : g_at 149 409 = some (.iload_n 3, 0, 0, 0) := by decide +kernel
theorem t149_410 : g_at 149 410 = some (.iconst 1, 0, 0, 1) := by decide +kernel
theorem t149_411 : g_at 149 411 = some (.iadd, 0, 0, 0) := by decide +kernel
theorem t149_412 : g_at 149 412 = some (.iaload, 0, 0, 0) := by decide +kernel
theorem t149_413 : g_at 149 413 = some (.invokevirtual 60, 105, 1, 0) := by decide +kernel
theorem t149_416 : g_at 149 416 = some (.if_icmp .eq (317), 733, 0, 0) := by decide +kernel
theorem t149_419 : g_at 149 419 = some (.iconst 0, 0, 0, 0) := by decide +kernel
theorem t149_420 : g_at 149 420 = some (.ireturn, 0, 0, 0) := by decide +kernel
theorem t149_421 : g_at 149 421 = some (.aload_n 1, 0, 0, 0) := by decide +kernel
theorem t149_422 : g_at 149 422 = some (.invokevirtual 61, 106, 0, 0) := by decide +kernel
theorem t149_425 : g_at 149 425 = some (.aload_n 2, 0, 0, 0) := by decide +kernel
theorem t149_426 : g_at 149 426 = some (.invokevirtual 64, 107, 0, 0) := by decide +kernel
theorem t149_429 : g_at 149 429 = some (.if_icmp .eq (304), 733, 0, 0) := by decide +kernel
theorem t149_432 : g_at 149 432 = some (.iconst 0, 0, 0, 0) := by decide +kernel
theorem t149_433 : g_at 149 433 = some (.ireturn, 0, 0, 0) := by decide +kernel
theorem t149_434 : g_at 149 434 = some (.aload_n 1, 0, 0, 0) := by decide +kernel
theorem t149_435 : g_at 149 435 = some (.invokevirtual 65, 108, 0, 0) := by decide +kernel
theorem t149_438 : g_at 149 438 = some (.aload_n 2, 0, 0, 0) := by decide +kernel
theorem t149_439 : g_at 149 439 = some (.invokevirtual 68, 109, 0, 0) := by decide +kernel
theorem t149_442 : g_at 149 442 = some (.if_icmp .eq (291), 733, 0, 0) := by decide +kernel
theorem t149_445 : g_at 149 445 = some (.iconst 0, 0, 0, 0) := by decide +kernel
theorem t149_446 : g_at 149 446 = some (.ireturn, 0, 0, 0) := by decide +kernel
theorem t149_447 : g_at 149 447 = some (.aload_n 1, 0, 0, 0) := by decide +kernel
theorem t149_448 : g_at 149 448 = some (.invokevirtual 69, 111, 0, 0) := by decide +kernel
theorem t149_451 : g_at 149 451 = some (.aload_n 2, 0, 0, 0) := by decide +kernel
theorem t149_452 : g_at 149 452 = some (.invokevirtual 72, 112, 0, 0) := by decide +kernel
theorem t149_455 : g_at 149 455 = some (.if_icmp .eq (278), 733, 0, 0) := by decide +kernel
theorem t149_458 : g_at 149 458 = some (.iconst 0, 0, 0, 0) := by decide +kernel
theorem t149_459 : g_at 149 459 = some (.ireturn, 0, 0, 0) := by decide +kernel
theorem t149_460 : g_at 149 460 = some (.aload_n 1, 0, 0, 0) := by decide +kernel
theorem t149_461 : g_at 149 461 = some (.aload_n 0, 0, 0, 0) := by decide +kernel
theorem t149_462 : g_at 149 462 = some (.iload_n 3, 0, 0, 0) := by decide +kernel
theorem t149_463 : g_at 149 463 = some (.iconst 1, 0, 0, 1) := by decide +kernel
theorem t149_464 : g_at 149 464 = some (.iadd, 0, 0, 0) := by decide +kernel
theorem t149_465 : g_at 149 465 = some (.iaload, 0, 0, 0) := by decide +kernel
theorem t149_466 : g_at 149 466 = some (.aload_n 0, 0, 0, 0) := by decide +kernel
theorem t149_467 : g_at 149 467 = some (.iload_n 3, 0, 0, 0) := by decide +kernel
theorem t149_468 : g_at 149 468 = some (.iconst 2, 0, 0, 2) := by decide +kernel
theorem t149_469 : g_at 149 469 = some (.iadd, 0, 0, 0) := by decide +kernel
theorem t149_470 : g_at 149 470 = some (.iaload, 0, 0, 0) := by decide +kernel
theorem t149_471 : g_at 149 471 = some (.aload_n 0, 0, 0, 0) := by decide +kernel
theorem t149_472 : g_at 149 472 = some (.iload_n 3, 0, 0, 0) := by decide +kernel
theorem t149_473 : g_at 149 473 = some (.iconst 3, 0, 0, 3) := by decide +kernel
theorem t149_474 : g_at 149 474 = some (.iadd, 0, 0, 0) := by decide +kernel
theorem t149_475 : g_at 149 475 = some (.iaload, 0, 0, 0) := by decide +kernel
theorem t149_476 : g_at 149 476 = some (.invokevirtual 73, 115, 3, 0) := by decide +kernel
theorem t149_479 : g_at 149 479 = some (.aload_n 2, 0, 0, 0) := by decide +kernel
theorem t149_480 : g_at 149 480 = some (.aload_n 0, 0, 0, 0) := by decide +kernel
theorem t149_481 : g_at 149 481 = some (.iload_n 3, 0, 0, 0) := by decide +kernel
theorem t149_482 : g_at 149 482 = some (.iconst 1, 0, 0, 1) := by decide +kernel
theorem t149_483 : g_at 149 483 = some (.iadd, 0, 0, 0) := by decide +kernel
theorem t149_484 : g_at 149 484 = some (.iaload, 0, 0, 0) := by decide +kernel
theorem t149_485 : g_at 149 485 = some (.aload_n 0, 0, 0, 0) := by decide +kernel
theorem t149_486 : g_at 149 486 = some (.iload_n 3, 0, 0, 0) := by decide +kernel
theorem t149_487 : g_at 149 487 = some (.iconst 2, 0, 0, 2) := by decide +kernel
theorem t149_488 : g_at 149 488 = some (.iadd, 0, 0, 0) := by decide +kernel
theorem t149_489 : g_at 149 489 = some (.iaload, 0, 0, 0) := by decide +kernel
theorem t149_490 : g_at 149 490 = some (.aload_n 0, 0, 0, 0) := by decide +kernel
theorem t149_491 : g_at 149 491 = some (.iload_n 3, 0, 0, 0) := by decide +kernel
theorem t149_492 : g_at 149 492 = some (.iconst 3, 0, 0, 3) := by decide +kernel
theorem t149_493 : g_at 149 493 = some (.iadd, 0, 0, 0) := by decide +kernel
theorem t149_494 : g_at 149 494 = some (.iaload, 0, 0, 0) := by decide +kernel
theorem t149_495 : g_at 149 495 = some (.invokevirtual 76, 118, 3, 0) := by decide +kernel
theorem t149_498 : g_at 149 498 = some (.if_icmp .eq (235), 733, 0, 0) := by decide +kernel
theorem t149_501 : g_at 149 501 = some (.iconst 0, 0, 0, 0) := by decide +kernel
theorem t149_502 : g_at 149 502 = some (.ireturn, 0, 0, 0) := by decide +kernel
theorem t149_503 : g_at 149 503 = some (.aload_n 1, 0, 0, 0) := by decide +kernel
theorem t149_504 : g_at 149 504 = some (.aload_n 0, 0, 0, 0) := by decide +kernel
theorem t149_505 : g_at 149 505 = some (.iload_n 3, 0, 0, 0) := by decide +kernel
theorem t149_506 : g_at 149 506 = some (.iconst 1, 0, 0, 1) := by decide +kernel
theorem t149_507 : g_at 149 507 = some (.iadd, 0, 0, 0) := by decide +kernel
theorem t149_508 : g_at 149 508 = some (.iaload, 0, 0, 0) := by decide +kernel
theorem t149_509 : g_at 149 509 = some (.aload_n 0, 0, 0, 0) := by decide +kernel
theorem t149_510 : g_at 149 510 = some (.iload_n 3, 0, 0, 0) := by decide +kernel
theorem t149_511 : g_at 149 511 = some (.iconst 2, 0, 0, 2) := by decide +kernel
theorem t149_512 : g_at 149 512 = some (.iadd, 0, 0, 0) := by decide +kernel
theorem t149_513 : g_at 149 513 = some (.iaload, 0, 0, 0) := by decide +kernel
theorem t149_514 : g_at 149 514 = some (.invokevirtual 77, 119, 2, 0) := by decide +kernel
theorem t149_517 : g_at 149 517 = some (.aload_n 2, 0, 0, 0) := by decide +kernel
theorem t149_518 : g_at 149 518 = some (.aload_n 0, 0, 0, 0) := by decide +kernel
theorem t149_519 : g_at 149 519 = some (.iload_n 3, 0, 0, 0) := by decide +kernel
theorem t149_520 : g_at 149 520 = some (.iconst 1, 0, 0, 1) := by decide +kernel
theorem t149_521 : g_at 149 521 = some (.iadd, 0, 0, 0) := by decide +kernel
theorem t149_522 : g_at 149 522 = some (.iaload, 0, 0, 0) := by decide +kernel
theorem t149_523 : g_at 149 523 = some (.aload_n 0, 0, 0, 0) := by decide +kernel
theorem t149_524 : g_at 149 524 = some (.iload_n 3, 0, 0, 0) := by decide +kernel
theorem t149_525 : g_at 149 525 = some (.iconst 2, 0, 0, 2) := by decide +kernel
theorem t149_526 : g_at 149 526 = some (.iadd, 0, 0, 0) := by decide +kernel
theorem t149_527 : g_at 149 527 = some (.iaload, 0, 0, 0) := by decide +kernel
theorem t149_528 : g_at 149 528 = some (.invokevirtual 80, 120, 2, 0) := by decide +kernel
theorem t149_531 : g_at 149 531 = some (.if_icmp .eq (202), 733, 0, 0) := by decide +kernel
theorem t149_534 : g_at 149 534 = some (.iconst 0, 0, 0, 0) := by decide +kernel
theorem t149_535 : g_at 149 535 = some (.ireturn, 0, 0, 0) := by decide +kernel
theorem t149_536 : g_at 149 536 = some (.aload_n 1, 0, 0, 0) := by decide +kernel
theorem t149_537 : g_at 149 537 = some (.aload_n 0, 0, 0, 0) := by decide +kernel
theorem t149_538 : g_at 149 538 = some (.iload_n 3, 0, 0, 0) := by decide +kernel
theorem t149_539 : g_at 149 539 = some (.iconst 1, 0, 0, 1) := by decide +kernel
theorem t149_540 : g_at 149 540 = some (.iadd, 0, 0, 0) := by decide +kernel
theorem t149_541 : g_at 149 541 = some (.iaload, 0, 0, 0) := by decide +kernel
theorem t149_542 : g_at 149 542 = some (.invokevirtual 81, 121, 1, 0) := by decide +kernel
theorem t149_545 : g_at 149 545 = some (.aload_n 2, 0, 0, 0) := by decide +kernel
theorem t149_546 : g_at 149 546 = some (.aload_n 0, 0, 0, 0) := by decide +kernel
theorem t149_547 : g_at 149 547 = some (.iload_n 3, 0, 0, 0) := by decide +kernel
theorem t149_548 : g_at 149 548 = some (.iconst 1, 0, 0, 1) := by decide +kernel
theorem t149_549 : g_at 149 549 = some (.iadd, 0, 0, 0) := by decide +kernel
theorem t149_550 : g_at 149 550 = some (.iaload, 0, 0, 0) := by decide +kernel
theorem t149_551 : g_at 149 551 = some (.invokevirtual 84, 122, 1, 0) := by decide +kernel
theorem t149_554 : g_at 149 554 = some (.if_icmp .eq (179), 733, 0, 0) := by decide +kernel
theorem t149_557 : g_at 149 557 = some (.iconst 0, 0, 0, 0) := by decide +kernel
theorem t149_558 : g_at 149 558 = some (.ireturn, 0, 0, 0) := by decide +kernel
theorem t149_559 : g_at 149 559 = some (.aload_n 1, 0, 0, 0) := by decide +kernel
theorem t149_560 : g_at 149 560 = some (.aload_n 0, 0, 0, 0) := by decide +kernel
theorem t149_561 : g_at 149 561 = some (.iload_n 3, 0, 0, 0) := by decide +kernel
theorem t149_562 : g_at 149 562 = some (.iconst 1, 0, 0, 1) := by decide +kernel
theorem t149_563 : g_at 149 563 = some (.iadd, 0, 0, 0) := by decide +kernel
theorem t149_564 : g_at 149 564 = some (.iaload, 0, 0, 0) := by decide +kernel
theorem t149_565 : g_at 149 565 = some (.aload_n 0, 0, 0, 0) := by decide +kernel
theorem t149_566 : g_at 149 566 = some (.iload_n 3, 0, 0, 0) := by decide +kernel
theorem t149_567 : g_at 149 567 = some (.iconst 2, 0, 0, 2) := by decide +kernel
theorem t149_568 : g_at 149 568 = some (.iadd, 0, 0, 0) := by decide +kernel
theorem t149_569 : g_at 149 569 = some (.iaload, 0, 0, 0) := by decide +kernel
theorem t149_570 : g_at 149 570 = some (.invokevirtual 85, 127, 2, 0) := by decide +kernel
theorem t149_573 : g_at 149 573 = some (.aload_n 2, 0, 0, 0) := by decide +kernel
theorem t149_574 : g_at 149 574 = some (.aload_n 0, 0, 0, 0) := by decide +kernel
theorem t149_575 : g_at 149 575 = some (.iload_n 3, 0, 0, 0) := by decide +kernel
theorem t149_576 : g_at 149 576 = some (.iconst 1, 0, 0, 1) := by decide +kernel
theorem t149_577 : g_at 149 577 = some (.iadd, 0, 0, 0) := by decide +kernel
theorem t149_578 : g_at 149 578 = some (.iaload, 0, 0, 0) := by decide +kernel
theorem t149_579 : g_at 149 579 = some (.aload_n 0, 0, 0, 0) := by decide +kernel
theorem t149_580 : g_at 149 580 = some (.iload_n 3, 0, 0, 0) := by decide +kernel
theorem t149_581 : g_at 149 581 = some (.iconst 2, 0, 0, 2) := by decide +kernel
theorem t149_582 : g_at 149 582 = some (.iadd, 0, 0, 0) := by decide +kernel
theorem t149_583 : g_at 149 583 = some (.iaload, 0, 0, 0) := by decide +kernel
theorem t149_584 : g_at 149 584 = some (.invokevirtual 88, 129, 2, 0) := by decide +kernel
theorem t149_587 : g_at 149 587 = some (.if_icmp .eq (146), 733, 0, 0) := by decide +kernel
theorem t149_590 : g_at 149 590 = some (.iconst 0, 0, 0, 0) := by decide +kernel
theorem t149_591 : g_at 149 591 = some (.ireturn, 0, 0, 0) := by decide +kernel
theorem t149_592 : g_at 149 592 = some (.aload_n 1, 0, 0, 0) := by decide +kernel
theorem t149_593 : g_at 149 593 = some (.aload_n 0, 0, 0, 0) := by decide +kernel
theorem t149_594 : g_at 149 594 = some (.iload_n 3, 0, 0, 0) := by decide +kernel
theorem t149_595 : g_at 149 595 = some (.iconst 1, 0, 0, 1) := by decide +kernel
theorem t149_596 : g_at 149 596 = some (.iadd, 0, 0, 0) := by decide +kernel
theorem t149_597 : g_at 149 597 = some (.iaload, 0, 0, 0) := by decide +kernel
theorem t149_598 : g_at 149 598 = some (.aload_n 0, 0, 0, 0) := by decide +kernel
theorem t149_599 : g_at 149 599 = some (.iload_n 3, 0, 0, 0) := by decide +kernel
theorem t149_600 : g_at 149 600 = some (.iconst 2, 0, 0, 2) := by decide +kernel
theorem t149_601 : g_at 149 601 = some (.iadd, 0, 0, 0) := by decide +kernel
theorem t149_602 : g_at 149 602 = some (.iaload, 0, 0, 0) := by decide +kernel
theorem t149_603 : g_at 149 603 = some (.invokevirtual 89, 130, 2, 0) := by decide +kernel
theorem t149_606 : g_at 149 606 = some (.aload_n 2, 0, 0, 0) := by decide +kernel
theorem t149_607 : g_at 149 607 = some (.aload_n 0, 0, 0, 0) := by decide +kernel
theorem t149_608 : g_at 149 608 = some (.iload_n 3, 0, 0, 0) := by decide +kernel
theorem t149_609 : g_at 149 609 = some (.iconst 1, 0, 0, 1) := by decide +kernel
theorem t149_610 : g_at 149 610 = some (.iadd, 0, 0, 0) := by decide +kernel
theorem t149_611 : g_at 149 611 = some (.iaload, 0, 0, 0) := by decide +kernel
theorem t149_612 : g_at 149 612 = some (.aload_n 0, 0, 0, 0) := by decide +kernel
theorem t149_613 : g_at 149 613 = some (.iload_n 3, 0, 0, 0) := by decide +kernel
theorem t149_614 : g_at 149 614 = some (.iconst 2, 0, 0, 2) := by decide +kernel
theorem t149_615 : g_at 149 615 = some (.iadd, 0, 0, 0) := by decide +kernel
theorem t149_616 : g_at 149 616 = some (.iaload, 0, 0, 0) := by decide +kernel
theorem t149_617 : g_at 149 617 = some (.invokevirtual 92, 131, 2, 0) := by decide +kernel
theorem t149_620 : g_at 149 620 = some (.if_icmp .eq (113), 733, 0, 0) := by decide +kernel
theorem t149_623 : g_at 149 623 = some (.iconst 0, 0, 0, 0) := by decide +kernel
theorem t149_624 : g_at 149 624 = some (.ireturn, 0, 0, 0) := by decide +kernel
theorem t149_625 : g_at 149 625 = some (.aload_n 1, 0, 0, 0) := by decide +kernel
theorem t149_626 : g_at 149 626 = some (.invokevirtual 93, 132, 0, 0) := by decide +kernel
theorem t149_629 : g_at 149 629 = some (.aload_n 2, 0, 0, 0) := by decide +kernel
theorem t149_630 : g_at 149 630 = some (.invokevirtual 96, 133, 0, 0) := by decide +kernel
theorem t149_633 : g_at 149 633 = some (.if_icmp .eq (100), 733, 0, 0) := by decide +kernel
theorem t149_636 : g_at 149 636 = some (.iconst 0, 0, 0, 0) := by decide +kernel
theorem t149_637 : g_at 149 637 = some (.ireturn, 0, 0, 0) := by decide +kernel
theorem t149_638 : g_at 149 638 = some (.aload_n 1, 0, 0, 0) := by decide +kernel
theorem t149_639 : g_at 149 639 = some (.invokevirtual 97, 135, 0, 0) := by decide +kernel
theorem t149_642 : g_at 149 642 = some (.aload_n 2, 0, 0, 0) := by decide +kernel
theorem t149_643 : g_at 149 643 = some (.invokevirtual 100, 137, 0, 0) := by decide +kernel
theorem t149_646 : g_at 149 646 = some (.if_icmp .eq (87), 733, 0, 0) := by decide +kernel
theorem t149_649 : g_at 149 649 = some (.iconst 0, 0, 0, 0) := by decide +kernel
theorem t149_650 : g_at 149 650 = some (.ireturn, 0, 0, 0) := by decide +kernel
theorem t149_651 : g_at 149 651 = some (.aload_n 1, 0, 0, 0) := by decide +kernel
theorem t149_652 : g_at 149 652 = some (.invokevirtual 101, 139, 0, 0) := by decide +kernel
theorem t149_655 : g_at 149 655 = some (.aload_n 2, 0, 0, 0) := by decide +kernel
theorem t149_656 : g_at 149 656 = some (.invokevirtual 104, 141, 0, 0) := by decide +kernel
theorem t149_659 : g_at 149 659 = some (.if_icmp .eq (74), 733, 0, 0) := by decide +kernel
theorem t149_662 : g_at 149 662 = some (.iconst 0, 0, 0, 0) := by decide +kernel
theorem t149_663 : g_at 149 663 = some (.ireturn, 0, 0, 0) := by decide +kernel
theorem t149_664 : g_at 149 664 = some (.aload_n 1, 0, 0, 0) := by decide +kernel
theorem t149_665 : g_at 149 665 = some (.aload_n 0, 0, 0, 0) := by decide +kernel
theorem t149_666 : g_at 149 666 = some (.iload_n 3, 0, 0, 0) := by decide +kernel
theorem t149_667 : g_at 149 667 = some (.iconst 1, 0, 0, 1) := by decide +kernel
theorem t149_668 : g_at 149 668 = some (.iadd, 0, 0, 0) := by decide +kernel
theorem t149_669 : g_at 149 669 = some (.iaload, 0, 0, 0) := by decide +kernel
theorem t149_670 : g_at 149 670 = some (.invokevirtual 105, 143, 1, 0) := by decide +kernel
theorem t149_673 : g_at 149 673 = some (.aload_n 2, 0, 0, 0) := by decide +kernel
theorem t149_674 : g_at 149 674 = some (.aload_n 0, 0, 0, 0) := by decide +kernel
theorem t149_675 : g_at 149 675 = some (.iload_n 3, 0, 0, 0) := by decide +kernel
theorem t149_676 : g_at 149 676 = some (.iconst 1, 0, 0, 1) := by decide +kernel
theorem t149_677 : g_at 149 677 = some (.iadd, 0, 0, 0) := by decide +kernel
theorem t149_678 : g_at 149 678 = some (.iaload, 0, 0, 0) := by decide +kernel
theorem t149_679 : g_at 149 679 = some (.invokevirtual 108, 144, 1, 0) := by decide +kernel
theorem t149_682 : g_at 149 682 = some (.if_icmp .eq (51), 733, 0, 0) := by decide +kernel
theorem t149_685 : g_at 149 685 = some (.iconst 0, 0, 0, 0) := by decide +kernel
theorem t149_686 : g_at 149 686 = some (.ireturn, 0, 0, 0) := by decide +kernel
theorem t149_687 : g_at 149 687 = some (.aload_n 1, 0, 0, 0) := by decide +kernel
theorem t149_688 : g_at 149 688 = some (.aload_n 0, 0, 0, 0) := by decide +kernel
theorem t149_689 : g_at 149 689 = some (.iload_n 3, 0, 0, 0) := by decide +kernel
theorem t149_690 : g_at 149 690 = some (.iconst 1, 0, 0, 1) := by decide +kernel
theorem t149_691 : g_at 149 691 = some (.iadd, 0, 0, 0) := by decide +kernel
theorem t149_692 : g_at 149 692 = some (.iaload, 0, 0, 0) := by decide +kernel
theorem t149_693 : g_at 149 693 = some (.invokevirtual 109, 145, 1, 0) := by decide +kernel
theorem t149_696 : g_at 149 696 = some (.aload_n 2, 0, 0, 0) := by decide +kernel
theorem t149_697 : g_at 149 697 = some (.aload_n 0, 0, 0, 0) := by decide +kernel
theorem t149_698 : g_at 149 698 = some (.iload_n 3, 0, 0, 0) := by decide +kernel
theorem t149_699 : g_at 149 699 = some (.iconst 1, 0, 0, 1) := by decide +kernel
theorem t149_700 : g_at 149 700 = some (.iadd, 0, 0, 0) := by decide +kernel
theorem t149_701 : g_at 149 701 = some (.iaload, 0, 0, 0) := by decide +kernel
theorem t149_702 : g_at 149 702 = some (.invokevirtual 112, 146, 1, 0) := by decide +kernel
theorem t149_705 : g_at 149 705 = some (.if_icmp .eq (28), 733, 0, 0) := by decide +kernel
theorem t149_708 : g_at 149 708 = some (.iconst 0, 0, 0, 0) := by decide +kernel
theorem t149_709 : g_at 149 709 = some (.ireturn, 0, 0, 0) := by decide +kernel
theorem t149_710 : g_at 149 710 = some (.aload_n 1, 0, 0, 0) := by decide +kernel
theorem t149_711 : g_at 149 711 = some (.aload_n 0, 0, 0, 0) := by decide +kernel
theorem t149_712 : g_at 149 712 = some (.iload_n 3, 0, 0, 0) := by decide +kernel
theorem t149_713 : g_at 149 713 = some (.iconst 1, 0, 0, 1) := by decide +kernel
theorem t149_714 : g_at 149 714 = some (.iadd, 0, 0, 0) := by decide +kernel
theorem t149_715 : g_at 149 715 = some (.iaload, 0, 0, 0) := by decide +kernel
theorem t149_716 : g_at 149 716 = some (.invokevirtual 113, 147, 1, 0) := by decide +kernel
theorem t149_719 : g_at 149 719 = some (.aload_n 2, 0, 0, 0) := by decide +kernel
theorem t149_720 : g_at 149 720 = some (.aload_n 0, 0, 0, 0) := by decide +kernel
theorem t149_721 : g_at 149 721 = some (.iload_n 3, 0, 0, 0) := by decide +kernel
theorem t149_722 : g_at 149 722 = some (.iconst 1, 0, 0, 1) := by decide +kernel
theorem t149_723 : g_at 149 723 = some (.iadd, 0, 0, 0) := by decide +kernel
theorem t149_724 : g_at 149 724 = some (.iaload, 0, 0, 0) := by decide +kernel
theorem t149_725 : g_at 149 725 = some (.invokevirtual 116, 148, 1, 0) := by decide +kernel
theorem t149_728 : g_at 149 728 = some (.if_icmp .eq (5), 733, 0, 0) := by decide +kernel
theorem t149_731 : g_at 149 731 = some (.iconst 0, 0, 0, 0) := by decide +kernel
theorem t149_732 : g_at 149 732 = some (.ireturn, 0, 0, 0) := by decide +kernel
theorem t149_733 : g_at 149 733 = some (.iinc 3 (4), 0, 0, 4) := by decide +kernel
theorem t149_736 : g_at 149 736 = some (.goto (-718), 18, 0, 0) := by decide +kernel
theorem t149_739 : g_at 149 739 = some (.iconst 1, 0, 0, 1) := by decide +kernel
theorem t149_740 : g_at 149 740 = some (.ireturn, 0, 0, 0) := by decide +kernel
