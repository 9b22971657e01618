theorem dX0_init_0 : decode cX0_init 0 = .ok (.aload_n 0, 1) := by decide +kernel
theorem dX0_init_1 : decode cX0_init 1 = .ok (.invokespecial 3, 3) := by decide +kernel
theorem dX0_init_4 : decode cX0_init 4 = .ok (.aload_n 0, 1) := by decide +kernel
theorem dX0_init_5 : decode cX0_init 5 = .ok (.bipush 16, 2) := by decide +kernel
theorem dX0_init_7 : decode cX0_init 7 = .ok (.newarray .int, 2) := by decide +kernel
theorem dX0_init_9 : decode cX0_init 9 = .ok (.putfield 9, 3) := by decide +kernel
theorem dX0_init_12 : decode cX0_init 12 = .ok (.aload_n 0, 1) := by decide +kernel
theorem dX0_init_13 : decode cX0_init 13 = .ok (.iload_n 1, 1) := by decide +kernel
theorem dX0_init_14 : decode cX0_init 14 = .ok (.putfield 15, 3) := by decide +kernel
theorem dX0_init_17 : decode cX0_init 17 = .ok (.return_, 1) := by decide +kernel
theorem dX1_init_0 : decode cX1_init 0 = .ok (.aload_n 0, 1) := by decide +kernel
theorem dX1_init_1 : decode cX1_init 1 = .ok (.invokespecial 3, 3) := by decide +kernel
theorem dX1_init_4 : decode cX1_init 4 = .ok (.aload_n 0, 1) := by decide +kernel
theorem dX1_init_5 : decode cX1_init 5 = .ok (.bipush 24, 2) := by decide +kernel
theorem dX1_init_7 : decode cX1_init 7 = .ok (.newarray .int, 2) := by decide +kernel
theorem dX1_init_9 : decode cX1_init 9 = .ok (.putfield 9, 3) := by decide +kernel
theorem dX1_init_12 : decode cX1_init 12 = .ok (.aload_n 0, 1) := by decide +kernel
theorem dX1_init_13 : decode cX1_init 13 = .ok (.bipush 24, 2) := by decide +kernel
theorem dX1_init_15 : decode cX1_init 15 = .ok (.newarray .int, 2) := by decide +kernel
theorem dX1_init_17 : decode cX1_init 17 = .ok (.putfield 15, 3) := by decide +kernel
theorem dX1_init_20 : decode cX1_init 20 = .ok (.aload_n 0, 1) := by decide +kernel
theorem dX1_init_21 : decode cX1_init 21 = .ok (.bipush 24, 2) := by decide +kernel
theorem dX1_init_23 : decode cX1_init 23 = .ok (.newarray .int, 2) := by decide +kernel
theorem dX1_init_25 : decode cX1_init 25 = .ok (.putfield 18, 3) := by decide +kernel
theorem dX1_init_28 : decode cX1_init 28 = .ok (.return_, 1) := by decide +kernel
theorem dX2_init_0 : decode cX2_init 0 = .ok (.aload_n 0, 1) := by decide +kernel
theorem dX2_init_1 : decode cX2_init 1 = .ok (.invokespecial 3, 3) := by decide +kernel
theorem dX2_init_4 : decode cX2_init 4 = .ok (.return_, 1) := by decide +kernel
theorem dX3_init_0 : decode cX3_init 0 = .ok (.aload_n 0, 1) := by decide +kernel
theorem dX3_init_1 : decode cX3_init 1 = .ok (.invokespecial 3, 3) := by decide +kernel
theorem dX3_init_4 : decode cX3_init 4 = .ok (.aload_n 0, 1) := by decide +kernel
theorem dX3_init_5 : decode cX3_init 5 = .ok (.bipush 17, 2) := by decide +kernel
theorem dX3_init_7 : decode cX3_init 7 = .ok (.newarray .boolean, 2) := by decide +kernel
theorem dX3_init_9 : decode cX3_init 9 = .ok (.putfield 11, 3) := by decide +kernel
theorem dX3_init_12 : decode cX3_init 12 = .ok (.aload_n 0, 1) := by decide +kernel
theorem dX3_init_13 : decode cX3_init 13 = .ok (.bipush 17, 2) := by decide +kernel
theorem dX3_init_15 : decode cX3_init 15 = .ok (.newarray .int, 2) := by decide +kernel
theorem dX3_init_17 : decode cX3_init 17 = .ok (.putfield 15, 3) := by decide +kernel
theorem dX3_init_20 : decode cX3_init 20 = .ok (.aload_n 0, 1) := by decide +kernel
theorem dX3_init_21 : decode cX3_init 21 = .ok (.bipush 17, 2) := by decide +kernel
theorem dX3_init_23 : decode cX3_init 23 = .ok (.newarray .boolean, 2) := by decide +kernel
theorem dX3_init_25 : decode cX3_init 25 = .ok (.putfield 19, 3) := by decide +kernel
theorem dX3_init_28 : decode cX3_init 28 = .ok (.return_, 1) := by decide +kernel
theorem dX4_init_0 : decode cX4_init 0 = .ok (.aload_n 0, 1) := by decide +kernel
theorem dX4_init_1 : decode cX4_init 1 = .ok (.invokespecial 3, 3) := by decide +kernel
theorem dX4_init_4 : decode cX4_init 4 = .ok (.return_, 1) := by decide +kernel
theorem dX4_begin_0 : decode cX4_begin 0 = .ok (.aload_n 0, 1) := by decide +kernel
theorem dX4_begin_1 : decode cX4_begin 1 = .ok (.aload_n 1, 1) := by decide +kernel
theorem dX4_begin_2 : decode cX4_begin 2 = .ok (.putfield 9, 3) := by decide +kernel
theorem dX4_begin_5 : decode cX4_begin 5 = .ok (.aload_n 0, 1) := by decide +kernel
theorem dX4_begin_6 : decode cX4_begin 6 = .ok (.aload_n 1, 1) := by decide +kernel
theorem dX4_begin_7 : decode cX4_begin 7 = .ok (.ifnonnull 7, 3) := by decide +kernel
theorem dX4_begin_10 : decode cX4_begin 10 = .ok (.aconst_null, 1) := by decide +kernel
theorem dX4_begin_11 : decode cX4_begin 11 = .ok (.goto 7, 3) := by decide +kernel
theorem dX4_begin_14 : decode cX4_begin 14 = .ok (.aload_n 1, 1) := by decide +kernel
theorem dX4_begin_15 : decode cX4_begin 15 = .ok (.invokevirtual 15, 3) := by decide +kernel
theorem dX4_begin_18 : decode cX4_begin 18 = .ok (.putfield 21, 3) := by decide +kernel
theorem dX4_begin_21 : decode cX4_begin 21 = .ok (.aload_n 0, 1) := by decide +kernel
theorem dX4_begin_22 : decode cX4_begin 22 = .ok (.aload_n 1, 1) := by decide +kernel
theorem dX4_begin_23 : decode cX4_begin 23 = .ok (.ifnonnull 7, 3) := by decide +kernel
theorem dX4_begin_26 : decode cX4_begin 26 = .ok (.iconst 0, 1) := by decide +kernel
theorem dX4_begin_27 : decode cX4_begin 27 = .ok (.goto 12, 3) := by decide +kernel
theorem dX4_begin_30 : decode cX4_begin 30 = .ok (.aload_n 1, 1) := by decide +kernel
theorem dX4_begin_31 : decode cX4_begin 31 = .ok (.getfield 23, 3) := by decide +kernel
theorem dX4_begin_34 : decode cX4_begin 34 = .ok (.getfield 27, 3) := by decide +kernel
theorem dX4_begin_37 : decode cX4_begin 37 = .ok (.iconst 1, 1) := by decide +kernel
theorem dX4_begin_38 : decode cX4_begin 38 = .ok (.iadd, 1) := by decide +kernel
theorem dX4_begin_39 : decode cX4_begin 39 = .ok (.putfield 27, 3) := by decide +kernel
theorem dX4_begin_42 : decode cX4_begin 42 = .ok (.aload_n 0, 1) := by decide +kernel
theorem dX4_begin_43 : decode cX4_begin 43 = .ok (.aload_n 1, 1) := by decide +kernel
theorem dX4_begin_44 : decode cX4_begin 44 = .ok (.ifnonnull 7, 3) := by decide +kernel
theorem dX4_begin_47 : decode cX4_begin 47 = .ok (.iconst 0, 1) := by decide +kernel
theorem dX4_begin_48 : decode cX4_begin 48 = .ok (.goto 7, 3) := by decide +kernel
theorem dX4_begin_51 : decode cX4_begin 51 = .ok (.aload_n 1, 1) := by decide +kernel
theorem dX4_begin_52 : decode cX4_begin 52 = .ok (.getfield 31, 3) := by decide +kernel
theorem dX4_begin_55 : decode cX4_begin 55 = .ok (.putfield 34, 3) := by decide +kernel
theorem dX4_begin_58 : decode cX4_begin 58 = .ok (.aload_n 0, 1) := by decide +kernel
theorem dX4_begin_59 : decode cX4_begin 59 = .ok (.iconst 0, 1) := by decide +kernel
theorem dX4_begin_60 : decode cX4_begin 60 = .ok (.putfield 37, 3) := by decide +kernel
theorem dX4_begin_63 : decode cX4_begin 63 = .ok (.aload_n 0, 1) := by decide +kernel
theorem dX4_begin_64 : decode cX4_begin 64 = .ok (.aconst_null, 1) := by decide +kernel
theorem dX4_begin_65 : decode cX4_begin 65 = .ok (.putfield 40, 3) := by decide +kernel
theorem dX4_begin_68 : decode cX4_begin 68 = .ok (.aload_n 0, 1) := by decide +kernel
theorem dX4_begin_69 : decode cX4_begin 69 = .ok (.aconst_null, 1) := by decide +kernel
theorem dX4_begin_70 : decode cX4_begin 70 = .ok (.putfield 43, 3) := by decide +kernel
theorem dX4_begin_73 : decode cX4_begin 73 = .ok (.aload_n 0, 1) := by decide +kernel
theorem dX4_begin_74 : decode cX4_begin 74 = .ok (.aconst_null, 1) := by decide +kernel
theorem dX4_begin_75 : decode cX4_begin 75 = .ok (.putfield 46, 3) := by decide +kernel
theorem dX4_begin_78 : decode cX4_begin 78 = .ok (.aload_n 0, 1) := by decide +kernel
theorem dX4_begin_79 : decode cX4_begin 79 = .ok (.iconst 0, 1) := by decide +kernel
theorem dX4_begin_80 : decode cX4_begin 80 = .ok (.putfield 49, 3) := by decide +kernel
theorem dX4_begin_83 : decode cX4_begin 83 = .ok (.return_, 1) := by decide +kernel
theorem dX4_adopt_0 : decode cX4_adopt 0 = .ok (.aload_n 0, 1) := by decide +kernel
theorem dX4_adopt_1 : decode cX4_adopt 1 = .ok (.getfield 43, 3) := by decide +kernel
theorem dX4_adopt_4 : decode cX4_adopt 4 = .ok (.ifnonnull 11, 3) := by decide +kernel
theorem dX4_adopt_7 : decode cX4_adopt 7 = .ok (.aload_n 0, 1) := by decide +kernel
theorem dX4_adopt_8 : decode cX4_adopt 8 = .ok (.aload_n 1, 1) := by decide +kernel
theorem dX4_adopt_9 : decode cX4_adopt 9 = .ok (.putfield 40, 3) := by decide +kernel
theorem dX4_adopt_12 : decode cX4_adopt 12 = .ok (.goto 14, 3) := by decide +kernel
theorem dX4_adopt_15 : decode cX4_adopt 15 = .ok (.aload_n 0, 1) := by decide +kernel
theorem dX4_adopt_16 : decode cX4_adopt 16 = .ok (.getfield 43, 3) := by decide +kernel
theorem dX4_adopt_19 : decode cX4_adopt 19 = .ok (.getfield 23, 3) := by decide +kernel
theorem dX4_adopt_22 : decode cX4_adopt 22 = .ok (.aload_n 1, 1) := by decide +kernel
theorem dX4_adopt_23 : decode cX4_adopt 23 = .ok (.putfield 46, 3) := by decide +kernel
theorem dX4_adopt_26 : decode cX4_adopt 26 = .ok (.aload_n 0, 1) := by decide +kernel
theorem dX4_adopt_27 : decode cX4_adopt 27 = .ok (.aload_n 1, 1) := by decide +kernel
theorem dX4_adopt_28 : decode cX4_adopt 28 = .ok (.putfield 43, 3) := by decide +kernel
theorem dX4_adopt_31 : decode cX4_adopt 31 = .ok (.aload_n 0, 1) := by decide +kernel
theorem dX4_adopt_32 : decode cX4_adopt 32 = .ok (.dup, 1) := by decide +kernel
theorem dX4_adopt_33 : decode cX4_adopt 33 = .ok (.getfield 49, 3) := by decide +kernel
theorem dX4_adopt_36 : decode cX4_adopt 36 = .ok (.iconst 1, 1) := by decide +kernel
theorem dX4_adopt_37 : decode cX4_adopt 37 = .ok (.iadd, 1) := by decide +kernel
theorem dX4_adopt_38 : decode cX4_adopt 38 = .ok (.putfield 49, 3) := by decide +kernel
theorem dX4_adopt_41 : decode cX4_adopt 41 = .ok (.return_, 1) := by decide +kernel
theorem dX5_init_0 : decode cX5_init 0 = .ok (.aload_n 0, 1) := by decide +kernel
theorem dX5_init_1 : decode cX5_init 1 = .ok (.invokespecial 3, 3) := by decide +kernel
theorem dX5_init_4 : decode cX5_init 4 = .ok (.aload_n 0, 1) := by decide +kernel
theorem dX5_init_5 : decode cX5_init 5 = .ok (.iload_n 1, 1) := by decide +kernel
theorem dX5_init_6 : decode cX5_init 6 = .ok (.putfield 9, 3) := by decide +kernel
theorem dX5_init_9 : decode cX5_init 9 = .ok (.aload_n 0, 1) := by decide +kernel
theorem dX5_init_10 : decode cX5_init 10 = .ok (.new 15, 3) := by decide +kernel
theorem dX5_init_13 : decode cX5_init 13 = .ok (.dup, 1) := by decide +kernel
theorem dX5_init_14 : decode cX5_init 14 = .ok (.iconst 4, 1) := by decide +kernel
theorem dX5_init_15 : decode cX5_init 15 = .ok (.iload_n 1, 1) := by decide +kernel
theorem dX5_init_16 : decode cX5_init 16 = .ok (.imul, 1) := by decide +kernel
theorem dX5_init_17 : decode cX5_init 17 = .ok (.invokespecial 17, 3) := by decide +kernel
theorem dX5_init_20 : decode cX5_init 20 = .ok (.putfield 20, 3) := by decide +kernel
theorem dX5_init_23 : decode cX5_init 23 = .ok (.return_, 1) := by decide +kernel
theorem dX5_add_0 : decode cX5_add 0 = .ok (.aload_n 0, 1) := by decide +kernel
theorem dX5_add_1 : decode cX5_add 1 = .ok (.getfield 20, 3) := by decide +kernel
theorem dX5_add_4 : decode cX5_add 4 = .ok (.iload_n 1, 1) := by decide +kernel
theorem dX5_add_5 : decode cX5_add 5 = .ok (.invokevirtual 27, 3) := by decide +kernel
theorem dX5_add_8 : decode cX5_add 8 = .ok (.aload_n 0, 1) := by decide +kernel
theorem dX5_add_9 : decode cX5_add 9 = .ok (.getfield 20, 3) := by decide +kernel
theorem dX5_add_12 : decode cX5_add 12 = .ok (.iload_n 2, 1) := by decide +kernel
theorem dX5_add_13 : decode cX5_add 13 = .ok (.invokevirtual 27, 3) := by decide +kernel
theorem dX5_add_16 : decode cX5_add 16 = .ok (.aload_n 0, 1) := by decide +kernel
theorem dX5_add_17 : decode cX5_add 17 = .ok (.getfield 20, 3) := by decide +kernel
theorem dX5_add_20 : decode cX5_add 20 = .ok (.iload_n 3, 1) := by decide +kernel
theorem dX5_add_21 : decode cX5_add 21 = .ok (.invokevirtual 27, 3) := by decide +kernel
theorem dX5_add_24 : decode cX5_add 24 = .ok (.aload_n 0, 1) := by decide +kernel
theorem dX5_add_25 : decode cX5_add 25 = .ok (.getfield 20, 3) := by decide +kernel
theorem dX5_add_28 : decode cX5_add 28 = .ok (.iload 4, 2) := by decide +kernel
theorem dX5_add_30 : decode cX5_add 30 = .ok (.invokevirtual 27, 3) := by decide +kernel
theorem dX5_add_33 : decode cX5_add 33 = .ok (.return_, 1) := by decide +kernel
theorem dX6_init_0 : decode cX6_init 0 = .ok (.aload_n 0, 1) := by decide +kernel
theorem dX6_init_1 : decode cX6_init 1 = .ok (.invokespecial 3, 3) := by decide +kernel
theorem dX6_init_4 : decode cX6_init 4 = .ok (.aload_n 0, 1) := by decide +kernel
theorem dX6_init_5 : decode cX6_init 5 = .ok (.bipush 8, 2) := by decide +kernel
theorem dX6_init_7 : decode cX6_init 7 = .ok (.newarray .boolean, 2) := by decide +kernel
theorem dX6_init_9 : decode cX6_init 9 = .ok (.putfield 9, 3) := by decide +kernel
theorem dX6_init_12 : decode cX6_init 12 = .ok (.aload_n 0, 1) := by decide +kernel
theorem dX6_init_13 : decode cX6_init 13 = .ok (.bipush 8, 2) := by decide +kernel
theorem dX6_init_15 : decode cX6_init 15 = .ok (.newarray .int, 2) := by decide +kernel
theorem dX6_init_17 : decode cX6_init 17 = .ok (.putfield 15, 3) := by decide +kernel
theorem dX6_init_20 : decode cX6_init 20 = .ok (.aload_n 0, 1) := by decide +kernel
theorem dX6_init_21 : decode cX6_init 21 = .ok (.bipush 8, 2) := by decide +kernel
theorem dX6_init_23 : decode cX6_init 23 = .ok (.newarray .int, 2) := by decide +kernel
theorem dX6_init_25 : decode cX6_init 25 = .ok (.putfield 19, 3) := by decide +kernel
theorem dX6_init_28 : decode cX6_init 28 = .ok (.return_, 1) := by decide +kernel
theorem dX7_init_0 : decode cX7_init 0 = .ok (.aload_n 0, 1) := by decide +kernel
theorem dX7_init_1 : decode cX7_init 1 = .ok (.invokespecial 3, 3) := by decide +kernel
theorem dX7_init_4 : decode cX7_init 4 = .ok (.aload_n 0, 1) := by decide +kernel
theorem dX7_init_5 : decode cX7_init 5 = .ok (.new 9, 3) := by decide +kernel
theorem dX7_init_8 : decode cX7_init 8 = .ok (.dup, 1) := by decide +kernel
theorem dX7_init_9 : decode cX7_init 9 = .ok (.invokespecial 11, 3) := by decide +kernel
theorem dX7_init_12 : decode cX7_init 12 = .ok (.putfield 12, 3) := by decide +kernel
theorem dX7_init_15 : decode cX7_init 15 = .ok (.aload_n 0, 1) := by decide +kernel
theorem dX7_init_16 : decode cX7_init 16 = .ok (.new 18, 3) := by decide +kernel
theorem dX7_init_19 : decode cX7_init 19 = .ok (.dup, 1) := by decide +kernel
theorem dX7_init_20 : decode cX7_init 20 = .ok (.invokespecial 20, 3) := by decide +kernel
theorem dX7_init_23 : decode cX7_init 23 = .ok (.putfield 21, 3) := by decide +kernel
theorem dX7_init_26 : decode cX7_init 26 = .ok (.aload_n 0, 1) := by decide +kernel
theorem dX7_init_27 : decode cX7_init 27 = .ok (.new 25, 3) := by decide +kernel
theorem dX7_init_30 : decode cX7_init 30 = .ok (.dup, 1) := by decide +kernel
theorem dX7_init_31 : decode cX7_init 31 = .ok (.invokespecial 27, 3) := by decide +kernel
theorem dX7_init_34 : decode cX7_init 34 = .ok (.putfield 28, 3) := by decide +kernel
theorem dX7_init_37 : decode cX7_init 37 = .ok (.aload_n 0, 1) := by decide +kernel
theorem dX7_init_38 : decode cX7_init 38 = .ok (.new 32, 3) := by decide +kernel
theorem dX7_init_41 : decode cX7_init 41 = .ok (.dup, 1) := by decide +kernel
theorem dX7_init_42 : decode cX7_init 42 = .ok (.invokespecial 34, 3) := by decide +kernel
theorem dX7_init_45 : decode cX7_init 45 = .ok (.putfield 35, 3) := by decide +kernel
theorem dX7_init_48 : decode cX7_init 48 = .ok (.aload_n 0, 1) := by decide +kernel
theorem dX7_init_49 : decode cX7_init 49 = .ok (.new 39, 3) := by decide +kernel
theorem dX7_init_52 : decode cX7_init 52 = .ok (.dup, 1) := by decide +kernel
theorem dX7_init_53 : decode cX7_init 53 = .ok (.ldc 41, 2) := by decide +kernel
theorem dX7_init_55 : decode cX7_init 55 = .ok (.invokespecial 42, 3) := by decide +kernel
theorem dX7_init_58 : decode cX7_init 58 = .ok (.putfield 45, 3) := by decide +kernel
theorem dX7_init_61 : decode cX7_init 61 = .ok (.aload_n 0, 1) := by decide +kernel
theorem dX7_init_62 : decode cX7_init 62 = .ok (.iload_n 1, 1) := by decide +kernel
theorem dX7_init_63 : decode cX7_init 63 = .ok (.putfield 49, 3) := by decide +kernel
theorem dX7_init_66 : decode cX7_init 66 = .ok (.return_, 1) := by decide +kernel
theorem dX7_begin_0 : decode cX7_begin 0 = .ok (.aload_n 0, 1) := by decide +kernel
theorem dX7_begin_1 : decode cX7_begin 1 = .ok (.iload_n 1, 1) := by decide +kernel
theorem dX7_begin_2 : decode cX7_begin 2 = .ok (.putfield 53, 3) := by decide +kernel
theorem dX7_begin_5 : decode cX7_begin 5 = .ok (.aload_n 0, 1) := by decide +kernel
theorem dX7_begin_6 : decode cX7_begin 6 = .ok (.iconst 0, 1) := by decide +kernel
theorem dX7_begin_7 : decode cX7_begin 7 = .ok (.putfield 56, 3) := by decide +kernel
theorem dX7_begin_10 : decode cX7_begin 10 = .ok (.aload_n 0, 1) := by decide +kernel
theorem dX7_begin_11 : decode cX7_begin 11 = .ok (.iconst (-1), 1) := by decide +kernel
theorem dX7_begin_12 : decode cX7_begin 12 = .ok (.putfield 59, 3) := by decide +kernel
theorem dX7_begin_15 : decode cX7_begin 15 = .ok (.aload_n 0, 1) := by decide +kernel
theorem dX7_begin_16 : decode cX7_begin 16 = .ok (.iconst 0, 1) := by decide +kernel
theorem dX7_begin_17 : decode cX7_begin 17 = .ok (.putfield 62, 3) := by decide +kernel
theorem dX7_begin_20 : decode cX7_begin 20 = .ok (.aload_n 0, 1) := by decide +kernel
theorem dX7_begin_21 : decode cX7_begin 21 = .ok (.iconst 0, 1) := by decide +kernel
theorem dX7_begin_22 : decode cX7_begin 22 = .ok (.putfield 65, 3) := by decide +kernel
theorem dX7_begin_25 : decode cX7_begin 25 = .ok (.aload_n 0, 1) := by decide +kernel
theorem dX7_begin_26 : decode cX7_begin 26 = .ok (.iconst 0, 1) := by decide +kernel
theorem dX7_begin_27 : decode cX7_begin 27 = .ok (.putfield 68, 3) := by decide +kernel
theorem dX7_begin_30 : decode cX7_begin 30 = .ok (.aload_n 0, 1) := by decide +kernel
theorem dX7_begin_31 : decode cX7_begin 31 = .ok (.iconst (-1), 1) := by decide +kernel
theorem dX7_begin_32 : decode cX7_begin 32 = .ok (.putfield 71, 3) := by decide +kernel
theorem dX7_begin_35 : decode cX7_begin 35 = .ok (.aload_n 0, 1) := by decide +kernel
theorem dX7_begin_36 : decode cX7_begin 36 = .ok (.iconst 0, 1) := by decide +kernel
theorem dX7_begin_37 : decode cX7_begin 37 = .ok (.putfield 74, 3) := by decide +kernel
theorem dX7_begin_40 : decode cX7_begin 40 = .ok (.aload_n 0, 1) := by decide +kernel
theorem dX7_begin_41 : decode cX7_begin 41 = .ok (.iconst 0, 1) := by decide +kernel
theorem dX7_begin_42 : decode cX7_begin 42 = .ok (.putfield 78, 3) := by decide +kernel
theorem dX7_begin_45 : decode cX7_begin 45 = .ok (.aload_n 0, 1) := by decide +kernel
theorem dX7_begin_46 : decode cX7_begin 46 = .ok (.getfield 12, 3) := by decide +kernel
theorem dX7_begin_49 : decode cX7_begin 49 = .ok (.aload_n 2, 1) := by decide +kernel
theorem dX7_begin_50 : decode cX7_begin 50 = .ok (.invokevirtual 81, 3) := by decide +kernel
theorem dX7_begin_53 : decode cX7_begin 53 = .ok (.aload_n 0, 1) := by decide +kernel
theorem dX7_begin_54 : decode cX7_begin 54 = .ok (.getfield 21, 3) := by decide +kernel
theorem dX7_begin_57 : decode cX7_begin 57 = .ok (.invokevirtual 85, 3) := by decide +kernel
theorem dX7_begin_60 : decode cX7_begin 60 = .ok (.aload_n 0, 1) := by decide +kernel
theorem dX7_begin_61 : decode cX7_begin 61 = .ok (.getfield 28, 3) := by decide +kernel
theorem dX7_begin_64 : decode cX7_begin 64 = .ok (.invokevirtual 88, 3) := by decide +kernel
theorem dX7_begin_67 : decode cX7_begin 67 = .ok (.aload_n 0, 1) := by decide +kernel
theorem dX7_begin_68 : decode cX7_begin 68 = .ok (.getfield 35, 3) := by decide +kernel
theorem dX7_begin_71 : decode cX7_begin 71 = .ok (.invokevirtual 89, 3) := by decide +kernel
theorem dX7_begin_74 : decode cX7_begin 74 = .ok (.aload_n 0, 1) := by decide +kernel
theorem dX7_begin_75 : decode cX7_begin 75 = .ok (.getfield 45, 3) := by decide +kernel
theorem dX7_begin_78 : decode cX7_begin 78 = .ok (.invokevirtual 90, 3) := by decide +kernel
theorem dX7_begin_81 : decode cX7_begin 81 = .ok (.return_, 1) := by decide +kernel
theorem dX7_root_0 : decode cX7_root 0 = .ok (.aload_n 0, 1) := by decide +kernel
theorem dX7_root_1 : decode cX7_root 1 = .ok (.getfield 12, 3) := by decide +kernel
theorem dX7_root_4 : decode cX7_root 4 = .ok (.getfield 91, 3) := by decide +kernel
theorem dX7_root_7 : decode cX7_root 7 = .ok (.ifnonnull 7, 3) := by decide +kernel
theorem dX7_root_10 : decode cX7_root 10 = .ok (.aload_n 0, 1) := by decide +kernel
theorem dX7_root_11 : decode cX7_root 11 = .ok (.goto 10, 3) := by decide +kernel
theorem dX7_root_14 : decode cX7_root 14 = .ok (.aload_n 0, 1) := by decide +kernel
theorem dX7_root_15 : decode cX7_root 15 = .ok (.getfield 12, 3) := by decide +kernel
theorem dX7_root_18 : decode cX7_root 18 = .ok (.getfield 91, 3) := by decide +kernel
theorem dX7_root_21 : decode cX7_root 21 = .ok (.areturn, 1) := by decide +kernel
theorem dX8_init_0 : decode cX8_init 0 = .ok (.aload_n 0, 1) := by decide +kernel
theorem dX8_init_1 : decode cX8_init 1 = .ok (.invokespecial 3, 3) := by decide +kernel
theorem dX8_init_4 : decode cX8_init 4 = .ok (.aload_n 0, 1) := by decide +kernel
theorem dX8_init_5 : decode cX8_init 5 = .ok (.bipush 24, 2) := by decide +kernel
theorem dX8_init_7 : decode cX8_init 7 = .ok (.newarray .int, 2) := by decide +kernel
theorem dX8_init_9 : decode cX8_init 9 = .ok (.putfield 9, 3) := by decide +kernel
theorem dX8_init_12 : decode cX8_init 12 = .ok (.aload_n 0, 1) := by decide +kernel
theorem dX8_init_13 : decode cX8_init 13 = .ok (.bipush 24, 2) := by decide +kernel
theorem dX8_init_15 : decode cX8_init 15 = .ok (.newarray .int, 2) := by decide +kernel
theorem dX8_init_17 : decode cX8_init 17 = .ok (.putfield 15, 3) := by decide +kernel
theorem dX8_init_20 : decode cX8_init 20 = .ok (.aload_n 0, 1) := by decide +kernel
theorem dX8_init_21 : decode cX8_init 21 = .ok (.bipush 24, 2) := by decide +kernel
theorem dX8_init_23 : decode cX8_init 23 = .ok (.newarray .int, 2) := by decide +kernel
theorem dX8_init_25 : decode cX8_init 25 = .ok (.putfield 18, 3) := by decide +kernel
theorem dX8_init_28 : decode cX8_init 28 = .ok (.aload_n 0, 1) := by decide +kernel
theorem dX8_init_29 : decode cX8_init 29 = .ok (.bipush 24, 2) := by decide +kernel
theorem dX8_init_31 : decode cX8_init 31 = .ok (.newarray .int, 2) := by decide +kernel
theorem dX8_init_33 : decode cX8_init 33 = .ok (.putfield 21, 3) := by decide +kernel
theorem dX8_init_36 : decode cX8_init 36 = .ok (.aload_n 0, 1) := by decide +kernel
theorem dX8_init_37 : decode cX8_init 37 = .ok (.bipush 24, 2) := by decide +kernel
theorem dX8_init_39 : decode cX8_init 39 = .ok (.newarray .int, 2) := by decide +kernel
theorem dX8_init_41 : decode cX8_init 41 = .ok (.putfield 24, 3) := by decide +kernel
theorem dX8_init_44 : decode cX8_init 44 = .ok (.aload_n 0, 1) := by decide +kernel
theorem dX8_init_45 : decode cX8_init 45 = .ok (.bipush 24, 2) := by decide +kernel
theorem dX8_init_47 : decode cX8_init 47 = .ok (.newarray .int, 2) := by decide +kernel
theorem dX8_init_49 : decode cX8_init 49 = .ok (.putfield 27, 3) := by decide +kernel
theorem dX8_init_52 : decode cX8_init 52 = .ok (.return_, 1) := by decide +kernel
theorem dX9_init_0 : decode cX9_init 0 = .ok (.aload_n 0, 1) := by decide +kernel
theorem dX9_init_1 : decode cX9_init 1 = .ok (.invokespecial 3, 3) := by decide +kernel
theorem dX9_init_4 : decode cX9_init 4 = .ok (.aload_n 0, 1) := by decide +kernel
theorem dX9_init_5 : decode cX9_init 5 = .ok (.bipush 8, 2) := by decide +kernel
theorem dX9_init_7 : decode cX9_init 7 = .ok (.newarray .int, 2) := by decide +kernel
theorem dX9_init_9 : decode cX9_init 9 = .ok (.putfield 9, 3) := by decide +kernel
theorem dX9_init_12 : decode cX9_init 12 = .ok (.aload_n 0, 1) := by decide +kernel
theorem dX9_init_13 : decode cX9_init 13 = .ok (.bipush 8, 2) := by decide +kernel
theorem dX9_init_15 : decode cX9_init 15 = .ok (.newarray .int, 2) := by decide +kernel
theorem dX9_init_17 : decode cX9_init 17 = .ok (.putfield 13, 3) := by decide +kernel
theorem dX9_init_20 : decode cX9_init 20 = .ok (.aload_n 0, 1) := by decide +kernel
theorem dX9_init_21 : decode cX9_init 21 = .ok (.bipush 8, 2) := by decide +kernel
theorem dX9_init_23 : decode cX9_init 23 = .ok (.anewarray 16, 3) := by decide +kernel
theorem dX9_init_26 : decode cX9_init 26 = .ok (.putfield 18, 3) := by decide +kernel
theorem dX9_init_29 : decode cX9_init 29 = .ok (.aload_n 0, 1) := by decide +kernel
theorem dX9_init_30 : decode cX9_init 30 = .ok (.new 22, 3) := by decide +kernel
theorem dX9_init_33 : decode cX9_init 33 = .ok (.dup, 1) := by decide +kernel
theorem dX9_init_34 : decode cX9_init 34 = .ok (.invokespecial 24, 3) := by decide +kernel
theorem dX9_init_37 : decode cX9_init 37 = .ok (.putfield 25, 3) := by decide +kernel
theorem dX9_init_40 : decode cX9_init 40 = .ok (.aload_n 0, 1) := by decide +kernel
theorem dX9_init_41 : decode cX9_init 41 = .ok (.sipush 200, 3) := by decide +kernel
theorem dX9_init_44 : decode cX9_init 44 = .ok (.anewarray 29, 3) := by decide +kernel
theorem dX9_init_47 : decode cX9_init 47 = .ok (.putfield 31, 3) := by decide +kernel
theorem dX9_init_50 : decode cX9_init 50 = .ok (.aload_n 0, 1) := by decide +kernel
theorem dX9_init_51 : decode cX9_init 51 = .ok (.bipush 6, 2) := by decide +kernel
theorem dX9_init_53 : decode cX9_init 53 = .ok (.anewarray 29, 3) := by decide +kernel
theorem dX9_init_56 : decode cX9_init 56 = .ok (.putfield 35, 3) := by decide +kernel
theorem dX9_init_59 : decode cX9_init 59 = .ok (.aload_n 0, 1) := by decide +kernel
theorem dX9_init_60 : decode cX9_init 60 = .ok (.iconst 2, 1) := by decide +kernel
theorem dX9_init_61 : decode cX9_init 61 = .ok (.putfield 38, 3) := by decide +kernel
theorem dX9_init_64 : decode cX9_init 64 = .ok (.aload_n 0, 1) := by decide +kernel
theorem dX9_init_65 : decode cX9_init 65 = .ok (.new 42, 3) := by decide +kernel
theorem dX9_init_68 : decode cX9_init 68 = .ok (.dup, 1) := by decide +kernel
theorem dX9_init_69 : decode cX9_init 69 = .ok (.sipush 1000, 3) := by decide +kernel
theorem dX9_init_72 : decode cX9_init 72 = .ok (.invokespecial 44, 3) := by decide +kernel
theorem dX9_init_75 : decode cX9_init 75 = .ok (.putfield 47, 3) := by decide +kernel
theorem dX9_init_78 : decode cX9_init 78 = .ok (.aload_n 0, 1) := by decide +kernel
theorem dX9_init_79 : decode cX9_init 79 = .ok (.new 42, 3) := by decide +kernel
theorem dX9_init_82 : decode cX9_init 82 = .ok (.dup, 1) := by decide +kernel
theorem dX9_init_83 : decode cX9_init 83 = .ok (.sipush 600, 3) := by decide +kernel
theorem dX9_init_86 : decode cX9_init 86 = .ok (.invokespecial 44, 3) := by decide +kernel
theorem dX9_init_89 : decode cX9_init 89 = .ok (.putfield 51, 3) := by decide +kernel
theorem dX9_init_92 : decode cX9_init 92 = .ok (.aload_n 0, 1) := by decide +kernel
theorem dX9_init_93 : decode cX9_init 93 = .ok (.new 54, 3) := by decide +kernel
theorem dX9_init_96 : decode cX9_init 96 = .ok (.dup, 1) := by decide +kernel
theorem dX9_init_97 : decode cX9_init 97 = .ok (.sipush 2000, 3) := by decide +kernel
theorem dX9_init_100 : decode cX9_init 100 = .ok (.invokespecial 56, 3) := by decide +kernel
theorem dX9_init_103 : decode cX9_init 103 = .ok (.putfield 57, 3) := by decide +kernel
theorem dX9_init_106 : decode cX9_init 106 = .ok (.iconst 0, 1) := by decide +kernel
theorem dX9_init_107 : decode cX9_init 107 = .ok (.istore_n 1, 1) := by decide +kernel
theorem dX9_init_108 : decode cX9_init 108 = .ok (.iload_n 1, 1) := by decide +kernel
theorem dX9_init_109 : decode cX9_init 109 = .ok (.bipush 8, 2) := by decide +kernel
theorem dX9_init_111 : decode cX9_init 111 = .ok (.if_icmp .ge 22, 3) := by decide +kernel
theorem dX9_init_114 : decode cX9_init 114 = .ok (.aload_n 0, 1) := by decide +kernel
theorem dX9_init_115 : decode cX9_init 115 = .ok (.getfield 18, 3) := by decide +kernel
theorem dX9_init_118 : decode cX9_init 118 = .ok (.iload_n 1, 1) := by decide +kernel
theorem dX9_init_119 : decode cX9_init 119 = .ok (.new 16, 3) := by decide +kernel
theorem dX9_init_122 : decode cX9_init 122 = .ok (.dup, 1) := by decide +kernel
theorem dX9_init_123 : decode cX9_init 123 = .ok (.invokespecial 61, 3) := by decide +kernel
theorem dX9_init_126 : decode cX9_init 126 = .ok (.aastore, 1) := by decide +kernel
theorem dX9_init_127 : decode cX9_init 127 = .ok (.iinc 1 1, 3) := by decide +kernel
theorem dX9_init_130 : decode cX9_init 130 = .ok (.goto (-22), 3) := by decide +kernel
theorem dX9_init_133 : decode cX9_init 133 = .ok (.return_, 1) := by decide +kernel
theorem dX9_slot_0 : decode cX9_slot 0 = .ok (.iload_n 1, 1) := by decide +kernel
theorem dX9_slot_1 : decode cX9_slot 1 = .ok (.invokestatic 62, 3) := by decide +kernel
theorem dX9_slot_4 : decode cX9_slot 4 = .ok (.ifCond .eq 19, 3) := by decide +kernel
theorem dX9_slot_7 : decode cX9_slot 7 = .ok (.iload_n 2, 1) := by decide +kernel
theorem dX9_slot_8 : decode cX9_slot 8 = .ok (.ifCond .lt 15, 3) := by decide +kernel
theorem dX9_slot_11 : decode cX9_slot 11 = .ok (.iload_n 2, 1) := by decide +kernel
theorem dX9_slot_12 : decode cX9_slot 12 = .ok (.iconst 4, 1) := by decide +kernel
theorem dX9_slot_13 : decode cX9_slot 13 = .ok (.if_icmp .gt 10, 3) := by decide +kernel
theorem dX9_slot_16 : decode cX9_slot 16 = .ok (.aload_n 0, 1) := by decide +kernel
theorem dX9_slot_17 : decode cX9_slot 17 = .ok (.getfield 66, 3) := by decide +kernel
theorem dX9_slot_20 : decode cX9_slot 20 = .ok (.ifCond .le 5, 3) := by decide +kernel
theorem dX9_slot_23 : decode cX9_slot 23 = .ok (.iconst 0, 1) := by decide +kernel
theorem dX9_slot_24 : decode cX9_slot 24 = .ok (.ireturn, 1) := by decide +kernel
theorem dX9_slot_25 : decode cX9_slot 25 = .ok (.aload_n 0, 1) := by decide +kernel
theorem dX9_slot_26 : decode cX9_slot 26 = .ok (.getfield 9, 3) := by decide +kernel
theorem dX9_slot_29 : decode cX9_slot 29 = .ok (.iload_n 1, 1) := by decide +kernel
theorem dX9_slot_30 : decode cX9_slot 30 = .ok (.iload_n 2, 1) := by decide +kernel
theorem dX9_slot_31 : decode cX9_slot 31 = .ok (.iastore, 1) := by decide +kernel
theorem dX9_slot_32 : decode cX9_slot 32 = .ok (.aload_n 0, 1) := by decide +kernel
theorem dX9_slot_33 : decode cX9_slot 33 = .ok (.getfield 13, 3) := by decide +kernel
theorem dX9_slot_36 : decode cX9_slot 36 = .ok (.iload_n 1, 1) := by decide +kernel
theorem dX9_slot_37 : decode cX9_slot 37 = .ok (.iload_n 3, 1) := by decide +kernel
theorem dX9_slot_38 : decode cX9_slot 38 = .ok (.iastore, 1) := by decide +kernel
theorem dX9_slot_39 : decode cX9_slot 39 = .ok (.iconst 1, 1) := by decide +kernel
theorem dX9_slot_40 : decode cX9_slot 40 = .ok (.ireturn, 1) := by decide +kernel
theorem dX9_first_0 : decode cX9_first 0 = .ok (.iload_n 1, 1) := by decide +kernel
theorem dX9_first_1 : decode cX9_first 1 = .ok (.invokestatic 62, 3) := by decide +kernel
theorem dX9_first_4 : decode cX9_first 4 = .ok (.ifCond .ne 5, 3) := by decide +kernel
theorem dX9_first_7 : decode cX9_first 7 = .ok (.iconst 0, 1) := by decide +kernel
theorem dX9_first_8 : decode cX9_first 8 = .ok (.ireturn, 1) := by decide +kernel
theorem dX9_first_9 : decode cX9_first 9 = .ok (.aload_n 0, 1) := by decide +kernel
theorem dX9_first_10 : decode cX9_first 10 = .ok (.getfield 13, 3) := by decide +kernel
theorem dX9_first_13 : decode cX9_first 13 = .ok (.iload_n 1, 1) := by decide +kernel
theorem dX9_first_14 : decode cX9_first 14 = .ok (.iload_n 2, 1) := by decide +kernel
theorem dX9_first_15 : decode cX9_first 15 = .ok (.iastore, 1) := by decide +kernel
theorem dX9_first_16 : decode cX9_first 16 = .ok (.iconst 1, 1) := by decide +kernel
theorem dX9_first_17 : decode cX9_first 17 = .ok (.ireturn, 1) := by decide +kernel
theorem dX9_step_0 : decode cX9_step 0 = .ok (.aload_n 0, 1) := by decide +kernel
theorem dX9_step_1 : decode cX9_step 1 = .ok (.iload_n 1, 1) := by decide +kernel
theorem dX9_step_2 : decode cX9_step 2 = .ok (.invokevirtual 69, 3) := by decide +kernel
theorem dX9_step_5 : decode cX9_step 5 = .ok (.astore 5, 2) := by decide +kernel
theorem dX9_step_7 : decode cX9_step 7 = .ok (.aload 5, 2) := by decide +kernel
theorem dX9_step_9 : decode cX9_step 9 = .ok (.ifnull 10, 3) := by decide +kernel
theorem dX9_step_12 : decode cX9_step 12 = .ok (.aload_n 0, 1) := by decide +kernel
theorem dX9_step_13 : decode cX9_step 13 = .ok (.getfield 66, 3) := by decide +kernel
theorem dX9_step_16 : decode cX9_step 16 = .ok (.ifCond .le 5, 3) := by decide +kernel
theorem dX9_step_19 : decode cX9_step 19 = .ok (.iconst (-1), 1) := by decide +kernel
theorem dX9_step_20 : decode cX9_step 20 = .ok (.ireturn, 1) := by decide +kernel
theorem dX9_step_21 : decode cX9_step 21 = .ok (.aload 5, 2) := by decide +kernel
theorem dX9_step_23 : decode cX9_step 23 = .ok (.getfield 73, 3) := by decide +kernel
theorem dX9_step_26 : decode cX9_step 26 = .ok (.bipush 24, 2) := by decide +kernel
theorem dX9_step_28 : decode cX9_step 28 = .ok (.if_icmp .ge 18, 3) := by decide +kernel
theorem dX9_step_31 : decode cX9_step 31 = .ok (.iload_n 2, 1) := by decide +kernel
theorem dX9_step_32 : decode cX9_step 32 = .ok (.iload_n 3, 1) := by decide +kernel
theorem dX9_step_33 : decode cX9_step 33 = .ok (.iload 4, 2) := by decide +kernel
theorem dX9_step_35 : decode cX9_step 35 = .ok (.aload 5, 2) := by decide +kernel
theorem dX9_step_37 : decode cX9_step 37 = .ok (.getfield 73, 3) := by decide +kernel
theorem dX9_step_40 : decode cX9_step 40 = .ok (.invokestatic 76, 3) := by decide +kernel
theorem dX9_step_43 : decode cX9_step 43 = .ok (.ifCond .ne 5, 3) := by decide +kernel
theorem dX9_step_46 : decode cX9_step 46 = .ok (.iconst (-1), 1) := by decide +kernel
theorem dX9_step_47 : decode cX9_step 47 = .ok (.ireturn, 1) := by decide +kernel
theorem dX9_step_48 : decode cX9_step 48 = .ok (.aload 5, 2) := by decide +kernel
theorem dX9_step_50 : decode cX9_step 50 = .ok (.iload_n 2, 1) := by decide +kernel
theorem dX9_step_51 : decode cX9_step 51 = .ok (.iload_n 3, 1) := by decide +kernel
theorem dX9_step_52 : decode cX9_step 52 = .ok (.iload 4, 2) := by decide +kernel
theorem dX9_step_54 : decode cX9_step 54 = .ok (.invokevirtual 80, 3) := by decide +kernel
theorem dX9_step_57 : decode cX9_step 57 = .ok (.aload 5, 2) := by decide +kernel
theorem dX9_step_59 : decode cX9_step 59 = .ok (.getfield 73, 3) := by decide +kernel
theorem dX9_step_62 : decode cX9_step 62 = .ok (.ireturn, 1) := by decide +kernel
theorem dX9_anew_0 : decode cX9_anew 0 = .ok (.aload_n 0, 1) := by decide +kernel
theorem dX9_anew_1 : decode cX9_anew 1 = .ok (.iconst 0, 1) := by decide +kernel
theorem dX9_anew_2 : decode cX9_anew 2 = .ok (.putfield 66, 3) := by decide +kernel
theorem dX9_anew_5 : decode cX9_anew 5 = .ok (.aload_n 0, 1) := by decide +kernel
theorem dX9_anew_6 : decode cX9_anew 6 = .ok (.iconst 0, 1) := by decide +kernel
theorem dX9_anew_7 : decode cX9_anew 7 = .ok (.putfield 84, 3) := by decide +kernel
theorem dX9_anew_10 : decode cX9_anew 10 = .ok (.iconst 0, 1) := by decide +kernel
theorem dX9_anew_11 : decode cX9_anew 11 = .ok (.istore_n 2, 1) := by decide +kernel
theorem dX9_anew_12 : decode cX9_anew 12 = .ok (.iload_n 2, 1) := by decide +kernel
theorem dX9_anew_13 : decode cX9_anew 13 = .ok (.bipush 6, 2) := by decide +kernel
theorem dX9_anew_15 : decode cX9_anew 15 = .ok (.if_icmp .ge 16, 3) := by decide +kernel
theorem dX9_anew_18 : decode cX9_anew 18 = .ok (.aload_n 0, 1) := by decide +kernel
theorem dX9_anew_19 : decode cX9_anew 19 = .ok (.getfield 35, 3) := by decide +kernel
theorem dX9_anew_22 : decode cX9_anew 22 = .ok (.iload_n 2, 1) := by decide +kernel
theorem dX9_anew_23 : decode cX9_anew 23 = .ok (.aconst_null, 1) := by decide +kernel
theorem dX9_anew_24 : decode cX9_anew 24 = .ok (.aastore, 1) := by decide +kernel
theorem dX9_anew_25 : decode cX9_anew 25 = .ok (.iinc 2 1, 3) := by decide +kernel
theorem dX9_anew_28 : decode cX9_anew 28 = .ok (.goto (-16), 3) := by decide +kernel
theorem dX9_anew_31 : decode cX9_anew 31 = .ok (.aload_n 0, 1) := by decide +kernel
theorem dX9_anew_32 : decode cX9_anew 32 = .ok (.getfield 47, 3) := by decide +kernel
theorem dX9_anew_35 : decode cX9_anew 35 = .ok (.invokevirtual 87, 3) := by decide +kernel
theorem dX9_anew_38 : decode cX9_anew 38 = .ok (.aload_n 0, 1) := by decide +kernel
theorem dX9_anew_39 : decode cX9_anew 39 = .ok (.iconst 0, 1) := by decide +kernel
theorem dX9_anew_40 : decode cX9_anew 40 = .ok (.putfield 90, 3) := by decide +kernel
theorem dX9_anew_43 : decode cX9_anew 43 = .ok (.aload_n 0, 1) := by decide +kernel
theorem dX9_anew_44 : decode cX9_anew 44 = .ok (.getfield 51, 3) := by decide +kernel
theorem dX9_anew_47 : decode cX9_anew 47 = .ok (.invokevirtual 87, 3) := by decide +kernel
theorem dX9_anew_50 : decode cX9_anew 50 = .ok (.aload_n 0, 1) := by decide +kernel
theorem dX9_anew_51 : decode cX9_anew 51 = .ok (.iconst 0, 1) := by decide +kernel
theorem dX9_anew_52 : decode cX9_anew 52 = .ok (.putfield 93, 3) := by decide +kernel
theorem dX9_anew_55 : decode cX9_anew 55 = .ok (.aload_n 0, 1) := by decide +kernel
theorem dX9_anew_56 : decode cX9_anew 56 = .ok (.getfield 57, 3) := by decide +kernel
theorem dX9_anew_59 : decode cX9_anew 59 = .ok (.invokevirtual 96, 3) := by decide +kernel
theorem dX9_anew_62 : decode cX9_anew 62 = .ok (.aload_n 0, 1) := by decide +kernel
theorem dX9_anew_63 : decode cX9_anew 63 = .ok (.iconst 0, 1) := by decide +kernel
theorem dX9_anew_64 : decode cX9_anew 64 = .ok (.putfield 97, 3) := by decide +kernel
theorem dX9_anew_67 : decode cX9_anew 67 = .ok (.iload_n 1, 1) := by decide +kernel
theorem dX9_anew_68 : decode cX9_anew 68 = .ok (.ifCond .eq 7, 3) := by decide +kernel
theorem dX9_anew_71 : decode cX9_anew 71 = .ok (.aload_n 0, 1) := by decide +kernel
theorem dX9_anew_72 : decode cX9_anew 72 = .ok (.invokevirtual 100, 3) := by decide +kernel
theorem dX9_anew_75 : decode cX9_anew 75 = .ok (.return_, 1) := by decide +kernel
theorem dX9_threads_0 : decode cX9_threads 0 = .ok (.iload_n 1, 1) := by decide +kernel
theorem dX9_threads_1 : decode cX9_threads 1 = .ok (.iconst 1, 1) := by decide +kernel
theorem dX9_threads_2 : decode cX9_threads 2 = .ok (.if_icmp .lt 16, 3) := by decide +kernel
theorem dX9_threads_5 : decode cX9_threads 5 = .ok (.iload_n 1, 1) := by decide +kernel
theorem dX9_threads_6 : decode cX9_threads 6 = .ok (.bipush 6, 2) := by decide +kernel
theorem dX9_threads_8 : decode cX9_threads 8 = .ok (.if_icmp .gt 10, 3) := by decide +kernel
theorem dX9_threads_11 : decode cX9_threads 11 = .ok (.aload_n 0, 1) := by decide +kernel
theorem dX9_threads_12 : decode cX9_threads 12 = .ok (.getfield 66, 3) := by decide +kernel
theorem dX9_threads_15 : decode cX9_threads 15 = .ok (.ifCond .le 5, 3) := by decide +kernel
theorem dX9_threads_18 : decode cX9_threads 18 = .ok (.iconst 0, 1) := by decide +kernel
theorem dX9_threads_19 : decode cX9_threads 19 = .ok (.ireturn, 1) := by decide +kernel
theorem dX9_threads_20 : decode cX9_threads 20 = .ok (.aload_n 0, 1) := by decide +kernel
theorem dX9_threads_21 : decode cX9_threads 21 = .ok (.iload_n 1, 1) := by decide +kernel
theorem dX9_threads_22 : decode cX9_threads 22 = .ok (.putfield 38, 3) := by decide +kernel
theorem dX9_threads_25 : decode cX9_threads 25 = .ok (.iconst 1, 1) := by decide +kernel
theorem dX9_threads_26 : decode cX9_threads 26 = .ok (.ireturn, 1) := by decide +kernel
theorem dX9_handler_0 : decode cX9_handler 0 = .ok (.iload_n 1, 1) := by decide +kernel
theorem dX9_handler_1 : decode cX9_handler 1 = .ok (.iload_n 2, 1) := by decide +kernel
theorem dX9_handler_2 : decode cX9_handler 2 = .ok (.invokestatic 103, 3) := by decide +kernel
theorem dX9_handler_5 : decode cX9_handler 5 = .ok (.istore 5, 2) := by decide +kernel
theorem dX9_handler_7 : decode cX9_handler 7 = .ok (.iload 5, 2) := by decide +kernel
theorem dX9_handler_9 : decode cX9_handler 9 = .ok (.iconst (-1), 1) := by decide +kernel
theorem dX9_handler_10 : decode cX9_handler 10 = .ok (.if_icmp .ne 5, 3) := by decide +kernel
theorem dX9_handler_13 : decode cX9_handler 13 = .ok (.iconst 0, 1) := by decide +kernel
theorem dX9_handler_14 : decode cX9_handler 14 = .ok (.ireturn, 1) := by decide +kernel
theorem dX9_handler_15 : decode cX9_handler 15 = .ok (.aload_n 0, 1) := by decide +kernel
theorem dX9_handler_16 : decode cX9_handler 16 = .ok (.getfield 25, 3) := by decide +kernel
theorem dX9_handler_19 : decode cX9_handler 19 = .ok (.iload 5, 2) := by decide +kernel
theorem dX9_handler_21 : decode cX9_handler 21 = .ok (.iload_n 3, 1) := by decide +kernel
theorem dX9_handler_22 : decode cX9_handler 22 = .ok (.iload 4, 2) := by decide +kernel
theorem dX9_handler_24 : decode cX9_handler 24 = .ok (.invokevirtual 107, 3) := by decide +kernel
theorem dX9_handler_27 : decode cX9_handler 27 = .ok (.iconst 1, 1) := by decide +kernel
theorem dX9_handler_28 : decode cX9_handler 28 = .ok (.ireturn, 1) := by decide +kernel
theorem dX9_submit_0 : decode cX9_submit 0 = .ok (.iload_n 1, 1) := by decide +kernel
theorem dX9_submit_1 : decode cX9_submit 1 = .ok (.invokestatic 111, 3) := by decide +kernel
theorem dX9_submit_4 : decode cX9_submit 4 = .ok (.ifCond .ne 5, 3) := by decide +kernel
theorem dX9_submit_7 : decode cX9_submit 7 = .ok (.iconst (-1), 1) := by decide +kernel
theorem dX9_submit_8 : decode cX9_submit 8 = .ok (.ireturn, 1) := by decide +kernel
theorem dX9_submit_9 : decode cX9_submit 9 = .ok (.aload_n 0, 1) := by decide +kernel
theorem dX9_submit_10 : decode cX9_submit 10 = .ok (.iload_n 1, 1) := by decide +kernel
theorem dX9_submit_11 : decode cX9_submit 11 = .ok (.aconst_null, 1) := by decide +kernel
theorem dX9_submit_12 : decode cX9_submit 12 = .ok (.invokevirtual 114, 3) := by decide +kernel
theorem dX9_submit_15 : decode cX9_submit 15 = .ok (.astore_n 2, 1) := by decide +kernel
theorem dX9_submit_16 : decode cX9_submit 16 = .ok (.aload_n 2, 1) := by decide +kernel
theorem dX9_submit_17 : decode cX9_submit 17 = .ok (.ifnonnull 7, 3) := by decide +kernel
theorem dX9_submit_20 : decode cX9_submit 20 = .ok (.iconst (-1), 1) := by decide +kernel
theorem dX9_submit_21 : decode cX9_submit 21 = .ok (.goto 7, 3) := by decide +kernel
theorem dX9_submit_24 : decode cX9_submit 24 = .ok (.aload_n 2, 1) := by decide +kernel
theorem dX9_submit_25 : decode cX9_submit 25 = .ok (.getfield 118, 3) := by decide +kernel
theorem dX9_submit_28 : decode cX9_submit 28 = .ok (.ireturn, 1) := by decide +kernel
theorem dX9_beat_0 : decode cX9_beat 0 = .ok (.iload_n 1, 1) := by decide +kernel
theorem dX9_beat_1 : decode cX9_beat 1 = .ok (.iconst 1, 1) := by decide +kernel
theorem dX9_beat_2 : decode cX9_beat 2 = .ok (.if_icmp .lt 9, 3) := by decide +kernel
theorem dX9_beat_5 : decode cX9_beat 5 = .ok (.iload_n 1, 1) := by decide +kernel
theorem dX9_beat_6 : decode cX9_beat 6 = .ok (.bipush 100, 2) := by decide +kernel
theorem dX9_beat_8 : decode cX9_beat 8 = .ok (.if_icmp .le 5, 3) := by decide +kernel
theorem dX9_beat_11 : decode cX9_beat 11 = .ok (.iconst (-1), 1) := by decide +kernel
theorem dX9_beat_12 : decode cX9_beat 12 = .ok (.ireturn, 1) := by decide +kernel
theorem dX9_beat_13 : decode cX9_beat 13 = .ok (.iconst 0, 1) := by decide +kernel
theorem dX9_beat_14 : decode cX9_beat 14 = .ok (.istore_n 2, 1) := by decide +kernel
theorem dX9_beat_15 : decode cX9_beat 15 = .ok (.iload_n 2, 1) := by decide +kernel
theorem dX9_beat_16 : decode cX9_beat 16 = .ok (.iload_n 1, 1) := by decide +kernel
theorem dX9_beat_17 : decode cX9_beat 17 = .ok (.if_icmp .ge 38, 3) := by decide +kernel
theorem dX9_beat_20 : decode cX9_beat 20 = .ok (.aload_n 0, 1) := by decide +kernel
theorem dX9_beat_21 : decode cX9_beat 21 = .ok (.invokevirtual 121, 3) := by decide +kernel
theorem dX9_beat_24 : decode cX9_beat 24 = .ok (.ifCond .eq 31, 3) := by decide +kernel
theorem dX9_beat_27 : decode cX9_beat 27 = .ok (.aload_n 0, 1) := by decide +kernel
theorem dX9_beat_28 : decode cX9_beat 28 = .ok (.dup, 1) := by decide +kernel
theorem dX9_beat_29 : decode cX9_beat 29 = .ok (.getfield 84, 3) := by decide +kernel
theorem dX9_beat_32 : decode cX9_beat 32 = .ok (.iconst 1, 1) := by decide +kernel
theorem dX9_beat_33 : decode cX9_beat 33 = .ok (.iadd, 1) := by decide +kernel
theorem dX9_beat_34 : decode cX9_beat 34 = .ok (.putfield 84, 3) := by decide +kernel
theorem dX9_beat_37 : decode cX9_beat 37 = .ok (.aload_n 0, 1) := by decide +kernel
theorem dX9_beat_38 : decode cX9_beat 38 = .ok (.invokevirtual 125, 3) := by decide +kernel
theorem dX9_beat_41 : decode cX9_beat 41 = .ok (.aload_n 0, 1) := by decide +kernel
theorem dX9_beat_42 : decode cX9_beat 42 = .ok (.invokevirtual 128, 3) := by decide +kernel
theorem dX9_beat_45 : decode cX9_beat 45 = .ok (.aload_n 0, 1) := by decide +kernel
theorem dX9_beat_46 : decode cX9_beat 46 = .ok (.invokevirtual 131, 3) := by decide +kernel
theorem dX9_beat_49 : decode cX9_beat 49 = .ok (.iinc 2 1, 3) := by decide +kernel
theorem dX9_beat_52 : decode cX9_beat 52 = .ok (.goto (-37), 3) := by decide +kernel
theorem dX9_beat_55 : decode cX9_beat 55 = .ok (.iload_n 2, 1) := by decide +kernel
theorem dX9_beat_56 : decode cX9_beat 56 = .ok (.ireturn, 1) := by decide +kernel
theorem dX9_interrupt_0 : decode cX9_interrupt 0 = .ok (.aload_n 0, 1) := by decide +kernel
theorem dX9_interrupt_1 : decode cX9_interrupt 1 = .ok (.iload_n 1, 1) := by decide +kernel
theorem dX9_interrupt_2 : decode cX9_interrupt 2 = .ok (.invokevirtual 134, 3) := by decide +kernel
theorem dX9_interrupt_5 : decode cX9_interrupt 5 = .ok (.astore_n 2, 1) := by decide +kernel
theorem dX9_interrupt_6 : decode cX9_interrupt 6 = .ok (.aload_n 2, 1) := by decide +kernel
theorem dX9_interrupt_7 : decode cX9_interrupt 7 = .ok (.ifnull 17, 3) := by decide +kernel
theorem dX9_interrupt_10 : decode cX9_interrupt 10 = .ok (.aload_n 2, 1) := by decide +kernel
theorem dX9_interrupt_11 : decode cX9_interrupt 11 = .ok (.invokevirtual 138, 3) := by decide +kernel
theorem dX9_interrupt_14 : decode cX9_interrupt 14 = .ok (.ifCond .ne 10, 3) := by decide +kernel
theorem dX9_interrupt_17 : decode cX9_interrupt 17 = .ok (.aload_n 2, 1) := by decide +kernel
theorem dX9_interrupt_18 : decode cX9_interrupt 18 = .ok (.getfield 141, 3) := by decide +kernel
theorem dX9_interrupt_21 : decode cX9_interrupt 21 = .ok (.ifCond .eq 5, 3) := by decide +kernel
theorem dX9_interrupt_24 : decode cX9_interrupt 24 = .ok (.iconst 0, 1) := by decide +kernel
theorem dX9_interrupt_25 : decode cX9_interrupt 25 = .ok (.ireturn, 1) := by decide +kernel
theorem dX9_interrupt_26 : decode cX9_interrupt 26 = .ok (.aload_n 2, 1) := by decide +kernel
theorem dX9_interrupt_27 : decode cX9_interrupt 27 = .ok (.iconst 1, 1) := by decide +kernel
theorem dX9_interrupt_28 : decode cX9_interrupt 28 = .ok (.putfield 141, 3) := by decide +kernel
theorem dX9_interrupt_31 : decode cX9_interrupt 31 = .ok (.aload_n 2, 1) := by decide +kernel
theorem dX9_interrupt_32 : decode cX9_interrupt 32 = .ok (.getfield 145, 3) := by decide +kernel
theorem dX9_interrupt_35 : decode cX9_interrupt 35 = .ok (.iconst 2, 1) := by decide +kernel
theorem dX9_interrupt_36 : decode cX9_interrupt 36 = .ok (.if_icmp .ne 8, 3) := by decide +kernel
theorem dX9_interrupt_39 : decode cX9_interrupt 39 = .ok (.aload_n 2, 1) := by decide +kernel
theorem dX9_interrupt_40 : decode cX9_interrupt 40 = .ok (.iconst 0, 1) := by decide +kernel
theorem dX9_interrupt_41 : decode cX9_interrupt 41 = .ok (.putfield 145, 3) := by decide +kernel
theorem dX9_interrupt_44 : decode cX9_interrupt 44 = .ok (.iconst 1, 1) := by decide +kernel
theorem dX9_interrupt_45 : decode cX9_interrupt 45 = .ok (.ireturn, 1) := by decide +kernel
theorem dX9_run_0 : decode cX9_run 0 = .ok (.aload_n 0, 1) := by decide +kernel
theorem dX9_run_1 : decode cX9_run 1 = .ok (.iload_n 1, 1) := by decide +kernel
theorem dX9_run_2 : decode cX9_run 2 = .ok (.invokevirtual 134, 3) := by decide +kernel
theorem dX9_run_5 : decode cX9_run 5 = .ok (.astore_n 3, 1) := by decide +kernel
theorem dX9_run_6 : decode cX9_run 6 = .ok (.aload_n 3, 1) := by decide +kernel
theorem dX9_run_7 : decode cX9_run 7 = .ok (.ifnonnull 5, 3) := by decide +kernel
theorem dX9_run_10 : decode cX9_run 10 = .ok (.iconst (-1), 1) := by decide +kernel
theorem dX9_run_11 : decode cX9_run 11 = .ok (.ireturn, 1) := by decide +kernel
theorem dX9_run_12 : decode cX9_run 12 = .ok (.iload_n 2, 1) := by decide +kernel
theorem dX9_run_13 : decode cX9_run 13 = .ok (.tableswitch 167 0 12 #[67, 72, 77, 102, 110, 118, 123, 128, 133, 141, 149, 154, 162], 67) := by decide +kernel
theorem dX9_run_80 : decode cX9_run 80 = .ok (.aload_n 3, 1) := by decide +kernel
theorem dX9_run_81 : decode cX9_run 81 = .ok (.getfield 145, 3) := by decide +kernel
theorem dX9_run_84 : decode cX9_run 84 = .ok (.ireturn, 1) := by decide +kernel
theorem dX9_run_85 : decode cX9_run 85 = .ok (.aload_n 3, 1) := by decide +kernel
theorem dX9_run_86 : decode cX9_run 86 = .ok (.getfield 148, 3) := by decide +kernel
theorem dX9_run_89 : decode cX9_run 89 = .ok (.ireturn, 1) := by decide +kernel
theorem dX9_run_90 : decode cX9_run 90 = .ok (.aload_n 3, 1) := by decide +kernel
theorem dX9_run_91 : decode cX9_run 91 = .ok (.getfield 151, 3) := by decide +kernel
theorem dX9_run_94 : decode cX9_run 94 = .ok (.getfield 155, 3) := by decide +kernel
theorem dX9_run_97 : decode cX9_run 97 = .ok (.ifnonnull 7, 3) := by decide +kernel
theorem dX9_run_100 : decode cX9_run 100 = .ok (.iconst (-1), 1) := by decide +kernel
theorem dX9_run_101 : decode cX9_run 101 = .ok (.goto 13, 3) := by decide +kernel
theorem dX9_run_104 : decode cX9_run 104 = .ok (.aload_n 3, 1) := by decide +kernel
theorem dX9_run_105 : decode cX9_run 105 = .ok (.getfield 151, 3) := by decide +kernel
theorem dX9_run_108 : decode cX9_run 108 = .ok (.getfield 155, 3) := by decide +kernel
theorem dX9_run_111 : decode cX9_run 111 = .ok (.getfield 118, 3) := by decide +kernel
theorem dX9_run_114 : decode cX9_run 114 = .ok (.ireturn, 1) := by decide +kernel
theorem dX9_run_115 : decode cX9_run 115 = .ok (.aload_n 3, 1) := by decide +kernel
theorem dX9_run_116 : decode cX9_run 116 = .ok (.invokevirtual 161, 3) := by decide +kernel
theorem dX9_run_119 : decode cX9_run 119 = .ok (.getfield 118, 3) := by decide +kernel
theorem dX9_run_122 : decode cX9_run 122 = .ok (.ireturn, 1) := by decide +kernel
theorem dX9_run_123 : decode cX9_run 123 = .ok (.aload_n 3, 1) := by decide +kernel
theorem dX9_run_124 : decode cX9_run 124 = .ok (.getfield 151, 3) := by decide +kernel
theorem dX9_run_127 : decode cX9_run 127 = .ok (.getfield 165, 3) := by decide +kernel
theorem dX9_run_130 : decode cX9_run 130 = .ok (.ireturn, 1) := by decide +kernel
theorem dX9_run_131 : decode cX9_run 131 = .ok (.aload_n 3, 1) := by decide +kernel
theorem dX9_run_132 : decode cX9_run 132 = .ok (.getfield 168, 3) := by decide +kernel
theorem dX9_run_135 : decode cX9_run 135 = .ok (.ireturn, 1) := by decide +kernel
theorem dX9_run_136 : decode cX9_run 136 = .ok (.aload_n 3, 1) := by decide +kernel
theorem dX9_run_137 : decode cX9_run 137 = .ok (.getfield 171, 3) := by decide +kernel
theorem dX9_run_140 : decode cX9_run 140 = .ok (.ireturn, 1) := by decide +kernel
theorem dX9_run_141 : decode cX9_run 141 = .ok (.aload_n 3, 1) := by decide +kernel
theorem dX9_run_142 : decode cX9_run 142 = .ok (.getfield 174, 3) := by decide +kernel
theorem dX9_run_145 : decode cX9_run 145 = .ok (.ireturn, 1) := by decide +kernel
theorem dX9_run_146 : decode cX9_run 146 = .ok (.aload_n 3, 1) := by decide +kernel
theorem dX9_run_147 : decode cX9_run 147 = .ok (.getfield 177, 3) := by decide +kernel
theorem dX9_run_150 : decode cX9_run 150 = .ok (.getfield 181, 3) := by decide +kernel
theorem dX9_run_153 : decode cX9_run 153 = .ok (.ireturn, 1) := by decide +kernel
theorem dX9_run_154 : decode cX9_run 154 = .ok (.aload_n 3, 1) := by decide +kernel
theorem dX9_run_155 : decode cX9_run 155 = .ok (.getfield 177, 3) := by decide +kernel
theorem dX9_run_158 : decode cX9_run 158 = .ok (.getfield 186, 3) := by decide +kernel
theorem dX9_run_161 : decode cX9_run 161 = .ok (.ireturn, 1) := by decide +kernel
theorem dX9_run_162 : decode cX9_run 162 = .ok (.aload_n 3, 1) := by decide +kernel
theorem dX9_run_163 : decode cX9_run 163 = .ok (.getfield 189, 3) := by decide +kernel
theorem dX9_run_166 : decode cX9_run 166 = .ok (.ireturn, 1) := by decide +kernel
theorem dX9_run_167 : decode cX9_run 167 = .ok (.aload_n 3, 1) := by decide +kernel
theorem dX9_run_168 : decode cX9_run 168 = .ok (.getfield 151, 3) := by decide +kernel
theorem dX9_run_171 : decode cX9_run 171 = .ok (.getfield 192, 3) := by decide +kernel
theorem dX9_run_174 : decode cX9_run 174 = .ok (.ireturn, 1) := by decide +kernel
theorem dX9_run_175 : decode cX9_run 175 = .ok (.aload_n 3, 1) := by decide +kernel
theorem dX9_run_176 : decode cX9_run 176 = .ok (.getfield 195, 3) := by decide +kernel
theorem dX9_run_179 : decode cX9_run 179 = .ok (.ireturn, 1) := by decide +kernel
theorem dX9_run_180 : decode cX9_run 180 = .ok (.iconst (-1), 1) := by decide +kernel
theorem dX9_run_181 : decode cX9_run 181 = .ok (.ireturn, 1) := by decide +kernel
theorem dX9_failure_0 : decode cX9_failure 0 = .ok (.aload_n 0, 1) := by decide +kernel
theorem dX9_failure_1 : decode cX9_failure 1 = .ok (.iload_n 1, 1) := by decide +kernel
theorem dX9_failure_2 : decode cX9_failure 2 = .ok (.invokevirtual 198, 3) := by decide +kernel
theorem dX9_failure_5 : decode cX9_failure 5 = .ok (.astore_n 3, 1) := by decide +kernel
theorem dX9_failure_6 : decode cX9_failure 6 = .ok (.aload_n 3, 1) := by decide +kernel
theorem dX9_failure_7 : decode cX9_failure 7 = .ok (.ifnonnull 5, 3) := by decide +kernel
theorem dX9_failure_10 : decode cX9_failure 10 = .ok (.iconst (-1), 1) := by decide +kernel
theorem dX9_failure_11 : decode cX9_failure 11 = .ok (.ireturn, 1) := by decide +kernel
theorem dX9_failure_12 : decode cX9_failure 12 = .ok (.iload_n 2, 1) := by decide +kernel
theorem dX9_failure_13 : decode cX9_failure 13 = .ok (.tableswitch 83 0 4 #[35, 43, 51, 59, 67], 35) := by decide +kernel
theorem dX9_failure_48 : decode cX9_failure 48 = .ok (.aload_n 3, 1) := by decide +kernel
theorem dX9_failure_49 : decode cX9_failure 49 = .ok (.getfield 201, 3) := by decide +kernel
theorem dX9_failure_52 : decode cX9_failure 52 = .ok (.getfield 205, 3) := by decide +kernel
theorem dX9_failure_55 : decode cX9_failure 55 = .ok (.ireturn, 1) := by decide +kernel
theorem dX9_failure_56 : decode cX9_failure 56 = .ok (.aload_n 3, 1) := by decide +kernel
theorem dX9_failure_57 : decode cX9_failure 57 = .ok (.getfield 201, 3) := by decide +kernel
theorem dX9_failure_60 : decode cX9_failure 60 = .ok (.getfield 210, 3) := by decide +kernel
theorem dX9_failure_63 : decode cX9_failure 63 = .ok (.ireturn, 1) := by decide +kernel
theorem dX9_failure_64 : decode cX9_failure 64 = .ok (.aload_n 3, 1) := by decide +kernel
theorem dX9_failure_65 : decode cX9_failure 65 = .ok (.getfield 201, 3) := by decide +kernel
theorem dX9_failure_68 : decode cX9_failure 68 = .ok (.getfield 213, 3) := by decide +kernel
theorem dX9_failure_71 : decode cX9_failure 71 = .ok (.ireturn, 1) := by decide +kernel
theorem dX9_failure_72 : decode cX9_failure 72 = .ok (.aload_n 3, 1) := by decide +kernel
theorem dX9_failure_73 : decode cX9_failure 73 = .ok (.getfield 201, 3) := by decide +kernel
theorem dX9_failure_76 : decode cX9_failure 76 = .ok (.getfield 216, 3) := by decide +kernel
theorem dX9_failure_79 : decode cX9_failure 79 = .ok (.ireturn, 1) := by decide +kernel
theorem dX9_failure_80 : decode cX9_failure 80 = .ok (.aload_n 3, 1) := by decide +kernel
theorem dX9_failure_81 : decode cX9_failure 81 = .ok (.getfield 201, 3) := by decide +kernel
theorem dX9_failure_84 : decode cX9_failure 84 = .ok (.getfield 219, 3) := by decide +kernel
theorem dX9_failure_87 : decode cX9_failure 87 = .ok (.ifCond .eq 7, 3) := by decide +kernel
theorem dX9_failure_90 : decode cX9_failure 90 = .ok (.iconst 1, 1) := by decide +kernel
theorem dX9_failure_91 : decode cX9_failure 91 = .ok (.goto 4, 3) := by decide +kernel
theorem dX9_failure_94 : decode cX9_failure 94 = .ok (.iconst 0, 1) := by decide +kernel
theorem dX9_failure_95 : decode cX9_failure 95 = .ok (.ireturn, 1) := by decide +kernel
theorem dX9_failure_96 : decode cX9_failure 96 = .ok (.iconst (-1), 1) := by decide +kernel
theorem dX9_failure_97 : decode cX9_failure 97 = .ok (.ireturn, 1) := by decide +kernel
theorem dX9_trace_0 : decode cX9_trace 0 = .ok (.aload_n 0, 1) := by decide +kernel
theorem dX9_trace_1 : decode cX9_trace 1 = .ok (.iload_n 1, 1) := by decide +kernel
theorem dX9_trace_2 : decode cX9_trace 2 = .ok (.invokevirtual 198, 3) := by decide +kernel
theorem dX9_trace_5 : decode cX9_trace 5 = .ok (.astore_n 3, 1) := by decide +kernel
theorem dX9_trace_6 : decode cX9_trace 6 = .ok (.aload_n 3, 1) := by decide +kernel
theorem dX9_trace_7 : decode cX9_trace 7 = .ok (.ifnull 18, 3) := by decide +kernel
theorem dX9_trace_10 : decode cX9_trace 10 = .ok (.iload_n 2, 1) := by decide +kernel
theorem dX9_trace_11 : decode cX9_trace 11 = .ok (.ifCond .lt 14, 3) := by decide +kernel
theorem dX9_trace_14 : decode cX9_trace 14 = .ok (.iload_n 2, 1) := by decide +kernel
theorem dX9_trace_15 : decode cX9_trace 15 = .ok (.aload_n 3, 1) := by decide +kernel
theorem dX9_trace_16 : decode cX9_trace 16 = .ok (.getfield 151, 3) := by decide +kernel
theorem dX9_trace_19 : decode cX9_trace 19 = .ok (.getfield 165, 3) := by decide +kernel
theorem dX9_trace_22 : decode cX9_trace 22 = .ok (.if_icmp .le 5, 3) := by decide +kernel
theorem dX9_trace_25 : decode cX9_trace 25 = .ok (.iconst (-1), 1) := by decide +kernel
theorem dX9_trace_26 : decode cX9_trace 26 = .ok (.ireturn, 1) := by decide +kernel
theorem dX9_trace_27 : decode cX9_trace 27 = .ok (.aload_n 3, 1) := by decide +kernel
theorem dX9_trace_28 : decode cX9_trace 28 = .ok (.getfield 201, 3) := by decide +kernel
theorem dX9_trace_31 : decode cX9_trace 31 = .ok (.getfield 210, 3) := by decide +kernel
theorem dX9_trace_34 : decode cX9_trace 34 = .ok (.istore 4, 2) := by decide +kernel
theorem dX9_trace_36 : decode cX9_trace 36 = .ok (.iconst 0, 1) := by decide +kernel
theorem dX9_trace_37 : decode cX9_trace 37 = .ok (.istore 5, 2) := by decide +kernel
theorem dX9_trace_39 : decode cX9_trace 39 = .ok (.iload 5, 2) := by decide +kernel
theorem dX9_trace_41 : decode cX9_trace 41 = .ok (.iload_n 2, 1) := by decide +kernel
theorem dX9_trace_42 : decode cX9_trace 42 = .ok (.if_icmp .ge 32, 3) := by decide +kernel
theorem dX9_trace_45 : decode cX9_trace 45 = .ok (.aload_n 3, 1) := by decide +kernel
theorem dX9_trace_46 : decode cX9_trace 46 = .ok (.getfield 151, 3) := by decide +kernel
theorem dX9_trace_49 : decode cX9_trace 49 = .ok (.getfield 222, 3) := by decide +kernel
theorem dX9_trace_52 : decode cX9_trace 52 = .ok (.istore 4, 2) := by decide +kernel
theorem dX9_trace_54 : decode cX9_trace 54 = .ok (.aload_n 3, 1) := by decide +kernel
theorem dX9_trace_55 : decode cX9_trace 55 = .ok (.getfield 151, 3) := by decide +kernel
theorem dX9_trace_58 : decode cX9_trace 58 = .ok (.getfield 155, 3) := by decide +kernel
theorem dX9_trace_61 : decode cX9_trace 61 = .ok (.astore_n 3, 1) := by decide +kernel
theorem dX9_trace_62 : decode cX9_trace 62 = .ok (.aload_n 3, 1) := by decide +kernel
theorem dX9_trace_63 : decode cX9_trace 63 = .ok (.ifnonnull 5, 3) := by decide +kernel
theorem dX9_trace_66 : decode cX9_trace 66 = .ok (.iconst (-1), 1) := by decide +kernel
theorem dX9_trace_67 : decode cX9_trace 67 = .ok (.ireturn, 1) := by decide +kernel
theorem dX9_trace_68 : decode cX9_trace 68 = .ok (.iinc 5 1, 3) := by decide +kernel
theorem dX9_trace_71 : decode cX9_trace 71 = .ok (.goto (-32), 3) := by decide +kernel
theorem dX9_trace_74 : decode cX9_trace 74 = .ok (.bipush 32, 2) := by decide +kernel
theorem dX9_trace_76 : decode cX9_trace 76 = .ok (.aload_n 3, 1) := by decide +kernel
theorem dX9_trace_77 : decode cX9_trace 77 = .ok (.getfield 148, 3) := by decide +kernel
theorem dX9_trace_80 : decode cX9_trace 80 = .ok (.imul, 1) := by decide +kernel
theorem dX9_trace_81 : decode cX9_trace 81 = .ok (.iload 4, 2) := by decide +kernel
theorem dX9_trace_83 : decode cX9_trace 83 = .ok (.iadd, 1) := by decide +kernel
theorem dX9_trace_84 : decode cX9_trace 84 = .ok (.ireturn, 1) := by decide +kernel
theorem dX9_child_0 : decode cX9_child 0 = .ok (.aload_n 0, 1) := by decide +kernel
theorem dX9_child_1 : decode cX9_child 1 = .ok (.iload_n 1, 1) := by decide +kernel
theorem dX9_child_2 : decode cX9_child 2 = .ok (.invokevirtual 134, 3) := by decide +kernel
theorem dX9_child_5 : decode cX9_child 5 = .ok (.astore_n 3, 1) := by decide +kernel
theorem dX9_child_6 : decode cX9_child 6 = .ok (.aload_n 3, 1) := by decide +kernel
theorem dX9_child_7 : decode cX9_child 7 = .ok (.ifnull 18, 3) := by decide +kernel
theorem dX9_child_10 : decode cX9_child 10 = .ok (.iload_n 2, 1) := by decide +kernel
theorem dX9_child_11 : decode cX9_child 11 = .ok (.ifCond .lt 14, 3) := by decide +kernel
theorem dX9_child_14 : decode cX9_child 14 = .ok (.iload_n 2, 1) := by decide +kernel
theorem dX9_child_15 : decode cX9_child 15 = .ok (.aload_n 3, 1) := by decide +kernel
theorem dX9_child_16 : decode cX9_child 16 = .ok (.getfield 151, 3) := by decide +kernel
theorem dX9_child_19 : decode cX9_child 19 = .ok (.getfield 192, 3) := by decide +kernel
theorem dX9_child_22 : decode cX9_child 22 = .ok (.if_icmp .lt 5, 3) := by decide +kernel
theorem dX9_child_25 : decode cX9_child 25 = .ok (.iconst (-1), 1) := by decide +kernel
theorem dX9_child_26 : decode cX9_child 26 = .ok (.ireturn, 1) := by decide +kernel
theorem dX9_child_27 : decode cX9_child 27 = .ok (.iconst 0, 1) := by decide +kernel
theorem dX9_child_28 : decode cX9_child 28 = .ok (.istore 4, 2) := by decide +kernel
theorem dX9_child_30 : decode cX9_child 30 = .ok (.aload_n 3, 1) := by decide +kernel
theorem dX9_child_31 : decode cX9_child 31 = .ok (.getfield 151, 3) := by decide +kernel
theorem dX9_child_34 : decode cX9_child 34 = .ok (.getfield 225, 3) := by decide +kernel
theorem dX9_child_37 : decode cX9_child 37 = .ok (.astore 5, 2) := by decide +kernel
theorem dX9_child_39 : decode cX9_child 39 = .ok (.aload 5, 2) := by decide +kernel
theorem dX9_child_41 : decode cX9_child 41 = .ok (.ifnull 31, 3) := by decide +kernel
theorem dX9_child_44 : decode cX9_child 44 = .ok (.iload 4, 2) := by decide +kernel
theorem dX9_child_46 : decode cX9_child 46 = .ok (.iload_n 2, 1) := by decide +kernel
theorem dX9_child_47 : decode cX9_child 47 = .ok (.if_icmp .ne 9, 3) := by decide +kernel
theorem dX9_child_50 : decode cX9_child 50 = .ok (.aload 5, 2) := by decide +kernel
theorem dX9_child_52 : decode cX9_child 52 = .ok (.getfield 118, 3) := by decide +kernel
theorem dX9_child_55 : decode cX9_child 55 = .ok (.ireturn, 1) := by decide +kernel
theorem dX9_child_56 : decode cX9_child 56 = .ok (.iinc 4 1, 3) := by decide +kernel
theorem dX9_child_59 : decode cX9_child 59 = .ok (.aload 5, 2) := by decide +kernel
theorem dX9_child_61 : decode cX9_child 61 = .ok (.getfield 151, 3) := by decide +kernel
theorem dX9_child_64 : decode cX9_child 64 = .ok (.getfield 228, 3) := by decide +kernel
theorem dX9_child_67 : decode cX9_child 67 = .ok (.astore 5, 2) := by decide +kernel
theorem dX9_child_69 : decode cX9_child 69 = .ok (.goto (-30), 3) := by decide +kernel
theorem dX9_child_72 : decode cX9_child 72 = .ok (.iconst (-1), 1) := by decide +kernel
theorem dX9_child_73 : decode cX9_child 73 = .ok (.ireturn, 1) := by decide +kernel
theorem dX9_value_0 : decode cX9_value 0 = .ok (.aload_n 0, 1) := by decide +kernel
theorem dX9_value_1 : decode cX9_value 1 = .ok (.iload_n 1, 1) := by decide +kernel
theorem dX9_value_2 : decode cX9_value 2 = .ok (.invokevirtual 134, 3) := by decide +kernel
theorem dX9_value_5 : decode cX9_value 5 = .ok (.astore_n 3, 1) := by decide +kernel
theorem dX9_value_6 : decode cX9_value 6 = .ok (.aload_n 3, 1) := by decide +kernel
theorem dX9_value_7 : decode cX9_value 7 = .ok (.ifnull 10, 3) := by decide +kernel
theorem dX9_value_10 : decode cX9_value 10 = .ok (.iload_n 2, 1) := by decide +kernel
theorem dX9_value_11 : decode cX9_value 11 = .ok (.invokestatic 62, 3) := by decide +kernel
theorem dX9_value_14 : decode cX9_value 14 = .ok (.ifCond .ne 5, 3) := by decide +kernel
theorem dX9_value_17 : decode cX9_value 17 = .ok (.iconst 0, 1) := by decide +kernel
theorem dX9_value_18 : decode cX9_value 18 = .ok (.ireturn, 1) := by decide +kernel
theorem dX9_value_19 : decode cX9_value 19 = .ok (.aload_n 0, 1) := by decide +kernel
theorem dX9_value_20 : decode cX9_value 20 = .ok (.aload_n 3, 1) := by decide +kernel
theorem dX9_value_21 : decode cX9_value 21 = .ok (.iload_n 2, 1) := by decide +kernel
theorem dX9_value_22 : decode cX9_value 22 = .ok (.invokevirtual 231, 3) := by decide +kernel
theorem dX9_value_25 : decode cX9_value 25 = .ok (.ireturn, 1) := by decide +kernel
theorem dX9_seen_0 : decode cX9_seen 0 = .ok (.aload_n 0, 1) := by decide +kernel
theorem dX9_seen_1 : decode cX9_seen 1 = .ok (.getfield 47, 3) := by decide +kernel
theorem dX9_seen_4 : decode cX9_seen 4 = .ok (.iload_n 1, 1) := by decide +kernel
theorem dX9_seen_5 : decode cX9_seen 5 = .ok (.iload_n 2, 1) := by decide +kernel
theorem dX9_seen_6 : decode cX9_seen 6 = .ok (.invokevirtual 235, 3) := by decide +kernel
theorem dX9_seen_9 : decode cX9_seen 9 = .ok (.ireturn, 1) := by decide +kernel
theorem dX9_remark_0 : decode cX9_remark 0 = .ok (.aload_n 0, 1) := by decide +kernel
theorem dX9_remark_1 : decode cX9_remark 1 = .ok (.iload_n 1, 1) := by decide +kernel
theorem dX9_remark_2 : decode cX9_remark 2 = .ok (.invokevirtual 134, 3) := by decide +kernel
theorem dX9_remark_5 : decode cX9_remark 5 = .ok (.astore_n 3, 1) := by decide +kernel
theorem dX9_remark_6 : decode cX9_remark 6 = .ok (.aload_n 3, 1) := by decide +kernel
theorem dX9_remark_7 : decode cX9_remark 7 = .ok (.ifnull 13, 3) := by decide +kernel
theorem dX9_remark_10 : decode cX9_remark 10 = .ok (.aload_n 3, 1) := by decide +kernel
theorem dX9_remark_11 : decode cX9_remark 11 = .ok (.getfield 151, 3) := by decide +kernel
theorem dX9_remark_14 : decode cX9_remark 14 = .ok (.getfield 155, 3) := by decide +kernel
theorem dX9_remark_17 : decode cX9_remark 17 = .ok (.ifnull 5, 3) := by decide +kernel
theorem dX9_remark_20 : decode cX9_remark 20 = .ok (.iconst 0, 1) := by decide +kernel
theorem dX9_remark_21 : decode cX9_remark 21 = .ok (.ireturn, 1) := by decide +kernel
theorem dX9_remark_22 : decode cX9_remark 22 = .ok (.aload_n 3, 1) := by decide +kernel
theorem dX9_remark_23 : decode cX9_remark 23 = .ok (.getfield 238, 3) := by decide +kernel
theorem dX9_remark_26 : decode cX9_remark 26 = .ok (.iload_n 2, 1) := by decide +kernel
theorem dX9_remark_27 : decode cX9_remark 27 = .ok (.invokevirtual 241, 3) := by decide +kernel
theorem dX9_remark_30 : decode cX9_remark 30 = .ok (.ifCond .eq 14, 3) := by decide +kernel
theorem dX9_remark_33 : decode cX9_remark 33 = .ok (.aload_n 3, 1) := by decide +kernel
theorem dX9_remark_34 : decode cX9_remark 34 = .ok (.getfield 238, 3) := by decide +kernel
theorem dX9_remark_37 : decode cX9_remark 37 = .ok (.iload_n 2, 1) := by decide +kernel
theorem dX9_remark_38 : decode cX9_remark 38 = .ok (.invokevirtual 244, 3) := by decide +kernel
theorem dX9_remark_41 : decode cX9_remark 41 = .ok (.goto 4, 3) := by decide +kernel
theorem dX9_remark_44 : decode cX9_remark 44 = .ok (.iconst 0, 1) := by decide +kernel
theorem dX9_remark_45 : decode cX9_remark 45 = .ok (.ireturn, 1) := by decide +kernel
theorem dX9_handled_0 : decode cX9_handled 0 = .ok (.aload_n 0, 1) := by decide +kernel
theorem dX9_handled_1 : decode cX9_handled 1 = .ok (.getfield 51, 3) := by decide +kernel
theorem dX9_handled_4 : decode cX9_handled 4 = .ok (.iload_n 1, 1) := by decide +kernel
theorem dX9_handled_5 : decode cX9_handled 5 = .ok (.iload_n 2, 1) := by decide +kernel
theorem dX9_handled_6 : decode cX9_handled 6 = .ok (.invokevirtual 235, 3) := by decide +kernel
theorem dX9_handled_9 : decode cX9_handled 9 = .ok (.ireturn, 1) := by decide +kernel
theorem dX9_order_0 : decode cX9_order 0 = .ok (.aload_n 0, 1) := by decide +kernel
theorem dX9_order_1 : decode cX9_order 1 = .ok (.getfield 57, 3) := by decide +kernel
theorem dX9_order_4 : decode cX9_order 4 = .ok (.iload_n 1, 1) := by decide +kernel
theorem dX9_order_5 : decode cX9_order 5 = .ok (.invokevirtual 241, 3) := by decide +kernel
theorem dX9_order_8 : decode cX9_order 8 = .ok (.ifCond .eq 14, 3) := by decide +kernel
theorem dX9_order_11 : decode cX9_order 11 = .ok (.aload_n 0, 1) := by decide +kernel
theorem dX9_order_12 : decode cX9_order 12 = .ok (.getfield 57, 3) := by decide +kernel
theorem dX9_order_15 : decode cX9_order 15 = .ok (.iload_n 1, 1) := by decide +kernel
theorem dX9_order_16 : decode cX9_order 16 = .ok (.invokevirtual 244, 3) := by decide +kernel
theorem dX9_order_19 : decode cX9_order 19 = .ok (.goto 4, 3) := by decide +kernel
theorem dX9_order_22 : decode cX9_order 22 = .ok (.iconst (-1), 1) := by decide +kernel
theorem dX9_order_23 : decode cX9_order 23 = .ok (.ireturn, 1) := by decide +kernel
theorem dX9_count_0 : decode cX9_count 0 = .ok (.iload_n 1, 1) := by decide +kernel
theorem dX9_count_1 : decode cX9_count 1 = .ok (.tableswitch 119 0 10 #[59, 64, 69, 74, 80, 86, 92, 98, 104, 109, 114], 59) := by decide +kernel
theorem dX9_count_60 : decode cX9_count 60 = .ok (.aload_n 0, 1) := by decide +kernel
theorem dX9_count_61 : decode cX9_count 61 = .ok (.getfield 66, 3) := by decide +kernel
theorem dX9_count_64 : decode cX9_count 64 = .ok (.ireturn, 1) := by decide +kernel
theorem dX9_count_65 : decode cX9_count 65 = .ok (.aload_n 0, 1) := by decide +kernel
theorem dX9_count_66 : decode cX9_count 66 = .ok (.getfield 84, 3) := by decide +kernel
theorem dX9_count_69 : decode cX9_count 69 = .ok (.ireturn, 1) := by decide +kernel
theorem dX9_count_70 : decode cX9_count 70 = .ok (.aload_n 0, 1) := by decide +kernel
theorem dX9_count_71 : decode cX9_count 71 = .ok (.getfield 38, 3) := by decide +kernel
theorem dX9_count_74 : decode cX9_count 74 = .ok (.ireturn, 1) := by decide +kernel
theorem dX9_count_75 : decode cX9_count 75 = .ok (.aload_n 0, 1) := by decide +kernel
theorem dX9_count_76 : decode cX9_count 76 = .ok (.iconst 0, 1) := by decide +kernel
theorem dX9_count_77 : decode cX9_count 77 = .ok (.invokevirtual 247, 3) := by decide +kernel
theorem dX9_count_80 : decode cX9_count 80 = .ok (.ireturn, 1) := by decide +kernel
theorem dX9_count_81 : decode cX9_count 81 = .ok (.aload_n 0, 1) := by decide +kernel
theorem dX9_count_82 : decode cX9_count 82 = .ok (.iconst 1, 1) := by decide +kernel
theorem dX9_count_83 : decode cX9_count 83 = .ok (.invokevirtual 247, 3) := by decide +kernel
theorem dX9_count_86 : decode cX9_count 86 = .ok (.ireturn, 1) := by decide +kernel
theorem dX9_count_87 : decode cX9_count 87 = .ok (.aload_n 0, 1) := by decide +kernel
theorem dX9_count_88 : decode cX9_count 88 = .ok (.iconst 2, 1) := by decide +kernel
theorem dX9_count_89 : decode cX9_count 89 = .ok (.invokevirtual 247, 3) := by decide +kernel
theorem dX9_count_92 : decode cX9_count 92 = .ok (.ireturn, 1) := by decide +kernel
theorem dX9_count_93 : decode cX9_count 93 = .ok (.aload_n 0, 1) := by decide +kernel
theorem dX9_count_94 : decode cX9_count 94 = .ok (.iconst 3, 1) := by decide +kernel
theorem dX9_count_95 : decode cX9_count 95 = .ok (.invokevirtual 247, 3) := by decide +kernel
theorem dX9_count_98 : decode cX9_count 98 = .ok (.ireturn, 1) := by decide +kernel
theorem dX9_count_99 : decode cX9_count 99 = .ok (.aload_n 0, 1) := by decide +kernel
theorem dX9_count_100 : decode cX9_count 100 = .ok (.iconst 4, 1) := by decide +kernel
theorem dX9_count_101 : decode cX9_count 101 = .ok (.invokevirtual 247, 3) := by decide +kernel
theorem dX9_count_104 : decode cX9_count 104 = .ok (.ireturn, 1) := by decide +kernel
theorem dX9_count_105 : decode cX9_count 105 = .ok (.aload_n 0, 1) := by decide +kernel
theorem dX9_count_106 : decode cX9_count 106 = .ok (.getfield 90, 3) := by decide +kernel
theorem dX9_count_109 : decode cX9_count 109 = .ok (.ireturn, 1) := by decide +kernel
theorem dX9_count_110 : decode cX9_count 110 = .ok (.aload_n 0, 1) := by decide +kernel
theorem dX9_count_111 : decode cX9_count 111 = .ok (.getfield 93, 3) := by decide +kernel
theorem dX9_count_114 : decode cX9_count 114 = .ok (.ireturn, 1) := by decide +kernel
theorem dX9_count_115 : decode cX9_count 115 = .ok (.aload_n 0, 1) := by decide +kernel
theorem dX9_count_116 : decode cX9_count 116 = .ok (.getfield 97, 3) := by decide +kernel
theorem dX9_count_119 : decode cX9_count 119 = .ok (.ireturn, 1) := by decide +kernel
theorem dX9_count_120 : decode cX9_count 120 = .ok (.aload_n 0, 1) := by decide +kernel
theorem dX9_count_121 : decode cX9_count 121 = .ok (.iload_n 1, 1) := by decide +kernel
theorem dX9_count_122 : decode cX9_count 122 = .ok (.invokevirtual 250, 3) := by decide +kernel
theorem dX9_count_125 : decode cX9_count 125 = .ok (.ireturn, 1) := by decide +kernel
theorem dX9_errandAt_0 : decode cX9_errandAt 0 = .ok (.iload_n 1, 1) := by decide +kernel
theorem dX9_errandAt_1 : decode cX9_errandAt 1 = .ok (.invokestatic 111, 3) := by decide +kernel
theorem dX9_errandAt_4 : decode cX9_errandAt 4 = .ok (.ifCond .eq 12, 3) := by decide +kernel
theorem dX9_errandAt_7 : decode cX9_errandAt 7 = .ok (.aload_n 0, 1) := by decide +kernel
theorem dX9_errandAt_8 : decode cX9_errandAt 8 = .ok (.getfield 18, 3) := by decide +kernel
theorem dX9_errandAt_11 : decode cX9_errandAt 11 = .ok (.iload_n 1, 1) := by decide +kernel
theorem dX9_errandAt_12 : decode cX9_errandAt 12 = .ok (.aaload, 1) := by decide +kernel
theorem dX9_errandAt_13 : decode cX9_errandAt 13 = .ok (.goto 4, 3) := by decide +kernel
theorem dX9_errandAt_16 : decode cX9_errandAt 16 = .ok (.aconst_null, 1) := by decide +kernel
theorem dX9_errandAt_17 : decode cX9_errandAt 17 = .ok (.areturn, 1) := by decide +kernel
theorem dX9_runAt_0 : decode cX9_runAt 0 = .ok (.iload_n 1, 1) := by decide +kernel
theorem dX9_runAt_1 : decode cX9_runAt 1 = .ok (.ifCond .lt 27, 3) := by decide +kernel
theorem dX9_runAt_4 : decode cX9_runAt 4 = .ok (.iload_n 1, 1) := by decide +kernel
theorem dX9_runAt_5 : decode cX9_runAt 5 = .ok (.aload_n 0, 1) := by decide +kernel
theorem dX9_runAt_6 : decode cX9_runAt 6 = .ok (.getfield 66, 3) := by decide +kernel
theorem dX9_runAt_9 : decode cX9_runAt 9 = .ok (.if_icmp .ge 19, 3) := by decide +kernel
theorem dX9_runAt_12 : decode cX9_runAt 12 = .ok (.iload_n 1, 1) := by decide +kernel
theorem dX9_runAt_13 : decode cX9_runAt 13 = .ok (.sipush 200, 3) := by decide +kernel
theorem dX9_runAt_16 : decode cX9_runAt 16 = .ok (.if_icmp .ge 12, 3) := by decide +kernel
theorem dX9_runAt_19 : decode cX9_runAt 19 = .ok (.aload_n 0, 1) := by decide +kernel
theorem dX9_runAt_20 : decode cX9_runAt 20 = .ok (.getfield 31, 3) := by decide +kernel
theorem dX9_runAt_23 : decode cX9_runAt 23 = .ok (.iload_n 1, 1) := by decide +kernel
theorem dX9_runAt_24 : decode cX9_runAt 24 = .ok (.aaload, 1) := by decide +kernel
theorem dX9_runAt_25 : decode cX9_runAt 25 = .ok (.goto 4, 3) := by decide +kernel
theorem dX9_runAt_28 : decode cX9_runAt 28 = .ok (.aconst_null, 1) := by decide +kernel
theorem dX9_runAt_29 : decode cX9_runAt 29 = .ok (.areturn, 1) := by decide +kernel
theorem dX9_failedAt_0 : decode cX9_failedAt 0 = .ok (.aload_n 0, 1) := by decide +kernel
theorem dX9_failedAt_1 : decode cX9_failedAt 1 = .ok (.iload_n 1, 1) := by decide +kernel
theorem dX9_failedAt_2 : decode cX9_failedAt 2 = .ok (.invokevirtual 134, 3) := by decide +kernel
theorem dX9_failedAt_5 : decode cX9_failedAt 5 = .ok (.astore_n 2, 1) := by decide +kernel
theorem dX9_failedAt_6 : decode cX9_failedAt 6 = .ok (.aload_n 2, 1) := by decide +kernel
theorem dX9_failedAt_7 : decode cX9_failedAt 7 = .ok (.ifnull 15, 3) := by decide +kernel
theorem dX9_failedAt_10 : decode cX9_failedAt 10 = .ok (.aload_n 2, 1) := by decide +kernel
theorem dX9_failedAt_11 : decode cX9_failedAt 11 = .ok (.getfield 145, 3) := by decide +kernel
theorem dX9_failedAt_14 : decode cX9_failedAt 14 = .ok (.iconst 4, 1) := by decide +kernel
theorem dX9_failedAt_15 : decode cX9_failedAt 15 = .ok (.if_icmp .ne 7, 3) := by decide +kernel
theorem dX9_failedAt_18 : decode cX9_failedAt 18 = .ok (.aload_n 2, 1) := by decide +kernel
theorem dX9_failedAt_19 : decode cX9_failedAt 19 = .ok (.goto 4, 3) := by decide +kernel
theorem dX9_failedAt_22 : decode cX9_failedAt 22 = .ok (.aconst_null, 1) := by decide +kernel
theorem dX9_failedAt_23 : decode cX9_failedAt 23 = .ok (.areturn, 1) := by decide +kernel
theorem dX9_runsThatAre_0 : decode cX9_runsThatAre 0 = .ok (.iconst 0, 1) := by decide +kernel
theorem dX9_runsThatAre_1 : decode cX9_runsThatAre 1 = .ok (.istore_n 2, 1) := by decide +kernel
theorem dX9_runsThatAre_2 : decode cX9_runsThatAre 2 = .ok (.iconst 0, 1) := by decide +kernel
theorem dX9_runsThatAre_3 : decode cX9_runsThatAre 3 = .ok (.istore_n 3, 1) := by decide +kernel
theorem dX9_runsThatAre_4 : decode cX9_runsThatAre 4 = .ok (.iload_n 3, 1) := by decide +kernel
theorem dX9_runsThatAre_5 : decode cX9_runsThatAre 5 = .ok (.aload_n 0, 1) := by decide +kernel
theorem dX9_runsThatAre_6 : decode cX9_runsThatAre 6 = .ok (.getfield 66, 3) := by decide +kernel
theorem dX9_runsThatAre_9 : decode cX9_runsThatAre 9 = .ok (.if_icmp .ge 33, 3) := by decide +kernel
theorem dX9_runsThatAre_12 : decode cX9_runsThatAre 12 = .ok (.aload_n 0, 1) := by decide +kernel
theorem dX9_runsThatAre_13 : decode cX9_runsThatAre 13 = .ok (.iload_n 3, 1) := by decide +kernel
theorem dX9_runsThatAre_14 : decode cX9_runsThatAre 14 = .ok (.invokevirtual 134, 3) := by decide +kernel
theorem dX9_runsThatAre_17 : decode cX9_runsThatAre 17 = .ok (.astore 4, 2) := by decide +kernel
theorem dX9_runsThatAre_19 : decode cX9_runsThatAre 19 = .ok (.aload 4, 2) := by decide +kernel
theorem dX9_runsThatAre_21 : decode cX9_runsThatAre 21 = .ok (.ifnull 15, 3) := by decide +kernel
theorem dX9_runsThatAre_24 : decode cX9_runsThatAre 24 = .ok (.aload 4, 2) := by decide +kernel
theorem dX9_runsThatAre_26 : decode cX9_runsThatAre 26 = .ok (.getfield 145, 3) := by decide +kernel
theorem dX9_runsThatAre_29 : decode cX9_runsThatAre 29 = .ok (.iload_n 1, 1) := by decide +kernel
theorem dX9_runsThatAre_30 : decode cX9_runsThatAre 30 = .ok (.if_icmp .ne 6, 3) := by decide +kernel
theorem dX9_runsThatAre_33 : decode cX9_runsThatAre 33 = .ok (.iinc 2 1, 3) := by decide +kernel
theorem dX9_runsThatAre_36 : decode cX9_runsThatAre 36 = .ok (.iinc 3 1, 3) := by decide +kernel
theorem dX9_runsThatAre_39 : decode cX9_runsThatAre 39 = .ok (.goto (-35), 3) := by decide +kernel
theorem dX9_runsThatAre_42 : decode cX9_runsThatAre 42 = .ok (.iload_n 2, 1) := by decide +kernel
theorem dX9_runsThatAre_43 : decode cX9_runsThatAre 43 = .ok (.ireturn, 1) := by decide +kernel
theorem dX9_runOnThread_0 : decode cX9_runOnThread 0 = .ok (.iload_n 1, 1) := by decide +kernel
theorem dX9_runOnThread_1 : decode cX9_runOnThread 1 = .ok (.bipush 16, 2) := by decide +kernel
theorem dX9_runOnThread_3 : decode cX9_runOnThread 3 = .ok (.if_icmp .lt 14, 3) := by decide +kernel
theorem dX9_runOnThread_6 : decode cX9_runOnThread 6 = .ok (.iload_n 1, 1) := by decide +kernel
theorem dX9_runOnThread_7 : decode cX9_runOnThread 7 = .ok (.bipush 16, 2) := by decide +kernel
theorem dX9_runOnThread_9 : decode cX9_runOnThread 9 = .ok (.aload_n 0, 1) := by decide +kernel
theorem dX9_runOnThread_10 : decode cX9_runOnThread 10 = .ok (.getfield 38, 3) := by decide +kernel
theorem dX9_runOnThread_13 : decode cX9_runOnThread 13 = .ok (.iadd, 1) := by decide +kernel
theorem dX9_runOnThread_14 : decode cX9_runOnThread 14 = .ok (.if_icmp .lt 5, 3) := by decide +kernel
theorem dX9_runOnThread_17 : decode cX9_runOnThread 17 = .ok (.iconst (-1), 1) := by decide +kernel
theorem dX9_runOnThread_18 : decode cX9_runOnThread 18 = .ok (.ireturn, 1) := by decide +kernel
theorem dX9_runOnThread_19 : decode cX9_runOnThread 19 = .ok (.iload_n 1, 1) := by decide +kernel
theorem dX9_runOnThread_20 : decode cX9_runOnThread 20 = .ok (.bipush 16, 2) := by decide +kernel
theorem dX9_runOnThread_22 : decode cX9_runOnThread 22 = .ok (.isub, 1) := by decide +kernel
theorem dX9_runOnThread_23 : decode cX9_runOnThread 23 = .ok (.istore_n 2, 1) := by decide +kernel
theorem dX9_runOnThread_24 : decode cX9_runOnThread 24 = .ok (.iload_n 2, 1) := by decide +kernel
theorem dX9_runOnThread_25 : decode cX9_runOnThread 25 = .ok (.bipush 6, 2) := by decide +kernel
theorem dX9_runOnThread_27 : decode cX9_runOnThread 27 = .ok (.if_icmp .ge 12, 3) := by decide +kernel
theorem dX9_runOnThread_30 : decode cX9_runOnThread 30 = .ok (.aload_n 0, 1) := by decide +kernel
theorem dX9_runOnThread_31 : decode cX9_runOnThread 31 = .ok (.getfield 35, 3) := by decide +kernel
theorem dX9_runOnThread_34 : decode cX9_runOnThread 34 = .ok (.iload_n 2, 1) := by decide +kernel
theorem dX9_runOnThread_35 : decode cX9_runOnThread 35 = .ok (.aaload, 1) := by decide +kernel
theorem dX9_runOnThread_36 : decode cX9_runOnThread 36 = .ok (.ifnonnull 5, 3) := by decide +kernel
theorem dX9_runOnThread_39 : decode cX9_runOnThread 39 = .ok (.iconst (-1), 1) := by decide +kernel
theorem dX9_runOnThread_40 : decode cX9_runOnThread 40 = .ok (.ireturn, 1) := by decide +kernel
theorem dX9_runOnThread_41 : decode cX9_runOnThread 41 = .ok (.aload_n 0, 1) := by decide +kernel
theorem dX9_runOnThread_42 : decode cX9_runOnThread 42 = .ok (.getfield 35, 3) := by decide +kernel
theorem dX9_runOnThread_45 : decode cX9_runOnThread 45 = .ok (.iload_n 2, 1) := by decide +kernel
theorem dX9_runOnThread_46 : decode cX9_runOnThread 46 = .ok (.aaload, 1) := by decide +kernel
theorem dX9_runOnThread_47 : decode cX9_runOnThread 47 = .ok (.getfield 118, 3) := by decide +kernel
theorem dX9_runOnThread_50 : decode cX9_runOnThread 50 = .ok (.ireturn, 1) := by decide +kernel
theorem dX9_isWorkLeft_0 : decode cX9_isWorkLeft 0 = .ok (.iconst 0, 1) := by decide +kernel
theorem dX9_isWorkLeft_1 : decode cX9_isWorkLeft 1 = .ok (.istore_n 1, 1) := by decide +kernel
theorem dX9_isWorkLeft_2 : decode cX9_isWorkLeft 2 = .ok (.iload_n 1, 1) := by decide +kernel
theorem dX9_isWorkLeft_3 : decode cX9_isWorkLeft 3 = .ok (.aload_n 0, 1) := by decide +kernel
theorem dX9_isWorkLeft_4 : decode cX9_isWorkLeft 4 = .ok (.getfield 66, 3) := by decide +kernel
theorem dX9_isWorkLeft_7 : decode cX9_isWorkLeft 7 = .ok (.if_icmp .ge 28, 3) := by decide +kernel
theorem dX9_isWorkLeft_10 : decode cX9_isWorkLeft 10 = .ok (.aload_n 0, 1) := by decide +kernel
theorem dX9_isWorkLeft_11 : decode cX9_isWorkLeft 11 = .ok (.iload_n 1, 1) := by decide +kernel
theorem dX9_isWorkLeft_12 : decode cX9_isWorkLeft 12 = .ok (.invokevirtual 134, 3) := by decide +kernel
theorem dX9_isWorkLeft_15 : decode cX9_isWorkLeft 15 = .ok (.astore_n 2, 1) := by decide +kernel
theorem dX9_isWorkLeft_16 : decode cX9_isWorkLeft 16 = .ok (.aload_n 2, 1) := by decide +kernel
theorem dX9_isWorkLeft_17 : decode cX9_isWorkLeft 17 = .ok (.ifnull 12, 3) := by decide +kernel
theorem dX9_isWorkLeft_20 : decode cX9_isWorkLeft 20 = .ok (.aload_n 2, 1) := by decide +kernel
theorem dX9_isWorkLeft_21 : decode cX9_isWorkLeft 21 = .ok (.invokevirtual 138, 3) := by decide +kernel
theorem dX9_isWorkLeft_24 : decode cX9_isWorkLeft 24 = .ok (.ifCond .ne 5, 3) := by decide +kernel
theorem dX9_isWorkLeft_27 : decode cX9_isWorkLeft 27 = .ok (.iconst 1, 1) := by decide +kernel
theorem dX9_isWorkLeft_28 : decode cX9_isWorkLeft 28 = .ok (.ireturn, 1) := by decide +kernel
theorem dX9_isWorkLeft_29 : decode cX9_isWorkLeft 29 = .ok (.iinc 1 1, 3) := by decide +kernel
theorem dX9_isWorkLeft_32 : decode cX9_isWorkLeft 32 = .ok (.goto (-30), 3) := by decide +kernel
theorem dX9_isWorkLeft_35 : decode cX9_isWorkLeft 35 = .ok (.iconst 0, 1) := by decide +kernel
theorem dX9_isWorkLeft_36 : decode cX9_isWorkLeft 36 = .ok (.ireturn, 1) := by decide +kernel
theorem dX9_wipeErrands_0 : decode cX9_wipeErrands 0 = .ok (.iconst 0, 1) := by decide +kernel
theorem dX9_wipeErrands_1 : decode cX9_wipeErrands 1 = .ok (.istore_n 1, 1) := by decide +kernel
theorem dX9_wipeErrands_2 : decode cX9_wipeErrands 2 = .ok (.iload_n 1, 1) := by decide +kernel
theorem dX9_wipeErrands_3 : decode cX9_wipeErrands 3 = .ok (.bipush 8, 2) := by decide +kernel
theorem dX9_wipeErrands_5 : decode cX9_wipeErrands 5 = .ok (.if_icmp .ge 24, 3) := by decide +kernel
theorem dX9_wipeErrands_8 : decode cX9_wipeErrands 8 = .ok (.aload_n 0, 1) := by decide +kernel
theorem dX9_wipeErrands_9 : decode cX9_wipeErrands 9 = .ok (.iload_n 1, 1) := by decide +kernel
theorem dX9_wipeErrands_10 : decode cX9_wipeErrands 10 = .ok (.invokevirtual 69, 3) := by decide +kernel
theorem dX9_wipeErrands_13 : decode cX9_wipeErrands 13 = .ok (.astore_n 2, 1) := by decide +kernel
theorem dX9_wipeErrands_14 : decode cX9_wipeErrands 14 = .ok (.aload_n 2, 1) := by decide +kernel
theorem dX9_wipeErrands_15 : decode cX9_wipeErrands 15 = .ok (.ifnull 8, 3) := by decide +kernel
theorem dX9_wipeErrands_18 : decode cX9_wipeErrands 18 = .ok (.aload_n 2, 1) := by decide +kernel
theorem dX9_wipeErrands_19 : decode cX9_wipeErrands 19 = .ok (.iconst 0, 1) := by decide +kernel
theorem dX9_wipeErrands_20 : decode cX9_wipeErrands 20 = .ok (.putfield 73, 3) := by decide +kernel
theorem dX9_wipeErrands_23 : decode cX9_wipeErrands 23 = .ok (.iinc 1 1, 3) := by decide +kernel
theorem dX9_wipeErrands_26 : decode cX9_wipeErrands 26 = .ok (.goto (-24), 3) := by decide +kernel
theorem dX9_wipeErrands_29 : decode cX9_wipeErrands 29 = .ok (.return_, 1) := by decide +kernel
theorem dX9_readIn_0 : decode cX9_readIn 0 = .ok (.iload_n 2, 1) := by decide +kernel
theorem dX9_readIn_1 : decode cX9_readIn 1 = .ok (.invokestatic 62, 3) := by decide +kernel
theorem dX9_readIn_4 : decode cX9_readIn 4 = .ok (.ifCond .ne 5, 3) := by decide +kernel
theorem dX9_readIn_7 : decode cX9_readIn 7 = .ok (.iconst 0, 1) := by decide +kernel
theorem dX9_readIn_8 : decode cX9_readIn 8 = .ok (.ireturn, 1) := by decide +kernel
theorem dX9_readIn_9 : decode cX9_readIn 9 = .ok (.aload_n 0, 1) := by decide +kernel
theorem dX9_readIn_10 : decode cX9_readIn 10 = .ok (.getfield 9, 3) := by decide +kernel
theorem dX9_readIn_13 : decode cX9_readIn 13 = .ok (.iload_n 2, 1) := by decide +kernel
theorem dX9_readIn_14 : decode cX9_readIn 14 = .ok (.iaload, 1) := by decide +kernel
theorem dX9_readIn_15 : decode cX9_readIn 15 = .ok (.tableswitch 77 1 3 #[25, 42, 60], 25) := by decide +kernel
theorem dX9_readIn_40 : decode cX9_readIn 40 = .ok (.aload_n 1, 1) := by decide +kernel
theorem dX9_readIn_41 : decode cX9_readIn 41 = .ok (.getfield 253, 3) := by decide +kernel
theorem dX9_readIn_44 : decode cX9_readIn 44 = .ok (.iload_n 2, 1) := by decide +kernel
theorem dX9_readIn_45 : decode cX9_readIn 45 = .ok (.aload_n 1, 1) := by decide +kernel
theorem dX9_readIn_46 : decode cX9_readIn 46 = .ok (.getfield 253, 3) := by decide +kernel
theorem dX9_readIn_49 : decode cX9_readIn 49 = .ok (.iload_n 2, 1) := by decide +kernel
theorem dX9_readIn_50 : decode cX9_readIn 50 = .ok (.invokevirtual 257, 3) := by decide +kernel
theorem dX9_readIn_53 : decode cX9_readIn 53 = .ok (.invokevirtual 262, 3) := by decide +kernel
theorem dX9_readIn_56 : decode cX9_readIn 56 = .ok (.ireturn, 1) := by decide +kernel
theorem dX9_readIn_57 : decode cX9_readIn 57 = .ok (.aload_n 1, 1) := by decide +kernel
theorem dX9_readIn_58 : decode cX9_readIn 58 = .ok (.invokevirtual 161, 3) := by decide +kernel
theorem dX9_readIn_61 : decode cX9_readIn 61 = .ok (.getfield 253, 3) := by decide +kernel
theorem dX9_readIn_64 : decode cX9_readIn 64 = .ok (.iload_n 2, 1) := by decide +kernel
theorem dX9_readIn_65 : decode cX9_readIn 65 = .ok (.aload_n 0, 1) := by decide +kernel
theorem dX9_readIn_66 : decode cX9_readIn 66 = .ok (.getfield 13, 3) := by decide +kernel
theorem dX9_readIn_69 : decode cX9_readIn 69 = .ok (.iload_n 2, 1) := by decide +kernel
theorem dX9_readIn_70 : decode cX9_readIn 70 = .ok (.iaload, 1) := by decide +kernel
theorem dX9_readIn_71 : decode cX9_readIn 71 = .ok (.invokevirtual 262, 3) := by decide +kernel
theorem dX9_readIn_74 : decode cX9_readIn 74 = .ok (.ireturn, 1) := by decide +kernel
theorem dX9_readIn_75 : decode cX9_readIn 75 = .ok (.aload_n 1, 1) := by decide +kernel
theorem dX9_readIn_76 : decode cX9_readIn 76 = .ok (.getfield 177, 3) := by decide +kernel
theorem dX9_readIn_79 : decode cX9_readIn 79 = .ok (.iload_n 2, 1) := by decide +kernel
theorem dX9_readIn_80 : decode cX9_readIn 80 = .ok (.aload_n 1, 1) := by decide +kernel
theorem dX9_readIn_81 : decode cX9_readIn 81 = .ok (.getfield 253, 3) := by decide +kernel
theorem dX9_readIn_84 : decode cX9_readIn 84 = .ok (.iload_n 2, 1) := by decide +kernel
theorem dX9_readIn_85 : decode cX9_readIn 85 = .ok (.invokevirtual 257, 3) := by decide +kernel
theorem dX9_readIn_88 : decode cX9_readIn 88 = .ok (.invokevirtual 265, 3) := by decide +kernel
theorem dX9_readIn_91 : decode cX9_readIn 91 = .ok (.ireturn, 1) := by decide +kernel
theorem dX9_readIn_92 : decode cX9_readIn 92 = .ok (.aload_n 1, 1) := by decide +kernel
theorem dX9_readIn_93 : decode cX9_readIn 93 = .ok (.getfield 253, 3) := by decide +kernel
theorem dX9_readIn_96 : decode cX9_readIn 96 = .ok (.iload_n 2, 1) := by decide +kernel
theorem dX9_readIn_97 : decode cX9_readIn 97 = .ok (.aload_n 0, 1) := by decide +kernel
theorem dX9_readIn_98 : decode cX9_readIn 98 = .ok (.getfield 13, 3) := by decide +kernel
theorem dX9_readIn_101 : decode cX9_readIn 101 = .ok (.iload_n 2, 1) := by decide +kernel
theorem dX9_readIn_102 : decode cX9_readIn 102 = .ok (.iaload, 1) := by decide +kernel
theorem dX9_readIn_103 : decode cX9_readIn 103 = .ok (.invokevirtual 262, 3) := by decide +kernel
theorem dX9_readIn_106 : decode cX9_readIn 106 = .ok (.ireturn, 1) := by decide +kernel
theorem dX9_writeIn_0 : decode cX9_writeIn 0 = .ok (.iload_n 2, 1) := by decide +kernel
theorem dX9_writeIn_1 : decode cX9_writeIn 1 = .ok (.invokestatic 62, 3) := by decide +kernel
theorem dX9_writeIn_4 : decode cX9_writeIn 4 = .ok (.ifCond .ne 5, 3) := by decide +kernel
theorem dX9_writeIn_7 : decode cX9_writeIn 7 = .ok (.iconst 5, 1) := by decide +kernel
theorem dX9_writeIn_8 : decode cX9_writeIn 8 = .ok (.ireturn, 1) := by decide +kernel
theorem dX9_writeIn_9 : decode cX9_writeIn 9 = .ok (.aload_n 0, 1) := by decide +kernel
theorem dX9_writeIn_10 : decode cX9_writeIn 10 = .ok (.getfield 9, 3) := by decide +kernel
theorem dX9_writeIn_13 : decode cX9_writeIn 13 = .ok (.iload_n 2, 1) := by decide +kernel
theorem dX9_writeIn_14 : decode cX9_writeIn 14 = .ok (.iaload, 1) := by decide +kernel
theorem dX9_writeIn_15 : decode cX9_writeIn 15 = .ok (.lookupswitch 57 #[(2, 25), (3, 39)], 25) := by decide +kernel
theorem dX9_writeIn_40 : decode cX9_writeIn 40 = .ok (.aload_n 1, 1) := by decide +kernel
theorem dX9_writeIn_41 : decode cX9_writeIn 41 = .ok (.invokevirtual 161, 3) := by decide +kernel
theorem dX9_writeIn_44 : decode cX9_writeIn 44 = .ok (.getfield 253, 3) := by decide +kernel
theorem dX9_writeIn_47 : decode cX9_writeIn 47 = .ok (.iload_n 2, 1) := by decide +kernel
theorem dX9_writeIn_48 : decode cX9_writeIn 48 = .ok (.iload_n 3, 1) := by decide +kernel
theorem dX9_writeIn_49 : decode cX9_writeIn 49 = .ok (.invokevirtual 268, 3) := by decide +kernel
theorem dX9_writeIn_52 : decode cX9_writeIn 52 = .ok (.iconst (-1), 1) := by decide +kernel
theorem dX9_writeIn_53 : decode cX9_writeIn 53 = .ok (.ireturn, 1) := by decide +kernel
theorem dX9_writeIn_54 : decode cX9_writeIn 54 = .ok (.aload_n 1, 1) := by decide +kernel
theorem dX9_writeIn_55 : decode cX9_writeIn 55 = .ok (.getfield 177, 3) := by decide +kernel
theorem dX9_writeIn_58 : decode cX9_writeIn 58 = .ok (.iload_n 2, 1) := by decide +kernel
theorem dX9_writeIn_59 : decode cX9_writeIn 59 = .ok (.iload_n 3, 1) := by decide +kernel
theorem dX9_writeIn_60 : decode cX9_writeIn 60 = .ok (.invokevirtual 272, 3) := by decide +kernel
theorem dX9_writeIn_63 : decode cX9_writeIn 63 = .ok (.ifCond .eq 7, 3) := by decide +kernel
theorem dX9_writeIn_66 : decode cX9_writeIn 66 = .ok (.iconst (-1), 1) := by decide +kernel
theorem dX9_writeIn_67 : decode cX9_writeIn 67 = .ok (.goto 4, 3) := by decide +kernel
theorem dX9_writeIn_70 : decode cX9_writeIn 70 = .ok (.iconst 5, 1) := by decide +kernel
theorem dX9_writeIn_71 : decode cX9_writeIn 71 = .ok (.ireturn, 1) := by decide +kernel
theorem dX9_writeIn_72 : decode cX9_writeIn 72 = .ok (.aload_n 1, 1) := by decide +kernel
theorem dX9_writeIn_73 : decode cX9_writeIn 73 = .ok (.getfield 253, 3) := by decide +kernel
theorem dX9_writeIn_76 : decode cX9_writeIn 76 = .ok (.iload_n 2, 1) := by decide +kernel
theorem dX9_writeIn_77 : decode cX9_writeIn 77 = .ok (.iload_n 3, 1) := by decide +kernel
theorem dX9_writeIn_78 : decode cX9_writeIn 78 = .ok (.invokevirtual 268, 3) := by decide +kernel
theorem dX9_writeIn_81 : decode cX9_writeIn 81 = .ok (.iconst (-1), 1) := by decide +kernel
theorem dX9_writeIn_82 : decode cX9_writeIn 82 = .ok (.ireturn, 1) := by decide +kernel
theorem dX9_addReading_0 : decode cX9_addReading 0 = .ok (.aload_n 0, 1) := by decide +kernel
theorem dX9_addReading_1 : decode cX9_addReading 1 = .ok (.aload_n 1, 1) := by decide +kernel
theorem dX9_addReading_2 : decode cX9_addReading 2 = .ok (.iload_n 2, 1) := by decide +kernel
theorem dX9_addReading_3 : decode cX9_addReading 3 = .ok (.invokevirtual 231, 3) := by decide +kernel
theorem dX9_addReading_6 : decode cX9_addReading 6 = .ok (.istore_n 3, 1) := by decide +kernel
theorem dX9_addReading_7 : decode cX9_addReading 7 = .ok (.aload_n 1, 1) := by decide +kernel
theorem dX9_addReading_8 : decode cX9_addReading 8 = .ok (.dup, 1) := by decide +kernel
theorem dX9_addReading_9 : decode cX9_addReading 9 = .ok (.getfield 171, 3) := by decide +kernel
theorem dX9_addReading_12 : decode cX9_addReading 12 = .ok (.iload_n 3, 1) := by decide +kernel
theorem dX9_addReading_13 : decode cX9_addReading 13 = .ok (.iadd, 1) := by decide +kernel
theorem dX9_addReading_14 : decode cX9_addReading 14 = .ok (.putfield 171, 3) := by decide +kernel
theorem dX9_addReading_17 : decode cX9_addReading 17 = .ok (.aload_n 0, 1) := by decide +kernel
theorem dX9_addReading_18 : decode cX9_addReading 18 = .ok (.getfield 47, 3) := by decide +kernel
theorem dX9_addReading_21 : decode cX9_addReading 21 = .ok (.aload_n 1, 1) := by decide +kernel
theorem dX9_addReading_22 : decode cX9_addReading 22 = .ok (.getfield 118, 3) := by decide +kernel
theorem dX9_addReading_25 : decode cX9_addReading 25 = .ok (.iload_n 2, 1) := by decide +kernel
theorem dX9_addReading_26 : decode cX9_addReading 26 = .ok (.iload_n 3, 1) := by decide +kernel
theorem dX9_addReading_27 : decode cX9_addReading 27 = .ok (.aload_n 1, 1) := by decide +kernel
theorem dX9_addReading_28 : decode cX9_addReading 28 = .ok (.getfield 174, 3) := by decide +kernel
theorem dX9_addReading_31 : decode cX9_addReading 31 = .ok (.invokevirtual 276, 3) := by decide +kernel
theorem dX9_addReading_34 : decode cX9_addReading 34 = .ok (.aload_n 0, 1) := by decide +kernel
theorem dX9_addReading_35 : decode cX9_addReading 35 = .ok (.dup, 1) := by decide +kernel
theorem dX9_addReading_36 : decode cX9_addReading 36 = .ok (.getfield 90, 3) := by decide +kernel
theorem dX9_addReading_39 : decode cX9_addReading 39 = .ok (.iconst 1, 1) := by decide +kernel
theorem dX9_addReading_40 : decode cX9_addReading 40 = .ok (.iadd, 1) := by decide +kernel
theorem dX9_addReading_41 : decode cX9_addReading 41 = .ok (.putfield 90, 3) := by decide +kernel
theorem dX9_addReading_44 : decode cX9_addReading 44 = .ok (.iconst (-1), 1) := by decide +kernel
theorem dX9_addReading_45 : decode cX9_addReading 45 = .ok (.ireturn, 1) := by decide +kernel
theorem dX9_bind_0 : decode cX9_bind 0 = .ok (.iload_n 2, 1) := by decide +kernel
theorem dX9_bind_1 : decode cX9_bind 1 = .ok (.invokestatic 62, 3) := by decide +kernel
theorem dX9_bind_4 : decode cX9_bind 4 = .ok (.ifCond .eq 13, 3) := by decide +kernel
theorem dX9_bind_7 : decode cX9_bind 7 = .ok (.aload_n 0, 1) := by decide +kernel
theorem dX9_bind_8 : decode cX9_bind 8 = .ok (.getfield 9, 3) := by decide +kernel
theorem dX9_bind_11 : decode cX9_bind 11 = .ok (.iload_n 2, 1) := by decide +kernel
theorem dX9_bind_12 : decode cX9_bind 12 = .ok (.iaload, 1) := by decide +kernel
theorem dX9_bind_13 : decode cX9_bind 13 = .ok (.iconst 3, 1) := by decide +kernel
theorem dX9_bind_14 : decode cX9_bind 14 = .ok (.if_icmp .eq 5, 3) := by decide +kernel
theorem dX9_bind_17 : decode cX9_bind 17 = .ok (.iconst 5, 1) := by decide +kernel
theorem dX9_bind_18 : decode cX9_bind 18 = .ok (.ireturn, 1) := by decide +kernel
theorem dX9_bind_19 : decode cX9_bind 19 = .ok (.aload_n 1, 1) := by decide +kernel
theorem dX9_bind_20 : decode cX9_bind 20 = .ok (.getfield 177, 3) := by decide +kernel
theorem dX9_bind_23 : decode cX9_bind 23 = .ok (.iload_n 2, 1) := by decide +kernel
theorem dX9_bind_24 : decode cX9_bind 24 = .ok (.iload_n 3, 1) := by decide +kernel
theorem dX9_bind_25 : decode cX9_bind 25 = .ok (.invokevirtual 279, 3) := by decide +kernel
theorem dX9_bind_28 : decode cX9_bind 28 = .ok (.iconst (-1), 1) := by decide +kernel
theorem dX9_bind_29 : decode cX9_bind 29 = .ok (.ireturn, 1) := by decide +kernel
theorem dX9_fillThreads_0 : decode cX9_fillThreads 0 = .ok (.iconst 0, 1) := by decide +kernel
theorem dX9_fillThreads_1 : decode cX9_fillThreads 1 = .ok (.istore_n 1, 1) := by decide +kernel
theorem dX9_fillThreads_2 : decode cX9_fillThreads 2 = .ok (.iload_n 1, 1) := by decide +kernel
theorem dX9_fillThreads_3 : decode cX9_fillThreads 3 = .ok (.aload_n 0, 1) := by decide +kernel
theorem dX9_fillThreads_4 : decode cX9_fillThreads 4 = .ok (.getfield 66, 3) := by decide +kernel
theorem dX9_fillThreads_7 : decode cX9_fillThreads 7 = .ok (.if_icmp .ge 31, 3) := by decide +kernel
theorem dX9_fillThreads_10 : decode cX9_fillThreads 10 = .ok (.aload_n 0, 1) := by decide +kernel
theorem dX9_fillThreads_11 : decode cX9_fillThreads 11 = .ok (.iload_n 1, 1) := by decide +kernel
theorem dX9_fillThreads_12 : decode cX9_fillThreads 12 = .ok (.invokevirtual 134, 3) := by decide +kernel
theorem dX9_fillThreads_15 : decode cX9_fillThreads 15 = .ok (.astore_n 2, 1) := by decide +kernel
theorem dX9_fillThreads_16 : decode cX9_fillThreads 16 = .ok (.aload_n 2, 1) := by decide +kernel
theorem dX9_fillThreads_17 : decode cX9_fillThreads 17 = .ok (.ifnull 15, 3) := by decide +kernel
theorem dX9_fillThreads_20 : decode cX9_fillThreads 20 = .ok (.aload_n 2, 1) := by decide +kernel
theorem dX9_fillThreads_21 : decode cX9_fillThreads 21 = .ok (.getfield 145, 3) := by decide +kernel
theorem dX9_fillThreads_24 : decode cX9_fillThreads 24 = .ok (.ifCond .ne 8, 3) := by decide +kernel
theorem dX9_fillThreads_27 : decode cX9_fillThreads 27 = .ok (.aload_n 0, 1) := by decide +kernel
theorem dX9_fillThreads_28 : decode cX9_fillThreads 28 = .ok (.aload_n 2, 1) := by decide +kernel
theorem dX9_fillThreads_29 : decode cX9_fillThreads 29 = .ok (.invokevirtual 282, 3) := by decide +kernel
theorem dX9_fillThreads_32 : decode cX9_fillThreads 32 = .ok (.iinc 1 1, 3) := by decide +kernel
theorem dX9_fillThreads_35 : decode cX9_fillThreads 35 = .ok (.goto (-33), 3) := by decide +kernel
theorem dX9_fillThreads_38 : decode cX9_fillThreads 38 = .ok (.return_, 1) := by decide +kernel
theorem dX9_takeTurns_0 : decode cX9_takeTurns 0 = .ok (.aload_n 0, 1) := by decide +kernel
theorem dX9_takeTurns_1 : decode cX9_takeTurns 1 = .ok (.getfield 66, 3) := by decide +kernel
theorem dX9_takeTurns_4 : decode cX9_takeTurns 4 = .ok (.istore_n 1, 1) := by decide +kernel
theorem dX9_takeTurns_5 : decode cX9_takeTurns 5 = .ok (.iconst 0, 1) := by decide +kernel
theorem dX9_takeTurns_6 : decode cX9_takeTurns 6 = .ok (.istore_n 2, 1) := by decide +kernel
theorem dX9_takeTurns_7 : decode cX9_takeTurns 7 = .ok (.iload_n 2, 1) := by decide +kernel
theorem dX9_takeTurns_8 : decode cX9_takeTurns 8 = .ok (.iload_n 1, 1) := by decide +kernel
theorem dX9_takeTurns_9 : decode cX9_takeTurns 9 = .ok (.if_icmp .ge 75, 3) := by decide +kernel
theorem dX9_takeTurns_12 : decode cX9_takeTurns 12 = .ok (.aload_n 0, 1) := by decide +kernel
theorem dX9_takeTurns_13 : decode cX9_takeTurns 13 = .ok (.iload_n 2, 1) := by decide +kernel
theorem dX9_takeTurns_14 : decode cX9_takeTurns 14 = .ok (.invokevirtual 134, 3) := by decide +kernel
theorem dX9_takeTurns_17 : decode cX9_takeTurns 17 = .ok (.astore_n 3, 1) := by decide +kernel
theorem dX9_takeTurns_18 : decode cX9_takeTurns 18 = .ok (.aload_n 3, 1) := by decide +kernel
theorem dX9_takeTurns_19 : decode cX9_takeTurns 19 = .ok (.ifnull 59, 3) := by decide +kernel
theorem dX9_takeTurns_22 : decode cX9_takeTurns 22 = .ok (.aload_n 3, 1) := by decide +kernel
theorem dX9_takeTurns_23 : decode cX9_takeTurns 23 = .ok (.getfield 145, 3) := by decide +kernel
theorem dX9_takeTurns_26 : decode cX9_takeTurns 26 = .ok (.iconst 1, 1) := by decide +kernel
theorem dX9_takeTurns_27 : decode cX9_takeTurns 27 = .ok (.if_icmp .ne 51, 3) := by decide +kernel
theorem dX9_takeTurns_30 : decode cX9_takeTurns 30 = .ok (.aload_n 0, 1) := by decide +kernel
theorem dX9_takeTurns_31 : decode cX9_takeTurns 31 = .ok (.aload_n 3, 1) := by decide +kernel
theorem dX9_takeTurns_32 : decode cX9_takeTurns 32 = .ok (.invokevirtual 286, 3) := by decide +kernel
theorem dX9_takeTurns_35 : decode cX9_takeTurns 35 = .ok (.aload_n 3, 1) := by decide +kernel
theorem dX9_takeTurns_36 : decode cX9_takeTurns 36 = .ok (.getfield 141, 3) := by decide +kernel
theorem dX9_takeTurns_39 : decode cX9_takeTurns 39 = .ok (.ifCond .ne 10, 3) := by decide +kernel
theorem dX9_takeTurns_42 : decode cX9_takeTurns 42 = .ok (.aload_n 3, 1) := by decide +kernel
theorem dX9_takeTurns_43 : decode cX9_takeTurns 43 = .ok (.getfield 289, 3) := by decide +kernel
theorem dX9_takeTurns_46 : decode cX9_takeTurns 46 = .ok (.ifCond .eq 7, 3) := by decide +kernel
theorem dX9_takeTurns_49 : decode cX9_takeTurns 49 = .ok (.iconst 1, 1) := by decide +kernel
theorem dX9_takeTurns_50 : decode cX9_takeTurns 50 = .ok (.goto 4, 3) := by decide +kernel
theorem dX9_takeTurns_53 : decode cX9_takeTurns 53 = .ok (.iconst 0, 1) := by decide +kernel
theorem dX9_takeTurns_54 : decode cX9_takeTurns 54 = .ok (.istore 4, 2) := by decide +kernel
theorem dX9_takeTurns_56 : decode cX9_takeTurns 56 = .ok (.aload_n 0, 1) := by decide +kernel
theorem dX9_takeTurns_57 : decode cX9_takeTurns 57 = .ok (.aload_n 3, 1) := by decide +kernel
theorem dX9_takeTurns_58 : decode cX9_takeTurns 58 = .ok (.iload 4, 2) := by decide +kernel
theorem dX9_takeTurns_60 : decode cX9_takeTurns 60 = .ok (.ifCond .eq 10, 3) := by decide +kernel
theorem dX9_takeTurns_63 : decode cX9_takeTurns 63 = .ok (.aload_n 3, 1) := by decide +kernel
theorem dX9_takeTurns_64 : decode cX9_takeTurns 64 = .ok (.invokestatic 292, 3) := by decide +kernel
theorem dX9_takeTurns_67 : decode cX9_takeTurns 67 = .ok (.goto 8, 3) := by decide +kernel
theorem dX9_takeTurns_70 : decode cX9_takeTurns 70 = .ok (.aload_n 0, 1) := by decide +kernel
theorem dX9_takeTurns_71 : decode cX9_takeTurns 71 = .ok (.aload_n 3, 1) := by decide +kernel
theorem dX9_takeTurns_72 : decode cX9_takeTurns 72 = .ok (.invokevirtual 296, 3) := by decide +kernel
theorem dX9_takeTurns_75 : decode cX9_takeTurns 75 = .ok (.invokevirtual 299, 3) := by decide +kernel
theorem dX9_takeTurns_78 : decode cX9_takeTurns 78 = .ok (.iinc 2 1, 3) := by decide +kernel
theorem dX9_takeTurns_81 : decode cX9_takeTurns 81 = .ok (.goto (-74), 3) := by decide +kernel
theorem dX9_takeTurns_84 : decode cX9_takeTurns 84 = .ok (.return_, 1) := by decide +kernel
theorem dX9_wakeWaiting_0 : decode cX9_wakeWaiting 0 = .ok (.iconst 0, 1) := by decide +kernel
theorem dX9_wakeWaiting_1 : decode cX9_wakeWaiting 1 = .ok (.istore_n 1, 1) := by decide +kernel
theorem dX9_wakeWaiting_2 : decode cX9_wakeWaiting 2 = .ok (.iload_n 1, 1) := by decide +kernel
theorem dX9_wakeWaiting_3 : decode cX9_wakeWaiting 3 = .ok (.aload_n 0, 1) := by decide +kernel
theorem dX9_wakeWaiting_4 : decode cX9_wakeWaiting 4 = .ok (.getfield 66, 3) := by decide +kernel
theorem dX9_wakeWaiting_7 : decode cX9_wakeWaiting 7 = .ok (.if_icmp .ge 44, 3) := by decide +kernel
theorem dX9_wakeWaiting_10 : decode cX9_wakeWaiting 10 = .ok (.aload_n 0, 1) := by decide +kernel
theorem dX9_wakeWaiting_11 : decode cX9_wakeWaiting 11 = .ok (.iload_n 1, 1) := by decide +kernel
theorem dX9_wakeWaiting_12 : decode cX9_wakeWaiting 12 = .ok (.invokevirtual 134, 3) := by decide +kernel
theorem dX9_wakeWaiting_15 : decode cX9_wakeWaiting 15 = .ok (.astore_n 2, 1) := by decide +kernel
theorem dX9_wakeWaiting_16 : decode cX9_wakeWaiting 16 = .ok (.aload_n 2, 1) := by decide +kernel
theorem dX9_wakeWaiting_17 : decode cX9_wakeWaiting 17 = .ok (.ifnull 28, 3) := by decide +kernel
theorem dX9_wakeWaiting_20 : decode cX9_wakeWaiting 20 = .ok (.aload_n 2, 1) := by decide +kernel
theorem dX9_wakeWaiting_21 : decode cX9_wakeWaiting 21 = .ok (.getfield 145, 3) := by decide +kernel
theorem dX9_wakeWaiting_24 : decode cX9_wakeWaiting 24 = .ok (.iconst 2, 1) := by decide +kernel
theorem dX9_wakeWaiting_25 : decode cX9_wakeWaiting 25 = .ok (.if_icmp .ne 20, 3) := by decide +kernel
theorem dX9_wakeWaiting_28 : decode cX9_wakeWaiting 28 = .ok (.aload_n 2, 1) := by decide +kernel
theorem dX9_wakeWaiting_29 : decode cX9_wakeWaiting 29 = .ok (.invokestatic 303, 3) := by decide +kernel
theorem dX9_wakeWaiting_32 : decode cX9_wakeWaiting 32 = .ok (.ifCond .eq 13, 3) := by decide +kernel
theorem dX9_wakeWaiting_35 : decode cX9_wakeWaiting 35 = .ok (.aload_n 2, 1) := by decide +kernel
theorem dX9_wakeWaiting_36 : decode cX9_wakeWaiting 36 = .ok (.iconst 0, 1) := by decide +kernel
theorem dX9_wakeWaiting_37 : decode cX9_wakeWaiting 37 = .ok (.putfield 145, 3) := by decide +kernel
theorem dX9_wakeWaiting_40 : decode cX9_wakeWaiting 40 = .ok (.aload_n 2, 1) := by decide +kernel
theorem dX9_wakeWaiting_41 : decode cX9_wakeWaiting 41 = .ok (.iconst 1, 1) := by decide +kernel
theorem dX9_wakeWaiting_42 : decode cX9_wakeWaiting 42 = .ok (.putfield 289, 3) := by decide +kernel
theorem dX9_wakeWaiting_45 : decode cX9_wakeWaiting 45 = .ok (.iinc 1 1, 3) := by decide +kernel
theorem dX9_wakeWaiting_48 : decode cX9_wakeWaiting 48 = .ok (.goto (-46), 3) := by decide +kernel
theorem dX9_wakeWaiting_51 : decode cX9_wakeWaiting 51 = .ok (.return_, 1) := by decide +kernel
theorem dX9_comeToThread_0 : decode cX9_comeToThread 0 = .ok (.iconst 0, 1) := by decide +kernel
theorem dX9_comeToThread_1 : decode cX9_comeToThread 1 = .ok (.istore_n 2, 1) := by decide +kernel
theorem dX9_comeToThread_2 : decode cX9_comeToThread 2 = .ok (.iload_n 2, 1) := by decide +kernel
theorem dX9_comeToThread_3 : decode cX9_comeToThread 3 = .ok (.aload_n 0, 1) := by decide +kernel
theorem dX9_comeToThread_4 : decode cX9_comeToThread 4 = .ok (.getfield 38, 3) := by decide +kernel
theorem dX9_comeToThread_7 : decode cX9_comeToThread 7 = .ok (.if_icmp .ge 52, 3) := by decide +kernel
theorem dX9_comeToThread_10 : decode cX9_comeToThread 10 = .ok (.iload_n 2, 1) := by decide +kernel
theorem dX9_comeToThread_11 : decode cX9_comeToThread 11 = .ok (.bipush 6, 2) := by decide +kernel
theorem dX9_comeToThread_13 : decode cX9_comeToThread 13 = .ok (.if_icmp .ge 46, 3) := by decide +kernel
theorem dX9_comeToThread_16 : decode cX9_comeToThread 16 = .ok (.aload_n 0, 1) := by decide +kernel
theorem dX9_comeToThread_17 : decode cX9_comeToThread 17 = .ok (.getfield 35, 3) := by decide +kernel
theorem dX9_comeToThread_20 : decode cX9_comeToThread 20 = .ok (.iload_n 2, 1) := by decide +kernel
theorem dX9_comeToThread_21 : decode cX9_comeToThread 21 = .ok (.aaload, 1) := by decide +kernel
theorem dX9_comeToThread_22 : decode cX9_comeToThread 22 = .ok (.ifnonnull 31, 3) := by decide +kernel
theorem dX9_comeToThread_25 : decode cX9_comeToThread 25 = .ok (.aload_n 0, 1) := by decide +kernel
theorem dX9_comeToThread_26 : decode cX9_comeToThread 26 = .ok (.getfield 35, 3) := by decide +kernel
theorem dX9_comeToThread_29 : decode cX9_comeToThread 29 = .ok (.iload_n 2, 1) := by decide +kernel
theorem dX9_comeToThread_30 : decode cX9_comeToThread 30 = .ok (.aload_n 1, 1) := by decide +kernel
theorem dX9_comeToThread_31 : decode cX9_comeToThread 31 = .ok (.aastore, 1) := by decide +kernel
theorem dX9_comeToThread_32 : decode cX9_comeToThread 32 = .ok (.aload_n 1, 1) := by decide +kernel
theorem dX9_comeToThread_33 : decode cX9_comeToThread 33 = .ok (.iload_n 2, 1) := by decide +kernel
theorem dX9_comeToThread_34 : decode cX9_comeToThread 34 = .ok (.putfield 168, 3) := by decide +kernel
theorem dX9_comeToThread_37 : decode cX9_comeToThread 37 = .ok (.aload_n 1, 1) := by decide +kernel
theorem dX9_comeToThread_38 : decode cX9_comeToThread 38 = .ok (.iconst 1, 1) := by decide +kernel
theorem dX9_comeToThread_39 : decode cX9_comeToThread 39 = .ok (.putfield 145, 3) := by decide +kernel
theorem dX9_comeToThread_42 : decode cX9_comeToThread 42 = .ok (.aload_n 1, 1) := by decide +kernel
theorem dX9_comeToThread_43 : decode cX9_comeToThread 43 = .ok (.dup, 1) := by decide +kernel
theorem dX9_comeToThread_44 : decode cX9_comeToThread 44 = .ok (.getfield 195, 3) := by decide +kernel
theorem dX9_comeToThread_47 : decode cX9_comeToThread 47 = .ok (.iconst 1, 1) := by decide +kernel
theorem dX9_comeToThread_48 : decode cX9_comeToThread 48 = .ok (.iadd, 1) := by decide +kernel
theorem dX9_comeToThread_49 : decode cX9_comeToThread 49 = .ok (.putfield 195, 3) := by decide +kernel
theorem dX9_comeToThread_52 : decode cX9_comeToThread 52 = .ok (.return_, 1) := by decide +kernel
theorem dX9_comeToThread_53 : decode cX9_comeToThread 53 = .ok (.iinc 2 1, 3) := by decide +kernel
theorem dX9_comeToThread_56 : decode cX9_comeToThread 56 = .ok (.goto (-54), 3) := by decide +kernel
theorem dX9_comeToThread_59 : decode cX9_comeToThread 59 = .ok (.return_, 1) := by decide +kernel
theorem dX9_leaveThread_0 : decode cX9_leaveThread 0 = .ok (.aload_n 1, 1) := by decide +kernel
theorem dX9_leaveThread_1 : decode cX9_leaveThread 1 = .ok (.getfield 168, 3) := by decide +kernel
theorem dX9_leaveThread_4 : decode cX9_leaveThread 4 = .ok (.ifCond .lt 22, 3) := by decide +kernel
theorem dX9_leaveThread_7 : decode cX9_leaveThread 7 = .ok (.aload_n 1, 1) := by decide +kernel
theorem dX9_leaveThread_8 : decode cX9_leaveThread 8 = .ok (.getfield 168, 3) := by decide +kernel
theorem dX9_leaveThread_11 : decode cX9_leaveThread 11 = .ok (.bipush 6, 2) := by decide +kernel
theorem dX9_leaveThread_13 : decode cX9_leaveThread 13 = .ok (.if_icmp .ge 13, 3) := by decide +kernel
theorem dX9_leaveThread_16 : decode cX9_leaveThread 16 = .ok (.aload_n 0, 1) := by decide +kernel
theorem dX9_leaveThread_17 : decode cX9_leaveThread 17 = .ok (.getfield 35, 3) := by decide +kernel
theorem dX9_leaveThread_20 : decode cX9_leaveThread 20 = .ok (.aload_n 1, 1) := by decide +kernel
theorem dX9_leaveThread_21 : decode cX9_leaveThread 21 = .ok (.getfield 168, 3) := by decide +kernel
theorem dX9_leaveThread_24 : decode cX9_leaveThread 24 = .ok (.aconst_null, 1) := by decide +kernel
theorem dX9_leaveThread_25 : decode cX9_leaveThread 25 = .ok (.aastore, 1) := by decide +kernel
theorem dX9_leaveThread_26 : decode cX9_leaveThread 26 = .ok (.aload_n 1, 1) := by decide +kernel
theorem dX9_leaveThread_27 : decode cX9_leaveThread 27 = .ok (.iconst (-1), 1) := by decide +kernel
theorem dX9_leaveThread_28 : decode cX9_leaveThread 28 = .ok (.putfield 168, 3) := by decide +kernel
theorem dX9_leaveThread_31 : decode cX9_leaveThread 31 = .ok (.iconst 0, 1) := by decide +kernel
theorem dX9_leaveThread_32 : decode cX9_leaveThread 32 = .ok (.istore_n 2, 1) := by decide +kernel
theorem dX9_leaveThread_33 : decode cX9_leaveThread 33 = .ok (.iload_n 2, 1) := by decide +kernel
theorem dX9_leaveThread_34 : decode cX9_leaveThread 34 = .ok (.bipush 8, 2) := by decide +kernel
theorem dX9_leaveThread_36 : decode cX9_leaveThread 36 = .ok (.if_icmp .ge 26, 3) := by decide +kernel
theorem dX9_leaveThread_39 : decode cX9_leaveThread 39 = .ok (.aload_n 0, 1) := by decide +kernel
theorem dX9_leaveThread_40 : decode cX9_leaveThread 40 = .ok (.getfield 9, 3) := by decide +kernel
theorem dX9_leaveThread_43 : decode cX9_leaveThread 43 = .ok (.iload_n 2, 1) := by decide +kernel
theorem dX9_leaveThread_44 : decode cX9_leaveThread 44 = .ok (.iaload, 1) := by decide +kernel
theorem dX9_leaveThread_45 : decode cX9_leaveThread 45 = .ok (.ifCond .ne 11, 3) := by decide +kernel
theorem dX9_leaveThread_48 : decode cX9_leaveThread 48 = .ok (.aload_n 1, 1) := by decide +kernel
theorem dX9_leaveThread_49 : decode cX9_leaveThread 49 = .ok (.getfield 253, 3) := by decide +kernel
theorem dX9_leaveThread_52 : decode cX9_leaveThread 52 = .ok (.iload_n 2, 1) := by decide +kernel
theorem dX9_leaveThread_53 : decode cX9_leaveThread 53 = .ok (.invokevirtual 307, 3) := by decide +kernel
theorem dX9_leaveThread_56 : decode cX9_leaveThread 56 = .ok (.iinc 2 1, 3) := by decide +kernel
theorem dX9_leaveThread_59 : decode cX9_leaveThread 59 = .ok (.goto (-26), 3) := by decide +kernel
theorem dX9_leaveThread_62 : decode cX9_leaveThread 62 = .ok (.return_, 1) := by decide +kernel
theorem dX9_noteTurn_0 : decode cX9_noteTurn 0 = .ok (.aload_n 0, 1) := by decide +kernel
theorem dX9_noteTurn_1 : decode cX9_noteTurn 1 = .ok (.getfield 57, 3) := by decide +kernel
theorem dX9_noteTurn_4 : decode cX9_noteTurn 4 = .ok (.sipush 256, 3) := by decide +kernel
theorem dX9_noteTurn_7 : decode cX9_noteTurn 7 = .ok (.aload_n 1, 1) := by decide +kernel
theorem dX9_noteTurn_8 : decode cX9_noteTurn 8 = .ok (.getfield 118, 3) := by decide +kernel
theorem dX9_noteTurn_11 : decode cX9_noteTurn 11 = .ok (.imul, 1) := by decide +kernel
theorem dX9_noteTurn_12 : decode cX9_noteTurn 12 = .ok (.aload_n 1, 1) := by decide +kernel
theorem dX9_noteTurn_13 : decode cX9_noteTurn 13 = .ok (.getfield 168, 3) := by decide +kernel
theorem dX9_noteTurn_16 : decode cX9_noteTurn 16 = .ok (.iadd, 1) := by decide +kernel
theorem dX9_noteTurn_17 : decode cX9_noteTurn 17 = .ok (.invokevirtual 310, 3) := by decide +kernel
theorem dX9_noteTurn_20 : decode cX9_noteTurn 20 = .ok (.aload_n 0, 1) := by decide +kernel
theorem dX9_noteTurn_21 : decode cX9_noteTurn 21 = .ok (.dup, 1) := by decide +kernel
theorem dX9_noteTurn_22 : decode cX9_noteTurn 22 = .ok (.getfield 97, 3) := by decide +kernel
theorem dX9_noteTurn_25 : decode cX9_noteTurn 25 = .ok (.iconst 1, 1) := by decide +kernel
theorem dX9_noteTurn_26 : decode cX9_noteTurn 26 = .ok (.iadd, 1) := by decide +kernel
theorem dX9_noteTurn_27 : decode cX9_noteTurn 27 = .ok (.putfield 97, 3) := by decide +kernel
theorem dX9_noteTurn_30 : decode cX9_noteTurn 30 = .ok (.aload_n 1, 1) := by decide +kernel
theorem dX9_noteTurn_31 : decode cX9_noteTurn 31 = .ok (.getfield 201, 3) := by decide +kernel
theorem dX9_noteTurn_34 : decode cX9_noteTurn 34 = .ok (.invokevirtual 312, 3) := by decide +kernel
theorem dX9_noteTurn_37 : decode cX9_noteTurn 37 = .ok (.return_, 1) := by decide +kernel
theorem dX9_closeTurn_0 : decode cX9_closeTurn 0 = .ok (.iload_n 2, 1) := by decide +kernel
theorem dX9_closeTurn_1 : decode cX9_closeTurn 1 = .ok (.iconst (-1), 1) := by decide +kernel
theorem dX9_closeTurn_2 : decode cX9_closeTurn 2 = .ok (.if_icmp .ne 16, 3) := by decide +kernel
theorem dX9_closeTurn_5 : decode cX9_closeTurn 5 = .ok (.aload_n 1, 1) := by decide +kernel
theorem dX9_closeTurn_6 : decode cX9_closeTurn 6 = .ok (.dup, 1) := by decide +kernel
theorem dX9_closeTurn_7 : decode cX9_closeTurn 7 = .ok (.getfield 174, 3) := by decide +kernel
theorem dX9_closeTurn_10 : decode cX9_closeTurn 10 = .ok (.iconst 1, 1) := by decide +kernel
theorem dX9_closeTurn_11 : decode cX9_closeTurn 11 = .ok (.iadd, 1) := by decide +kernel
theorem dX9_closeTurn_12 : decode cX9_closeTurn 12 = .ok (.putfield 174, 3) := by decide +kernel
theorem dX9_closeTurn_15 : decode cX9_closeTurn 15 = .ok (.goto 15, 3) := by decide +kernel
theorem dX9_closeTurn_18 : decode cX9_closeTurn 18 = .ok (.iload_n 2, 1) := by decide +kernel
theorem dX9_closeTurn_19 : decode cX9_closeTurn 19 = .ok (.bipush (-2), 2) := by decide +kernel
theorem dX9_closeTurn_21 : decode cX9_closeTurn 21 = .ok (.if_icmp .eq 9, 3) := by decide +kernel
theorem dX9_closeTurn_24 : decode cX9_closeTurn 24 = .ok (.aload_n 0, 1) := by decide +kernel
theorem dX9_closeTurn_25 : decode cX9_closeTurn 25 = .ok (.aload_n 1, 1) := by decide +kernel
theorem dX9_closeTurn_26 : decode cX9_closeTurn 26 = .ok (.iload_n 2, 1) := by decide +kernel
theorem dX9_closeTurn_27 : decode cX9_closeTurn 27 = .ok (.invokevirtual 313, 3) := by decide +kernel
theorem dX9_closeTurn_30 : decode cX9_closeTurn 30 = .ok (.aload_n 1, 1) := by decide +kernel
theorem dX9_closeTurn_31 : decode cX9_closeTurn 31 = .ok (.getfield 145, 3) := by decide +kernel
theorem dX9_closeTurn_34 : decode cX9_closeTurn 34 = .ok (.iconst 1, 1) := by decide +kernel
theorem dX9_closeTurn_35 : decode cX9_closeTurn 35 = .ok (.if_icmp .eq 8, 3) := by decide +kernel
theorem dX9_closeTurn_38 : decode cX9_closeTurn 38 = .ok (.aload_n 0, 1) := by decide +kernel
theorem dX9_closeTurn_39 : decode cX9_closeTurn 39 = .ok (.aload_n 1, 1) := by decide +kernel
theorem dX9_closeTurn_40 : decode cX9_closeTurn 40 = .ok (.invokevirtual 316, 3) := by decide +kernel
theorem dX9_closeTurn_43 : decode cX9_closeTurn 43 = .ok (.aload_n 1, 1) := by decide +kernel
theorem dX9_closeTurn_44 : decode cX9_closeTurn 44 = .ok (.invokevirtual 138, 3) := by decide +kernel
theorem dX9_closeTurn_47 : decode cX9_closeTurn 47 = .ok (.ifCond .eq 8, 3) := by decide +kernel
theorem dX9_closeTurn_50 : decode cX9_closeTurn 50 = .ok (.aload_n 0, 1) := by decide +kernel
theorem dX9_closeTurn_51 : decode cX9_closeTurn 51 = .ok (.aload_n 1, 1) := by decide +kernel
theorem dX9_closeTurn_52 : decode cX9_closeTurn 52 = .ok (.invokevirtual 319, 3) := by decide +kernel
theorem dX9_closeTurn_55 : decode cX9_closeTurn 55 = .ok (.return_, 1) := by decide +kernel
theorem dX9_standIn_0 : decode cX9_standIn 0 = .ok (.aload_n 0, 1) := by decide +kernel
theorem dX9_standIn_1 : decode cX9_standIn 1 = .ok (.getfield 141, 3) := by decide +kernel
theorem dX9_standIn_4 : decode cX9_standIn 4 = .ok (.ifCond .eq 10, 3) := by decide +kernel
theorem dX9_standIn_7 : decode cX9_standIn 7 = .ok (.aload_n 0, 1) := by decide +kernel
theorem dX9_standIn_8 : decode cX9_standIn 8 = .ok (.invokestatic 322, 3) := by decide +kernel
theorem dX9_standIn_11 : decode cX9_standIn 11 = .ok (.goto 7, 3) := by decide +kernel
theorem dX9_standIn_14 : decode cX9_standIn 14 = .ok (.aload_n 0, 1) := by decide +kernel
theorem dX9_standIn_15 : decode cX9_standIn 15 = .ok (.invokestatic 325, 3) := by decide +kernel
theorem dX9_standIn_18 : decode cX9_standIn 18 = .ok (.ireturn, 1) := by decide +kernel
theorem dX9_doStep_0 : decode cX9_doStep 0 = .ok (.aload_n 0, 1) := by decide +kernel
theorem dX9_doStep_1 : decode cX9_doStep 1 = .ok (.aload_n 1, 1) := by decide +kernel
theorem dX9_doStep_2 : decode cX9_doStep 2 = .ok (.getfield 148, 3) := by decide +kernel
theorem dX9_doStep_5 : decode cX9_doStep 5 = .ok (.invokevirtual 69, 3) := by decide +kernel
theorem dX9_doStep_8 : decode cX9_doStep 8 = .ok (.astore_n 2, 1) := by decide +kernel
theorem dX9_doStep_9 : decode cX9_doStep 9 = .ok (.aload_n 1, 1) := by decide +kernel
theorem dX9_doStep_10 : decode cX9_doStep 10 = .ok (.getfield 174, 3) := by decide +kernel
theorem dX9_doStep_13 : decode cX9_doStep 13 = .ok (.istore_n 3, 1) := by decide +kernel
theorem dX9_doStep_14 : decode cX9_doStep 14 = .ok (.aload_n 2, 1) := by decide +kernel
theorem dX9_doStep_15 : decode cX9_doStep 15 = .ok (.ifnull 21, 3) := by decide +kernel
theorem dX9_doStep_18 : decode cX9_doStep 18 = .ok (.iload_n 3, 1) := by decide +kernel
theorem dX9_doStep_19 : decode cX9_doStep 19 = .ok (.ifCond .lt 17, 3) := by decide +kernel
theorem dX9_doStep_22 : decode cX9_doStep 22 = .ok (.iload_n 3, 1) := by decide +kernel
theorem dX9_doStep_23 : decode cX9_doStep 23 = .ok (.aload_n 2, 1) := by decide +kernel
theorem dX9_doStep_24 : decode cX9_doStep 24 = .ok (.getfield 73, 3) := by decide +kernel
theorem dX9_doStep_27 : decode cX9_doStep 27 = .ok (.if_icmp .ge 9, 3) := by decide +kernel
theorem dX9_doStep_30 : decode cX9_doStep 30 = .ok (.iload_n 3, 1) := by decide +kernel
theorem dX9_doStep_31 : decode cX9_doStep 31 = .ok (.bipush 24, 2) := by decide +kernel
theorem dX9_doStep_33 : decode cX9_doStep 33 = .ok (.if_icmp .lt 9, 3) := by decide +kernel
theorem dX9_doStep_36 : decode cX9_doStep 36 = .ok (.aload_n 0, 1) := by decide +kernel
theorem dX9_doStep_37 : decode cX9_doStep 37 = .ok (.aload_n 1, 1) := by decide +kernel
theorem dX9_doStep_38 : decode cX9_doStep 38 = .ok (.invokevirtual 328, 3) := by decide +kernel
theorem dX9_doStep_41 : decode cX9_doStep 41 = .ok (.ireturn, 1) := by decide +kernel
theorem dX9_doStep_42 : decode cX9_doStep 42 = .ok (.aload_n 2, 1) := by decide +kernel
theorem dX9_doStep_43 : decode cX9_doStep 43 = .ok (.getfield 331, 3) := by decide +kernel
theorem dX9_doStep_46 : decode cX9_doStep 46 = .ok (.iload_n 3, 1) := by decide +kernel
theorem dX9_doStep_47 : decode cX9_doStep 47 = .ok (.iaload, 1) := by decide +kernel
theorem dX9_doStep_48 : decode cX9_doStep 48 = .ok (.istore 4, 2) := by decide +kernel
theorem dX9_doStep_50 : decode cX9_doStep 50 = .ok (.aload_n 2, 1) := by decide +kernel
theorem dX9_doStep_51 : decode cX9_doStep 51 = .ok (.getfield 334, 3) := by decide +kernel
theorem dX9_doStep_54 : decode cX9_doStep 54 = .ok (.iload_n 3, 1) := by decide +kernel
theorem dX9_doStep_55 : decode cX9_doStep 55 = .ok (.iaload, 1) := by decide +kernel
theorem dX9_doStep_56 : decode cX9_doStep 56 = .ok (.istore 5, 2) := by decide +kernel
theorem dX9_doStep_58 : decode cX9_doStep 58 = .ok (.aload_n 2, 1) := by decide +kernel
theorem dX9_doStep_59 : decode cX9_doStep 59 = .ok (.getfield 337, 3) := by decide +kernel
theorem dX9_doStep_62 : decode cX9_doStep 62 = .ok (.iload_n 3, 1) := by decide +kernel
theorem dX9_doStep_63 : decode cX9_doStep 63 = .ok (.iaload, 1) := by decide +kernel
theorem dX9_doStep_64 : decode cX9_doStep 64 = .ok (.tableswitch 206 0 11 #[64, 74, 82, 92, 110, 130, 141, 147, 161, 164, 177, 193], 64) := by decide +kernel
theorem dX9_doStep_128 : decode cX9_doStep 128 = .ok (.aload_n 0, 1) := by decide +kernel
theorem dX9_doStep_129 : decode cX9_doStep 129 = .ok (.aload_n 1, 1) := by decide +kernel
theorem dX9_doStep_130 : decode cX9_doStep 130 = .ok (.iload 4, 2) := by decide +kernel
theorem dX9_doStep_132 : decode cX9_doStep 132 = .ok (.iload 5, 2) := by decide +kernel
theorem dX9_doStep_134 : decode cX9_doStep 134 = .ok (.invokevirtual 340, 3) := by decide +kernel
theorem dX9_doStep_137 : decode cX9_doStep 137 = .ok (.ireturn, 1) := by decide +kernel
theorem dX9_doStep_138 : decode cX9_doStep 138 = .ok (.aload_n 0, 1) := by decide +kernel
theorem dX9_doStep_139 : decode cX9_doStep 139 = .ok (.aload_n 1, 1) := by decide +kernel
theorem dX9_doStep_140 : decode cX9_doStep 140 = .ok (.iload 4, 2) := by decide +kernel
theorem dX9_doStep_142 : decode cX9_doStep 142 = .ok (.invokevirtual 344, 3) := by decide +kernel
theorem dX9_doStep_145 : decode cX9_doStep 145 = .ok (.ireturn, 1) := by decide +kernel
theorem dX9_doStep_146 : decode cX9_doStep 146 = .ok (.aload_n 0, 1) := by decide +kernel
theorem dX9_doStep_147 : decode cX9_doStep 147 = .ok (.aload_n 1, 1) := by decide +kernel
theorem dX9_doStep_148 : decode cX9_doStep 148 = .ok (.iload 4, 2) := by decide +kernel
theorem dX9_doStep_150 : decode cX9_doStep 150 = .ok (.iload 5, 2) := by decide +kernel
theorem dX9_doStep_152 : decode cX9_doStep 152 = .ok (.invokevirtual 347, 3) := by decide +kernel
theorem dX9_doStep_155 : decode cX9_doStep 155 = .ok (.ireturn, 1) := by decide +kernel
theorem dX9_doStep_156 : decode cX9_doStep 156 = .ok (.aload_n 1, 1) := by decide +kernel
theorem dX9_doStep_157 : decode cX9_doStep 157 = .ok (.getfield 177, 3) := by decide +kernel
theorem dX9_doStep_160 : decode cX9_doStep 160 = .ok (.iload 4, 2) := by decide +kernel
theorem dX9_doStep_162 : decode cX9_doStep 162 = .ok (.invokevirtual 349, 3) := by decide +kernel
theorem dX9_doStep_165 : decode cX9_doStep 165 = .ok (.ifCond .eq 7, 3) := by decide +kernel
theorem dX9_doStep_168 : decode cX9_doStep 168 = .ok (.iconst (-1), 1) := by decide +kernel
theorem dX9_doStep_169 : decode cX9_doStep 169 = .ok (.goto 4, 3) := by decide +kernel
theorem dX9_doStep_172 : decode cX9_doStep 172 = .ok (.iconst 5, 1) := by decide +kernel
theorem dX9_doStep_173 : decode cX9_doStep 173 = .ok (.ireturn, 1) := by decide +kernel
theorem dX9_doStep_174 : decode cX9_doStep 174 = .ok (.aload_n 0, 1) := by decide +kernel
theorem dX9_doStep_175 : decode cX9_doStep 175 = .ok (.aload_n 1, 1) := by decide +kernel
theorem dX9_doStep_176 : decode cX9_doStep 176 = .ok (.iload 4, 2) := by decide +kernel
theorem dX9_doStep_178 : decode cX9_doStep 178 = .ok (.iconst 1, 1) := by decide +kernel
theorem dX9_doStep_179 : decode cX9_doStep 179 = .ok (.iload 5, 2) := by decide +kernel
theorem dX9_doStep_181 : decode cX9_doStep 181 = .ok (.iconst 1, 1) := by decide +kernel
theorem dX9_doStep_182 : decode cX9_doStep 182 = .ok (.if_icmp .ne 7, 3) := by decide +kernel
theorem dX9_doStep_185 : decode cX9_doStep 185 = .ok (.iconst 1, 1) := by decide +kernel
theorem dX9_doStep_186 : decode cX9_doStep 186 = .ok (.goto 4, 3) := by decide +kernel
theorem dX9_doStep_189 : decode cX9_doStep 189 = .ok (.iconst 0, 1) := by decide +kernel
theorem dX9_doStep_190 : decode cX9_doStep 190 = .ok (.invokevirtual 352, 3) := by decide +kernel
theorem dX9_doStep_193 : decode cX9_doStep 193 = .ok (.ireturn, 1) := by decide +kernel
theorem dX9_doStep_194 : decode cX9_doStep 194 = .ok (.aload_n 0, 1) := by decide +kernel
theorem dX9_doStep_195 : decode cX9_doStep 195 = .ok (.aload_n 1, 1) := by decide +kernel
theorem dX9_doStep_196 : decode cX9_doStep 196 = .ok (.iload 4, 2) := by decide +kernel
theorem dX9_doStep_198 : decode cX9_doStep 198 = .ok (.iload 5, 2) := by decide +kernel
theorem dX9_doStep_200 : decode cX9_doStep 200 = .ok (.iconst 0, 1) := by decide +kernel
theorem dX9_doStep_201 : decode cX9_doStep 201 = .ok (.invokevirtual 352, 3) := by decide +kernel
theorem dX9_doStep_204 : decode cX9_doStep 204 = .ok (.ireturn, 1) := by decide +kernel
theorem dX9_doStep_205 : decode cX9_doStep 205 = .ok (.aload_n 0, 1) := by decide +kernel
theorem dX9_doStep_206 : decode cX9_doStep 206 = .ok (.aload_n 1, 1) := by decide +kernel
theorem dX9_doStep_207 : decode cX9_doStep 207 = .ok (.invokevirtual 356, 3) := by decide +kernel
theorem dX9_doStep_210 : decode cX9_doStep 210 = .ok (.ireturn, 1) := by decide +kernel
theorem dX9_doStep_211 : decode cX9_doStep 211 = .ok (.aload_n 1, 1) := by decide +kernel
theorem dX9_doStep_212 : decode cX9_doStep 212 = .ok (.invokevirtual 161, 3) := by decide +kernel
theorem dX9_doStep_215 : decode cX9_doStep 215 = .ok (.getfield 238, 3) := by decide +kernel
theorem dX9_doStep_218 : decode cX9_doStep 218 = .ok (.iload 5, 2) := by decide +kernel
theorem dX9_doStep_220 : decode cX9_doStep 220 = .ok (.invokevirtual 310, 3) := by decide +kernel
theorem dX9_doStep_223 : decode cX9_doStep 223 = .ok (.iconst (-1), 1) := by decide +kernel
theorem dX9_doStep_224 : decode cX9_doStep 224 = .ok (.ireturn, 1) := by decide +kernel
theorem dX9_doStep_225 : decode cX9_doStep 225 = .ok (.iload 4, 2) := by decide +kernel
theorem dX9_doStep_227 : decode cX9_doStep 227 = .ok (.ireturn, 1) := by decide +kernel
theorem dX9_doStep_228 : decode cX9_doStep 228 = .ok (.aload_n 1, 1) := by decide +kernel
theorem dX9_doStep_229 : decode cX9_doStep 229 = .ok (.getfield 177, 3) := by decide +kernel
theorem dX9_doStep_232 : decode cX9_doStep 232 = .ok (.iload 4, 2) := by decide +kernel
theorem dX9_doStep_234 : decode cX9_doStep 234 = .ok (.iload 5, 2) := by decide +kernel
theorem dX9_doStep_236 : decode cX9_doStep 236 = .ok (.invokevirtual 359, 3) := by decide +kernel
theorem dX9_doStep_239 : decode cX9_doStep 239 = .ok (.iconst (-1), 1) := by decide +kernel
theorem dX9_doStep_240 : decode cX9_doStep 240 = .ok (.ireturn, 1) := by decide +kernel
theorem dX9_doStep_241 : decode cX9_doStep 241 = .ok (.aload_n 1, 1) := by decide +kernel
theorem dX9_doStep_242 : decode cX9_doStep 242 = .ok (.getfield 177, 3) := by decide +kernel
theorem dX9_doStep_245 : decode cX9_doStep 245 = .ok (.invokevirtual 362, 3) := by decide +kernel
theorem dX9_doStep_248 : decode cX9_doStep 248 = .ok (.ifCond .eq 7, 3) := by decide +kernel
theorem dX9_doStep_251 : decode cX9_doStep 251 = .ok (.iconst (-1), 1) := by decide +kernel
theorem dX9_doStep_252 : decode cX9_doStep 252 = .ok (.goto 4, 3) := by decide +kernel
theorem dX9_doStep_255 : decode cX9_doStep 255 = .ok (.iconst 5, 1) := by decide +kernel
theorem dX9_doStep_256 : decode cX9_doStep 256 = .ok (.ireturn, 1) := by decide +kernel
theorem dX9_doStep_257 : decode cX9_doStep 257 = .ok (.aload_n 1, 1) := by decide +kernel
theorem dX9_doStep_258 : decode cX9_doStep 258 = .ok (.dup, 1) := by decide +kernel
theorem dX9_doStep_259 : decode cX9_doStep 259 = .ok (.getfield 171, 3) := by decide +kernel
theorem dX9_doStep_262 : decode cX9_doStep 262 = .ok (.iload 5, 2) := by decide +kernel
theorem dX9_doStep_264 : decode cX9_doStep 264 = .ok (.iadd, 1) := by decide +kernel
theorem dX9_doStep_265 : decode cX9_doStep 265 = .ok (.putfield 171, 3) := by decide +kernel
theorem dX9_doStep_268 : decode cX9_doStep 268 = .ok (.iconst (-1), 1) := by decide +kernel
theorem dX9_doStep_269 : decode cX9_doStep 269 = .ok (.ireturn, 1) := by decide +kernel
theorem dX9_doStep_270 : decode cX9_doStep 270 = .ok (.aload_n 0, 1) := by decide +kernel
theorem dX9_doStep_271 : decode cX9_doStep 271 = .ok (.aload_n 1, 1) := by decide +kernel
theorem dX9_doStep_272 : decode cX9_doStep 272 = .ok (.invokevirtual 328, 3) := by decide +kernel
theorem dX9_doStep_275 : decode cX9_doStep 275 = .ok (.ireturn, 1) := by decide +kernel
theorem dX9_end_0 : decode cX9_end 0 = .ok (.aload_n 1, 1) := by decide +kernel
theorem dX9_end_1 : decode cX9_end 1 = .ok (.iconst 3, 1) := by decide +kernel
theorem dX9_end_2 : decode cX9_end 2 = .ok (.putfield 145, 3) := by decide +kernel
theorem dX9_end_5 : decode cX9_end 5 = .ok (.aload_n 1, 1) := by decide +kernel
theorem dX9_end_6 : decode cX9_end 6 = .ok (.aload_n 0, 1) := by decide +kernel
theorem dX9_end_7 : decode cX9_end 7 = .ok (.getfield 84, 3) := by decide +kernel
theorem dX9_end_10 : decode cX9_end 10 = .ok (.putfield 189, 3) := by decide +kernel
theorem dX9_end_13 : decode cX9_end 13 = .ok (.aload_n 1, 1) := by decide +kernel
theorem dX9_end_14 : decode cX9_end 14 = .ok (.getfield 177, 3) := by decide +kernel
theorem dX9_end_17 : decode cX9_end 17 = .ok (.invokevirtual 365, 3) := by decide +kernel
theorem dX9_end_20 : decode cX9_end 20 = .ok (.bipush (-2), 2) := by decide +kernel
theorem dX9_end_22 : decode cX9_end 22 = .ok (.ireturn, 1) := by decide +kernel
theorem dX9_openRun_0 : decode cX9_openRun 0 = .ok (.aload_n 0, 1) := by decide +kernel
theorem dX9_openRun_1 : decode cX9_openRun 1 = .ok (.getfield 66, 3) := by decide +kernel
theorem dX9_openRun_4 : decode cX9_openRun 4 = .ok (.ifCond .lt 13, 3) := by decide +kernel
theorem dX9_openRun_7 : decode cX9_openRun 7 = .ok (.aload_n 0, 1) := by decide +kernel
theorem dX9_openRun_8 : decode cX9_openRun 8 = .ok (.getfield 66, 3) := by decide +kernel
theorem dX9_openRun_11 : decode cX9_openRun 11 = .ok (.sipush 200, 3) := by decide +kernel
theorem dX9_openRun_14 : decode cX9_openRun 14 = .ok (.if_icmp .lt 5, 3) := by decide +kernel
theorem dX9_openRun_17 : decode cX9_openRun 17 = .ok (.aconst_null, 1) := by decide +kernel
theorem dX9_openRun_18 : decode cX9_openRun 18 = .ok (.areturn, 1) := by decide +kernel
theorem dX9_openRun_19 : decode cX9_openRun 19 = .ok (.aload_n 0, 1) := by decide +kernel
theorem dX9_openRun_20 : decode cX9_openRun 20 = .ok (.getfield 31, 3) := by decide +kernel
theorem dX9_openRun_23 : decode cX9_openRun 23 = .ok (.aload_n 0, 1) := by decide +kernel
theorem dX9_openRun_24 : decode cX9_openRun 24 = .ok (.getfield 66, 3) := by decide +kernel
theorem dX9_openRun_27 : decode cX9_openRun 27 = .ok (.aaload, 1) := by decide +kernel
theorem dX9_openRun_28 : decode cX9_openRun 28 = .ok (.astore_n 3, 1) := by decide +kernel
theorem dX9_openRun_29 : decode cX9_openRun 29 = .ok (.aload_n 3, 1) := by decide +kernel
theorem dX9_openRun_30 : decode cX9_openRun 30 = .ok (.ifnonnull 25, 3) := by decide +kernel
theorem dX9_openRun_33 : decode cX9_openRun 33 = .ok (.new 29, 3) := by decide +kernel
theorem dX9_openRun_36 : decode cX9_openRun 36 = .ok (.dup, 1) := by decide +kernel
theorem dX9_openRun_37 : decode cX9_openRun 37 = .ok (.aload_n 0, 1) := by decide +kernel
theorem dX9_openRun_38 : decode cX9_openRun 38 = .ok (.getfield 66, 3) := by decide +kernel
theorem dX9_openRun_41 : decode cX9_openRun 41 = .ok (.invokespecial 368, 3) := by decide +kernel
theorem dX9_openRun_44 : decode cX9_openRun 44 = .ok (.astore_n 3, 1) := by decide +kernel
theorem dX9_openRun_45 : decode cX9_openRun 45 = .ok (.aload_n 0, 1) := by decide +kernel
theorem dX9_openRun_46 : decode cX9_openRun 46 = .ok (.getfield 31, 3) := by decide +kernel
theorem dX9_openRun_49 : decode cX9_openRun 49 = .ok (.aload_n 0, 1) := by decide +kernel
theorem dX9_openRun_50 : decode cX9_openRun 50 = .ok (.getfield 66, 3) := by decide +kernel
theorem dX9_openRun_53 : decode cX9_openRun 53 = .ok (.aload_n 3, 1) := by decide +kernel
theorem dX9_openRun_54 : decode cX9_openRun 54 = .ok (.aastore, 1) := by decide +kernel
theorem dX9_openRun_55 : decode cX9_openRun 55 = .ok (.aload_n 3, 1) := by decide +kernel
theorem dX9_openRun_56 : decode cX9_openRun 56 = .ok (.iload_n 1, 1) := by decide +kernel
theorem dX9_openRun_57 : decode cX9_openRun 57 = .ok (.aload_n 2, 1) := by decide +kernel
theorem dX9_openRun_58 : decode cX9_openRun 58 = .ok (.invokevirtual 369, 3) := by decide +kernel
theorem dX9_openRun_61 : decode cX9_openRun 61 = .ok (.iconst 0, 1) := by decide +kernel
theorem dX9_openRun_62 : decode cX9_openRun 62 = .ok (.istore 4, 2) := by decide +kernel
theorem dX9_openRun_64 : decode cX9_openRun 64 = .ok (.iload 4, 2) := by decide +kernel
theorem dX9_openRun_66 : decode cX9_openRun 66 = .ok (.bipush 8, 2) := by decide +kernel
theorem dX9_openRun_68 : decode cX9_openRun 68 = .ok (.if_icmp .ge 39, 3) := by decide +kernel
theorem dX9_openRun_71 : decode cX9_openRun 71 = .ok (.aload_n 3, 1) := by decide +kernel
theorem dX9_openRun_72 : decode cX9_openRun 72 = .ok (.getfield 253, 3) := by decide +kernel
theorem dX9_openRun_75 : decode cX9_openRun 75 = .ok (.iload 4, 2) := by decide +kernel
theorem dX9_openRun_77 : decode cX9_openRun 77 = .ok (.aload_n 2, 1) := by decide +kernel
theorem dX9_openRun_78 : decode cX9_openRun 78 = .ok (.ifnonnull 13, 3) := by decide +kernel
theorem dX9_openRun_81 : decode cX9_openRun 81 = .ok (.aload_n 0, 1) := by decide +kernel
theorem dX9_openRun_82 : decode cX9_openRun 82 = .ok (.getfield 13, 3) := by decide +kernel
theorem dX9_openRun_85 : decode cX9_openRun 85 = .ok (.iload 4, 2) := by decide +kernel
theorem dX9_openRun_87 : decode cX9_openRun 87 = .ok (.iaload, 1) := by decide +kernel
theorem dX9_openRun_88 : decode cX9_openRun 88 = .ok (.goto 10, 3) := by decide +kernel
theorem dX9_openRun_91 : decode cX9_openRun 91 = .ok (.aload_n 0, 1) := by decide +kernel
theorem dX9_openRun_92 : decode cX9_openRun 92 = .ok (.aload_n 2, 1) := by decide +kernel
theorem dX9_openRun_93 : decode cX9_openRun 93 = .ok (.iload 4, 2) := by decide +kernel
theorem dX9_openRun_95 : decode cX9_openRun 95 = .ok (.invokevirtual 231, 3) := by decide +kernel
theorem dX9_openRun_98 : decode cX9_openRun 98 = .ok (.invokevirtual 373, 3) := by decide +kernel
theorem dX9_openRun_101 : decode cX9_openRun 101 = .ok (.iinc 4 1, 3) := by decide +kernel
theorem dX9_openRun_104 : decode cX9_openRun 104 = .ok (.goto (-40), 3) := by decide +kernel
theorem dX9_openRun_107 : decode cX9_openRun 107 = .ok (.aload_n 0, 1) := by decide +kernel
theorem dX9_openRun_108 : decode cX9_openRun 108 = .ok (.dup, 1) := by decide +kernel
theorem dX9_openRun_109 : decode cX9_openRun 109 = .ok (.getfield 66, 3) := by decide +kernel
theorem dX9_openRun_112 : decode cX9_openRun 112 = .ok (.iconst 1, 1) := by decide +kernel
theorem dX9_openRun_113 : decode cX9_openRun 113 = .ok (.iadd, 1) := by decide +kernel
theorem dX9_openRun_114 : decode cX9_openRun 114 = .ok (.putfield 66, 3) := by decide +kernel
theorem dX9_openRun_117 : decode cX9_openRun 117 = .ok (.aload_n 3, 1) := by decide +kernel
theorem dX9_openRun_118 : decode cX9_openRun 118 = .ok (.areturn, 1) := by decide +kernel
theorem dX9_hand_0 : decode cX9_hand 0 = .ok (.iconst 0, 1) := by decide +kernel
theorem dX9_hand_1 : decode cX9_hand 1 = .ok (.istore 5, 2) := by decide +kernel
theorem dX9_hand_3 : decode cX9_hand 3 = .ok (.iload 5, 2) := by decide +kernel
theorem dX9_hand_5 : decode cX9_hand 5 = .ok (.iload_n 3, 1) := by decide +kernel
theorem dX9_hand_6 : decode cX9_hand 6 = .ok (.if_icmp .ge 68, 3) := by decide +kernel
theorem dX9_hand_9 : decode cX9_hand 9 = .ok (.aload_n 1, 1) := by decide +kernel
theorem dX9_hand_10 : decode cX9_hand 10 = .ok (.getfield 151, 3) := by decide +kernel
theorem dX9_hand_13 : decode cX9_hand 13 = .ok (.getfield 165, 3) := by decide +kernel
theorem dX9_hand_16 : decode cX9_hand 16 = .ok (.bipush 6, 2) := by decide +kernel
theorem dX9_hand_18 : decode cX9_hand 18 = .ok (.if_icmp .lt 6, 3) := by decide +kernel
theorem dX9_hand_21 : decode cX9_hand 21 = .ok (.bipush 6, 2) := by decide +kernel
theorem dX9_hand_23 : decode cX9_hand 23 = .ok (.ireturn, 1) := by decide +kernel
theorem dX9_hand_24 : decode cX9_hand 24 = .ok (.aload_n 0, 1) := by decide +kernel
theorem dX9_hand_25 : decode cX9_hand 25 = .ok (.iload_n 2, 1) := by decide +kernel
theorem dX9_hand_26 : decode cX9_hand 26 = .ok (.aload_n 1, 1) := by decide +kernel
theorem dX9_hand_27 : decode cX9_hand 27 = .ok (.invokevirtual 114, 3) := by decide +kernel
theorem dX9_hand_30 : decode cX9_hand 30 = .ok (.astore 6, 2) := by decide +kernel
theorem dX9_hand_32 : decode cX9_hand 32 = .ok (.aload 6, 2) := by decide +kernel
theorem dX9_hand_34 : decode cX9_hand 34 = .ok (.ifnonnull 6, 3) := by decide +kernel
theorem dX9_hand_37 : decode cX9_hand 37 = .ok (.bipush 7, 2) := by decide +kernel
theorem dX9_hand_39 : decode cX9_hand 39 = .ok (.ireturn, 1) := by decide +kernel
theorem dX9_hand_40 : decode cX9_hand 40 = .ok (.aload_n 1, 1) := by decide +kernel
theorem dX9_hand_41 : decode cX9_hand 41 = .ok (.getfield 151, 3) := by decide +kernel
theorem dX9_hand_44 : decode cX9_hand 44 = .ok (.aload 6, 2) := by decide +kernel
theorem dX9_hand_46 : decode cX9_hand 46 = .ok (.invokevirtual 376, 3) := by decide +kernel
theorem dX9_hand_49 : decode cX9_hand 49 = .ok (.iload 4, 2) := by decide +kernel
theorem dX9_hand_51 : decode cX9_hand 51 = .ok (.ifCond .eq 17, 3) := by decide +kernel
theorem dX9_hand_54 : decode cX9_hand 54 = .ok (.aload 6, 2) := by decide +kernel
theorem dX9_hand_56 : decode cX9_hand 56 = .ok (.getfield 151, 3) := by decide +kernel
theorem dX9_hand_59 : decode cX9_hand 59 = .ok (.iconst 1, 1) := by decide +kernel
theorem dX9_hand_60 : decode cX9_hand 60 = .ok (.putfield 379, 3) := by decide +kernel
theorem dX9_hand_63 : decode cX9_hand 63 = .ok (.aload_n 1, 1) := by decide +kernel
theorem dX9_hand_64 : decode cX9_hand 64 = .ok (.iconst 2, 1) := by decide +kernel
theorem dX9_hand_65 : decode cX9_hand 65 = .ok (.putfield 145, 3) := by decide +kernel
theorem dX9_hand_68 : decode cX9_hand 68 = .ok (.iinc 5 1, 3) := by decide +kernel
theorem dX9_hand_71 : decode cX9_hand 71 = .ok (.goto (-68), 3) := by decide +kernel
theorem dX9_hand_74 : decode cX9_hand 74 = .ok (.iload 4, 2) := by decide +kernel
theorem dX9_hand_76 : decode cX9_hand 76 = .ok (.ifCond .eq 8, 3) := by decide +kernel
theorem dX9_hand_79 : decode cX9_hand 79 = .ok (.bipush (-2), 2) := by decide +kernel
theorem dX9_hand_81 : decode cX9_hand 81 = .ok (.goto 4, 3) := by decide +kernel
theorem dX9_hand_84 : decode cX9_hand 84 = .ok (.iconst (-1), 1) := by decide +kernel
theorem dX9_hand_85 : decode cX9_hand 85 = .ok (.ireturn, 1) := by decide +kernel
theorem dX9_gather_0 : decode cX9_gather 0 = .ok (.aload_n 1, 1) := by decide +kernel
theorem dX9_gather_1 : decode cX9_gather 1 = .ok (.getfield 151, 3) := by decide +kernel
theorem dX9_gather_4 : decode cX9_gather 4 = .ok (.getfield 225, 3) := by decide +kernel
theorem dX9_gather_7 : decode cX9_gather 7 = .ok (.astore_n 2, 1) := by decide +kernel
theorem dX9_gather_8 : decode cX9_gather 8 = .ok (.aload_n 2, 1) := by decide +kernel
theorem dX9_gather_9 : decode cX9_gather 9 = .ok (.ifnull 32, 3) := by decide +kernel
theorem dX9_gather_12 : decode cX9_gather 12 = .ok (.aload_n 2, 1) := by decide +kernel
theorem dX9_gather_13 : decode cX9_gather 13 = .ok (.getfield 151, 3) := by decide +kernel
theorem dX9_gather_16 : decode cX9_gather 16 = .ok (.getfield 379, 3) := by decide +kernel
theorem dX9_gather_19 : decode cX9_gather 19 = .ok (.ifCond .ne 11, 3) := by decide +kernel
theorem dX9_gather_22 : decode cX9_gather 22 = .ok (.aload_n 2, 1) := by decide +kernel
theorem dX9_gather_23 : decode cX9_gather 23 = .ok (.getfield 151, 3) := by decide +kernel
theorem dX9_gather_26 : decode cX9_gather 26 = .ok (.iconst 1, 1) := by decide +kernel
theorem dX9_gather_27 : decode cX9_gather 27 = .ok (.putfield 379, 3) := by decide +kernel
theorem dX9_gather_30 : decode cX9_gather 30 = .ok (.aload_n 2, 1) := by decide +kernel
theorem dX9_gather_31 : decode cX9_gather 31 = .ok (.getfield 151, 3) := by decide +kernel
theorem dX9_gather_34 : decode cX9_gather 34 = .ok (.getfield 228, 3) := by decide +kernel
theorem dX9_gather_37 : decode cX9_gather 37 = .ok (.astore_n 2, 1) := by decide +kernel
theorem dX9_gather_38 : decode cX9_gather 38 = .ok (.goto (-30), 3) := by decide +kernel
theorem dX9_gather_41 : decode cX9_gather 41 = .ok (.aload_n 1, 1) := by decide +kernel
theorem dX9_gather_42 : decode cX9_gather 42 = .ok (.invokestatic 303, 3) := by decide +kernel
theorem dX9_gather_45 : decode cX9_gather 45 = .ok (.ifCond .eq 8, 3) := by decide +kernel
theorem dX9_gather_48 : decode cX9_gather 48 = .ok (.aload_n 1, 1) := by decide +kernel
theorem dX9_gather_49 : decode cX9_gather 49 = .ok (.invokestatic 325, 3) := by decide +kernel
theorem dX9_gather_52 : decode cX9_gather 52 = .ok (.ireturn, 1) := by decide +kernel
theorem dX9_gather_53 : decode cX9_gather 53 = .ok (.aload_n 1, 1) := by decide +kernel
theorem dX9_gather_54 : decode cX9_gather 54 = .ok (.iconst 2, 1) := by decide +kernel
theorem dX9_gather_55 : decode cX9_gather 55 = .ok (.putfield 145, 3) := by decide +kernel
theorem dX9_gather_58 : decode cX9_gather 58 = .ok (.bipush (-2), 2) := by decide +kernel
theorem dX9_gather_60 : decode cX9_gather 60 = .ok (.ireturn, 1) := by decide +kernel
theorem dX9_areAwaitedOver_0 : decode cX9_areAwaitedOver 0 = .ok (.aload_n 0, 1) := by decide +kernel
theorem dX9_areAwaitedOver_1 : decode cX9_areAwaitedOver 1 = .ok (.getfield 151, 3) := by decide +kernel
theorem dX9_areAwaitedOver_4 : decode cX9_areAwaitedOver 4 = .ok (.getfield 225, 3) := by decide +kernel
theorem dX9_areAwaitedOver_7 : decode cX9_areAwaitedOver 7 = .ok (.astore_n 1, 1) := by decide +kernel
theorem dX9_areAwaitedOver_8 : decode cX9_areAwaitedOver 8 = .ok (.aload_n 1, 1) := by decide +kernel
theorem dX9_areAwaitedOver_9 : decode cX9_areAwaitedOver 9 = .ok (.ifnull 34, 3) := by decide +kernel
theorem dX9_areAwaitedOver_12 : decode cX9_areAwaitedOver 12 = .ok (.aload_n 1, 1) := by decide +kernel
theorem dX9_areAwaitedOver_13 : decode cX9_areAwaitedOver 13 = .ok (.getfield 151, 3) := by decide +kernel
theorem dX9_areAwaitedOver_16 : decode cX9_areAwaitedOver 16 = .ok (.getfield 379, 3) := by decide +kernel
theorem dX9_areAwaitedOver_19 : decode cX9_areAwaitedOver 19 = .ok (.iconst 1, 1) := by decide +kernel
theorem dX9_areAwaitedOver_20 : decode cX9_areAwaitedOver 20 = .ok (.if_icmp .ne 12, 3) := by decide +kernel
theorem dX9_areAwaitedOver_23 : decode cX9_areAwaitedOver 23 = .ok (.aload_n 1, 1) := by decide +kernel
theorem dX9_areAwaitedOver_24 : decode cX9_areAwaitedOver 24 = .ok (.invokevirtual 138, 3) := by decide +kernel
theorem dX9_areAwaitedOver_27 : decode cX9_areAwaitedOver 27 = .ok (.ifCond .ne 5, 3) := by decide +kernel
theorem dX9_areAwaitedOver_30 : decode cX9_areAwaitedOver 30 = .ok (.iconst 0, 1) := by decide +kernel
theorem dX9_areAwaitedOver_31 : decode cX9_areAwaitedOver 31 = .ok (.ireturn, 1) := by decide +kernel
theorem dX9_areAwaitedOver_32 : decode cX9_areAwaitedOver 32 = .ok (.aload_n 1, 1) := by decide +kernel
theorem dX9_areAwaitedOver_33 : decode cX9_areAwaitedOver 33 = .ok (.getfield 151, 3) := by decide +kernel
theorem dX9_areAwaitedOver_36 : decode cX9_areAwaitedOver 36 = .ok (.getfield 228, 3) := by decide +kernel
theorem dX9_areAwaitedOver_39 : decode cX9_areAwaitedOver 39 = .ok (.astore_n 1, 1) := by decide +kernel
theorem dX9_areAwaitedOver_40 : decode cX9_areAwaitedOver 40 = .ok (.goto (-32), 3) := by decide +kernel
theorem dX9_areAwaitedOver_43 : decode cX9_areAwaitedOver 43 = .ok (.iconst 1, 1) := by decide +kernel
theorem dX9_areAwaitedOver_44 : decode cX9_areAwaitedOver 44 = .ok (.ireturn, 1) := by decide +kernel
theorem dX9_settleAwaited_0 : decode cX9_settleAwaited 0 = .ok (.aload_n 0, 1) := by decide +kernel
theorem dX9_settleAwaited_1 : decode cX9_settleAwaited 1 = .ok (.getfield 151, 3) := by decide +kernel
theorem dX9_settleAwaited_4 : decode cX9_settleAwaited 4 = .ok (.getfield 225, 3) := by decide +kernel
theorem dX9_settleAwaited_7 : decode cX9_settleAwaited 7 = .ok (.astore_n 1, 1) := by decide +kernel
theorem dX9_settleAwaited_8 : decode cX9_settleAwaited 8 = .ok (.aload_n 1, 1) := by decide +kernel
theorem dX9_settleAwaited_9 : decode cX9_settleAwaited 9 = .ok (.ifnull 33, 3) := by decide +kernel
theorem dX9_settleAwaited_12 : decode cX9_settleAwaited 12 = .ok (.aload_n 1, 1) := by decide +kernel
theorem dX9_settleAwaited_13 : decode cX9_settleAwaited 13 = .ok (.getfield 151, 3) := by decide +kernel
theorem dX9_settleAwaited_16 : decode cX9_settleAwaited 16 = .ok (.getfield 379, 3) := by decide +kernel
theorem dX9_settleAwaited_19 : decode cX9_settleAwaited 19 = .ok (.iconst 1, 1) := by decide +kernel
theorem dX9_settleAwaited_20 : decode cX9_settleAwaited 20 = .ok (.if_icmp .ne 11, 3) := by decide +kernel
theorem dX9_settleAwaited_23 : decode cX9_settleAwaited 23 = .ok (.aload_n 1, 1) := by decide +kernel
theorem dX9_settleAwaited_24 : decode cX9_settleAwaited 24 = .ok (.getfield 151, 3) := by decide +kernel
theorem dX9_settleAwaited_27 : decode cX9_settleAwaited 27 = .ok (.iconst 2, 1) := by decide +kernel
theorem dX9_settleAwaited_28 : decode cX9_settleAwaited 28 = .ok (.putfield 379, 3) := by decide +kernel
theorem dX9_settleAwaited_31 : decode cX9_settleAwaited 31 = .ok (.aload_n 1, 1) := by decide +kernel
theorem dX9_settleAwaited_32 : decode cX9_settleAwaited 32 = .ok (.getfield 151, 3) := by decide +kernel
theorem dX9_settleAwaited_35 : decode cX9_settleAwaited 35 = .ok (.getfield 228, 3) := by decide +kernel
theorem dX9_settleAwaited_38 : decode cX9_settleAwaited 38 = .ok (.astore_n 1, 1) := by decide +kernel
theorem dX9_settleAwaited_39 : decode cX9_settleAwaited 39 = .ok (.goto (-31), 3) := by decide +kernel
theorem dX9_settleAwaited_42 : decode cX9_settleAwaited 42 = .ok (.return_, 1) := by decide +kernel
theorem dX9_takeAnswers_0 : decode cX9_takeAnswers 0 = .ok (.aconst_null, 1) := by decide +kernel
theorem dX9_takeAnswers_1 : decode cX9_takeAnswers 1 = .ok (.astore_n 1, 1) := by decide +kernel
theorem dX9_takeAnswers_2 : decode cX9_takeAnswers 2 = .ok (.iconst 0, 1) := by decide +kernel
theorem dX9_takeAnswers_3 : decode cX9_takeAnswers 3 = .ok (.istore_n 2, 1) := by decide +kernel
theorem dX9_takeAnswers_4 : decode cX9_takeAnswers 4 = .ok (.aload_n 0, 1) := by decide +kernel
theorem dX9_takeAnswers_5 : decode cX9_takeAnswers 5 = .ok (.getfield 151, 3) := by decide +kernel
theorem dX9_takeAnswers_8 : decode cX9_takeAnswers 8 = .ok (.getfield 225, 3) := by decide +kernel
theorem dX9_takeAnswers_11 : decode cX9_takeAnswers 11 = .ok (.astore_n 3, 1) := by decide +kernel
theorem dX9_takeAnswers_12 : decode cX9_takeAnswers 12 = .ok (.aload_n 3, 1) := by decide +kernel
theorem dX9_takeAnswers_13 : decode cX9_takeAnswers 13 = .ok (.ifnull 81, 3) := by decide +kernel
theorem dX9_takeAnswers_16 : decode cX9_takeAnswers 16 = .ok (.aload_n 3, 1) := by decide +kernel
theorem dX9_takeAnswers_17 : decode cX9_takeAnswers 17 = .ok (.getfield 151, 3) := by decide +kernel
theorem dX9_takeAnswers_20 : decode cX9_takeAnswers 20 = .ok (.getfield 379, 3) := by decide +kernel
theorem dX9_takeAnswers_23 : decode cX9_takeAnswers 23 = .ok (.iconst 1, 1) := by decide +kernel
theorem dX9_takeAnswers_24 : decode cX9_takeAnswers 24 = .ok (.if_icmp .ne 27, 3) := by decide +kernel
theorem dX9_takeAnswers_27 : decode cX9_takeAnswers 27 = .ok (.aload_n 3, 1) := by decide +kernel
theorem dX9_takeAnswers_28 : decode cX9_takeAnswers 28 = .ok (.getfield 145, 3) := by decide +kernel
theorem dX9_takeAnswers_31 : decode cX9_takeAnswers 31 = .ok (.iconst 3, 1) := by decide +kernel
theorem dX9_takeAnswers_32 : decode cX9_takeAnswers 32 = .ok (.if_icmp .ne 19, 3) := by decide +kernel
theorem dX9_takeAnswers_35 : decode cX9_takeAnswers 35 = .ok (.aload_n 0, 1) := by decide +kernel
theorem dX9_takeAnswers_36 : decode cX9_takeAnswers 36 = .ok (.dup, 1) := by decide +kernel
theorem dX9_takeAnswers_37 : decode cX9_takeAnswers 37 = .ok (.getfield 171, 3) := by decide +kernel
theorem dX9_takeAnswers_40 : decode cX9_takeAnswers 40 = .ok (.aload_n 3, 1) := by decide +kernel
theorem dX9_takeAnswers_41 : decode cX9_takeAnswers 41 = .ok (.getfield 171, 3) := by decide +kernel
theorem dX9_takeAnswers_44 : decode cX9_takeAnswers 44 = .ok (.iadd, 1) := by decide +kernel
theorem dX9_takeAnswers_45 : decode cX9_takeAnswers 45 = .ok (.putfield 171, 3) := by decide +kernel
theorem dX9_takeAnswers_48 : decode cX9_takeAnswers 48 = .ok (.goto 35, 3) := by decide +kernel
theorem dX9_takeAnswers_51 : decode cX9_takeAnswers 51 = .ok (.aload_n 3, 1) := by decide +kernel
theorem dX9_takeAnswers_52 : decode cX9_takeAnswers 52 = .ok (.getfield 151, 3) := by decide +kernel
theorem dX9_takeAnswers_55 : decode cX9_takeAnswers 55 = .ok (.getfield 379, 3) := by decide +kernel
theorem dX9_takeAnswers_58 : decode cX9_takeAnswers 58 = .ok (.iconst 1, 1) := by decide +kernel
theorem dX9_takeAnswers_59 : decode cX9_takeAnswers 59 = .ok (.if_icmp .ne 24, 3) := by decide +kernel
theorem dX9_takeAnswers_62 : decode cX9_takeAnswers 62 = .ok (.aload_n 3, 1) := by decide +kernel
theorem dX9_takeAnswers_63 : decode cX9_takeAnswers 63 = .ok (.getfield 145, 3) := by decide +kernel
theorem dX9_takeAnswers_66 : decode cX9_takeAnswers 66 = .ok (.iconst 4, 1) := by decide +kernel
theorem dX9_takeAnswers_67 : decode cX9_takeAnswers 67 = .ok (.if_icmp .ne 16, 3) := by decide +kernel
theorem dX9_takeAnswers_70 : decode cX9_takeAnswers 70 = .ok (.iinc 2 1, 3) := by decide +kernel
theorem dX9_takeAnswers_73 : decode cX9_takeAnswers 73 = .ok (.aload_n 1, 1) := by decide +kernel
theorem dX9_takeAnswers_74 : decode cX9_takeAnswers 74 = .ok (.ifnonnull 7, 3) := by decide +kernel
theorem dX9_takeAnswers_77 : decode cX9_takeAnswers 77 = .ok (.aload_n 3, 1) := by decide +kernel
theorem dX9_takeAnswers_78 : decode cX9_takeAnswers 78 = .ok (.goto 4, 3) := by decide +kernel
theorem dX9_takeAnswers_81 : decode cX9_takeAnswers 81 = .ok (.aload_n 1, 1) := by decide +kernel
theorem dX9_takeAnswers_82 : decode cX9_takeAnswers 82 = .ok (.astore_n 1, 1) := by decide +kernel
theorem dX9_takeAnswers_83 : decode cX9_takeAnswers 83 = .ok (.aload_n 3, 1) := by decide +kernel
theorem dX9_takeAnswers_84 : decode cX9_takeAnswers 84 = .ok (.getfield 151, 3) := by decide +kernel
theorem dX9_takeAnswers_87 : decode cX9_takeAnswers 87 = .ok (.getfield 228, 3) := by decide +kernel
theorem dX9_takeAnswers_90 : decode cX9_takeAnswers 90 = .ok (.astore_n 3, 1) := by decide +kernel
theorem dX9_takeAnswers_91 : decode cX9_takeAnswers 91 = .ok (.goto (-79), 3) := by decide +kernel
theorem dX9_takeAnswers_94 : decode cX9_takeAnswers 94 = .ok (.aload_n 0, 1) := by decide +kernel
theorem dX9_takeAnswers_95 : decode cX9_takeAnswers 95 = .ok (.invokestatic 382, 3) := by decide +kernel
theorem dX9_takeAnswers_98 : decode cX9_takeAnswers 98 = .ok (.aload_n 0, 1) := by decide +kernel
theorem dX9_takeAnswers_99 : decode cX9_takeAnswers 99 = .ok (.iconst 0, 1) := by decide +kernel
theorem dX9_takeAnswers_100 : decode cX9_takeAnswers 100 = .ok (.putfield 289, 3) := by decide +kernel
theorem dX9_takeAnswers_103 : decode cX9_takeAnswers 103 = .ok (.aload_n 1, 1) := by decide +kernel
theorem dX9_takeAnswers_104 : decode cX9_takeAnswers 104 = .ok (.ifnonnull 5, 3) := by decide +kernel
theorem dX9_takeAnswers_107 : decode cX9_takeAnswers 107 = .ok (.iconst (-1), 1) := by decide +kernel
theorem dX9_takeAnswers_108 : decode cX9_takeAnswers 108 = .ok (.ireturn, 1) := by decide +kernel
theorem dX9_takeAnswers_109 : decode cX9_takeAnswers 109 = .ok (.aload_n 0, 1) := by decide +kernel
theorem dX9_takeAnswers_110 : decode cX9_takeAnswers 110 = .ok (.getfield 201, 3) := by decide +kernel
theorem dX9_takeAnswers_113 : decode cX9_takeAnswers 113 = .ok (.aload_n 1, 1) := by decide +kernel
theorem dX9_takeAnswers_114 : decode cX9_takeAnswers 114 = .ok (.getfield 118, 3) := by decide +kernel
theorem dX9_takeAnswers_117 : decode cX9_takeAnswers 117 = .ok (.putfield 213, 3) := by decide +kernel
theorem dX9_takeAnswers_120 : decode cX9_takeAnswers 120 = .ok (.aload_n 0, 1) := by decide +kernel
theorem dX9_takeAnswers_121 : decode cX9_takeAnswers 121 = .ok (.getfield 201, 3) := by decide +kernel
theorem dX9_takeAnswers_124 : decode cX9_takeAnswers 124 = .ok (.iload_n 2, 1) := by decide +kernel
theorem dX9_takeAnswers_125 : decode cX9_takeAnswers 125 = .ok (.iconst 1, 1) := by decide +kernel
theorem dX9_takeAnswers_126 : decode cX9_takeAnswers 126 = .ok (.isub, 1) := by decide +kernel
theorem dX9_takeAnswers_127 : decode cX9_takeAnswers 127 = .ok (.putfield 216, 3) := by decide +kernel
theorem dX9_takeAnswers_130 : decode cX9_takeAnswers 130 = .ok (.aload_n 1, 1) := by decide +kernel
theorem dX9_takeAnswers_131 : decode cX9_takeAnswers 131 = .ok (.getfield 201, 3) := by decide +kernel
theorem dX9_takeAnswers_134 : decode cX9_takeAnswers 134 = .ok (.getfield 205, 3) := by decide +kernel
theorem dX9_takeAnswers_137 : decode cX9_takeAnswers 137 = .ok (.ireturn, 1) := by decide +kernel
theorem dX9_noticeInterrupt_0 : decode cX9_noticeInterrupt 0 = .ok (.aload_n 0, 1) := by decide +kernel
theorem dX9_noticeInterrupt_1 : decode cX9_noticeInterrupt 1 = .ok (.iconst 0, 1) := by decide +kernel
theorem dX9_noticeInterrupt_2 : decode cX9_noticeInterrupt 2 = .ok (.putfield 141, 3) := by decide +kernel
theorem dX9_noticeInterrupt_5 : decode cX9_noticeInterrupt 5 = .ok (.aload_n 0, 1) := by decide +kernel
theorem dX9_noticeInterrupt_6 : decode cX9_noticeInterrupt 6 = .ok (.iconst 0, 1) := by decide +kernel
theorem dX9_noticeInterrupt_7 : decode cX9_noticeInterrupt 7 = .ok (.putfield 289, 3) := by decide +kernel
theorem dX9_noticeInterrupt_10 : decode cX9_noticeInterrupt 10 = .ok (.aload_n 0, 1) := by decide +kernel
theorem dX9_noticeInterrupt_11 : decode cX9_noticeInterrupt 11 = .ok (.invokestatic 382, 3) := by decide +kernel
theorem dX9_noticeInterrupt_14 : decode cX9_noticeInterrupt 14 = .ok (.iconst 4, 1) := by decide +kernel
theorem dX9_noticeInterrupt_15 : decode cX9_noticeInterrupt 15 = .ok (.ireturn, 1) := by decide +kernel
theorem dX9_failWith_0 : decode cX9_failWith 0 = .ok (.aload_n 1, 1) := by decide +kernel
theorem dX9_failWith_1 : decode cX9_failWith 1 = .ok (.getfield 177, 3) := by decide +kernel
theorem dX9_failWith_4 : decode cX9_failWith 4 = .ok (.iload_n 2, 1) := by decide +kernel
theorem dX9_failWith_5 : decode cX9_failWith 5 = .ok (.invokevirtual 385, 3) := by decide +kernel
theorem dX9_failWith_8 : decode cX9_failWith 8 = .ok (.istore_n 3, 1) := by decide +kernel
theorem dX9_failWith_9 : decode cX9_failWith 9 = .ok (.iload_n 3, 1) := by decide +kernel
theorem dX9_failWith_10 : decode cX9_failWith 10 = .ok (.iconst (-1), 1) := by decide +kernel
theorem dX9_failWith_11 : decode cX9_failWith 11 = .ok (.if_icmp .eq 9, 3) := by decide +kernel
theorem dX9_failWith_14 : decode cX9_failWith 14 = .ok (.aload_n 1, 1) := by decide +kernel
theorem dX9_failWith_15 : decode cX9_failWith 15 = .ok (.iload_n 3, 1) := by decide +kernel
theorem dX9_failWith_16 : decode cX9_failWith 16 = .ok (.putfield 174, 3) := by decide +kernel
theorem dX9_failWith_19 : decode cX9_failWith 19 = .ok (.return_, 1) := by decide +kernel
theorem dX9_failWith_20 : decode cX9_failWith 20 = .ok (.aload_n 1, 1) := by decide +kernel
theorem dX9_failWith_21 : decode cX9_failWith 21 = .ok (.getfield 201, 3) := by decide +kernel
theorem dX9_failWith_24 : decode cX9_failWith 24 = .ok (.iload_n 2, 1) := by decide +kernel
theorem dX9_failWith_25 : decode cX9_failWith 25 = .ok (.putfield 205, 3) := by decide +kernel
theorem dX9_failWith_28 : decode cX9_failWith 28 = .ok (.aload_n 1, 1) := by decide +kernel
theorem dX9_failWith_29 : decode cX9_failWith 29 = .ok (.getfield 201, 3) := by decide +kernel
theorem dX9_failWith_32 : decode cX9_failWith 32 = .ok (.aload_n 1, 1) := by decide +kernel
theorem dX9_failWith_33 : decode cX9_failWith 33 = .ok (.getfield 174, 3) := by decide +kernel
theorem dX9_failWith_36 : decode cX9_failWith 36 = .ok (.putfield 210, 3) := by decide +kernel
theorem dX9_failWith_39 : decode cX9_failWith 39 = .ok (.aload_n 1, 1) := by decide +kernel
theorem dX9_failWith_40 : decode cX9_failWith 40 = .ok (.iconst 4, 1) := by decide +kernel
theorem dX9_failWith_41 : decode cX9_failWith 41 = .ok (.putfield 145, 3) := by decide +kernel
theorem dX9_failWith_44 : decode cX9_failWith 44 = .ok (.aload_n 1, 1) := by decide +kernel
theorem dX9_failWith_45 : decode cX9_failWith 45 = .ok (.aload_n 0, 1) := by decide +kernel
theorem dX9_failWith_46 : decode cX9_failWith 46 = .ok (.getfield 84, 3) := by decide +kernel
theorem dX9_failWith_49 : decode cX9_failWith 49 = .ok (.putfield 189, 3) := by decide +kernel
theorem dX9_failWith_52 : decode cX9_failWith 52 = .ok (.aload_n 1, 1) := by decide +kernel
theorem dX9_failWith_53 : decode cX9_failWith 53 = .ok (.getfield 177, 3) := by decide +kernel
theorem dX9_failWith_56 : decode cX9_failWith 56 = .ok (.invokevirtual 365, 3) := by decide +kernel
theorem dX9_failWith_59 : decode cX9_failWith 59 = .ok (.return_, 1) := by decide +kernel
theorem dX9_tellUncaught_0 : decode cX9_tellUncaught 0 = .ok (.aload_n 1, 1) := by decide +kernel
theorem dX9_tellUncaught_1 : decode cX9_tellUncaught 1 = .ok (.getfield 151, 3) := by decide +kernel
theorem dX9_tellUncaught_4 : decode cX9_tellUncaught 4 = .ok (.getfield 155, 3) := by decide +kernel
theorem dX9_tellUncaught_7 : decode cX9_tellUncaught 7 = .ok (.astore_n 2, 1) := by decide +kernel
theorem dX9_tellUncaught_8 : decode cX9_tellUncaught 8 = .ok (.aload_n 2, 1) := by decide +kernel
theorem dX9_tellUncaught_9 : decode cX9_tellUncaught 9 = .ok (.ifnull 20, 3) := by decide +kernel
theorem dX9_tellUncaught_12 : decode cX9_tellUncaught 12 = .ok (.aload_n 2, 1) := by decide +kernel
theorem dX9_tellUncaught_13 : decode cX9_tellUncaught 13 = .ok (.invokevirtual 138, 3) := by decide +kernel
theorem dX9_tellUncaught_16 : decode cX9_tellUncaught 16 = .ok (.ifCond .eq 17, 3) := by decide +kernel
theorem dX9_tellUncaught_19 : decode cX9_tellUncaught 19 = .ok (.aload_n 1, 1) := by decide +kernel
theorem dX9_tellUncaught_20 : decode cX9_tellUncaught 20 = .ok (.getfield 151, 3) := by decide +kernel
theorem dX9_tellUncaught_23 : decode cX9_tellUncaught 23 = .ok (.getfield 379, 3) := by decide +kernel
theorem dX9_tellUncaught_26 : decode cX9_tellUncaught 26 = .ok (.ifCond .ne 7, 3) := by decide +kernel
theorem dX9_tellUncaught_29 : decode cX9_tellUncaught 29 = .ok (.iconst 1, 1) := by decide +kernel
theorem dX9_tellUncaught_30 : decode cX9_tellUncaught 30 = .ok (.goto 4, 3) := by decide +kernel
theorem dX9_tellUncaught_33 : decode cX9_tellUncaught 33 = .ok (.iconst 0, 1) := by decide +kernel
theorem dX9_tellUncaught_34 : decode cX9_tellUncaught 34 = .ok (.istore_n 3, 1) := by decide +kernel
theorem dX9_tellUncaught_35 : decode cX9_tellUncaught 35 = .ok (.aload_n 1, 1) := by decide +kernel
theorem dX9_tellUncaught_36 : decode cX9_tellUncaught 36 = .ok (.getfield 145, 3) := by decide +kernel
theorem dX9_tellUncaught_39 : decode cX9_tellUncaught 39 = .ok (.iconst 4, 1) := by decide +kernel
theorem dX9_tellUncaught_40 : decode cX9_tellUncaught 40 = .ok (.if_icmp .ne 12, 3) := by decide +kernel
theorem dX9_tellUncaught_43 : decode cX9_tellUncaught 43 = .ok (.iload_n 3, 1) := by decide +kernel
theorem dX9_tellUncaught_44 : decode cX9_tellUncaught 44 = .ok (.ifCond .eq 8, 3) := by decide +kernel
theorem dX9_tellUncaught_47 : decode cX9_tellUncaught 47 = .ok (.aload_n 0, 1) := by decide +kernel
theorem dX9_tellUncaught_48 : decode cX9_tellUncaught 48 = .ok (.aload_n 1, 1) := by decide +kernel
theorem dX9_tellUncaught_49 : decode cX9_tellUncaught 49 = .ok (.invokevirtual 388, 3) := by decide +kernel
theorem dX9_tellUncaught_52 : decode cX9_tellUncaught 52 = .ok (.aload_n 1, 1) := by decide +kernel
theorem dX9_tellUncaught_53 : decode cX9_tellUncaught 53 = .ok (.getfield 151, 3) := by decide +kernel
theorem dX9_tellUncaught_56 : decode cX9_tellUncaught 56 = .ok (.getfield 225, 3) := by decide +kernel
theorem dX9_tellUncaught_59 : decode cX9_tellUncaught 59 = .ok (.astore 4, 2) := by decide +kernel
theorem dX9_tellUncaught_61 : decode cX9_tellUncaught 61 = .ok (.aload 4, 2) := by decide +kernel
theorem dX9_tellUncaught_63 : decode cX9_tellUncaught 63 = .ok (.ifnull 42, 3) := by decide +kernel
theorem dX9_tellUncaught_66 : decode cX9_tellUncaught 66 = .ok (.aload 4, 2) := by decide +kernel
theorem dX9_tellUncaught_68 : decode cX9_tellUncaught 68 = .ok (.getfield 145, 3) := by decide +kernel
theorem dX9_tellUncaught_71 : decode cX9_tellUncaught 71 = .ok (.iconst 4, 1) := by decide +kernel
theorem dX9_tellUncaught_72 : decode cX9_tellUncaught 72 = .ok (.if_icmp .ne 20, 3) := by decide +kernel
theorem dX9_tellUncaught_75 : decode cX9_tellUncaught 75 = .ok (.aload 4, 2) := by decide +kernel
theorem dX9_tellUncaught_77 : decode cX9_tellUncaught 77 = .ok (.getfield 151, 3) := by decide +kernel
theorem dX9_tellUncaught_80 : decode cX9_tellUncaught 80 = .ok (.getfield 379, 3) := by decide +kernel
theorem dX9_tellUncaught_83 : decode cX9_tellUncaught 83 = .ok (.ifCond .ne 9, 3) := by decide +kernel
theorem dX9_tellUncaught_86 : decode cX9_tellUncaught 86 = .ok (.aload_n 0, 1) := by decide +kernel
theorem dX9_tellUncaught_87 : decode cX9_tellUncaught 87 = .ok (.aload 4, 2) := by decide +kernel
theorem dX9_tellUncaught_89 : decode cX9_tellUncaught 89 = .ok (.invokevirtual 388, 3) := by decide +kernel
theorem dX9_tellUncaught_92 : decode cX9_tellUncaught 92 = .ok (.aload 4, 2) := by decide +kernel
theorem dX9_tellUncaught_94 : decode cX9_tellUncaught 94 = .ok (.getfield 151, 3) := by decide +kernel
theorem dX9_tellUncaught_97 : decode cX9_tellUncaught 97 = .ok (.getfield 228, 3) := by decide +kernel
theorem dX9_tellUncaught_100 : decode cX9_tellUncaught 100 = .ok (.astore 4, 2) := by decide +kernel
theorem dX9_tellUncaught_102 : decode cX9_tellUncaught 102 = .ok (.goto (-41), 3) := by decide +kernel
theorem dX9_tellUncaught_105 : decode cX9_tellUncaught 105 = .ok (.return_, 1) := by decide +kernel
theorem dX9_askHandlers_0 : decode cX9_askHandlers 0 = .ok (.aload_n 1, 1) := by decide +kernel
theorem dX9_askHandlers_1 : decode cX9_askHandlers 1 = .ok (.getfield 201, 3) := by decide +kernel
theorem dX9_askHandlers_4 : decode cX9_askHandlers 4 = .ok (.iconst 1, 1) := by decide +kernel
theorem dX9_askHandlers_5 : decode cX9_askHandlers 5 = .ok (.putfield 219, 3) := by decide +kernel
theorem dX9_askHandlers_8 : decode cX9_askHandlers 8 = .ok (.iconst 1, 1) := by decide +kernel
theorem dX9_askHandlers_9 : decode cX9_askHandlers 9 = .ok (.istore_n 2, 1) := by decide +kernel
theorem dX9_askHandlers_10 : decode cX9_askHandlers 10 = .ok (.iconst 0, 1) := by decide +kernel
theorem dX9_askHandlers_11 : decode cX9_askHandlers 11 = .ok (.istore_n 3, 1) := by decide +kernel
theorem dX9_askHandlers_12 : decode cX9_askHandlers 12 = .ok (.iload_n 3, 1) := by decide +kernel
theorem dX9_askHandlers_13 : decode cX9_askHandlers 13 = .ok (.iconst 2, 1) := by decide +kernel
theorem dX9_askHandlers_14 : decode cX9_askHandlers 14 = .ok (.if_icmp .gt 108, 3) := by decide +kernel
theorem dX9_askHandlers_17 : decode cX9_askHandlers 17 = .ok (.iload_n 2, 1) := by decide +kernel
theorem dX9_askHandlers_18 : decode cX9_askHandlers 18 = .ok (.ifCond .eq 104, 3) := by decide +kernel
theorem dX9_askHandlers_21 : decode cX9_askHandlers 21 = .ok (.iload_n 3, 1) := by decide +kernel
theorem dX9_askHandlers_22 : decode cX9_askHandlers 22 = .ok (.ifCond .ne 10, 3) := by decide +kernel
theorem dX9_askHandlers_25 : decode cX9_askHandlers 25 = .ok (.aload_n 1, 1) := by decide +kernel
theorem dX9_askHandlers_26 : decode cX9_askHandlers 26 = .ok (.getfield 148, 3) := by decide +kernel
theorem dX9_askHandlers_29 : decode cX9_askHandlers 29 = .ok (.goto 10, 3) := by decide +kernel
theorem dX9_askHandlers_32 : decode cX9_askHandlers 32 = .ok (.aload_n 1, 1) := by decide +kernel
theorem dX9_askHandlers_33 : decode cX9_askHandlers 33 = .ok (.getfield 201, 3) := by decide +kernel
theorem dX9_askHandlers_36 : decode cX9_askHandlers 36 = .ok (.getfield 205, 3) := by decide +kernel
theorem dX9_askHandlers_39 : decode cX9_askHandlers 39 = .ok (.istore 4, 2) := by decide +kernel
theorem dX9_askHandlers_41 : decode cX9_askHandlers 41 = .ok (.iload_n 3, 1) := by decide +kernel
theorem dX9_askHandlers_42 : decode cX9_askHandlers 42 = .ok (.iload 4, 2) := by decide +kernel
theorem dX9_askHandlers_44 : decode cX9_askHandlers 44 = .ok (.invokestatic 103, 3) := by decide +kernel
theorem dX9_askHandlers_47 : decode cX9_askHandlers 47 = .ok (.istore 5, 2) := by decide +kernel
theorem dX9_askHandlers_49 : decode cX9_askHandlers 49 = .ok (.aload_n 0, 1) := by decide +kernel
theorem dX9_askHandlers_50 : decode cX9_askHandlers 50 = .ok (.getfield 25, 3) := by decide +kernel
theorem dX9_askHandlers_53 : decode cX9_askHandlers 53 = .ok (.iload 5, 2) := by decide +kernel
theorem dX9_askHandlers_55 : decode cX9_askHandlers 55 = .ok (.invokevirtual 391, 3) := by decide +kernel
theorem dX9_askHandlers_58 : decode cX9_askHandlers 58 = .ok (.ifCond .eq 58, 3) := by decide +kernel
theorem dX9_askHandlers_61 : decode cX9_askHandlers 61 = .ok (.aload_n 0, 1) := by decide +kernel
theorem dX9_askHandlers_62 : decode cX9_askHandlers 62 = .ok (.getfield 25, 3) := by decide +kernel
theorem dX9_askHandlers_65 : decode cX9_askHandlers 65 = .ok (.iload 5, 2) := by decide +kernel
theorem dX9_askHandlers_67 : decode cX9_askHandlers 67 = .ok (.invokevirtual 394, 3) := by decide +kernel
theorem dX9_askHandlers_70 : decode cX9_askHandlers 70 = .ok (.istore 6, 2) := by decide +kernel
theorem dX9_askHandlers_72 : decode cX9_askHandlers 72 = .ok (.aload_n 0, 1) := by decide +kernel
theorem dX9_askHandlers_73 : decode cX9_askHandlers 73 = .ok (.getfield 51, 3) := by decide +kernel
theorem dX9_askHandlers_76 : decode cX9_askHandlers 76 = .ok (.aload_n 1, 1) := by decide +kernel
theorem dX9_askHandlers_77 : decode cX9_askHandlers 77 = .ok (.getfield 118, 3) := by decide +kernel
theorem dX9_askHandlers_80 : decode cX9_askHandlers 80 = .ok (.iload_n 3, 1) := by decide +kernel
theorem dX9_askHandlers_81 : decode cX9_askHandlers 81 = .ok (.aload_n 0, 1) := by decide +kernel
theorem dX9_askHandlers_82 : decode cX9_askHandlers 82 = .ok (.getfield 25, 3) := by decide +kernel
theorem dX9_askHandlers_85 : decode cX9_askHandlers 85 = .ok (.iload 5, 2) := by decide +kernel
theorem dX9_askHandlers_87 : decode cX9_askHandlers 87 = .ok (.invokevirtual 397, 3) := by decide +kernel
theorem dX9_askHandlers_90 : decode cX9_askHandlers 90 = .ok (.iload 6, 2) := by decide +kernel
theorem dX9_askHandlers_92 : decode cX9_askHandlers 92 = .ok (.ifCond .eq 7, 3) := by decide +kernel
theorem dX9_askHandlers_95 : decode cX9_askHandlers 95 = .ok (.iconst 1, 1) := by decide +kernel
theorem dX9_askHandlers_96 : decode cX9_askHandlers 96 = .ok (.goto 4, 3) := by decide +kernel
theorem dX9_askHandlers_99 : decode cX9_askHandlers 99 = .ok (.iconst 0, 1) := by decide +kernel
theorem dX9_askHandlers_100 : decode cX9_askHandlers 100 = .ok (.invokevirtual 276, 3) := by decide +kernel
theorem dX9_askHandlers_103 : decode cX9_askHandlers 103 = .ok (.aload_n 0, 1) := by decide +kernel
theorem dX9_askHandlers_104 : decode cX9_askHandlers 104 = .ok (.dup, 1) := by decide +kernel
theorem dX9_askHandlers_105 : decode cX9_askHandlers 105 = .ok (.getfield 93, 3) := by decide +kernel
theorem dX9_askHandlers_108 : decode cX9_askHandlers 108 = .ok (.iconst 1, 1) := by decide +kernel
theorem dX9_askHandlers_109 : decode cX9_askHandlers 109 = .ok (.iadd, 1) := by decide +kernel
theorem dX9_askHandlers_110 : decode cX9_askHandlers 110 = .ok (.putfield 93, 3) := by decide +kernel
theorem dX9_askHandlers_113 : decode cX9_askHandlers 113 = .ok (.iload 6, 2) := by decide +kernel
theorem dX9_askHandlers_115 : decode cX9_askHandlers 115 = .ok (.istore_n 2, 1) := by decide +kernel
theorem dX9_askHandlers_116 : decode cX9_askHandlers 116 = .ok (.iinc 3 1, 3) := by decide +kernel
theorem dX9_askHandlers_119 : decode cX9_askHandlers 119 = .ok (.goto (-107), 3) := by decide +kernel
theorem dX9_askHandlers_122 : decode cX9_askHandlers 122 = .ok (.return_, 1) := by decide +kernel
theorem gm_methodLink_RX0_3_objectInit : (.methodLink RX0 3 objectInit : Cond) ∈ gw := gw_m (List.mem_append_right _ (List.mem_append_left _ (List.mem_of_getElem? (i := 54) (by decide +kernel)))) (by decide +kernel)
theorem gm_methodLink_RX1_3_objectInit : (.methodLink RX1 3 objectInit : Cond) ∈ gw := gw_m (List.mem_append_right _ (List.mem_append_left _ (List.mem_of_getElem? (i := 78) (by decide +kernel)))) (by decide +kernel)
theorem gm_methodLink_RX3_3_objectInit : (.methodLink RX3 3 objectInit : Cond) ∈ gw := gw_m (List.mem_append_right _ (List.mem_append_left _ (List.mem_of_getElem? (i := 28) (by decide +kernel)))) (by decide +kernel)
theorem gm_methodLink_RX5_3_objectInit : (.methodLink RX5 3 objectInit : Cond) ∈ gw := gw_m (List.mem_append_right _ (List.mem_append_left _ (List.mem_of_getElem? (i := 48) (by decide +kernel)))) (by decide +kernel)
theorem gm_classLink_RX5_15_RX0 : (.classLink RX5 15 RX0 : Cond) ∈ gw := gw_m (List.mem_append_right _ (List.mem_append_left _ (List.mem_of_getElem? (i := 49) (by decide +kernel)))) (by decide +kernel)
theorem gm_instantiable_RX0_3 : (.instantiable RX0 3 : Cond) ∈ gw := gw_m (List.mem_append_right _ (List.mem_append_left _ (List.mem_of_getElem? (i := 50) (by decide +kernel)))) (by decide +kernel)
theorem gm_code_yX0_init_cX0_init_2_none : (.code yX0_init cX0_init 2 none : Cond) ∈ gw := gw_m (List.mem_append_right _ (List.mem_append_left _ (List.mem_of_getElem? (i := 53) rfl))) (by decide +kernel)
theorem gm_methodLink_RX5_17_yX0_init : (.methodLink RX5 17 yX0_init : Cond) ∈ gw := gw_m (List.mem_append_right _ (List.mem_append_left _ (List.mem_of_getElem? (i := 51) (by decide +kernel)))) (by decide +kernel)
theorem gm_instanceMethod_yX0_init : (.instanceMethod yX0_init : Cond) ∈ gw := gw_m (List.mem_append_right _ (List.mem_append_left _ (List.mem_of_getElem? (i := 52) (by decide +kernel)))) (by decide +kernel)
theorem gm_methodLink_RX4_3_objectInit : (.methodLink RX4 3 objectInit : Cond) ∈ gw := gw_m (List.mem_append_right _ (List.mem_append_left _ (List.mem_of_getElem? (i := 222) (by decide +kernel)))) (by decide +kernel)
theorem gm_methodLink_RX2_3_objectInit : (.methodLink RX2 3 objectInit : Cond) ∈ gw := gw_m (List.mem_append_right _ (List.mem_append_right _ (List.mem_append_left _ (List.mem_of_getElem? (i := 76) (by decide +kernel))))) (by decide +kernel)
theorem gm_methodLink_RX6_3_objectInit : (.methodLink RX6 3 objectInit : Cond) ∈ gw := gw_m (List.mem_append_right _ (List.mem_append_right _ (List.mem_append_left _ (List.mem_of_getElem? (i := 24) (by decide +kernel))))) (by decide +kernel)
theorem gm_methodLink_RX8_3_objectInit : (.methodLink RX8 3 objectInit : Cond) ∈ gw := gw_m (List.mem_append_right _ (List.mem_append_right _ (List.mem_append_left _ (List.mem_of_getElem? (i := 40) (by decide +kernel))))) (by decide +kernel)
theorem gm_methodLink_RX7_3_objectInit : (.methodLink RX7 3 objectInit : Cond) ∈ gw := gw_m (List.mem_append_right _ (List.mem_append_left _ (List.mem_of_getElem? (i := 216) (by decide +kernel)))) (by decide +kernel)
theorem gm_classLink_RX7_9_RX4 : (.classLink RX7 9 RX4 : Cond) ∈ gw := gw_m (List.mem_append_right _ (List.mem_append_left _ (List.mem_of_getElem? (i := 217) (by decide +kernel)))) (by decide +kernel)
theorem gm_instantiable_RX4_9 : (.instantiable RX4 9 : Cond) ∈ gw := gw_m (List.mem_append_right _ (List.mem_append_left _ (List.mem_of_getElem? (i := 218) (by decide +kernel)))) (by decide +kernel)
theorem gm_initialized_RX4 : (.initialized RX4 : Cond) ∈ gw := gw_m (List.mem_append_right _ (List.mem_append_left _ (List.mem_of_getElem? (i := 8) (by decide +kernel)))) (by decide +kernel)
theorem gm_code_yX4_init_cX4_init_1_none : (.code yX4_init cX4_init 1 none : Cond) ∈ gw := gw_m (List.mem_append_right _ (List.mem_append_left _ (List.mem_of_getElem? (i := 221) rfl))) (by decide +kernel)
theorem gm_instanceMethod_yX4_init : (.instanceMethod yX4_init : Cond) ∈ gw := gw_m (List.mem_append_right _ (List.mem_append_left _ (List.mem_of_getElem? (i := 220) (by decide +kernel)))) (by decide +kernel)
theorem gm_fieldLink_RX7_12_ErrandGuild_Run_kin_LErrandGuild_Kin_ : (.fieldLink RX7 12 "ErrandGuild$Run" "kin" "LErrandGuild$Kin;" : Cond) ∈ gw := gw_m (List.mem_append_right _ (List.mem_append_right _ (List.mem_append_left _ (List.mem_of_getElem? (i := 122) (by decide +kernel))))) (by decide +kernel)
theorem gm_classLink_RX7_18_RX6 : (.classLink RX7 18 RX6 : Cond) ∈ gw := gw_m (List.mem_append_right _ (List.mem_append_right _ (List.mem_append_left _ (List.mem_of_getElem? (i := 19) (by decide +kernel))))) (by decide +kernel)
theorem gm_instantiable_RX6_3 : (.instantiable RX6 3 : Cond) ∈ gw := gw_m (List.mem_append_right _ (List.mem_append_right _ (List.mem_append_left _ (List.mem_of_getElem? (i := 20) (by decide +kernel))))) (by decide +kernel)
theorem gm_initialized_RX6 : (.initialized RX6 : Cond) ∈ gw := gw_m (List.mem_append_right _ (List.mem_append_left _ (List.mem_of_getElem? (i := 9) (by decide +kernel)))) (by decide +kernel)
theorem gm_code_yX6_init_cX6_init_1_none : (.code yX6_init cX6_init 1 none : Cond) ∈ gw := gw_m (List.mem_append_right _ (List.mem_append_right _ (List.mem_append_left _ (List.mem_of_getElem? (i := 23) rfl)))) (by decide +kernel)
theorem gm_instanceMethod_yX6_init : (.instanceMethod yX6_init : Cond) ∈ gw := gw_m (List.mem_append_right _ (List.mem_append_right _ (List.mem_append_left _ (List.mem_of_getElem? (i := 22) (by decide +kernel))))) (by decide +kernel)
theorem gm_fieldLink_RX7_21_ErrandGuild_Run_memory_LErrandGuild_Memory_ : (.fieldLink RX7 21 "ErrandGuild$Run" "memory" "LErrandGuild$Memory;" : Cond) ∈ gw := gw_m (List.mem_append_right _ (List.mem_append_right _ (List.mem_append_left _ (List.mem_of_getElem? (i := 125) (by decide +kernel))))) (by decide +kernel)
theorem gm_classLink_RX7_25_RX8 : (.classLink RX7 25 RX8 : Cond) ∈ gw := gw_m (List.mem_append_right _ (List.mem_append_right _ (List.mem_append_left _ (List.mem_of_getElem? (i := 35) (by decide +kernel))))) (by decide +kernel)
theorem gm_instantiable_RX8_9 : (.instantiable RX8 9 : Cond) ∈ gw := gw_m (List.mem_append_right _ (List.mem_append_right _ (List.mem_append_left _ (List.mem_of_getElem? (i := 36) (by decide +kernel))))) (by decide +kernel)
theorem gm_code_yX8_init_cX8_init_1_none : (.code yX8_init cX8_init 1 none : Cond) ∈ gw := gw_m (List.mem_append_right _ (List.mem_append_right _ (List.mem_append_left _ (List.mem_of_getElem? (i := 39) rfl)))) (by decide +kernel)
theorem gm_instanceMethod_yX8_init : (.instanceMethod yX8_init : Cond) ∈ gw := gw_m (List.mem_append_right _ (List.mem_append_right _ (List.mem_append_left _ (List.mem_of_getElem? (i := 38) (by decide +kernel))))) (by decide +kernel)
theorem gm_fieldLink_RX7_28_ErrandGuild_Run_scopes_LErrandGuild_Scopes_ : (.fieldLink RX7 28 "ErrandGuild$Run" "scopes" "LErrandGuild$Scopes;" : Cond) ∈ gw := gw_m (List.mem_append_right _ (List.mem_append_right _ (List.mem_append_left _ (List.mem_of_getElem? (i := 127) (by decide +kernel))))) (by decide +kernel)
theorem gm_classLink_RX7_32_RX2 : (.classLink RX7 32 RX2 : Cond) ∈ gw := gw_m (List.mem_append_right _ (List.mem_append_right _ (List.mem_append_left _ (List.mem_of_getElem? (i := 71) (by decide +kernel))))) (by decide +kernel)
theorem gm_instantiable_RX2_5 : (.instantiable RX2 5 : Cond) ∈ gw := gw_m (List.mem_append_right _ (List.mem_append_right _ (List.mem_append_left _ (List.mem_of_getElem? (i := 72) (by decide +kernel))))) (by decide +kernel)
theorem gm_initialized_RX2 : (.initialized RX2 : Cond) ∈ gw := gw_m (List.mem_append_right _ (List.mem_append_left _ (List.mem_of_getElem? (i := 11) (by decide +kernel)))) (by decide +kernel)
theorem gm_code_yX2_init_cX2_init_1_none : (.code yX2_init cX2_init 1 none : Cond) ∈ gw := gw_m (List.mem_append_right _ (List.mem_append_right _ (List.mem_append_left _ (List.mem_of_getElem? (i := 75) rfl)))) (by decide +kernel)
theorem gm_instanceMethod_yX2_init : (.instanceMethod yX2_init : Cond) ∈ gw := gw_m (List.mem_append_right _ (List.mem_append_right _ (List.mem_append_left _ (List.mem_of_getElem? (i := 74) (by decide +kernel))))) (by decide +kernel)
theorem gm_fieldLink_RX7_35_ErrandGuild_Run_fault_LErrandGuild_Fault_ : (.fieldLink RX7 35 "ErrandGuild$Run" "fault" "LErrandGuild$Fault;" : Cond) ∈ gw := gw_m (List.mem_append_right _ (List.mem_append_right _ (List.mem_append_left _ (List.mem_of_getElem? (i := 129) (by decide +kernel))))) (by decide +kernel)
theorem gm_classLink_RX7_39_RX0 : (.classLink RX7 39 RX0 : Cond) ∈ gw := gw_m (List.mem_append_right _ (List.mem_append_right _ (List.mem_append_left _ (List.mem_of_getElem? (i := 98) (by decide +kernel))))) (by decide +kernel)
theorem gm_constant_RX7_41_1048576_ : (.constant RX7 41 (1048576) : Cond) ∈ gw := gw_m (List.mem_append_right _ (List.mem_append_right _ (List.mem_append_left _ (List.mem_of_getElem? (i := 99) (by decide +kernel))))) (by decide +kernel)
theorem gm_methodLink_RX7_42_yX0_init : (.methodLink RX7 42 yX0_init : Cond) ∈ gw := gw_m (List.mem_append_right _ (List.mem_append_right _ (List.mem_append_left _ (List.mem_of_getElem? (i := 100) (by decide +kernel))))) (by decide +kernel)
theorem gm_fieldLink_RX7_45_ErrandGuild_Run_remarks_LErrandGuild_Cells_ : (.fieldLink RX7 45 "ErrandGuild$Run" "remarks" "LErrandGuild$Cells;" : Cond) ∈ gw := gw_m (List.mem_append_right _ (List.mem_append_right _ (List.mem_append_left _ (List.mem_of_getElem? (i := 131) (by decide +kernel))))) (by decide +kernel)
theorem gm_fieldLink_RX7_49_ErrandGuild_Run_number_I_ : (.fieldLink RX7 49 "ErrandGuild$Run" "number" "I" : Cond) ∈ gw := gw_m (List.mem_append_right _ (List.mem_append_right _ (List.mem_append_left _ (List.mem_of_getElem? (i := 101) (by decide +kernel))))) (by decide +kernel)
theorem gm_fieldLink_RX9_66_ErrandGuild_runCount_I_ : (.fieldLink RX9 66 "ErrandGuild" "runCount" "I" : Cond) ∈ gw := gw_m (List.mem_append_right _ (List.mem_append_left _ (List.mem_of_getElem? (i := 101) (by decide +kernel)))) (by decide +kernel)
theorem gm_fieldLink_RX9_31_ErrandGuild_runs_ALErrandGuild_Run_ : (.fieldLink RX9 31 "ErrandGuild" "runs" "[LErrandGuild$Run;" : Cond) ∈ gw := gw_m (List.mem_append_right _ (List.mem_append_left _ (List.mem_of_getElem? (i := 100) (by decide +kernel)))) (by decide +kernel)
theorem gm_methodLink_RX9_134_yX9_runAt : (.methodLink RX9 134 yX9_runAt : Cond) ∈ gw := gw_m (List.mem_append_right _ (List.mem_append_right _ (List.mem_append_left _ (List.mem_of_getElem? (i := 223) (by decide +kernel))))) (by decide +kernel)
theorem gm_instanceMethod_yX9_runAt : (.instanceMethod yX9_runAt : Cond) ∈ gw := gw_m (List.mem_append_right _ (List.mem_append_right _ (List.mem_append_left _ (List.mem_of_getElem? (i := 225) (by decide +kernel))))) (by decide +kernel)
theorem gm_selects_RX9_yX9_runAt_yX9_runAt : (.selects RX9 yX9_runAt yX9_runAt : Cond) ∈ gw := gw_m (List.mem_append_left _ (List.mem_of_getElem? (i := 6) (by decide +kernel))) (by decide +kernel)
theorem gm_code_yX9_runAt_cX9_runAt_2_some_object_ErrandGuild_Run_ : (.code yX9_runAt cX9_runAt 2 (some (.object "ErrandGuild$Run")) : Cond) ∈ gw := gw_m (List.mem_append_right _ (List.mem_append_right _ (List.mem_append_left _ (List.mem_of_getElem? (i := 226) rfl)))) (by decide +kernel)
theorem gm_fieldLink_RX9_145_ErrandGuild_Run_state_I_ : (.fieldLink RX9 145 "ErrandGuild$Run" "state" "I" : Cond) ∈ gw := gw_m (List.mem_append_right _ (List.mem_append_right _ (List.mem_append_left _ (List.mem_of_getElem? (i := 106) (by decide +kernel))))) (by decide +kernel)
theorem gm_fieldLink_RX9_18_ErrandGuild_errands_ALErrandGuild_Errand_ : (.fieldLink RX9 18 "ErrandGuild" "errands" "[LErrandGuild$Errand;" : Cond) ∈ gw := gw_m (List.mem_append_right _ (List.mem_append_left _ (List.mem_of_getElem? (i := 98) (by decide +kernel)))) (by decide +kernel)
theorem gm_fieldLink_RX7_91_ErrandGuild_Kin_root_LErrandGuild_Run_ : (.fieldLink RX7 91 "ErrandGuild$Kin" "root" "LErrandGuild$Run;" : Cond) ∈ gw := gw_m (List.mem_append_right _ (List.mem_append_left _ (List.mem_of_getElem? (i := 226) (by decide +kernel)))) (by decide +kernel)
theorem gm_fieldLink_RX9_151_ErrandGuild_Run_kin_LErrandGuild_Kin_ : (.fieldLink RX9 151 "ErrandGuild$Run" "kin" "LErrandGuild$Kin;" : Cond) ∈ gw := gw_m (List.mem_append_right _ (List.mem_append_right _ (List.mem_append_left _ (List.mem_of_getElem? (i := 124) (by decide +kernel))))) (by decide +kernel)
theorem gm_fieldLink_RX9_225_ErrandGuild_Kin_firstChild_LErrandGuild_Run_ : (.fieldLink RX9 225 "ErrandGuild$Kin" "firstChild" "LErrandGuild$Run;" : Cond) ∈ gw := gw_m (List.mem_append_right _ (List.mem_append_left _ (List.mem_of_getElem? (i := 234) (by decide +kernel)))) (by decide +kernel)
theorem gm_fieldLink_RX9_379_ErrandGuild_Kin_claim_I_ : (.fieldLink RX9 379 "ErrandGuild$Kin" "claim" "I" : Cond) ∈ gw := gw_m (List.mem_append_right _ (List.mem_append_left _ (List.mem_of_getElem? (i := 232) (by decide +kernel)))) (by decide +kernel)
theorem gm_fieldLink_RX9_228_ErrandGuild_Kin_nextSibling_LErrandGuild_Run_ : (.fieldLink RX9 228 "ErrandGuild$Kin" "nextSibling" "LErrandGuild$Run;" : Cond) ∈ gw := gw_m (List.mem_append_right _ (List.mem_append_left _ (List.mem_of_getElem? (i := 237) (by decide +kernel)))) (by decide +kernel)
theorem gm_methodLink_RX9_138_yX7_isOver : (.methodLink RX9 138 yX7_isOver : Cond) ∈ gw := gw_m (List.mem_append_right _ (List.mem_append_right _ (List.mem_append_left _ (List.mem_of_getElem? (i := 227) (by decide +kernel))))) (by decide +kernel)
theorem gm_instanceMethod_yX7_isOver : (.instanceMethod yX7_isOver : Cond) ∈ gw := gw_m (List.mem_append_right _ (List.mem_append_right _ (List.mem_append_left _ (List.mem_of_getElem? (i := 228) (by decide +kernel))))) (by decide +kernel)
theorem gm_selects_RX7_yX7_isOver_yX7_isOver : (.selects RX7 yX7_isOver yX7_isOver : Cond) ∈ gw := gw_m (List.mem_append_right _ (List.mem_append_right _ (List.mem_append_left _ (List.mem_of_getElem? (i := 229) (by decide +kernel))))) (by decide +kernel)
theorem gm_initialized_RX7 : (.initialized RX7 : Cond) ∈ gw := gw_m (List.mem_append_right _ (List.mem_append_left _ (List.mem_of_getElem? (i := 7) (by decide +kernel)))) (by decide +kernel)
theorem gm_code_yX7_isOver_cX7_isOver_1_some_boolean_ : (.code yX7_isOver cX7_isOver 1 (some .boolean) : Cond) ∈ gw := gw_m (List.mem_append_right _ (List.mem_append_right _ (List.mem_append_left _ (List.mem_of_getElem? (i := 230) rfl)))) (by decide +kernel)
theorem gm_fieldLink_RX9_38_ErrandGuild_threadCount_I_ : (.fieldLink RX9 38 "ErrandGuild" "threadCount" "I" : Cond) ∈ gw := gw_m (List.mem_append_right _ (List.mem_append_left _ (List.mem_of_getElem? (i := 103) (by decide +kernel)))) (by decide +kernel)
theorem gm_fieldLink_RX9_35_ErrandGuild_onThreads_ALErrandGuild_Run_ : (.fieldLink RX9 35 "ErrandGuild" "onThreads" "[LErrandGuild$Run;" : Cond) ∈ gw := gw_m (List.mem_append_right _ (List.mem_append_left _ (List.mem_of_getElem? (i := 102) (by decide +kernel)))) (by decide +kernel)
theorem gm_fieldLink_RX9_118_ErrandGuild_Run_number_I_ : (.fieldLink RX9 118 "ErrandGuild$Run" "number" "I" : Cond) ∈ gw := gw_m (List.mem_append_right _ (List.mem_append_right _ (List.mem_append_left _ (List.mem_of_getElem? (i := 102) (by decide +kernel))))) (by decide +kernel)
theorem gm_fieldLink_RX9_9_ErrandGuild_manners_AI_ : (.fieldLink RX9 9 "ErrandGuild" "manners" "[I" : Cond) ∈ gw := gw_m (List.mem_append_right _ (List.mem_append_left _ (List.mem_of_getElem? (i := 96) (by decide +kernel)))) (by decide +kernel)
theorem gm_fieldLink_RX9_253_ErrandGuild_Run_memory_LErrandGuild_Memory_ : (.fieldLink RX9 253 "ErrandGuild$Run" "memory" "LErrandGuild$Memory;" : Cond) ∈ gw := gw_m (List.mem_append_right _ (List.mem_append_right _ (List.mem_append_left _ (List.mem_of_getElem? (i := 126) (by decide +kernel))))) (by decide +kernel)
theorem gm_fieldLink_RX9_13_ErrandGuild_firsts_AI_ : (.fieldLink RX9 13 "ErrandGuild" "firsts" "[I" : Cond) ∈ gw := gw_m (List.mem_append_right _ (List.mem_append_left _ (List.mem_of_getElem? (i := 97) (by decide +kernel)))) (by decide +kernel)
theorem gm_methodLink_RX9_262_yX6_writtenOr : (.methodLink RX9 262 yX6_writtenOr : Cond) ∈ gw := gw_m (List.mem_append_right _ (List.mem_append_right _ (List.mem_append_left _ (List.mem_of_getElem? (i := 198) (by decide +kernel))))) (by decide +kernel)
theorem gm_instanceMethod_yX6_writtenOr : (.instanceMethod yX6_writtenOr : Cond) ∈ gw := gw_m (List.mem_append_right _ (List.mem_append_right _ (List.mem_append_left _ (List.mem_of_getElem? (i := 199) (by decide +kernel))))) (by decide +kernel)
theorem gm_selects_RX6_yX6_writtenOr_yX6_writtenOr : (.selects RX6 yX6_writtenOr yX6_writtenOr : Cond) ∈ gw := gw_m (List.mem_append_right _ (List.mem_append_right _ (List.mem_append_left _ (List.mem_of_getElem? (i := 200) (by decide +kernel))))) (by decide +kernel)
theorem gm_code_yX6_writtenOr_cX6_writtenOr_3_some_int_ : (.code yX6_writtenOr cX6_writtenOr 3 (some .int) : Cond) ∈ gw := gw_m (List.mem_append_right _ (List.mem_append_right _ (List.mem_append_left _ (List.mem_of_getElem? (i := 201) rfl)))) (by decide +kernel)
theorem gm_methodLink_RX9_257_yX6_givenAt : (.methodLink RX9 257 yX6_givenAt : Cond) ∈ gw := gw_m (List.mem_append_right _ (List.mem_append_right _ (List.mem_append_left _ (List.mem_of_getElem? (i := 193) (by decide +kernel))))) (by decide +kernel)
theorem gm_instanceMethod_yX6_givenAt : (.instanceMethod yX6_givenAt : Cond) ∈ gw := gw_m (List.mem_append_right _ (List.mem_append_right _ (List.mem_append_left _ (List.mem_of_getElem? (i := 194) (by decide +kernel))))) (by decide +kernel)
theorem gm_selects_RX6_yX6_givenAt_yX6_givenAt : (.selects RX6 yX6_givenAt yX6_givenAt : Cond) ∈ gw := gw_m (List.mem_append_right _ (List.mem_append_right _ (List.mem_append_left _ (List.mem_of_getElem? (i := 195) (by decide +kernel))))) (by decide +kernel)
theorem gm_code_yX6_givenAt_cX6_givenAt_2_some_int_ : (.code yX6_givenAt cX6_givenAt 2 (some .int) : Cond) ∈ gw := gw_m (List.mem_append_right _ (List.mem_append_right _ (List.mem_append_left _ (List.mem_of_getElem? (i := 196) rfl)))) (by decide +kernel)
theorem gm_methodLink_RX9_161_yX7_root : (.methodLink RX9 161 yX7_root : Cond) ∈ gw := gw_m (List.mem_append_right _ (List.mem_append_right _ (List.mem_append_left _ (List.mem_of_getElem? (i := 202) (by decide +kernel))))) (by decide +kernel)
theorem gm_instanceMethod_yX7_root : (.instanceMethod yX7_root : Cond) ∈ gw := gw_m (List.mem_append_right _ (List.mem_append_right _ (List.mem_append_left _ (List.mem_of_getElem? (i := 173) (by decide +kernel))))) (by decide +kernel)
theorem gm_selects_RX7_yX7_root_yX7_root : (.selects RX7 yX7_root yX7_root : Cond) ∈ gw := gw_m (List.mem_append_right _ (List.mem_append_right _ (List.mem_append_left _ (List.mem_of_getElem? (i := 174) (by decide +kernel))))) (by decide +kernel)
theorem gm_code_yX7_root_cX7_root_1_some_object_ErrandGuild_Run_ : (.code yX7_root cX7_root 1 (some (.object "ErrandGuild$Run")) : Cond) ∈ gw := gw_m (List.mem_append_right _ (List.mem_append_right _ (List.mem_append_left _ (List.mem_of_getElem? (i := 175) rfl)))) (by decide +kernel)
theorem gm_fieldLink_RX9_177_ErrandGuild_Run_scopes_LErrandGuild_Scopes_ : (.fieldLink RX9 177 "ErrandGuild$Run" "scopes" "LErrandGuild$Scopes;" : Cond) ∈ gw := gw_m (List.mem_append_right _ (List.mem_append_right _ (List.mem_append_left _ (List.mem_of_getElem? (i := 128) (by decide +kernel))))) (by decide +kernel)
theorem gm_methodLink_RX9_265_yX8_boundOr : (.methodLink RX9 265 yX8_boundOr : Cond) ∈ gw := gw_m (List.mem_append_right _ (List.mem_append_right _ (List.mem_append_left _ (List.mem_of_getElem? (i := 203) (by decide +kernel))))) (by decide +kernel)
theorem gm_instanceMethod_yX8_boundOr : (.instanceMethod yX8_boundOr : Cond) ∈ gw := gw_m (List.mem_append_right _ (List.mem_append_right _ (List.mem_append_left _ (List.mem_of_getElem? (i := 204) (by decide +kernel))))) (by decide +kernel)
theorem gm_selects_RX8_yX8_boundOr_yX8_boundOr : (.selects RX8 yX8_boundOr yX8_boundOr : Cond) ∈ gw := gw_m (List.mem_append_right _ (List.mem_append_right _ (List.mem_append_left _ (List.mem_of_getElem? (i := 205) (by decide +kernel))))) (by decide +kernel)
theorem gm_code_yX8_boundOr_cX8_boundOr_4_some_int_ : (.code yX8_boundOr cX8_boundOr 4 (some .int) : Cond) ∈ gw := gw_m (List.mem_append_right _ (List.mem_append_right _ (List.mem_append_left _ (List.mem_of_getElem? (i := 206) rfl)))) (by decide +kernel)
theorem gm_fieldLink_RX9_148_ErrandGuild_Run_errand_I_ : (.fieldLink RX9 148 "ErrandGuild$Run" "errand" "I" : Cond) ∈ gw := gw_m (List.mem_append_right _ (List.mem_append_right _ (List.mem_append_left _ (List.mem_of_getElem? (i := 104) (by decide +kernel))))) (by decide +kernel)
theorem gm_fieldLink_RX9_155_ErrandGuild_Kin_giver_LErrandGuild_Run_ : (.fieldLink RX9 155 "ErrandGuild$Kin" "giver" "LErrandGuild$Run;" : Cond) ∈ gw := gw_m (List.mem_append_right _ (List.mem_append_left _ (List.mem_of_getElem? (i := 224) (by decide +kernel)))) (by decide +kernel)
theorem gm_fieldLink_RX9_165_ErrandGuild_Kin_depth_I_ : (.fieldLink RX9 165 "ErrandGuild$Kin" "depth" "I" : Cond) ∈ gw := gw_m (List.mem_append_right _ (List.mem_append_left _ (List.mem_of_getElem? (i := 228) (by decide +kernel)))) (by decide +kernel)
theorem gm_fieldLink_RX9_168_ErrandGuild_Run_thread_I_ : (.fieldLink RX9 168 "ErrandGuild$Run" "thread" "I" : Cond) ∈ gw := gw_m (List.mem_append_right _ (List.mem_append_right _ (List.mem_append_left _ (List.mem_of_getElem? (i := 108) (by decide +kernel))))) (by decide +kernel)
theorem gm_fieldLink_RX9_171_ErrandGuild_Run_sum_I_ : (.fieldLink RX9 171 "ErrandGuild$Run" "sum" "I" : Cond) ∈ gw := gw_m (List.mem_append_right _ (List.mem_append_right _ (List.mem_append_left _ (List.mem_of_getElem? (i := 112) (by decide +kernel))))) (by decide +kernel)
theorem gm_fieldLink_RX9_174_ErrandGuild_Run_place_I_ : (.fieldLink RX9 174 "ErrandGuild$Run" "place" "I" : Cond) ∈ gw := gw_m (List.mem_append_right _ (List.mem_append_right _ (List.mem_append_left _ (List.mem_of_getElem? (i := 115) (by decide +kernel))))) (by decide +kernel)
theorem gm_fieldLink_RX9_181_ErrandGuild_Scopes_bindings_I_ : (.fieldLink RX9 181 "ErrandGuild$Scopes" "bindings" "I" : Cond) ∈ gw := gw_m (List.mem_append_right _ (List.mem_append_right _ (List.mem_append_left _ (List.mem_of_getElem? (i := 45) (by decide +kernel))))) (by decide +kernel)
theorem gm_fieldLink_RX9_186_ErrandGuild_Scopes_tries_I_ : (.fieldLink RX9 186 "ErrandGuild$Scopes" "tries" "I" : Cond) ∈ gw := gw_m (List.mem_append_right _ (List.mem_append_right _ (List.mem_append_left _ (List.mem_of_getElem? (i := 50) (by decide +kernel))))) (by decide +kernel)
theorem gm_fieldLink_RX9_189_ErrandGuild_Run_overBeat_I_ : (.fieldLink RX9 189 "ErrandGuild$Run" "overBeat" "I" : Cond) ∈ gw := gw_m (List.mem_append_right _ (List.mem_append_right _ (List.mem_append_left _ (List.mem_of_getElem? (i := 117) (by decide +kernel))))) (by decide +kernel)
theorem gm_fieldLink_RX9_192_ErrandGuild_Kin_children_I_ : (.fieldLink RX9 192 "ErrandGuild$Kin" "children" "I" : Cond) ∈ gw := gw_m (List.mem_append_right _ (List.mem_append_left _ (List.mem_of_getElem? (i := 239) (by decide +kernel)))) (by decide +kernel)
theorem gm_fieldLink_RX9_195_ErrandGuild_Run_visits_I_ : (.fieldLink RX9 195 "ErrandGuild$Run" "visits" "I" : Cond) ∈ gw := gw_m (List.mem_append_right _ (List.mem_append_right _ (List.mem_append_left _ (List.mem_of_getElem? (i := 110) (by decide +kernel))))) (by decide +kernel)
theorem gm_methodLink_RX9_198_yX9_failedAt : (.methodLink RX9 198 yX9_failedAt : Cond) ∈ gw := gw_m (List.mem_append_right _ (List.mem_append_right _ (List.mem_append_right _ (List.mem_append_left _ (List.mem_of_getElem? (i := 155) (by decide +kernel)))))) (by decide +kernel)
theorem gm_instanceMethod_yX9_failedAt : (.instanceMethod yX9_failedAt : Cond) ∈ gw := gw_m (List.mem_append_right _ (List.mem_append_right _ (List.mem_append_right _ (List.mem_append_left _ (List.mem_of_getElem? (i := 157) (by decide +kernel)))))) (by decide +kernel)
theorem gm_selects_RX9_yX9_failedAt_yX9_failedAt : (.selects RX9 yX9_failedAt yX9_failedAt : Cond) ∈ gw := gw_m (List.mem_append_left _ (List.mem_of_getElem? (i := 25) (by decide +kernel))) (by decide +kernel)
theorem gm_code_yX9_failedAt_cX9_failedAt_3_some_object_ErrandGuild_Run_ : (.code yX9_failedAt cX9_failedAt 3 (some (.object "ErrandGuild$Run")) : Cond) ∈ gw := gw_m (List.mem_append_right _ (List.mem_append_right _ (List.mem_append_right _ (List.mem_append_left _ (List.mem_of_getElem? (i := 158) rfl))))) (by decide +kernel)
theorem gm_fieldLink_RX9_201_ErrandGuild_Run_fault_LErrandGuild_Fault_ : (.fieldLink RX9 201 "ErrandGuild$Run" "fault" "LErrandGuild$Fault;" : Cond) ∈ gw := gw_m (List.mem_append_right _ (List.mem_append_right _ (List.mem_append_left _ (List.mem_of_getElem? (i := 130) (by decide +kernel))))) (by decide +kernel)
theorem gm_fieldLink_RX9_205_ErrandGuild_Fault_kind_I_ : (.fieldLink RX9 205 "ErrandGuild$Fault" "kind" "I" : Cond) ∈ gw := gw_m (List.mem_append_right _ (List.mem_append_right _ (List.mem_append_left _ (List.mem_of_getElem? (i := 78) (by decide +kernel))))) (by decide +kernel)
theorem gm_fieldLink_RX9_210_ErrandGuild_Fault_step_I_ : (.fieldLink RX9 210 "ErrandGuild$Fault" "step" "I" : Cond) ∈ gw := gw_m (List.mem_append_right _ (List.mem_append_right _ (List.mem_append_left _ (List.mem_of_getElem? (i := 80) (by decide +kernel))))) (by decide +kernel)
theorem gm_fieldLink_RX9_213_ErrandGuild_Fault_cause_I_ : (.fieldLink RX9 213 "ErrandGuild$Fault" "cause" "I" : Cond) ∈ gw := gw_m (List.mem_append_right _ (List.mem_append_right _ (List.mem_append_left _ (List.mem_of_getElem? (i := 82) (by decide +kernel))))) (by decide +kernel)
theorem gm_fieldLink_RX9_216_ErrandGuild_Fault_suppressed_I_ : (.fieldLink RX9 216 "ErrandGuild$Fault" "suppressed" "I" : Cond) ∈ gw := gw_m (List.mem_append_right _ (List.mem_append_right _ (List.mem_append_left _ (List.mem_of_getElem? (i := 84) (by decide +kernel))))) (by decide +kernel)
theorem gm_fieldLink_RX9_219_ErrandGuild_Fault_uncaught_Z_ : (.fieldLink RX9 219 "ErrandGuild$Fault" "uncaught" "Z" : Cond) ∈ gw := gw_m (List.mem_append_right _ (List.mem_append_right _ (List.mem_append_left _ (List.mem_of_getElem? (i := 86) (by decide +kernel))))) (by decide +kernel)
theorem gm_fieldLink_RX9_222_ErrandGuild_Kin_handedAt_I_ : (.fieldLink RX9 222 "ErrandGuild$Kin" "handedAt" "I" : Cond) ∈ gw := gw_m (List.mem_append_right _ (List.mem_append_left _ (List.mem_of_getElem? (i := 230) (by decide +kernel)))) (by decide +kernel)
theorem gm_methodLink_RX9_231_yX9_readIn : (.methodLink RX9 231 yX9_readIn : Cond) ∈ gw := gw_m (List.mem_append_right _ (List.mem_append_right _ (List.mem_append_left _ (List.mem_of_getElem? (i := 189) (by decide +kernel))))) (by decide +kernel)
theorem gm_instanceMethod_yX9_readIn : (.instanceMethod yX9_readIn : Cond) ∈ gw := gw_m (List.mem_append_right _ (List.mem_append_right _ (List.mem_append_left _ (List.mem_of_getElem? (i := 191) (by decide +kernel))))) (by decide +kernel)
theorem gm_selects_RX9_yX9_readIn_yX9_readIn : (.selects RX9 yX9_readIn yX9_readIn : Cond) ∈ gw := gw_m (List.mem_append_left _ (List.mem_of_getElem? (i := 3) (by decide +kernel))) (by decide +kernel)
theorem gm_code_yX9_readIn_cX9_readIn_3_some_int_ : (.code yX9_readIn cX9_readIn 3 (some .int) : Cond) ∈ gw := gw_m (List.mem_append_right _ (List.mem_append_right _ (List.mem_append_left _ (List.mem_of_getElem? (i := 192) rfl)))) (by decide +kernel)
theorem gm_fieldLink_RX9_47_ErrandGuild_readings_LErrandGuild_Ledger_ : (.fieldLink RX9 47 "ErrandGuild" "readings" "LErrandGuild$Ledger;" : Cond) ∈ gw := gw_m (List.mem_append_right _ (List.mem_append_left _ (List.mem_of_getElem? (i := 105) (by decide +kernel)))) (by decide +kernel)
theorem gm_methodLink_RX9_235_yX5_at : (.methodLink RX9 235 yX5_at : Cond) ∈ gw := gw_m (List.mem_append_right _ (List.mem_append_right _ (List.mem_append_right _ (List.mem_append_left _ (List.mem_of_getElem? (i := 175) (by decide +kernel)))))) (by decide +kernel)
theorem gm_instanceMethod_yX5_at : (.instanceMethod yX5_at : Cond) ∈ gw := gw_m (List.mem_append_right _ (List.mem_append_right _ (List.mem_append_right _ (List.mem_append_left _ (List.mem_of_getElem? (i := 176) (by decide +kernel)))))) (by decide +kernel)
theorem gm_selects_RX5_yX5_at_yX5_at : (.selects RX5 yX5_at yX5_at : Cond) ∈ gw := gw_m (List.mem_append_right _ (List.mem_append_right _ (List.mem_append_right _ (List.mem_append_left _ (List.mem_of_getElem? (i := 177) (by decide +kernel)))))) (by decide +kernel)
theorem gm_initialized_RX5 : (.initialized RX5 : Cond) ∈ gw := gw_m (List.mem_append_right _ (List.mem_append_left _ (List.mem_of_getElem? (i := 3) (by decide +kernel)))) (by decide +kernel)
theorem gm_code_yX5_at_cX5_at_4_some_int_ : (.code yX5_at cX5_at 4 (some .int) : Cond) ∈ gw := gw_m (List.mem_append_right _ (List.mem_append_right _ (List.mem_append_right _ (List.mem_append_left _ (List.mem_of_getElem? (i := 178) rfl))))) (by decide +kernel)
theorem gm_fieldLink_RX9_51_ErrandGuild_asked_LErrandGuild_Ledger_ : (.fieldLink RX9 51 "ErrandGuild" "asked" "LErrandGuild$Ledger;" : Cond) ∈ gw := gw_m (List.mem_append_right _ (List.mem_append_left _ (List.mem_of_getElem? (i := 107) (by decide +kernel)))) (by decide +kernel)
theorem gm_fieldLink_RX9_57_ErrandGuild_turns_LErrandGuild_Cells_ : (.fieldLink RX9 57 "ErrandGuild" "turns" "LErrandGuild$Cells;" : Cond) ∈ gw := gw_m (List.mem_append_right _ (List.mem_append_left _ (List.mem_of_getElem? (i := 109) (by decide +kernel)))) (by decide +kernel)
theorem gm_methodLink_RX9_241_yX0_has : (.methodLink RX9 241 yX0_has : Cond) ∈ gw := gw_m (List.mem_append_right _ (List.mem_append_right _ (List.mem_append_right _ (List.mem_append_left _ (List.mem_of_getElem? (i := 192) (by decide +kernel)))))) (by decide +kernel)
theorem gm_methodLink_RX9_244_yX0_at : (.methodLink RX9 244 yX0_at : Cond) ∈ gw := gw_m (List.mem_append_right _ (List.mem_append_right _ (List.mem_append_right _ (List.mem_append_left _ (List.mem_of_getElem? (i := 193) (by decide +kernel)))))) (by decide +kernel)
theorem gm_fieldLink_RX9_238_ErrandGuild_Run_remarks_LErrandGuild_Cells_ : (.fieldLink RX9 238 "ErrandGuild$Run" "remarks" "LErrandGuild$Cells;" : Cond) ∈ gw := gw_m (List.mem_append_right _ (List.mem_append_right _ (List.mem_append_left _ (List.mem_of_getElem? (i := 132) (by decide +kernel))))) (by decide +kernel)
theorem gm_methodLink_RX9_250_yX9_runOnThread : (.methodLink RX9 250 yX9_runOnThread : Cond) ∈ gw := gw_m (List.mem_append_right _ (List.mem_append_right _ (List.mem_append_right _ (List.mem_append_left _ (List.mem_of_getElem? (i := 210) (by decide +kernel)))))) (by decide +kernel)
theorem gm_instanceMethod_yX9_runOnThread : (.instanceMethod yX9_runOnThread : Cond) ∈ gw := gw_m (List.mem_append_right _ (List.mem_append_right _ (List.mem_append_right _ (List.mem_append_left _ (List.mem_of_getElem? (i := 212) (by decide +kernel)))))) (by decide +kernel)
theorem gm_selects_RX9_yX9_runOnThread_yX9_runOnThread : (.selects RX9 yX9_runOnThread yX9_runOnThread : Cond) ∈ gw := gw_m (List.mem_append_left _ (List.mem_of_getElem? (i := 27) (by decide +kernel))) (by decide +kernel)
theorem gm_code_yX9_runOnThread_cX9_runOnThread_3_some_int_ : (.code yX9_runOnThread cX9_runOnThread 3 (some .int) : Cond) ∈ gw := gw_m (List.mem_append_right _ (List.mem_append_right _ (List.mem_append_right _ (List.mem_append_left _ (List.mem_of_getElem? (i := 213) rfl))))) (by decide +kernel)
theorem gm_fieldLink_RX9_84_ErrandGuild_beats_I_ : (.fieldLink RX9 84 "ErrandGuild" "beats" "I" : Cond) ∈ gw := gw_m (List.mem_append_right _ (List.mem_append_left _ (List.mem_of_getElem? (i := 104) (by decide +kernel)))) (by decide +kernel)
theorem gm_methodLink_RX9_247_yX9_runsThatAre : (.methodLink RX9 247 yX9_runsThatAre : Cond) ∈ gw := gw_m (List.mem_append_right _ (List.mem_append_right _ (List.mem_append_right _ (List.mem_append_left _ (List.mem_of_getElem? (i := 206) (by decide +kernel)))))) (by decide +kernel)
theorem gm_instanceMethod_yX9_runsThatAre : (.instanceMethod yX9_runsThatAre : Cond) ∈ gw := gw_m (List.mem_append_right _ (List.mem_append_right _ (List.mem_append_right _ (List.mem_append_left _ (List.mem_of_getElem? (i := 208) (by decide +kernel)))))) (by decide +kernel)
theorem gm_selects_RX9_yX9_runsThatAre_yX9_runsThatAre : (.selects RX9 yX9_runsThatAre yX9_runsThatAre : Cond) ∈ gw := gw_m (List.mem_append_left _ (List.mem_of_getElem? (i := 26) (by decide +kernel))) (by decide +kernel)
theorem gm_code_yX9_runsThatAre_cX9_runsThatAre_5_some_int_ : (.code yX9_runsThatAre cX9_runsThatAre 5 (some .int) : Cond) ∈ gw := gw_m (List.mem_append_right _ (List.mem_append_right _ (List.mem_append_right _ (List.mem_append_left _ (List.mem_of_getElem? (i := 209) rfl))))) (by decide +kernel)
theorem gm_fieldLink_RX9_90_ErrandGuild_readingCount_I_ : (.fieldLink RX9 90 "ErrandGuild" "readingCount" "I" : Cond) ∈ gw := gw_m (List.mem_append_right _ (List.mem_append_left _ (List.mem_of_getElem? (i := 106) (by decide +kernel)))) (by decide +kernel)
theorem gm_fieldLink_RX9_93_ErrandGuild_askedCount_I_ : (.fieldLink RX9 93 "ErrandGuild" "askedCount" "I" : Cond) ∈ gw := gw_m (List.mem_append_right _ (List.mem_append_left _ (List.mem_of_getElem? (i := 108) (by decide +kernel)))) (by decide +kernel)
theorem gm_fieldLink_RX9_97_ErrandGuild_turnCount_I_ : (.fieldLink RX9 97 "ErrandGuild" "turnCount" "I" : Cond) ∈ gw := gw_m (List.mem_append_right _ (List.mem_append_left _ (List.mem_of_getElem? (i := 110) (by decide +kernel)))) (by decide +kernel)
theorem gm_methodLink_RX9_268_yX6_write : (.methodLink RX9 268 yX6_write : Cond) ∈ gw := gw_m (List.mem_append_right _ (List.mem_append_right _ (List.mem_append_right _ (List.mem_append_left _ (List.mem_of_getElem? (i := 43) (by decide +kernel)))))) (by decide +kernel)
theorem gm_instanceMethod_yX6_write : (.instanceMethod yX6_write : Cond) ∈ gw := gw_m (List.mem_append_right _ (List.mem_append_right _ (List.mem_append_right _ (List.mem_append_left _ (List.mem_of_getElem? (i := 44) (by decide +kernel)))))) (by decide +kernel)
theorem gm_selects_RX6_yX6_write_yX6_write : (.selects RX6 yX6_write yX6_write : Cond) ∈ gw := gw_m (List.mem_append_right _ (List.mem_append_right _ (List.mem_append_right _ (List.mem_append_left _ (List.mem_of_getElem? (i := 45) (by decide +kernel)))))) (by decide +kernel)
theorem gm_code_yX6_write_cX6_write_3_none : (.code yX6_write cX6_write 3 none : Cond) ∈ gw := gw_m (List.mem_append_right _ (List.mem_append_right _ (List.mem_append_right _ (List.mem_append_left _ (List.mem_of_getElem? (i := 46) rfl))))) (by decide +kernel)
theorem gm_methodLink_RX9_272_yX8_rebind : (.methodLink RX9 272 yX8_rebind : Cond) ∈ gw := gw_m (List.mem_append_right _ (List.mem_append_right _ (List.mem_append_right _ (List.mem_append_left _ (List.mem_of_getElem? (i := 47) (by decide +kernel)))))) (by decide +kernel)
theorem gm_instanceMethod_yX8_rebind : (.instanceMethod yX8_rebind : Cond) ∈ gw := gw_m (List.mem_append_right _ (List.mem_append_right _ (List.mem_append_right _ (List.mem_append_left _ (List.mem_of_getElem? (i := 48) (by decide +kernel)))))) (by decide +kernel)
theorem gm_selects_RX8_yX8_rebind_yX8_rebind : (.selects RX8 yX8_rebind yX8_rebind : Cond) ∈ gw := gw_m (List.mem_append_right _ (List.mem_append_right _ (List.mem_append_right _ (List.mem_append_left _ (List.mem_of_getElem? (i := 49) (by decide +kernel)))))) (by decide +kernel)
theorem gm_code_yX8_rebind_cX8_rebind_4_some_boolean_ : (.code yX8_rebind cX8_rebind 4 (some .boolean) : Cond) ∈ gw := gw_m (List.mem_append_right _ (List.mem_append_right _ (List.mem_append_right _ (List.mem_append_left _ (List.mem_of_getElem? (i := 50) rfl))))) (by decide +kernel)
theorem gm_methodLink_RX9_279_yX8_bind : (.methodLink RX9 279 yX8_bind : Cond) ∈ gw := gw_m (List.mem_append_right _ (List.mem_append_right _ (List.mem_append_right _ (List.mem_append_left _ (List.mem_of_getElem? (i := 64) (by decide +kernel)))))) (by decide +kernel)
theorem gm_instanceMethod_yX8_bind : (.instanceMethod yX8_bind : Cond) ∈ gw := gw_m (List.mem_append_right _ (List.mem_append_right _ (List.mem_append_right _ (List.mem_append_left _ (List.mem_of_getElem? (i := 65) (by decide +kernel)))))) (by decide +kernel)
theorem gm_selects_RX8_yX8_bind_yX8_bind : (.selects RX8 yX8_bind yX8_bind : Cond) ∈ gw := gw_m (List.mem_append_right _ (List.mem_append_right _ (List.mem_append_right _ (List.mem_append_left _ (List.mem_of_getElem? (i := 66) (by decide +kernel)))))) (by decide +kernel)
theorem gm_code_yX8_bind_cX8_bind_3_none : (.code yX8_bind cX8_bind 3 none : Cond) ∈ gw := gw_m (List.mem_append_right _ (List.mem_append_right _ (List.mem_append_right _ (List.mem_append_left _ (List.mem_of_getElem? (i := 67) rfl))))) (by decide +kernel)
theorem gm_methodLink_RX9_365_yX8_endBindings : (.methodLink RX9 365 yX8_endBindings : Cond) ∈ gw := gw_m (List.mem_append_right _ (List.mem_append_right _ (List.mem_append_right _ (List.mem_append_left _ (List.mem_of_getElem? (i := 35) (by decide +kernel)))))) (by decide +kernel)
theorem gm_instanceMethod_yX8_endBindings : (.instanceMethod yX8_endBindings : Cond) ∈ gw := gw_m (List.mem_append_right _ (List.mem_append_right _ (List.mem_append_right _ (List.mem_append_left _ (List.mem_of_getElem? (i := 36) (by decide +kernel)))))) (by decide +kernel)
theorem gm_selects_RX8_yX8_endBindings_yX8_endBindings : (.selects RX8 yX8_endBindings yX8_endBindings : Cond) ∈ gw := gw_m (List.mem_append_right _ (List.mem_append_right _ (List.mem_append_right _ (List.mem_append_left _ (List.mem_of_getElem? (i := 37) (by decide +kernel)))))) (by decide +kernel)
theorem gm_code_yX8_endBindings_cX8_endBindings_1_none : (.code yX8_endBindings cX8_endBindings 1 none : Cond) ∈ gw := gw_m (List.mem_append_right _ (List.mem_append_right _ (List.mem_append_right _ (List.mem_append_left _ (List.mem_of_getElem? (i := 38) rfl))))) (by decide +kernel)
theorem gm_methodLink_RX9_307_yX6_forget : (.methodLink RX9 307 yX6_forget : Cond) ∈ gw := gw_m (List.mem_append_right _ (List.mem_append_right _ (List.mem_append_right _ (List.mem_append_left _ (List.mem_of_getElem? (i := 115) (by decide +kernel)))))) (by decide +kernel)
theorem gm_instanceMethod_yX6_forget : (.instanceMethod yX6_forget : Cond) ∈ gw := gw_m (List.mem_append_right _ (List.mem_append_right _ (List.mem_append_right _ (List.mem_append_left _ (List.mem_of_getElem? (i := 116) (by decide +kernel)))))) (by decide +kernel)
theorem gm_selects_RX6_yX6_forget_yX6_forget : (.selects RX6 yX6_forget yX6_forget : Cond) ∈ gw := gw_m (List.mem_append_right _ (List.mem_append_right _ (List.mem_append_right _ (List.mem_append_left _ (List.mem_of_getElem? (i := 117) (by decide +kernel)))))) (by decide +kernel)
theorem gm_code_yX6_forget_cX6_forget_2_none : (.code yX6_forget cX6_forget 2 none : Cond) ∈ gw := gw_m (List.mem_append_right _ (List.mem_append_right _ (List.mem_append_right _ (List.mem_append_left _ (List.mem_of_getElem? (i := 118) rfl))))) (by decide +kernel)
theorem gm_methodLink_RX9_282_yX9_comeToThread : (.methodLink RX9 282 yX9_comeToThread : Cond) ∈ gw := gw_m (List.mem_append_right _ (List.mem_append_right _ (List.mem_append_left _ (List.mem_of_getElem? (i := 235) (by decide +kernel))))) (by decide +kernel)
theorem gm_instanceMethod_yX9_comeToThread : (.instanceMethod yX9_comeToThread : Cond) ∈ gw := gw_m (List.mem_append_right _ (List.mem_append_right _ (List.mem_append_left _ (List.mem_of_getElem? (i := 237) (by decide +kernel))))) (by decide +kernel)
theorem gm_selects_RX9_yX9_comeToThread_yX9_comeToThread : (.selects RX9 yX9_comeToThread yX9_comeToThread : Cond) ∈ gw := gw_m (List.mem_append_left _ (List.mem_of_getElem? (i := 8) (by decide +kernel))) (by decide +kernel)
theorem gm_code_yX9_comeToThread_cX9_comeToThread_3_none : (.code yX9_comeToThread cX9_comeToThread 3 none : Cond) ∈ gw := gw_m (List.mem_append_right _ (List.mem_append_right _ (List.mem_append_left _ (List.mem_of_getElem? (i := 238) rfl)))) (by decide +kernel)
theorem gm_methodLink_RX9_303_yX9_areAwaitedOver : (.methodLink RX9 303 yX9_areAwaitedOver : Cond) ∈ gw := gw_m (List.mem_append_right _ (List.mem_append_right _ (List.mem_append_right _ (List.mem_append_left _ (List.mem_of_getElem? (i := 84) (by decide +kernel)))))) (by decide +kernel)
theorem gm_static_yX9_areAwaitedOver : (.static yX9_areAwaitedOver : Cond) ∈ gw := gw_m (List.mem_append_right _ (List.mem_append_right _ (List.mem_append_right _ (List.mem_append_left _ (List.mem_of_getElem? (i := 85) (by decide +kernel)))))) (by decide +kernel)
theorem gm_code_yX9_areAwaitedOver_cX9_areAwaitedOver_2_some_boolean_ : (.code yX9_areAwaitedOver cX9_areAwaitedOver 2 (some .boolean) : Cond) ∈ gw := gw_m (List.mem_append_right _ (List.mem_append_right _ (List.mem_append_right _ (List.mem_append_left _ (List.mem_of_getElem? (i := 86) rfl))))) (by decide +kernel)
theorem gm_fieldLink_RX9_289_ErrandGuild_Run_returning_Z_ : (.fieldLink RX9 289 "ErrandGuild$Run" "returning" "Z" : Cond) ∈ gw := gw_m (List.mem_append_right _ (List.mem_append_right _ (List.mem_append_left _ (List.mem_of_getElem? (i := 121) (by decide +kernel))))) (by decide +kernel)
theorem gm_fieldLink_RX9_141_ErrandGuild_Run_interrupted_Z_ : (.fieldLink RX9 141 "ErrandGuild$Run" "interrupted" "Z" : Cond) ∈ gw := gw_m (List.mem_append_right _ (List.mem_append_right _ (List.mem_append_left _ (List.mem_of_getElem? (i := 119) (by decide +kernel))))) (by decide +kernel)
theorem gm_methodLink_RX9_382_yX9_settleAwaited : (.methodLink RX9 382 yX9_settleAwaited : Cond) ∈ gw := gw_m (List.mem_append_right _ (List.mem_append_right _ (List.mem_append_right _ (List.mem_append_left _ (List.mem_of_getElem? (i := 21) (by decide +kernel)))))) (by decide +kernel)
theorem gm_static_yX9_settleAwaited : (.static yX9_settleAwaited : Cond) ∈ gw := gw_m (List.mem_append_right _ (List.mem_append_right _ (List.mem_append_right _ (List.mem_append_left _ (List.mem_of_getElem? (i := 22) (by decide +kernel)))))) (by decide +kernel)
theorem gm_code_yX9_settleAwaited_cX9_settleAwaited_2_none : (.code yX9_settleAwaited cX9_settleAwaited 2 none : Cond) ∈ gw := gw_m (List.mem_append_right _ (List.mem_append_right _ (List.mem_append_right _ (List.mem_append_left _ (List.mem_of_getElem? (i := 23) rfl))))) (by decide +kernel)
theorem gm_methodLink_RX9_325_yX9_takeAnswers : (.methodLink RX9 325 yX9_takeAnswers : Cond) ∈ gw := gw_m (List.mem_append_right _ (List.mem_append_right _ (List.mem_append_right _ (List.mem_append_left _ (List.mem_of_getElem? (i := 24) (by decide +kernel)))))) (by decide +kernel)
theorem gm_static_yX9_takeAnswers : (.static yX9_takeAnswers : Cond) ∈ gw := gw_m (List.mem_append_right _ (List.mem_append_right _ (List.mem_append_right _ (List.mem_append_left _ (List.mem_of_getElem? (i := 25) (by decide +kernel)))))) (by decide +kernel)
theorem gm_code_yX9_takeAnswers_cX9_takeAnswers_4_some_int_ : (.code yX9_takeAnswers cX9_takeAnswers 4 (some .int) : Cond) ∈ gw := gw_m (List.mem_append_right _ (List.mem_append_right _ (List.mem_append_right _ (List.mem_append_left _ (List.mem_of_getElem? (i := 26) rfl))))) (by decide +kernel)
theorem gm_methodLink_RX9_322_yX9_noticeInterrupt : (.methodLink RX9 322 yX9_noticeInterrupt : Cond) ∈ gw := gw_m (List.mem_append_right _ (List.mem_append_right _ (List.mem_append_right _ (List.mem_append_left _ (List.mem_of_getElem? (i := 18) (by decide +kernel)))))) (by decide +kernel)
theorem gm_static_yX9_noticeInterrupt : (.static yX9_noticeInterrupt : Cond) ∈ gw := gw_m (List.mem_append_right _ (List.mem_append_right _ (List.mem_append_right _ (List.mem_append_left _ (List.mem_of_getElem? (i := 19) (by decide +kernel)))))) (by decide +kernel)
theorem gm_code_yX9_noticeInterrupt_cX9_noticeInterrupt_1_some_int_ : (.code yX9_noticeInterrupt cX9_noticeInterrupt 1 (some .int) : Cond) ∈ gw := gw_m (List.mem_append_right _ (List.mem_append_right _ (List.mem_append_right _ (List.mem_append_left _ (List.mem_of_getElem? (i := 20) rfl))))) (by decide +kernel)
theorem gm_methodLink_RX9_385_yX8_catchOf : (.methodLink RX9 385 yX8_catchOf : Cond) ∈ gw := gw_m (List.mem_append_right _ (List.mem_append_right _ (List.mem_append_right _ (List.mem_append_left _ (List.mem_of_getElem? (i := 103) (by decide +kernel)))))) (by decide +kernel)
theorem gm_instanceMethod_yX8_catchOf : (.instanceMethod yX8_catchOf : Cond) ∈ gw := gw_m (List.mem_append_right _ (List.mem_append_right _ (List.mem_append_right _ (List.mem_append_left _ (List.mem_of_getElem? (i := 104) (by decide +kernel)))))) (by decide +kernel)
theorem gm_selects_RX8_yX8_catchOf_yX8_catchOf : (.selects RX8 yX8_catchOf yX8_catchOf : Cond) ∈ gw := gw_m (List.mem_append_right _ (List.mem_append_right _ (List.mem_append_right _ (List.mem_append_left _ (List.mem_of_getElem? (i := 105) (by decide +kernel)))))) (by decide +kernel)
theorem gm_code_yX8_catchOf_cX8_catchOf_3_some_int_ : (.code yX8_catchOf cX8_catchOf 3 (some .int) : Cond) ∈ gw := gw_m (List.mem_append_right _ (List.mem_append_right _ (List.mem_append_right _ (List.mem_append_left _ (List.mem_of_getElem? (i := 106) rfl))))) (by decide +kernel)
theorem gm_methodLink_RX9_69_yX9_errandAt : (.methodLink RX9 69 yX9_errandAt : Cond) ∈ gw := gw_m (List.mem_append_right _ (List.mem_append_left _ (List.mem_of_getElem? (i := 157) (by decide +kernel)))) (by decide +kernel)
theorem gm_instanceMethod_yX9_errandAt : (.instanceMethod yX9_errandAt : Cond) ∈ gw := gw_m (List.mem_append_right _ (List.mem_append_left _ (List.mem_of_getElem? (i := 159) (by decide +kernel)))) (by decide +kernel)
theorem gm_selects_RX9_yX9_errandAt_yX9_errandAt : (.selects RX9 yX9_errandAt yX9_errandAt : Cond) ∈ gw := gw_m (List.mem_append_left _ (List.mem_of_getElem? (i := 0) (by decide +kernel))) (by decide +kernel)
theorem gm_code_yX9_errandAt_cX9_errandAt_2_some_object_ErrandGuild_Errand_ : (.code yX9_errandAt cX9_errandAt 2 (some (.object "ErrandGuild$Errand")) : Cond) ∈ gw := gw_m (List.mem_append_right _ (List.mem_append_left _ (List.mem_of_getElem? (i := 160) rfl))) (by decide +kernel)
theorem gm_fieldLink_RX9_73_ErrandGuild_Errand_count_I_ : (.fieldLink RX9 73 "ErrandGuild$Errand" "count" "I" : Cond) ∈ gw := gw_m (List.mem_append_right _ (List.mem_append_left _ (List.mem_of_getElem? (i := 86) (by decide +kernel)))) (by decide +kernel)
theorem gm_methodLink_RX9_87_yX5_clear : (.methodLink RX9 87 yX5_clear : Cond) ∈ gw := gw_m (List.mem_append_right _ (List.mem_append_left _ (List.mem_of_getElem? (i := 175) (by decide +kernel)))) (by decide +kernel)
theorem gm_instanceMethod_yX5_clear : (.instanceMethod yX5_clear : Cond) ∈ gw := gw_m (List.mem_append_right _ (List.mem_append_left _ (List.mem_of_getElem? (i := 176) (by decide +kernel)))) (by decide +kernel)
theorem gm_selects_RX5_yX5_clear_yX5_clear : (.selects RX5 yX5_clear yX5_clear : Cond) ∈ gw := gw_m (List.mem_append_right _ (List.mem_append_left _ (List.mem_of_getElem? (i := 177) (by decide +kernel)))) (by decide +kernel)
theorem gm_code_yX5_clear_cX5_clear_1_none : (.code yX5_clear cX5_clear 1 none : Cond) ∈ gw := gw_m (List.mem_append_right _ (List.mem_append_left _ (List.mem_of_getElem? (i := 178) rfl))) (by decide +kernel)
theorem gm_methodLink_RX9_96_yX0_clear : (.methodLink RX9 96 yX0_clear : Cond) ∈ gw := gw_m (List.mem_append_right _ (List.mem_append_left _ (List.mem_of_getElem? (i := 183) (by decide +kernel)))) (by decide +kernel)
theorem gm_methodLink_RX9_100_yX9_wipeErrands : (.methodLink RX9 100 yX9_wipeErrands : Cond) ∈ gw := gw_m (List.mem_append_right _ (List.mem_append_left _ (List.mem_of_getElem? (i := 184) (by decide +kernel)))) (by decide +kernel)
theorem gm_instanceMethod_yX9_wipeErrands : (.instanceMethod yX9_wipeErrands : Cond) ∈ gw := gw_m (List.mem_append_right _ (List.mem_append_left _ (List.mem_of_getElem? (i := 186) (by decide +kernel)))) (by decide +kernel)
theorem gm_selects_RX9_yX9_wipeErrands_yX9_wipeErrands : (.selects RX9 yX9_wipeErrands yX9_wipeErrands : Cond) ∈ gw := gw_m (List.mem_append_left _ (List.mem_of_getElem? (i := 1) (by decide +kernel))) (by decide +kernel)
theorem gm_code_yX9_wipeErrands_cX9_wipeErrands_3_none : (.code yX9_wipeErrands cX9_wipeErrands 3 none : Cond) ∈ gw := gw_m (List.mem_append_right _ (List.mem_append_left _ (List.mem_of_getElem? (i := 187) rfl))) (by decide +kernel)
theorem gm_methodLink_RX5_27_yX0_add : (.methodLink RX5 27 yX0_add : Cond) ∈ gw := gw_m (List.mem_append_right _ (List.mem_append_right _ (List.mem_append_right _ (List.mem_append_left _ (List.mem_of_getElem? (i := 59) (by decide +kernel)))))) (by decide +kernel)
theorem gm_instanceMethod_yX0_add : (.instanceMethod yX0_add : Cond) ∈ gw := gw_m (List.mem_append_right _ (List.mem_append_right _ (List.mem_append_right _ (List.mem_append_left _ (List.mem_of_getElem? (i := 8) (by decide +kernel)))))) (by decide +kernel)
theorem gm_selects_RX0_yX0_add_yX0_add : (.selects RX0 yX0_add yX0_add : Cond) ∈ gw := gw_m (List.mem_append_right _ (List.mem_append_right _ (List.mem_append_right _ (List.mem_append_left _ (List.mem_of_getElem? (i := 9) (by decide +kernel)))))) (by decide +kernel)
theorem gm_code_yX0_add_cX0_add_3_none : (.code yX0_add cX0_add 3 none : Cond) ∈ gw := gw_m (List.mem_append_right _ (List.mem_append_right _ (List.mem_append_right _ (List.mem_append_left _ (List.mem_of_getElem? (i := 10) rfl))))) (by decide +kernel)
theorem gm_methodLink_RX9_310_yX0_add : (.methodLink RX9 310 yX0_add : Cond) ∈ gw := gw_m (List.mem_append_right _ (List.mem_append_right _ (List.mem_append_right _ (List.mem_append_left _ (List.mem_of_getElem? (i := 7) (by decide +kernel)))))) (by decide +kernel)
theorem gm_methodLink_RX9_312_yX2_clear : (.methodLink RX9 312 yX2_clear : Cond) ∈ gw := gw_m (List.mem_append_right _ (List.mem_append_right _ (List.mem_append_right _ (List.mem_append_left _ (List.mem_of_getElem? (i := 14) (by decide +kernel)))))) (by decide +kernel)
theorem gm_instanceMethod_yX2_clear : (.instanceMethod yX2_clear : Cond) ∈ gw := gw_m (List.mem_append_right _ (List.mem_append_right _ (List.mem_append_left _ (List.mem_of_getElem? (i := 185) (by decide +kernel))))) (by decide +kernel)
theorem gm_selects_RX2_yX2_clear_yX2_clear : (.selects RX2 yX2_clear yX2_clear : Cond) ∈ gw := gw_m (List.mem_append_right _ (List.mem_append_right _ (List.mem_append_left _ (List.mem_of_getElem? (i := 186) (by decide +kernel))))) (by decide +kernel)
theorem gm_code_yX2_clear_cX2_clear_1_none : (.code yX2_clear cX2_clear 1 none : Cond) ∈ gw := gw_m (List.mem_append_right _ (List.mem_append_right _ (List.mem_append_left _ (List.mem_of_getElem? (i := 187) rfl)))) (by decide +kernel)
theorem gm_methodLink_RX9_276_yX5_add : (.methodLink RX9 276 yX5_add : Cond) ∈ gw := gw_m (List.mem_append_right _ (List.mem_append_right _ (List.mem_append_right _ (List.mem_append_left _ (List.mem_of_getElem? (i := 55) (by decide +kernel)))))) (by decide +kernel)
theorem gm_instanceMethod_yX5_add : (.instanceMethod yX5_add : Cond) ∈ gw := gw_m (List.mem_append_right _ (List.mem_append_right _ (List.mem_append_right _ (List.mem_append_left _ (List.mem_of_getElem? (i := 56) (by decide +kernel)))))) (by decide +kernel)
theorem gm_selects_RX5_yX5_add_yX5_add : (.selects RX5 yX5_add yX5_add : Cond) ∈ gw := gw_m (List.mem_append_right _ (List.mem_append_right _ (List.mem_append_right _ (List.mem_append_left _ (List.mem_of_getElem? (i := 57) (by decide +kernel)))))) (by decide +kernel)
theorem gm_code_yX5_add_cX5_add_5_none : (.code yX5_add cX5_add 5 none : Cond) ∈ gw := gw_m (List.mem_append_right _ (List.mem_append_right _ (List.mem_append_right _ (List.mem_append_left _ (List.mem_of_getElem? (i := 58) rfl))))) (by decide +kernel)
theorem gm_methodLink_RX9_103_yX3_indexOf : (.methodLink RX9 103 yX3_indexOf : Cond) ∈ gw := gw_m (List.mem_append_right _ (List.mem_append_left _ (List.mem_of_getElem? (i := 196) (by decide +kernel)))) (by decide +kernel)
theorem gm_static_yX3_indexOf : (.static yX3_indexOf : Cond) ∈ gw := gw_m (List.mem_append_right _ (List.mem_append_left _ (List.mem_of_getElem? (i := 197) (by decide +kernel)))) (by decide +kernel)
theorem gm_initialized_RX3 : (.initialized RX3 : Cond) ∈ gw := gw_m (List.mem_append_right _ (List.mem_append_left _ (List.mem_of_getElem? (i := 2) (by decide +kernel)))) (by decide +kernel)
theorem gm_code_yX3_indexOf_cX3_indexOf_2_some_int_ : (.code yX3_indexOf cX3_indexOf 2 (some .int) : Cond) ∈ gw := gw_m (List.mem_append_right _ (List.mem_append_left _ (List.mem_of_getElem? (i := 198) rfl))) (by decide +kernel)
theorem gm_fieldLink_RX9_25_ErrandGuild_handlers_LErrandGuild_Handlers_ : (.fieldLink RX9 25 "ErrandGuild" "handlers" "LErrandGuild$Handlers;" : Cond) ∈ gw := gw_m (List.mem_append_right _ (List.mem_append_left _ (List.mem_of_getElem? (i := 99) (by decide +kernel)))) (by decide +kernel)
theorem gm_methodLink_RX9_391_yX3_isThere : (.methodLink RX9 391 yX3_isThere : Cond) ∈ gw := gw_m (List.mem_append_right _ (List.mem_append_right _ (List.mem_append_right _ (List.mem_append_left _ (List.mem_of_getElem? (i := 127) (by decide +kernel)))))) (by decide +kernel)
theorem gm_instanceMethod_yX3_isThere : (.instanceMethod yX3_isThere : Cond) ∈ gw := gw_m (List.mem_append_right _ (List.mem_append_right _ (List.mem_append_right _ (List.mem_append_left _ (List.mem_of_getElem? (i := 128) (by decide +kernel)))))) (by decide +kernel)
theorem gm_selects_RX3_yX3_isThere_yX3_isThere : (.selects RX3 yX3_isThere yX3_isThere : Cond) ∈ gw := gw_m (List.mem_append_right _ (List.mem_append_right _ (List.mem_append_right _ (List.mem_append_left _ (List.mem_of_getElem? (i := 129) (by decide +kernel)))))) (by decide +kernel)
theorem gm_code_yX3_isThere_cX3_isThere_2_some_boolean_ : (.code yX3_isThere cX3_isThere 2 (some .boolean) : Cond) ∈ gw := gw_m (List.mem_append_right _ (List.mem_append_right _ (List.mem_append_right _ (List.mem_append_left _ (List.mem_of_getElem? (i := 130) rfl))))) (by decide +kernel)
theorem gm_methodLink_RX9_394_yX3_isThrowing : (.methodLink RX9 394 yX3_isThrowing : Cond) ∈ gw := gw_m (List.mem_append_right _ (List.mem_append_right _ (List.mem_append_right _ (List.mem_append_left _ (List.mem_of_getElem? (i := 131) (by decide +kernel)))))) (by decide +kernel)
theorem gm_instanceMethod_yX3_isThrowing : (.instanceMethod yX3_isThrowing : Cond) ∈ gw := gw_m (List.mem_append_right _ (List.mem_append_right _ (List.mem_append_right _ (List.mem_append_left _ (List.mem_of_getElem? (i := 132) (by decide +kernel)))))) (by decide +kernel)
theorem gm_selects_RX3_yX3_isThrowing_yX3_isThrowing : (.selects RX3 yX3_isThrowing yX3_isThrowing : Cond) ∈ gw := gw_m (List.mem_append_right _ (List.mem_append_right _ (List.mem_append_right _ (List.mem_append_left _ (List.mem_of_getElem? (i := 133) (by decide +kernel)))))) (by decide +kernel)
theorem gm_code_yX3_isThrowing_cX3_isThrowing_2_some_boolean_ : (.code yX3_isThrowing cX3_isThrowing 2 (some .boolean) : Cond) ∈ gw := gw_m (List.mem_append_right _ (List.mem_append_right _ (List.mem_append_right _ (List.mem_append_left _ (List.mem_of_getElem? (i := 134) rfl))))) (by decide +kernel)
theorem gm_methodLink_RX9_397_yX3_effectAt : (.methodLink RX9 397 yX3_effectAt : Cond) ∈ gw := gw_m (List.mem_append_right _ (List.mem_append_right _ (List.mem_append_right _ (List.mem_append_left _ (List.mem_of_getElem? (i := 135) (by decide +kernel)))))) (by decide +kernel)
theorem gm_instanceMethod_yX3_effectAt : (.instanceMethod yX3_effectAt : Cond) ∈ gw := gw_m (List.mem_append_right _ (List.mem_append_right _ (List.mem_append_right _ (List.mem_append_left _ (List.mem_of_getElem? (i := 136) (by decide +kernel)))))) (by decide +kernel)
theorem gm_selects_RX3_yX3_effectAt_yX3_effectAt : (.selects RX3 yX3_effectAt yX3_effectAt : Cond) ∈ gw := gw_m (List.mem_append_right _ (List.mem_append_right _ (List.mem_append_right _ (List.mem_append_left _ (List.mem_of_getElem? (i := 137) (by decide +kernel)))))) (by decide +kernel)
theorem gm_code_yX3_effectAt_cX3_effectAt_2_some_int_ : (.code yX3_effectAt cX3_effectAt 2 (some .int) : Cond) ∈ gw := gw_m (List.mem_append_right _ (List.mem_append_right _ (List.mem_append_right _ (List.mem_append_left _ (List.mem_of_getElem? (i := 138) rfl))))) (by decide +kernel)
theorem gm_methodLink_RX9_388_yX9_askHandlers : (.methodLink RX9 388 yX9_askHandlers : Cond) ∈ gw := gw_m (List.mem_append_right _ (List.mem_append_right _ (List.mem_append_right _ (List.mem_append_left _ (List.mem_of_getElem? (i := 123) (by decide +kernel)))))) (by decide +kernel)
theorem gm_instanceMethod_yX9_askHandlers : (.instanceMethod yX9_askHandlers : Cond) ∈ gw := gw_m (List.mem_append_right _ (List.mem_append_right _ (List.mem_append_right _ (List.mem_append_left _ (List.mem_of_getElem? (i := 125) (by decide +kernel)))))) (by decide +kernel)
theorem gm_selects_RX9_yX9_askHandlers_yX9_askHandlers : (.selects RX9 yX9_askHandlers yX9_askHandlers : Cond) ∈ gw := gw_m (List.mem_append_left _ (List.mem_of_getElem? (i := 23) (by decide +kernel))) (by decide +kernel)
theorem gm_code_yX9_askHandlers_cX9_askHandlers_7_none : (.code yX9_askHandlers cX9_askHandlers 7 none : Cond) ∈ gw := gw_m (List.mem_append_right _ (List.mem_append_right _ (List.mem_append_right _ (List.mem_append_left _ (List.mem_of_getElem? (i := 126) rfl))))) (by decide +kernel)
theorem gm_methodLink_RX9_319_yX9_tellUncaught : (.methodLink RX9 319 yX9_tellUncaught : Cond) ∈ gw := gw_m (List.mem_append_right _ (List.mem_append_right _ (List.mem_append_right _ (List.mem_append_left _ (List.mem_of_getElem? (i := 119) (by decide +kernel)))))) (by decide +kernel)
theorem gm_instanceMethod_yX9_tellUncaught : (.instanceMethod yX9_tellUncaught : Cond) ∈ gw := gw_m (List.mem_append_right _ (List.mem_append_right _ (List.mem_append_right _ (List.mem_append_left _ (List.mem_of_getElem? (i := 121) (by decide +kernel)))))) (by decide +kernel)
theorem gm_selects_RX9_yX9_tellUncaught_yX9_tellUncaught : (.selects RX9 yX9_tellUncaught yX9_tellUncaught : Cond) ∈ gw := gw_m (List.mem_append_left _ (List.mem_of_getElem? (i := 22) (by decide +kernel))) (by decide +kernel)
theorem gm_code_yX9_tellUncaught_cX9_tellUncaught_5_none : (.code yX9_tellUncaught cX9_tellUncaught 5 none : Cond) ∈ gw := gw_m (List.mem_append_right _ (List.mem_append_right _ (List.mem_append_right _ (List.mem_append_left _ (List.mem_of_getElem? (i := 122) rfl))))) (by decide +kernel)
theorem gm_methodLink_RX9_316_yX9_leaveThread : (.methodLink RX9 316 yX9_leaveThread : Cond) ∈ gw := gw_m (List.mem_append_right _ (List.mem_append_right _ (List.mem_append_right _ (List.mem_append_left _ (List.mem_of_getElem? (i := 111) (by decide +kernel)))))) (by decide +kernel)
theorem gm_instanceMethod_yX9_leaveThread : (.instanceMethod yX9_leaveThread : Cond) ∈ gw := gw_m (List.mem_append_right _ (List.mem_append_right _ (List.mem_append_right _ (List.mem_append_left _ (List.mem_of_getElem? (i := 113) (by decide +kernel)))))) (by decide +kernel)
theorem gm_selects_RX9_yX9_leaveThread_yX9_leaveThread : (.selects RX9 yX9_leaveThread yX9_leaveThread : Cond) ∈ gw := gw_m (List.mem_append_left _ (List.mem_of_getElem? (i := 21) (by decide +kernel))) (by decide +kernel)
theorem gm_code_yX9_leaveThread_cX9_leaveThread_3_none : (.code yX9_leaveThread cX9_leaveThread 3 none : Cond) ∈ gw := gw_m (List.mem_append_right _ (List.mem_append_right _ (List.mem_append_right _ (List.mem_append_left _ (List.mem_of_getElem? (i := 114) rfl))))) (by decide +kernel)
theorem gm_methodLink_RX9_313_yX9_failWith : (.methodLink RX9 313 yX9_failWith : Cond) ∈ gw := gw_m (List.mem_append_right _ (List.mem_append_right _ (List.mem_append_right _ (List.mem_append_left _ (List.mem_of_getElem? (i := 99) (by decide +kernel)))))) (by decide +kernel)
theorem gm_instanceMethod_yX9_failWith : (.instanceMethod yX9_failWith : Cond) ∈ gw := gw_m (List.mem_append_right _ (List.mem_append_right _ (List.mem_append_right _ (List.mem_append_left _ (List.mem_of_getElem? (i := 101) (by decide +kernel)))))) (by decide +kernel)
theorem gm_selects_RX9_yX9_failWith_yX9_failWith : (.selects RX9 yX9_failWith yX9_failWith : Cond) ∈ gw := gw_m (List.mem_append_left _ (List.mem_of_getElem? (i := 19) (by decide +kernel))) (by decide +kernel)
theorem gm_code_yX9_failWith_cX9_failWith_4_none : (.code yX9_failWith cX9_failWith 4 none : Cond) ∈ gw := gw_m (List.mem_append_right _ (List.mem_append_right _ (List.mem_append_right _ (List.mem_append_left _ (List.mem_of_getElem? (i := 102) rfl))))) (by decide +kernel)
theorem gm_fieldLink_RX4_43_ErrandGuild_Kin_lastChild_LErrandGuild_Run_ : (.fieldLink RX4 43 "ErrandGuild$Kin" "lastChild" "LErrandGuild$Run;" : Cond) ∈ gw := gw_m (List.mem_append_right _ (List.mem_append_left _ (List.mem_of_getElem? (i := 235) (by decide +kernel)))) (by decide +kernel)
theorem gm_fieldLink_RX4_40_ErrandGuild_Kin_firstChild_LErrandGuild_Run_ : (.fieldLink RX4 40 "ErrandGuild$Kin" "firstChild" "LErrandGuild$Run;" : Cond) ∈ gw := gw_m (List.mem_append_right _ (List.mem_append_left _ (List.mem_of_getElem? (i := 233) (by decide +kernel)))) (by decide +kernel)
theorem gm_fieldLink_RX4_49_ErrandGuild_Kin_children_I_ : (.fieldLink RX4 49 "ErrandGuild$Kin" "children" "I" : Cond) ∈ gw := gw_m (List.mem_append_right _ (List.mem_append_left _ (List.mem_of_getElem? (i := 238) (by decide +kernel)))) (by decide +kernel)
theorem gm_fieldLink_RX4_23_ErrandGuild_Run_kin_LErrandGuild_Kin_ : (.fieldLink RX4 23 "ErrandGuild$Run" "kin" "LErrandGuild$Kin;" : Cond) ∈ gw := gw_m (List.mem_append_right _ (List.mem_append_right _ (List.mem_append_left _ (List.mem_of_getElem? (i := 123) (by decide +kernel))))) (by decide +kernel)
theorem gm_fieldLink_RX4_46_ErrandGuild_Kin_nextSibling_LErrandGuild_Run_ : (.fieldLink RX4 46 "ErrandGuild$Kin" "nextSibling" "LErrandGuild$Run;" : Cond) ∈ gw := gw_m (List.mem_append_right _ (List.mem_append_left _ (List.mem_of_getElem? (i := 236) (by decide +kernel)))) (by decide +kernel)
theorem gm_fieldLink_RX4_9_ErrandGuild_Kin_giver_LErrandGuild_Run_ : (.fieldLink RX4 9 "ErrandGuild$Kin" "giver" "LErrandGuild$Run;" : Cond) ∈ gw := gw_m (List.mem_append_right _ (List.mem_append_left _ (List.mem_of_getElem? (i := 223) (by decide +kernel)))) (by decide +kernel)
theorem gm_fieldLink_RX4_21_ErrandGuild_Kin_root_LErrandGuild_Run_ : (.fieldLink RX4 21 "ErrandGuild$Kin" "root" "LErrandGuild$Run;" : Cond) ∈ gw := gw_m (List.mem_append_right _ (List.mem_append_left _ (List.mem_of_getElem? (i := 225) (by decide +kernel)))) (by decide +kernel)
theorem gm_fieldLink_RX4_27_ErrandGuild_Kin_depth_I_ : (.fieldLink RX4 27 "ErrandGuild$Kin" "depth" "I" : Cond) ∈ gw := gw_m (List.mem_append_right _ (List.mem_append_left _ (List.mem_of_getElem? (i := 227) (by decide +kernel)))) (by decide +kernel)
theorem gm_fieldLink_RX4_34_ErrandGuild_Kin_handedAt_I_ : (.fieldLink RX4 34 "ErrandGuild$Kin" "handedAt" "I" : Cond) ∈ gw := gw_m (List.mem_append_right _ (List.mem_append_left _ (List.mem_of_getElem? (i := 229) (by decide +kernel)))) (by decide +kernel)
theorem gm_fieldLink_RX4_37_ErrandGuild_Kin_claim_I_ : (.fieldLink RX4 37 "ErrandGuild$Kin" "claim" "I" : Cond) ∈ gw := gw_m (List.mem_append_right _ (List.mem_append_left _ (List.mem_of_getElem? (i := 231) (by decide +kernel)))) (by decide +kernel)
theorem gm_methodLink_RX4_15_yX7_root : (.methodLink RX4 15 yX7_root : Cond) ∈ gw := gw_m (List.mem_append_right _ (List.mem_append_right _ (List.mem_append_left _ (List.mem_of_getElem? (i := 172) (by decide +kernel))))) (by decide +kernel)
theorem gm_fieldLink_RX4_31_ErrandGuild_Run_place_I_ : (.fieldLink RX4 31 "ErrandGuild$Run" "place" "I" : Cond) ∈ gw := gw_m (List.mem_append_right _ (List.mem_append_right _ (List.mem_append_left _ (List.mem_of_getElem? (i := 114) (by decide +kernel))))) (by decide +kernel)
theorem gm_fieldLink_RX7_53_ErrandGuild_Run_errand_I_ : (.fieldLink RX7 53 "ErrandGuild$Run" "errand" "I" : Cond) ∈ gw := gw_m (List.mem_append_right _ (List.mem_append_right _ (List.mem_append_left _ (List.mem_of_getElem? (i := 103) (by decide +kernel))))) (by decide +kernel)
theorem gm_fieldLink_RX7_59_ErrandGuild_Run_thread_I_ : (.fieldLink RX7 59 "ErrandGuild$Run" "thread" "I" : Cond) ∈ gw := gw_m (List.mem_append_right _ (List.mem_append_right _ (List.mem_append_left _ (List.mem_of_getElem? (i := 107) (by decide +kernel))))) (by decide +kernel)
theorem gm_fieldLink_RX7_62_ErrandGuild_Run_visits_I_ : (.fieldLink RX7 62 "ErrandGuild$Run" "visits" "I" : Cond) ∈ gw := gw_m (List.mem_append_right _ (List.mem_append_right _ (List.mem_append_left _ (List.mem_of_getElem? (i := 109) (by decide +kernel))))) (by decide +kernel)
theorem gm_fieldLink_RX7_65_ErrandGuild_Run_sum_I_ : (.fieldLink RX7 65 "ErrandGuild$Run" "sum" "I" : Cond) ∈ gw := gw_m (List.mem_append_right _ (List.mem_append_right _ (List.mem_append_left _ (List.mem_of_getElem? (i := 111) (by decide +kernel))))) (by decide +kernel)
theorem gm_fieldLink_RX7_68_ErrandGuild_Run_place_I_ : (.fieldLink RX7 68 "ErrandGuild$Run" "place" "I" : Cond) ∈ gw := gw_m (List.mem_append_right _ (List.mem_append_right _ (List.mem_append_left _ (List.mem_of_getElem? (i := 113) (by decide +kernel))))) (by decide +kernel)
theorem gm_fieldLink_RX7_71_ErrandGuild_Run_overBeat_I_ : (.fieldLink RX7 71 "ErrandGuild$Run" "overBeat" "I" : Cond) ∈ gw := gw_m (List.mem_append_right _ (List.mem_append_right _ (List.mem_append_left _ (List.mem_of_getElem? (i := 116) (by decide +kernel))))) (by decide +kernel)
theorem gm_fieldLink_RX7_74_ErrandGuild_Run_interrupted_Z_ : (.fieldLink RX7 74 "ErrandGuild$Run" "interrupted" "Z" : Cond) ∈ gw := gw_m (List.mem_append_right _ (List.mem_append_right _ (List.mem_append_left _ (List.mem_of_getElem? (i := 118) (by decide +kernel))))) (by decide +kernel)
theorem gm_fieldLink_RX7_78_ErrandGuild_Run_returning_Z_ : (.fieldLink RX7 78 "ErrandGuild$Run" "returning" "Z" : Cond) ∈ gw := gw_m (List.mem_append_right _ (List.mem_append_right _ (List.mem_append_left _ (List.mem_of_getElem? (i := 120) (by decide +kernel))))) (by decide +kernel)
theorem gm_methodLink_RX7_81_yX4_begin : (.methodLink RX7 81 yX4_begin : Cond) ∈ gw := gw_m (List.mem_append_right _ (List.mem_append_right _ (List.mem_append_left _ (List.mem_of_getElem? (i := 168) (by decide +kernel))))) (by decide +kernel)
theorem gm_instanceMethod_yX4_begin : (.instanceMethod yX4_begin : Cond) ∈ gw := gw_m (List.mem_append_right _ (List.mem_append_right _ (List.mem_append_left _ (List.mem_of_getElem? (i := 169) (by decide +kernel))))) (by decide +kernel)
theorem gm_selects_RX4_yX4_begin_yX4_begin : (.selects RX4 yX4_begin yX4_begin : Cond) ∈ gw := gw_m (List.mem_append_right _ (List.mem_append_right _ (List.mem_append_left _ (List.mem_of_getElem? (i := 170) (by decide +kernel))))) (by decide +kernel)
theorem gm_code_yX4_begin_cX4_begin_2_none : (.code yX4_begin cX4_begin 2 none : Cond) ∈ gw := gw_m (List.mem_append_right _ (List.mem_append_right _ (List.mem_append_left _ (List.mem_of_getElem? (i := 171) rfl)))) (by decide +kernel)
theorem gm_methodLink_RX7_85_yX6_clear : (.methodLink RX7 85 yX6_clear : Cond) ∈ gw := gw_m (List.mem_append_right _ (List.mem_append_right _ (List.mem_append_left _ (List.mem_of_getElem? (i := 176) (by decide +kernel))))) (by decide +kernel)
theorem gm_instanceMethod_yX6_clear : (.instanceMethod yX6_clear : Cond) ∈ gw := gw_m (List.mem_append_right _ (List.mem_append_right _ (List.mem_append_left _ (List.mem_of_getElem? (i := 177) (by decide +kernel))))) (by decide +kernel)
theorem gm_selects_RX6_yX6_clear_yX6_clear : (.selects RX6 yX6_clear yX6_clear : Cond) ∈ gw := gw_m (List.mem_append_right _ (List.mem_append_right _ (List.mem_append_left _ (List.mem_of_getElem? (i := 178) (by decide +kernel))))) (by decide +kernel)
theorem gm_code_yX6_clear_cX6_clear_2_none : (.code yX6_clear cX6_clear 2 none : Cond) ∈ gw := gw_m (List.mem_append_right _ (List.mem_append_right _ (List.mem_append_left _ (List.mem_of_getElem? (i := 179) rfl)))) (by decide +kernel)
theorem gm_methodLink_RX7_88_yX8_clear : (.methodLink RX7 88 yX8_clear : Cond) ∈ gw := gw_m (List.mem_append_right _ (List.mem_append_right _ (List.mem_append_left _ (List.mem_of_getElem? (i := 180) (by decide +kernel))))) (by decide +kernel)
theorem gm_instanceMethod_yX8_clear : (.instanceMethod yX8_clear : Cond) ∈ gw := gw_m (List.mem_append_right _ (List.mem_append_right _ (List.mem_append_left _ (List.mem_of_getElem? (i := 181) (by decide +kernel))))) (by decide +kernel)
theorem gm_selects_RX8_yX8_clear_yX8_clear : (.selects RX8 yX8_clear yX8_clear : Cond) ∈ gw := gw_m (List.mem_append_right _ (List.mem_append_right _ (List.mem_append_left _ (List.mem_of_getElem? (i := 182) (by decide +kernel))))) (by decide +kernel)
theorem gm_code_yX8_clear_cX8_clear_1_none : (.code yX8_clear cX8_clear 1 none : Cond) ∈ gw := gw_m (List.mem_append_right _ (List.mem_append_right _ (List.mem_append_left _ (List.mem_of_getElem? (i := 183) rfl)))) (by decide +kernel)
theorem gm_methodLink_RX7_89_yX2_clear : (.methodLink RX7 89 yX2_clear : Cond) ∈ gw := gw_m (List.mem_append_right _ (List.mem_append_right _ (List.mem_append_left _ (List.mem_of_getElem? (i := 184) (by decide +kernel))))) (by decide +kernel)
theorem gm_methodLink_RX7_90_yX0_clear : (.methodLink RX7 90 yX0_clear : Cond) ∈ gw := gw_m (List.mem_append_right _ (List.mem_append_right _ (List.mem_append_left _ (List.mem_of_getElem? (i := 188) (by decide +kernel))))) (by decide +kernel)
theorem gm_methodLink_RX9_369_yX7_begin : (.methodLink RX9 369 yX7_begin : Cond) ∈ gw := gw_m (List.mem_append_right _ (List.mem_append_right _ (List.mem_append_left _ (List.mem_of_getElem? (i := 164) (by decide +kernel))))) (by decide +kernel)
theorem gm_instanceMethod_yX7_begin : (.instanceMethod yX7_begin : Cond) ∈ gw := gw_m (List.mem_append_right _ (List.mem_append_right _ (List.mem_append_left _ (List.mem_of_getElem? (i := 165) (by decide +kernel))))) (by decide +kernel)
theorem gm_selects_RX7_yX7_begin_yX7_begin : (.selects RX7 yX7_begin yX7_begin : Cond) ∈ gw := gw_m (List.mem_append_right _ (List.mem_append_right _ (List.mem_append_left _ (List.mem_of_getElem? (i := 166) (by decide +kernel))))) (by decide +kernel)
theorem gm_code_yX7_begin_cX7_begin_3_none : (.code yX7_begin cX7_begin 3 none : Cond) ∈ gw := gw_m (List.mem_append_right _ (List.mem_append_right _ (List.mem_append_left _ (List.mem_of_getElem? (i := 167) rfl)))) (by decide +kernel)
theorem gm_methodLink_RX9_373_yX6_give : (.methodLink RX9 373 yX6_give : Cond) ∈ gw := gw_m (List.mem_append_right _ (List.mem_append_right _ (List.mem_append_left _ (List.mem_of_getElem? (i := 211) (by decide +kernel))))) (by decide +kernel)
theorem gm_instanceMethod_yX6_give : (.instanceMethod yX6_give : Cond) ∈ gw := gw_m (List.mem_append_right _ (List.mem_append_right _ (List.mem_append_left _ (List.mem_of_getElem? (i := 212) (by decide +kernel))))) (by decide +kernel)
theorem gm_selects_RX6_yX6_give_yX6_give : (.selects RX6 yX6_give yX6_give : Cond) ∈ gw := gw_m (List.mem_append_right _ (List.mem_append_right _ (List.mem_append_left _ (List.mem_of_getElem? (i := 213) (by decide +kernel))))) (by decide +kernel)
theorem gm_code_yX6_give_cX6_give_3_none : (.code yX6_give cX6_give 3 none : Cond) ∈ gw := gw_m (List.mem_append_right _ (List.mem_append_right _ (List.mem_append_left _ (List.mem_of_getElem? (i := 214) rfl)))) (by decide +kernel)
theorem gm_classLink_RX9_29_RX7 : (.classLink RX9 29 RX7 : Cond) ∈ gw := gw_m (List.mem_append_right _ (List.mem_append_left _ (List.mem_of_getElem? (i := 41) (by decide +kernel)))) (by decide +kernel)
theorem gm_instantiable_RX7_15 : (.instantiable RX7 15 : Cond) ∈ gw := gw_m (List.mem_append_right _ (List.mem_append_left _ (List.mem_of_getElem? (i := 212) (by decide +kernel)))) (by decide +kernel)
theorem gm_code_yX7_init_cX7_init_2_none : (.code yX7_init cX7_init 2 none : Cond) ∈ gw := gw_m (List.mem_append_right _ (List.mem_append_left _ (List.mem_of_getElem? (i := 215) rfl))) (by decide +kernel)
theorem gm_methodLink_RX9_368_yX7_init : (.methodLink RX9 368 yX7_init : Cond) ∈ gw := gw_m (List.mem_append_right _ (List.mem_append_left _ (List.mem_of_getElem? (i := 213) (by decide +kernel)))) (by decide +kernel)
theorem gm_instanceMethod_yX7_init : (.instanceMethod yX7_init : Cond) ∈ gw := gw_m (List.mem_append_right _ (List.mem_append_left _ (List.mem_of_getElem? (i := 214) (by decide +kernel)))) (by decide +kernel)
theorem gm_methodLink_RX9_114_yX9_openRun : (.methodLink RX9 114 yX9_openRun : Cond) ∈ gw := gw_m (List.mem_append_right _ (List.mem_append_left _ (List.mem_of_getElem? (i := 208) (by decide +kernel)))) (by decide +kernel)
theorem gm_instanceMethod_yX9_openRun : (.instanceMethod yX9_openRun : Cond) ∈ gw := gw_m (List.mem_append_right _ (List.mem_append_left _ (List.mem_of_getElem? (i := 210) (by decide +kernel)))) (by decide +kernel)
theorem gm_selects_RX9_yX9_openRun_yX9_openRun : (.selects RX9 yX9_openRun yX9_openRun : Cond) ∈ gw := gw_m (List.mem_append_left _ (List.mem_of_getElem? (i := 2) (by decide +kernel))) (by decide +kernel)
theorem gm_code_yX9_openRun_cX9_openRun_5_some_object_ErrandGuild_Run_ : (.code yX9_openRun cX9_openRun 5 (some (.object "ErrandGuild$Run")) : Cond) ∈ gw := gw_m (List.mem_append_right _ (List.mem_append_left _ (List.mem_of_getElem? (i := 211) rfl))) (by decide +kernel)
theorem gm_methodLink_RX9_376_yX4_adopt : (.methodLink RX9 376 yX4_adopt : Cond) ∈ gw := gw_m (List.mem_append_right _ (List.mem_append_right _ (List.mem_append_right _ (List.mem_append_left _ (List.mem_of_getElem? (i := 76) (by decide +kernel)))))) (by decide +kernel)
theorem gm_instanceMethod_yX4_adopt : (.instanceMethod yX4_adopt : Cond) ∈ gw := gw_m (List.mem_append_right _ (List.mem_append_right _ (List.mem_append_right _ (List.mem_append_left _ (List.mem_of_getElem? (i := 77) (by decide +kernel)))))) (by decide +kernel)
theorem gm_selects_RX4_yX4_adopt_yX4_adopt : (.selects RX4 yX4_adopt yX4_adopt : Cond) ∈ gw := gw_m (List.mem_append_right _ (List.mem_append_right _ (List.mem_append_right _ (List.mem_append_left _ (List.mem_of_getElem? (i := 78) (by decide +kernel)))))) (by decide +kernel)
theorem gm_code_yX4_adopt_cX4_adopt_2_none : (.code yX4_adopt cX4_adopt 2 none : Cond) ∈ gw := gw_m (List.mem_append_right _ (List.mem_append_right _ (List.mem_append_right _ (List.mem_append_left _ (List.mem_of_getElem? (i := 79) rfl))))) (by decide +kernel)
theorem gm_methodLink_RX9_328_yX9_end : (.methodLink RX9 328 yX9_end : Cond) ∈ gw := gw_m (List.mem_append_right _ (List.mem_append_right _ (List.mem_append_right _ (List.mem_append_left _ (List.mem_of_getElem? (i := 31) (by decide +kernel)))))) (by decide +kernel)
theorem gm_instanceMethod_yX9_end : (.instanceMethod yX9_end : Cond) ∈ gw := gw_m (List.mem_append_right _ (List.mem_append_right _ (List.mem_append_right _ (List.mem_append_left _ (List.mem_of_getElem? (i := 33) (by decide +kernel)))))) (by decide +kernel)
theorem gm_selects_RX9_yX9_end_yX9_end : (.selects RX9 yX9_end yX9_end : Cond) ∈ gw := gw_m (List.mem_append_left _ (List.mem_of_getElem? (i := 12) (by decide +kernel))) (by decide +kernel)
theorem gm_code_yX9_end_cX9_end_2_some_int_ : (.code yX9_end cX9_end 2 (some .int) : Cond) ∈ gw := gw_m (List.mem_append_right _ (List.mem_append_right _ (List.mem_append_right _ (List.mem_append_left _ (List.mem_of_getElem? (i := 34) rfl))))) (by decide +kernel)
theorem gm_fieldLink_RX9_331_ErrandGuild_Errand_as_AI_ : (.fieldLink RX9 331 "ErrandGuild$Errand" "as" "[I" : Cond) ∈ gw := gw_m (List.mem_append_right _ (List.mem_append_left _ (List.mem_of_getElem? (i := 82) (by decide +kernel)))) (by decide +kernel)
theorem gm_fieldLink_RX9_334_ErrandGuild_Errand_bs_AI_ : (.fieldLink RX9 334 "ErrandGuild$Errand" "bs" "[I" : Cond) ∈ gw := gw_m (List.mem_append_right _ (List.mem_append_left _ (List.mem_of_getElem? (i := 84) (by decide +kernel)))) (by decide +kernel)
theorem gm_fieldLink_RX9_337_ErrandGuild_Errand_ops_AI_ : (.fieldLink RX9 337 "ErrandGuild$Errand" "ops" "[I" : Cond) ∈ gw := gw_m (List.mem_append_right _ (List.mem_append_left _ (List.mem_of_getElem? (i := 80) (by decide +kernel)))) (by decide +kernel)
theorem gm_methodLink_RX9_340_yX9_writeIn : (.methodLink RX9 340 yX9_writeIn : Cond) ∈ gw := gw_m (List.mem_append_right _ (List.mem_append_right _ (List.mem_append_right _ (List.mem_append_left _ (List.mem_of_getElem? (i := 39) (by decide +kernel)))))) (by decide +kernel)
theorem gm_instanceMethod_yX9_writeIn : (.instanceMethod yX9_writeIn : Cond) ∈ gw := gw_m (List.mem_append_right _ (List.mem_append_right _ (List.mem_append_right _ (List.mem_append_left _ (List.mem_of_getElem? (i := 41) (by decide +kernel)))))) (by decide +kernel)
theorem gm_selects_RX9_yX9_writeIn_yX9_writeIn : (.selects RX9 yX9_writeIn yX9_writeIn : Cond) ∈ gw := gw_m (List.mem_append_left _ (List.mem_of_getElem? (i := 13) (by decide +kernel))) (by decide +kernel)
theorem gm_code_yX9_writeIn_cX9_writeIn_4_some_int_ : (.code yX9_writeIn cX9_writeIn 4 (some .int) : Cond) ∈ gw := gw_m (List.mem_append_right _ (List.mem_append_right _ (List.mem_append_right _ (List.mem_append_left _ (List.mem_of_getElem? (i := 42) rfl))))) (by decide +kernel)
theorem gm_methodLink_RX9_344_yX9_addReading : (.methodLink RX9 344 yX9_addReading : Cond) ∈ gw := gw_m (List.mem_append_right _ (List.mem_append_right _ (List.mem_append_right _ (List.mem_append_left _ (List.mem_of_getElem? (i := 51) (by decide +kernel)))))) (by decide +kernel)
theorem gm_instanceMethod_yX9_addReading : (.instanceMethod yX9_addReading : Cond) ∈ gw := gw_m (List.mem_append_right _ (List.mem_append_right _ (List.mem_append_right _ (List.mem_append_left _ (List.mem_of_getElem? (i := 53) (by decide +kernel)))))) (by decide +kernel)
theorem gm_selects_RX9_yX9_addReading_yX9_addReading : (.selects RX9 yX9_addReading yX9_addReading : Cond) ∈ gw := gw_m (List.mem_append_left _ (List.mem_of_getElem? (i := 14) (by decide +kernel))) (by decide +kernel)
theorem gm_code_yX9_addReading_cX9_addReading_4_some_int_ : (.code yX9_addReading cX9_addReading 4 (some .int) : Cond) ∈ gw := gw_m (List.mem_append_right _ (List.mem_append_right _ (List.mem_append_right _ (List.mem_append_left _ (List.mem_of_getElem? (i := 54) rfl))))) (by decide +kernel)
theorem gm_methodLink_RX9_347_yX9_bind : (.methodLink RX9 347 yX9_bind : Cond) ∈ gw := gw_m (List.mem_append_right _ (List.mem_append_right _ (List.mem_append_right _ (List.mem_append_left _ (List.mem_of_getElem? (i := 60) (by decide +kernel)))))) (by decide +kernel)
theorem gm_instanceMethod_yX9_bind : (.instanceMethod yX9_bind : Cond) ∈ gw := gw_m (List.mem_append_right _ (List.mem_append_right _ (List.mem_append_right _ (List.mem_append_left _ (List.mem_of_getElem? (i := 62) (by decide +kernel)))))) (by decide +kernel)
theorem gm_selects_RX9_yX9_bind_yX9_bind : (.selects RX9 yX9_bind yX9_bind : Cond) ∈ gw := gw_m (List.mem_append_left _ (List.mem_of_getElem? (i := 15) (by decide +kernel))) (by decide +kernel)
theorem gm_code_yX9_bind_cX9_bind_4_some_int_ : (.code yX9_bind cX9_bind 4 (some .int) : Cond) ∈ gw := gw_m (List.mem_append_right _ (List.mem_append_right _ (List.mem_append_right _ (List.mem_append_left _ (List.mem_of_getElem? (i := 63) rfl))))) (by decide +kernel)
theorem gm_methodLink_RX9_349_yX8_free : (.methodLink RX9 349 yX8_free : Cond) ∈ gw := gw_m (List.mem_append_right _ (List.mem_append_right _ (List.mem_append_right _ (List.mem_append_left _ (List.mem_of_getElem? (i := 68) (by decide +kernel)))))) (by decide +kernel)
theorem gm_instanceMethod_yX8_free : (.instanceMethod yX8_free : Cond) ∈ gw := gw_m (List.mem_append_right _ (List.mem_append_right _ (List.mem_append_right _ (List.mem_append_left _ (List.mem_of_getElem? (i := 69) (by decide +kernel)))))) (by decide +kernel)
theorem gm_selects_RX8_yX8_free_yX8_free : (.selects RX8 yX8_free yX8_free : Cond) ∈ gw := gw_m (List.mem_append_right _ (List.mem_append_right _ (List.mem_append_right _ (List.mem_append_left _ (List.mem_of_getElem? (i := 70) (by decide +kernel)))))) (by decide +kernel)
theorem gm_code_yX8_free_cX8_free_3_some_boolean_ : (.code yX8_free cX8_free 3 (some .boolean) : Cond) ∈ gw := gw_m (List.mem_append_right _ (List.mem_append_right _ (List.mem_append_right _ (List.mem_append_left _ (List.mem_of_getElem? (i := 71) rfl))))) (by decide +kernel)
theorem gm_methodLink_RX9_352_yX9_hand : (.methodLink RX9 352 yX9_hand : Cond) ∈ gw := gw_m (List.mem_append_right _ (List.mem_append_right _ (List.mem_append_right _ (List.mem_append_left _ (List.mem_of_getElem? (i := 72) (by decide +kernel)))))) (by decide +kernel)
theorem gm_instanceMethod_yX9_hand : (.instanceMethod yX9_hand : Cond) ∈ gw := gw_m (List.mem_append_right _ (List.mem_append_right _ (List.mem_append_right _ (List.mem_append_left _ (List.mem_of_getElem? (i := 74) (by decide +kernel)))))) (by decide +kernel)
theorem gm_selects_RX9_yX9_hand_yX9_hand : (.selects RX9 yX9_hand yX9_hand : Cond) ∈ gw := gw_m (List.mem_append_left _ (List.mem_of_getElem? (i := 16) (by decide +kernel))) (by decide +kernel)
theorem gm_code_yX9_hand_cX9_hand_7_some_int_ : (.code yX9_hand cX9_hand 7 (some .int) : Cond) ∈ gw := gw_m (List.mem_append_right _ (List.mem_append_right _ (List.mem_append_right _ (List.mem_append_left _ (List.mem_of_getElem? (i := 75) rfl))))) (by decide +kernel)
theorem gm_methodLink_RX9_356_yX9_gather : (.methodLink RX9 356 yX9_gather : Cond) ∈ gw := gw_m (List.mem_append_right _ (List.mem_append_right _ (List.mem_append_right _ (List.mem_append_left _ (List.mem_of_getElem? (i := 80) (by decide +kernel)))))) (by decide +kernel)
theorem gm_instanceMethod_yX9_gather : (.instanceMethod yX9_gather : Cond) ∈ gw := gw_m (List.mem_append_right _ (List.mem_append_right _ (List.mem_append_right _ (List.mem_append_left _ (List.mem_of_getElem? (i := 82) (by decide +kernel)))))) (by decide +kernel)
theorem gm_selects_RX9_yX9_gather_yX9_gather : (.selects RX9 yX9_gather yX9_gather : Cond) ∈ gw := gw_m (List.mem_append_left _ (List.mem_of_getElem? (i := 17) (by decide +kernel))) (by decide +kernel)
theorem gm_code_yX9_gather_cX9_gather_3_some_int_ : (.code yX9_gather cX9_gather 3 (some .int) : Cond) ∈ gw := gw_m (List.mem_append_right _ (List.mem_append_right _ (List.mem_append_right _ (List.mem_append_left _ (List.mem_of_getElem? (i := 83) rfl))))) (by decide +kernel)
theorem gm_methodLink_RX9_359_yX8_openTry : (.methodLink RX9 359 yX8_openTry : Cond) ∈ gw := gw_m (List.mem_append_right _ (List.mem_append_right _ (List.mem_append_right _ (List.mem_append_left _ (List.mem_of_getElem? (i := 87) (by decide +kernel)))))) (by decide +kernel)
theorem gm_instanceMethod_yX8_openTry : (.instanceMethod yX8_openTry : Cond) ∈ gw := gw_m (List.mem_append_right _ (List.mem_append_right _ (List.mem_append_right _ (List.mem_append_left _ (List.mem_of_getElem? (i := 88) (by decide +kernel)))))) (by decide +kernel)
theorem gm_selects_RX8_yX8_openTry_yX8_openTry : (.selects RX8 yX8_openTry yX8_openTry : Cond) ∈ gw := gw_m (List.mem_append_right _ (List.mem_append_right _ (List.mem_append_right _ (List.mem_append_left _ (List.mem_of_getElem? (i := 89) (by decide +kernel)))))) (by decide +kernel)
theorem gm_code_yX8_openTry_cX8_openTry_3_none : (.code yX8_openTry cX8_openTry 3 none : Cond) ∈ gw := gw_m (List.mem_append_right _ (List.mem_append_right _ (List.mem_append_right _ (List.mem_append_left _ (List.mem_of_getElem? (i := 90) rfl))))) (by decide +kernel)
theorem gm_methodLink_RX9_362_yX8_closeTry : (.methodLink RX9 362 yX8_closeTry : Cond) ∈ gw := gw_m (List.mem_append_right _ (List.mem_append_right _ (List.mem_append_right _ (List.mem_append_left _ (List.mem_of_getElem? (i := 91) (by decide +kernel)))))) (by decide +kernel)
theorem gm_instanceMethod_yX8_closeTry : (.instanceMethod yX8_closeTry : Cond) ∈ gw := gw_m (List.mem_append_right _ (List.mem_append_right _ (List.mem_append_right _ (List.mem_append_left _ (List.mem_of_getElem? (i := 92) (by decide +kernel)))))) (by decide +kernel)
theorem gm_selects_RX8_yX8_closeTry_yX8_closeTry : (.selects RX8 yX8_closeTry yX8_closeTry : Cond) ∈ gw := gw_m (List.mem_append_right _ (List.mem_append_right _ (List.mem_append_right _ (List.mem_append_left _ (List.mem_of_getElem? (i := 93) (by decide +kernel)))))) (by decide +kernel)
theorem gm_code_yX8_closeTry_cX8_closeTry_1_some_boolean_ : (.code yX8_closeTry cX8_closeTry 1 (some .boolean) : Cond) ∈ gw := gw_m (List.mem_append_right _ (List.mem_append_right _ (List.mem_append_right _ (List.mem_append_left _ (List.mem_of_getElem? (i := 94) rfl))))) (by decide +kernel)
theorem gm_methodLink_RX9_286_yX9_noteTurn : (.methodLink RX9 286 yX9_noteTurn : Cond) ∈ gw := gw_m (List.mem_append_right _ (List.mem_append_right _ (List.mem_append_right _ (List.mem_append_left _ (List.mem_of_getElem? (i := 3) (by decide +kernel)))))) (by decide +kernel)
theorem gm_instanceMethod_yX9_noteTurn : (.instanceMethod yX9_noteTurn : Cond) ∈ gw := gw_m (List.mem_append_right _ (List.mem_append_right _ (List.mem_append_right _ (List.mem_append_left _ (List.mem_of_getElem? (i := 5) (by decide +kernel)))))) (by decide +kernel)
theorem gm_selects_RX9_yX9_noteTurn_yX9_noteTurn : (.selects RX9 yX9_noteTurn yX9_noteTurn : Cond) ∈ gw := gw_m (List.mem_append_left _ (List.mem_of_getElem? (i := 10) (by decide +kernel))) (by decide +kernel)
theorem gm_code_yX9_noteTurn_cX9_noteTurn_2_none : (.code yX9_noteTurn cX9_noteTurn 2 none : Cond) ∈ gw := gw_m (List.mem_append_right _ (List.mem_append_right _ (List.mem_append_right _ (List.mem_append_left _ (List.mem_of_getElem? (i := 6) rfl))))) (by decide +kernel)
theorem gm_methodLink_RX9_292_yX9_standIn : (.methodLink RX9 292 yX9_standIn : Cond) ∈ gw := gw_m (List.mem_append_right _ (List.mem_append_right _ (List.mem_append_right _ (List.mem_append_left _ (List.mem_of_getElem? (i := 15) (by decide +kernel)))))) (by decide +kernel)
theorem gm_static_yX9_standIn : (.static yX9_standIn : Cond) ∈ gw := gw_m (List.mem_append_right _ (List.mem_append_right _ (List.mem_append_right _ (List.mem_append_left _ (List.mem_of_getElem? (i := 16) (by decide +kernel)))))) (by decide +kernel)
theorem gm_code_yX9_standIn_cX9_standIn_1_some_int_ : (.code yX9_standIn cX9_standIn 1 (some .int) : Cond) ∈ gw := gw_m (List.mem_append_right _ (List.mem_append_right _ (List.mem_append_right _ (List.mem_append_left _ (List.mem_of_getElem? (i := 17) rfl))))) (by decide +kernel)
theorem gm_methodLink_RX9_299_yX9_closeTurn : (.methodLink RX9 299 yX9_closeTurn : Cond) ∈ gw := gw_m (List.mem_append_right _ (List.mem_append_right _ (List.mem_append_right _ (List.mem_append_left _ (List.mem_of_getElem? (i := 95) (by decide +kernel)))))) (by decide +kernel)
theorem gm_instanceMethod_yX9_closeTurn : (.instanceMethod yX9_closeTurn : Cond) ∈ gw := gw_m (List.mem_append_right _ (List.mem_append_right _ (List.mem_append_right _ (List.mem_append_left _ (List.mem_of_getElem? (i := 97) (by decide +kernel)))))) (by decide +kernel)
theorem gm_selects_RX9_yX9_closeTurn_yX9_closeTurn : (.selects RX9 yX9_closeTurn yX9_closeTurn : Cond) ∈ gw := gw_m (List.mem_append_left _ (List.mem_of_getElem? (i := 18) (by decide +kernel))) (by decide +kernel)
theorem gm_code_yX9_closeTurn_cX9_closeTurn_3_none : (.code yX9_closeTurn cX9_closeTurn 3 none : Cond) ∈ gw := gw_m (List.mem_append_right _ (List.mem_append_right _ (List.mem_append_right _ (List.mem_append_left _ (List.mem_of_getElem? (i := 98) rfl))))) (by decide +kernel)
theorem gm_methodLink_RX9_296_yX9_doStep : (.methodLink RX9 296 yX9_doStep : Cond) ∈ gw := gw_m (List.mem_append_right _ (List.mem_append_right _ (List.mem_append_right _ (List.mem_append_left _ (List.mem_of_getElem? (i := 27) (by decide +kernel)))))) (by decide +kernel)
theorem gm_instanceMethod_yX9_doStep : (.instanceMethod yX9_doStep : Cond) ∈ gw := gw_m (List.mem_append_right _ (List.mem_append_right _ (List.mem_append_right _ (List.mem_append_left _ (List.mem_of_getElem? (i := 29) (by decide +kernel)))))) (by decide +kernel)
theorem gm_selects_RX9_yX9_doStep_yX9_doStep : (.selects RX9 yX9_doStep yX9_doStep : Cond) ∈ gw := gw_m (List.mem_append_left _ (List.mem_of_getElem? (i := 11) (by decide +kernel))) (by decide +kernel)
theorem gm_code_yX9_doStep_cX9_doStep_6_some_int_ : (.code yX9_doStep cX9_doStep 6 (some .int) : Cond) ∈ gw := gw_m (List.mem_append_right _ (List.mem_append_right _ (List.mem_append_right _ (List.mem_append_left _ (List.mem_of_getElem? (i := 30) rfl))))) (by decide +kernel)
theorem gm_methodLink_RX9_121_yX9_isWorkLeft : (.methodLink RX9 121 yX9_isWorkLeft : Cond) ∈ gw := gw_m (List.mem_append_right _ (List.mem_append_right _ (List.mem_append_left _ (List.mem_of_getElem? (i := 219) (by decide +kernel))))) (by decide +kernel)
theorem gm_instanceMethod_yX9_isWorkLeft : (.instanceMethod yX9_isWorkLeft : Cond) ∈ gw := gw_m (List.mem_append_right _ (List.mem_append_right _ (List.mem_append_left _ (List.mem_of_getElem? (i := 221) (by decide +kernel))))) (by decide +kernel)
theorem gm_selects_RX9_yX9_isWorkLeft_yX9_isWorkLeft : (.selects RX9 yX9_isWorkLeft yX9_isWorkLeft : Cond) ∈ gw := gw_m (List.mem_append_left _ (List.mem_of_getElem? (i := 5) (by decide +kernel))) (by decide +kernel)
theorem gm_code_yX9_isWorkLeft_cX9_isWorkLeft_3_some_boolean_ : (.code yX9_isWorkLeft cX9_isWorkLeft 3 (some .boolean) : Cond) ∈ gw := gw_m (List.mem_append_right _ (List.mem_append_right _ (List.mem_append_left _ (List.mem_of_getElem? (i := 222) rfl)))) (by decide +kernel)
theorem gm_methodLink_RX9_125_yX9_fillThreads : (.methodLink RX9 125 yX9_fillThreads : Cond) ∈ gw := gw_m (List.mem_append_right _ (List.mem_append_right _ (List.mem_append_left _ (List.mem_of_getElem? (i := 231) (by decide +kernel))))) (by decide +kernel)
theorem gm_instanceMethod_yX9_fillThreads : (.instanceMethod yX9_fillThreads : Cond) ∈ gw := gw_m (List.mem_append_right _ (List.mem_append_right _ (List.mem_append_left _ (List.mem_of_getElem? (i := 233) (by decide +kernel))))) (by decide +kernel)
theorem gm_selects_RX9_yX9_fillThreads_yX9_fillThreads : (.selects RX9 yX9_fillThreads yX9_fillThreads : Cond) ∈ gw := gw_m (List.mem_append_left _ (List.mem_of_getElem? (i := 7) (by decide +kernel))) (by decide +kernel)
theorem gm_code_yX9_fillThreads_cX9_fillThreads_3_none : (.code yX9_fillThreads cX9_fillThreads 3 none : Cond) ∈ gw := gw_m (List.mem_append_right _ (List.mem_append_right _ (List.mem_append_left _ (List.mem_of_getElem? (i := 234) rfl)))) (by decide +kernel)
theorem gm_methodLink_RX9_128_yX9_takeTurns : (.methodLink RX9 128 yX9_takeTurns : Cond) ∈ gw := gw_m (List.mem_append_right _ (List.mem_append_right _ (List.mem_append_left _ (List.mem_of_getElem? (i := 239) (by decide +kernel))))) (by decide +kernel)
theorem gm_instanceMethod_yX9_takeTurns : (.instanceMethod yX9_takeTurns : Cond) ∈ gw := gw_m (List.mem_append_right _ (List.mem_append_right _ (List.mem_append_right _ (List.mem_append_left _ (List.mem_of_getElem? (i := 1) (by decide +kernel)))))) (by decide +kernel)
theorem gm_selects_RX9_yX9_takeTurns_yX9_takeTurns : (.selects RX9 yX9_takeTurns yX9_takeTurns : Cond) ∈ gw := gw_m (List.mem_append_left _ (List.mem_of_getElem? (i := 9) (by decide +kernel))) (by decide +kernel)
theorem gm_code_yX9_takeTurns_cX9_takeTurns_5_none : (.code yX9_takeTurns cX9_takeTurns 5 none : Cond) ∈ gw := gw_m (List.mem_append_right _ (List.mem_append_right _ (List.mem_append_right _ (List.mem_append_left _ (List.mem_of_getElem? (i := 2) rfl))))) (by decide +kernel)
theorem gm_methodLink_RX9_131_yX9_wakeWaiting : (.methodLink RX9 131 yX9_wakeWaiting : Cond) ∈ gw := gw_m (List.mem_append_right _ (List.mem_append_right _ (List.mem_append_right _ (List.mem_append_left _ (List.mem_of_getElem? (i := 139) (by decide +kernel)))))) (by decide +kernel)
theorem gm_instanceMethod_yX9_wakeWaiting : (.instanceMethod yX9_wakeWaiting : Cond) ∈ gw := gw_m (List.mem_append_right _ (List.mem_append_right _ (List.mem_append_right _ (List.mem_append_left _ (List.mem_of_getElem? (i := 141) (by decide +kernel)))))) (by decide +kernel)
theorem gm_selects_RX9_yX9_wakeWaiting_yX9_wakeWaiting : (.selects RX9 yX9_wakeWaiting yX9_wakeWaiting : Cond) ∈ gw := gw_m (List.mem_append_left _ (List.mem_of_getElem? (i := 24) (by decide +kernel))) (by decide +kernel)
theorem gm_code_yX9_wakeWaiting_cX9_wakeWaiting_3_none : (.code yX9_wakeWaiting cX9_wakeWaiting 3 none : Cond) ∈ gw := gw_m (List.mem_append_right _ (List.mem_append_right _ (List.mem_append_right _ (List.mem_append_left _ (List.mem_of_getElem? (i := 142) rfl))))) (by decide +kernel)
theorem gm_methodLink_RX9_107_yX3_put : (.methodLink RX9 107 yX3_put : Cond) ∈ gw := gw_m (List.mem_append_right _ (List.mem_append_left _ (List.mem_of_getElem? (i := 200) (by decide +kernel)))) (by decide +kernel)
theorem gm_instanceMethod_yX3_put : (.instanceMethod yX3_put : Cond) ∈ gw := gw_m (List.mem_append_right _ (List.mem_append_left _ (List.mem_of_getElem? (i := 201) (by decide +kernel)))) (by decide +kernel)
theorem gm_selects_RX3_yX3_put_yX3_put : (.selects RX3 yX3_put yX3_put : Cond) ∈ gw := gw_m (List.mem_append_right _ (List.mem_append_left _ (List.mem_of_getElem? (i := 202) (by decide +kernel)))) (by decide +kernel)
theorem gm_code_yX3_put_cX3_put_4_none : (.code yX3_put cX3_put 4 none : Cond) ∈ gw := gw_m (List.mem_append_right _ (List.mem_append_left _ (List.mem_of_getElem? (i := 203) rfl))) (by decide +kernel)
theorem gm_methodLink_RX9_76_yX9_fits : (.methodLink RX9 76 yX9_fits : Cond) ∈ gw := gw_m (List.mem_append_right _ (List.mem_append_left _ (List.mem_of_getElem? (i := 164) (by decide +kernel)))) (by decide +kernel)
theorem gm_static_yX9_fits : (.static yX9_fits : Cond) ∈ gw := gw_m (List.mem_append_right _ (List.mem_append_left _ (List.mem_of_getElem? (i := 165) (by decide +kernel)))) (by decide +kernel)
theorem gm_code_yX9_fits_cX9_fits_4_some_boolean_ : (.code yX9_fits cX9_fits 4 (some .boolean) : Cond) ∈ gw := gw_m (List.mem_append_right _ (List.mem_append_left _ (List.mem_of_getElem? (i := 166) rfl))) (by decide +kernel)
theorem gm_methodLink_RX9_80_yX1_add : (.methodLink RX9 80 yX1_add : Cond) ∈ gw := gw_m (List.mem_append_right _ (List.mem_append_left _ (List.mem_of_getElem? (i := 167) (by decide +kernel)))) (by decide +kernel)
theorem gm_instanceMethod_yX1_add : (.instanceMethod yX1_add : Cond) ∈ gw := gw_m (List.mem_append_right _ (List.mem_append_left _ (List.mem_of_getElem? (i := 168) (by decide +kernel)))) (by decide +kernel)
theorem gm_selects_RX1_yX1_add_yX1_add : (.selects RX1 yX1_add yX1_add : Cond) ∈ gw := gw_m (List.mem_append_right _ (List.mem_append_left _ (List.mem_of_getElem? (i := 169) (by decide +kernel)))) (by decide +kernel)
theorem gm_initialized_RX1 : (.initialized RX1 : Cond) ∈ gw := gw_m (List.mem_append_right _ (List.mem_append_left _ (List.mem_of_getElem? (i := 5) (by decide +kernel)))) (by decide +kernel)
theorem gm_code_yX1_add_cX1_add_4_none : (.code yX1_add cX1_add 4 none : Cond) ∈ gw := gw_m (List.mem_append_right _ (List.mem_append_left _ (List.mem_of_getElem? (i := 170) rfl))) (by decide +kernel)
theorem gm_methodLink_RX9_3_objectInit : (.methodLink RX9 3 objectInit : Cond) ∈ gw := gw_m (List.mem_append_right _ (List.mem_append_left _ (List.mem_of_getElem? (i := 18) (by decide +kernel)))) (by decide +kernel)
theorem gm_classLink_RX9_16_RX1 : (.classLink RX9 16 RX1 : Cond) ∈ gw := gw_m (List.mem_append_right _ (List.mem_append_left _ (List.mem_of_getElem? (i := 21) (by decide +kernel)))) (by decide +kernel)
theorem gm_classLink_RX9_22_RX3 : (.classLink RX9 22 RX3 : Cond) ∈ gw := gw_m (List.mem_append_right _ (List.mem_append_left _ (List.mem_of_getElem? (i := 23) (by decide +kernel)))) (by decide +kernel)
theorem gm_instantiable_RX3_3 : (.instantiable RX3 3 : Cond) ∈ gw := gw_m (List.mem_append_right _ (List.mem_append_left _ (List.mem_of_getElem? (i := 24) (by decide +kernel)))) (by decide +kernel)
theorem gm_code_yX3_init_cX3_init_1_none : (.code yX3_init cX3_init 1 none : Cond) ∈ gw := gw_m (List.mem_append_right _ (List.mem_append_left _ (List.mem_of_getElem? (i := 27) rfl))) (by decide +kernel)
theorem gm_instanceMethod_yX3_init : (.instanceMethod yX3_init : Cond) ∈ gw := gw_m (List.mem_append_right _ (List.mem_append_left _ (List.mem_of_getElem? (i := 26) (by decide +kernel)))) (by decide +kernel)
theorem gm_classLink_RX9_42_RX5 : (.classLink RX9 42 RX5 : Cond) ∈ gw := gw_m (List.mem_append_right _ (List.mem_append_left _ (List.mem_of_getElem? (i := 43) (by decide +kernel)))) (by decide +kernel)
theorem gm_instantiable_RX5_2 : (.instantiable RX5 2 : Cond) ∈ gw := gw_m (List.mem_append_right _ (List.mem_append_left _ (List.mem_of_getElem? (i := 44) (by decide +kernel)))) (by decide +kernel)
theorem gm_code_yX5_init_cX5_init_2_none : (.code yX5_init cX5_init 2 none : Cond) ∈ gw := gw_m (List.mem_append_right _ (List.mem_append_left _ (List.mem_of_getElem? (i := 47) rfl))) (by decide +kernel)
theorem gm_methodLink_RX9_44_yX5_init : (.methodLink RX9 44 yX5_init : Cond) ∈ gw := gw_m (List.mem_append_right _ (List.mem_append_left _ (List.mem_of_getElem? (i := 45) (by decide +kernel)))) (by decide +kernel)
theorem gm_instanceMethod_yX5_init : (.instanceMethod yX5_init : Cond) ∈ gw := gw_m (List.mem_append_right _ (List.mem_append_left _ (List.mem_of_getElem? (i := 46) (by decide +kernel)))) (by decide +kernel)
theorem gm_classLink_RX9_54_RX0 : (.classLink RX9 54 RX0 : Cond) ∈ gw := gw_m (List.mem_append_right _ (List.mem_append_left _ (List.mem_of_getElem? (i := 72) (by decide +kernel)))) (by decide +kernel)
theorem gm_methodLink_RX9_56_yX0_init : (.methodLink RX9 56 yX0_init : Cond) ∈ gw := gw_m (List.mem_append_right _ (List.mem_append_left _ (List.mem_of_getElem? (i := 73) (by decide +kernel)))) (by decide +kernel)
theorem gm_instantiable_RX1_4 : (.instantiable RX1 4 : Cond) ∈ gw := gw_m (List.mem_append_right _ (List.mem_append_left _ (List.mem_of_getElem? (i := 74) (by decide +kernel)))) (by decide +kernel)
theorem gm_code_yX1_init_cX1_init_1_none : (.code yX1_init cX1_init 1 none : Cond) ∈ gw := gw_m (List.mem_append_right _ (List.mem_append_left _ (List.mem_of_getElem? (i := 77) rfl))) (by decide +kernel)
theorem gm_instanceMethod_yX1_init : (.instanceMethod yX1_init : Cond) ∈ gw := gw_m (List.mem_append_right _ (List.mem_append_left _ (List.mem_of_getElem? (i := 76) (by decide +kernel)))) (by decide +kernel)
theorem gb_4 : ∀ w ∈ u_ws RX4 TX4 9, w ∈ gw := by
  intro w hw
  obtain ⟨j, hj, rfl⟩ := List.mem_map.mp hw
  have hj : j < 9 := List.mem_range.mp hj
  rcases (show j = 0 ∨ j = 1 ∨ j = 2 ∨ j = 3 ∨ j = 4 ∨ j = 5 ∨ j = 6 ∨ j = 7 ∨ j = 8 by omega) with rfl | rfl | rfl | rfl | rfl | rfl | rfl | rfl | rfl
  · exact gw_m (List.mem_append_right _ (List.mem_append_right _ (List.mem_append_left _ (List.mem_of_getElem? (i := 0) (by decide +kernel))))) (by decide +kernel)
  · exact gw_m (List.mem_append_right _ (List.mem_append_right _ (List.mem_append_left _ (List.mem_of_getElem? (i := 2) (by decide +kernel))))) (by decide +kernel)
  · exact gw_m (List.mem_append_right _ (List.mem_append_right _ (List.mem_append_left _ (List.mem_of_getElem? (i := 4) (by decide +kernel))))) (by decide +kernel)
  · exact gw_m (List.mem_append_right _ (List.mem_append_right _ (List.mem_append_left _ (List.mem_of_getElem? (i := 6) (by decide +kernel))))) (by decide +kernel)
  · exact gw_m (List.mem_append_right _ (List.mem_append_right _ (List.mem_append_left _ (List.mem_of_getElem? (i := 8) (by decide +kernel))))) (by decide +kernel)
  · exact gw_m (List.mem_append_right _ (List.mem_append_right _ (List.mem_append_left _ (List.mem_of_getElem? (i := 10) (by decide +kernel))))) (by decide +kernel)
  · exact gw_m (List.mem_append_right _ (List.mem_append_right _ (List.mem_append_left _ (List.mem_of_getElem? (i := 12) (by decide +kernel))))) (by decide +kernel)
  · exact gw_m (List.mem_append_right _ (List.mem_append_right _ (List.mem_append_left _ (List.mem_of_getElem? (i := 14) (by decide +kernel))))) (by decide +kernel)
  · exact gw_m (List.mem_append_right _ (List.mem_append_right _ (List.mem_append_left _ (List.mem_of_getElem? (i := 16) (by decide +kernel))))) (by decide +kernel)
theorem gb_9 : ∀ w ∈ u_ws RX9 TX9 15, w ∈ gw := by
  intro w hw
  obtain ⟨j, hj, rfl⟩ := List.mem_map.mp hw
  have hj : j < 15 := List.mem_range.mp hj
  rcases (show j = 0 ∨ j = 1 ∨ j = 2 ∨ j = 3 ∨ j = 4 ∨ j = 5 ∨ j = 6 ∨ j = 7 ∨ j = 8 ∨ j = 9 ∨ j = 10 ∨ j = 11 ∨ j = 12 ∨ j = 13 ∨ j = 14 by omega) with rfl | rfl | rfl | rfl | rfl | rfl | rfl | rfl | rfl | rfl | rfl | rfl | rfl | rfl | rfl
  · exact gw_m (List.mem_append_right _ (List.mem_append_left _ (List.mem_of_getElem? (i := 111) (by decide +kernel)))) (by decide +kernel)
  · exact gw_m (List.mem_append_right _ (List.mem_append_left _ (List.mem_of_getElem? (i := 113) (by decide +kernel)))) (by decide +kernel)
  · exact gw_m (List.mem_append_right _ (List.mem_append_left _ (List.mem_of_getElem? (i := 115) (by decide +kernel)))) (by decide +kernel)
  · exact gw_m (List.mem_append_right _ (List.mem_append_left _ (List.mem_of_getElem? (i := 117) (by decide +kernel)))) (by decide +kernel)
  · exact gw_m (List.mem_append_right _ (List.mem_append_left _ (List.mem_of_getElem? (i := 119) (by decide +kernel)))) (by decide +kernel)
  · exact gw_m (List.mem_append_right _ (List.mem_append_left _ (List.mem_of_getElem? (i := 121) (by decide +kernel)))) (by decide +kernel)
  · exact gw_m (List.mem_append_right _ (List.mem_append_left _ (List.mem_of_getElem? (i := 123) (by decide +kernel)))) (by decide +kernel)
  · exact gw_m (List.mem_append_right _ (List.mem_append_left _ (List.mem_of_getElem? (i := 125) (by decide +kernel)))) (by decide +kernel)
  · exact gw_m (List.mem_append_right _ (List.mem_append_left _ (List.mem_of_getElem? (i := 127) (by decide +kernel)))) (by decide +kernel)
  · exact gw_m (List.mem_append_right _ (List.mem_append_left _ (List.mem_of_getElem? (i := 129) (by decide +kernel)))) (by decide +kernel)
  · exact gw_m (List.mem_append_right _ (List.mem_append_left _ (List.mem_of_getElem? (i := 131) (by decide +kernel)))) (by decide +kernel)
  · exact gw_m (List.mem_append_right _ (List.mem_append_left _ (List.mem_of_getElem? (i := 133) (by decide +kernel)))) (by decide +kernel)
  · exact gw_m (List.mem_append_right _ (List.mem_append_left _ (List.mem_of_getElem? (i := 135) (by decide +kernel)))) (by decide +kernel)
  · exact gw_m (List.mem_append_right _ (List.mem_append_left _ (List.mem_of_getElem? (i := 137) (by decide +kernel)))) (by decide +kernel)
  · exact gw_m (List.mem_append_right _ (List.mem_append_left _ (List.mem_of_getElem? (i := 139) (by decide +kernel)))) (by decide +kernel)
theorem ti_m2 : (-2 : Int32).toInt = -2 := by decide
theorem df_X0 : ∀ j, j < 3 → defaultValue (tyX0 j) = vp_V [.int 0, .null, .int 0] j := fun j hj => by rcases (show j = 0 ∨ j = 1 ∨ j = 2 by omega) with rfl | rfl | rfl <;> rfl
theorem df_X1 : ∀ j, j < 4 → defaultValue (tyX1 j) = vp_V [.null, .null, .null, .int 0] j := fun j hj => by rcases (show j = 0 ∨ j = 1 ∨ j = 2 ∨ j = 3 by omega) with rfl | rfl | rfl | rfl <;> rfl
theorem df_X2 : ∀ j, j < 5 → defaultValue (tyX2 j) = vp_V [.int 0, .int 0, .int 0, .int 0, .int 0] j := fun j hj => by rcases (show j = 0 ∨ j = 1 ∨ j = 2 ∨ j = 3 ∨ j = 4 by omega) with rfl | rfl | rfl | rfl | rfl <;> rfl
theorem df_X3 : ∀ j, j < 3 → defaultValue (tyX3 j) = vp_V [.null, .null, .null] j := fun j hj => by rcases (show j = 0 ∨ j = 1 ∨ j = 2 by omega) with rfl | rfl | rfl <;> rfl
theorem df_X4 : ∀ j, j < 9 → defaultValue (tyX4 j) = vp_V [.null, .null, .int 0, .int 0, .int 0, .null, .null, .null, .int 0] j := fun j hj => by rcases (show j = 0 ∨ j = 1 ∨ j = 2 ∨ j = 3 ∨ j = 4 ∨ j = 5 ∨ j = 6 ∨ j = 7 ∨ j = 8 by omega) with rfl | rfl | rfl | rfl | rfl | rfl | rfl | rfl | rfl <;> rfl
theorem df_X5 : ∀ j, j < 2 → defaultValue (tyX5 j) = vp_V [.int 0, .null] j := fun j hj => by rcases (show j = 0 ∨ j = 1 by omega) with rfl | rfl <;> rfl
theorem df_X6 : ∀ j, j < 3 → defaultValue (tyX6 j) = vp_V [.null, .null, .null] j := fun j hj => by rcases (show j = 0 ∨ j = 1 ∨ j = 2 by omega) with rfl | rfl | rfl <;> rfl
theorem df_X7 : ∀ j, j < 15 → defaultValue (tyX7 j) = vp_V [.int 0, .int 0, .int 0, .int 0, .int 0, .int 0, .int 0, .int 0, .int 0, .int 0, .null, .null, .null, .null, .null] j := fun j hj => by rcases (show j = 0 ∨ j = 1 ∨ j = 2 ∨ j = 3 ∨ j = 4 ∨ j = 5 ∨ j = 6 ∨ j = 7 ∨ j = 8 ∨ j = 9 ∨ j = 10 ∨ j = 11 ∨ j = 12 ∨ j = 13 ∨ j = 14 by omega) with rfl | rfl | rfl | rfl | rfl | rfl | rfl | rfl | rfl | rfl | rfl | rfl | rfl | rfl | rfl <;> rfl
theorem df_X8 : ∀ j, j < 9 → defaultValue (tyX8 j) = vp_V [.null, .null, .null, .int 0, .null, .null, .null, .int 0, .int 0] j := fun j hj => by rcases (show j = 0 ∨ j = 1 ∨ j = 2 ∨ j = 3 ∨ j = 4 ∨ j = 5 ∨ j = 6 ∨ j = 7 ∨ j = 8 by omega) with rfl | rfl | rfl | rfl | rfl | rfl | rfl | rfl | rfl <;> rfl
