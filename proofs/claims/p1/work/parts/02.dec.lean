theorem dX0_init_0 : decode cX0_init 0 = .ok (.aload_n 0, 1) := by decide +kernel
theorem dX0_init_1 : decode cX0_init 1 = .ok (.invokespecial 3, 3) := by decide +kernel
theorem dX0_init_4 : decode cX0_init 4 = .ok (.aload_n 0, 1) := by decide +kernel
theorem dX0_init_5 : decode cX0_init 5 = .ok (.bipush 16, 2) := by decide +kernel
theorem dX0_init_7 : decode cX0_init 7 = .ok (.newarray .int, 2) := by decide +kernel
theorem dX0_init_9 : decode cX0_init 9 = .ok (.putfield 9, 3) := by decide +kernel
theorem dX0_init_12 : decode cX0_init 12 = .ok (.aload_n 0, 1) := by decide +kernel
theorem dX0_init_13 : decode cX0_init 13 = .ok (.iload_n 1, 1) := by decide +kernel
theorem dX0_init_14 : decode cX0_init 14 = .ok (.putfield 15, 3) := by decide +kernel
theorem dX0_init_17 : decode cX0_init 17 = .ok (.return_, 1) := by decide +kernel
theorem dX0_clear_0 : decode cX0_clear 0 = .ok (.aload_n 0, 1) := by decide +kernel
theorem dX0_clear_1 : decode cX0_clear 1 = .ok (.iconst 0, 1) := by decide +kernel
theorem dX0_clear_2 : decode cX0_clear 2 = .ok (.putfield 19, 3) := by decide +kernel
theorem dX0_clear_5 : decode cX0_clear 5 = .ok (.return_, 1) := by decide +kernel
theorem dX0_has_0 : decode cX0_has 0 = .ok (.iload_n 1, 1) := by decide +kernel
theorem dX0_has_1 : decode cX0_has 1 = .ok (.ifCond .lt 24, 3) := by decide +kernel
theorem dX0_has_4 : decode cX0_has 4 = .ok (.iload_n 1, 1) := by decide +kernel
theorem dX0_has_5 : decode cX0_has 5 = .ok (.aload_n 0, 1) := by decide +kernel
theorem dX0_has_6 : decode cX0_has 6 = .ok (.getfield 19, 3) := by decide +kernel
theorem dX0_has_9 : decode cX0_has 9 = .ok (.if_icmp .ge 16, 3) := by decide +kernel
theorem dX0_has_25 : decode cX0_has 25 = .ok (.iconst 0, 1) := by decide +kernel
theorem dX0_has_26 : decode cX0_has 26 = .ok (.ireturn, 1) := by decide +kernel
theorem dX1_init_0 : decode cX1_init 0 = .ok (.aload_n 0, 1) := by decide +kernel
theorem dX1_init_1 : decode cX1_init 1 = .ok (.invokespecial 3, 3) := by decide +kernel
theorem dX1_init_4 : decode cX1_init 4 = .ok (.aload_n 0, 1) := by decide +kernel
theorem dX1_init_5 : decode cX1_init 5 = .ok (.bipush 24, 2) := by decide +kernel
theorem dX1_init_7 : decode cX1_init 7 = .ok (.newarray .int, 2) := by decide +kernel
theorem dX1_init_9 : decode cX1_init 9 = .ok (.putfield 9, 3) := by decide +kernel
theorem dX1_init_12 : decode cX1_init 12 = .ok (.aload_n 0, 1) := by decide +kernel
theorem dX1_init_13 : decode cX1_init 13 = .ok (.bipush 24, 2) := by decide +kernel
theorem dX1_init_15 : decode cX1_init 15 = .ok (.newarray .int, 2) := by decide +kernel
theorem dX1_init_17 : decode cX1_init 17 = .ok (.putfield 15, 3) := by decide +kernel
theorem dX1_init_20 : decode cX1_init 20 = .ok (.aload_n 0, 1) := by decide +kernel
theorem dX1_init_21 : decode cX1_init 21 = .ok (.bipush 24, 2) := by decide +kernel
theorem dX1_init_23 : decode cX1_init 23 = .ok (.newarray .int, 2) := by decide +kernel
theorem dX1_init_25 : decode cX1_init 25 = .ok (.putfield 18, 3) := by decide +kernel
theorem dX1_init_28 : decode cX1_init 28 = .ok (.return_, 1) := by decide +kernel
theorem dX1_add_0 : decode cX1_add 0 = .ok (.aload_n 0, 1) := by decide +kernel
theorem dX1_add_1 : decode cX1_add 1 = .ok (.getfield 21, 3) := by decide +kernel
theorem dX1_add_4 : decode cX1_add 4 = .ok (.ifCond .lt 12, 3) := by decide +kernel
theorem dX1_add_7 : decode cX1_add 7 = .ok (.aload_n 0, 1) := by decide +kernel
theorem dX1_add_8 : decode cX1_add 8 = .ok (.getfield 21, 3) := by decide +kernel
theorem dX1_add_11 : decode cX1_add 11 = .ok (.bipush 24, 2) := by decide +kernel
theorem dX1_add_13 : decode cX1_add 13 = .ok (.if_icmp .lt 4, 3) := by decide +kernel
theorem dX1_add_17 : decode cX1_add 17 = .ok (.aload_n 0, 1) := by decide +kernel
theorem dX1_add_18 : decode cX1_add 18 = .ok (.getfield 9, 3) := by decide +kernel
theorem dX1_add_21 : decode cX1_add 21 = .ok (.aload_n 0, 1) := by decide +kernel
theorem dX1_add_22 : decode cX1_add 22 = .ok (.getfield 21, 3) := by decide +kernel
theorem dX1_add_25 : decode cX1_add 25 = .ok (.iload_n 1, 1) := by decide +kernel
theorem dX1_add_26 : decode cX1_add 26 = .ok (.iastore, 1) := by decide +kernel
theorem dX1_add_27 : decode cX1_add 27 = .ok (.aload_n 0, 1) := by decide +kernel
theorem dX1_add_28 : decode cX1_add 28 = .ok (.getfield 15, 3) := by decide +kernel
theorem dX1_add_31 : decode cX1_add 31 = .ok (.aload_n 0, 1) := by decide +kernel
theorem dX1_add_32 : decode cX1_add 32 = .ok (.getfield 21, 3) := by decide +kernel
theorem dX1_add_35 : decode cX1_add 35 = .ok (.iload_n 2, 1) := by decide +kernel
theorem dX1_add_36 : decode cX1_add 36 = .ok (.iastore, 1) := by decide +kernel
theorem dX1_add_37 : decode cX1_add 37 = .ok (.aload_n 0, 1) := by decide +kernel
theorem dX1_add_38 : decode cX1_add 38 = .ok (.getfield 18, 3) := by decide +kernel
theorem dX1_add_41 : decode cX1_add 41 = .ok (.aload_n 0, 1) := by decide +kernel
theorem dX1_add_42 : decode cX1_add 42 = .ok (.getfield 21, 3) := by decide +kernel
theorem dX1_add_45 : decode cX1_add 45 = .ok (.iload_n 3, 1) := by decide +kernel
theorem dX1_add_46 : decode cX1_add 46 = .ok (.iastore, 1) := by decide +kernel
theorem dX1_add_47 : decode cX1_add 47 = .ok (.aload_n 0, 1) := by decide +kernel
theorem dX1_add_48 : decode cX1_add 48 = .ok (.dup, 1) := by decide +kernel
theorem dX1_add_49 : decode cX1_add 49 = .ok (.getfield 21, 3) := by decide +kernel
theorem dX1_add_52 : decode cX1_add 52 = .ok (.iconst 1, 1) := by decide +kernel
theorem dX1_add_53 : decode cX1_add 53 = .ok (.iadd, 1) := by decide +kernel
theorem dX1_add_54 : decode cX1_add 54 = .ok (.putfield 21, 3) := by decide +kernel
theorem dX1_add_57 : decode cX1_add 57 = .ok (.return_, 1) := by decide +kernel
theorem dX2_init_0 : decode cX2_init 0 = .ok (.aload_n 0, 1) := by decide +kernel
theorem dX2_init_1 : decode cX2_init 1 = .ok (.invokespecial 3, 3) := by decide +kernel
theorem dX2_init_4 : decode cX2_init 4 = .ok (.return_, 1) := by decide +kernel
theorem dX2_clear_0 : decode cX2_clear 0 = .ok (.aload_n 0, 1) := by decide +kernel
theorem dX2_clear_1 : decode cX2_clear 1 = .ok (.iconst (-1), 1) := by decide +kernel
theorem dX2_clear_2 : decode cX2_clear 2 = .ok (.putfield 9, 3) := by decide +kernel
theorem dX2_clear_5 : decode cX2_clear 5 = .ok (.aload_n 0, 1) := by decide +kernel
theorem dX2_clear_6 : decode cX2_clear 6 = .ok (.iconst (-1), 1) := by decide +kernel
theorem dX2_clear_7 : decode cX2_clear 7 = .ok (.putfield 15, 3) := by decide +kernel
theorem dX2_clear_10 : decode cX2_clear 10 = .ok (.aload_n 0, 1) := by decide +kernel
theorem dX2_clear_11 : decode cX2_clear 11 = .ok (.iconst (-1), 1) := by decide +kernel
theorem dX2_clear_12 : decode cX2_clear 12 = .ok (.putfield 18, 3) := by decide +kernel
theorem dX2_clear_15 : decode cX2_clear 15 = .ok (.aload_n 0, 1) := by decide +kernel
theorem dX2_clear_16 : decode cX2_clear 16 = .ok (.iconst 0, 1) := by decide +kernel
theorem dX2_clear_17 : decode cX2_clear 17 = .ok (.putfield 21, 3) := by decide +kernel
theorem dX2_clear_20 : decode cX2_clear 20 = .ok (.aload_n 0, 1) := by decide +kernel
theorem dX2_clear_21 : decode cX2_clear 21 = .ok (.iconst 0, 1) := by decide +kernel
theorem dX2_clear_22 : decode cX2_clear 22 = .ok (.putfield 24, 3) := by decide +kernel
theorem dX2_clear_25 : decode cX2_clear 25 = .ok (.return_, 1) := by decide +kernel
theorem dX3_init_0 : decode cX3_init 0 = .ok (.aload_n 0, 1) := by decide +kernel
theorem dX3_init_1 : decode cX3_init 1 = .ok (.invokespecial 3, 3) := by decide +kernel
theorem dX3_init_4 : decode cX3_init 4 = .ok (.aload_n 0, 1) := by decide +kernel
theorem dX3_init_5 : decode cX3_init 5 = .ok (.bipush 17, 2) := by decide +kernel
theorem dX3_init_7 : decode cX3_init 7 = .ok (.newarray .boolean, 2) := by decide +kernel
theorem dX3_init_9 : decode cX3_init 9 = .ok (.putfield 11, 3) := by decide +kernel
theorem dX3_init_12 : decode cX3_init 12 = .ok (.aload_n 0, 1) := by decide +kernel
theorem dX3_init_13 : decode cX3_init 13 = .ok (.bipush 17, 2) := by decide +kernel
theorem dX3_init_15 : decode cX3_init 15 = .ok (.newarray .int, 2) := by decide +kernel
theorem dX3_init_17 : decode cX3_init 17 = .ok (.putfield 15, 3) := by decide +kernel
theorem dX3_init_20 : decode cX3_init 20 = .ok (.aload_n 0, 1) := by decide +kernel
theorem dX3_init_21 : decode cX3_init 21 = .ok (.bipush 17, 2) := by decide +kernel
theorem dX3_init_23 : decode cX3_init 23 = .ok (.newarray .boolean, 2) := by decide +kernel
theorem dX3_init_25 : decode cX3_init 25 = .ok (.putfield 19, 3) := by decide +kernel
theorem dX3_init_28 : decode cX3_init 28 = .ok (.return_, 1) := by decide +kernel
theorem dX3_indexOf_0 : decode cX3_indexOf 0 = .ok (.iload_n 0, 1) := by decide +kernel
theorem dX3_indexOf_1 : decode cX3_indexOf 1 = .ok (.iconst 2, 1) := by decide +kernel
theorem dX3_indexOf_2 : decode cX3_indexOf 2 = .ok (.if_icmp .ne 6, 3) := by decide +kernel
theorem dX3_indexOf_5 : decode cX3_indexOf 5 = .ok (.bipush 16, 2) := by decide +kernel
theorem dX3_indexOf_7 : decode cX3_indexOf 7 = .ok (.ireturn, 1) := by decide +kernel
theorem dX3_indexOf_8 : decode cX3_indexOf 8 = .ok (.iload_n 0, 1) := by decide +kernel
theorem dX3_indexOf_9 : decode cX3_indexOf 9 = .ok (.ifCond .ne 12, 3) := by decide +kernel
theorem dX3_indexOf_12 : decode cX3_indexOf 12 = .ok (.iload_n 1, 1) := by decide +kernel
theorem dX3_indexOf_13 : decode cX3_indexOf 13 = .ok (.invokestatic 22, 3) := by decide +kernel
theorem dX3_indexOf_16 : decode cX3_indexOf 16 = .ok (.ifCond .eq 5, 3) := by decide +kernel
theorem dX3_indexOf_19 : decode cX3_indexOf 19 = .ok (.iload_n 1, 1) := by decide +kernel
theorem dX3_indexOf_20 : decode cX3_indexOf 20 = .ok (.ireturn, 1) := by decide +kernel
theorem dX3_indexOf_21 : decode cX3_indexOf 21 = .ok (.iload_n 0, 1) := by decide +kernel
theorem dX3_indexOf_22 : decode cX3_indexOf 22 = .ok (.iconst 1, 1) := by decide +kernel
theorem dX3_indexOf_23 : decode cX3_indexOf 23 = .ok (.if_icmp .ne 18, 3) := by decide +kernel
theorem dX3_indexOf_26 : decode cX3_indexOf 26 = .ok (.iload_n 1, 1) := by decide +kernel
theorem dX3_indexOf_27 : decode cX3_indexOf 27 = .ok (.ifCond .lt 14, 3) := by decide +kernel
theorem dX3_indexOf_30 : decode cX3_indexOf 30 = .ok (.iload_n 1, 1) := by decide +kernel
theorem dX3_indexOf_31 : decode cX3_indexOf 31 = .ok (.bipush 8, 2) := by decide +kernel
theorem dX3_indexOf_33 : decode cX3_indexOf 33 = .ok (.if_icmp .ge 8, 3) := by decide +kernel
theorem dX3_indexOf_36 : decode cX3_indexOf 36 = .ok (.bipush 8, 2) := by decide +kernel
theorem dX3_indexOf_38 : decode cX3_indexOf 38 = .ok (.iload_n 1, 1) := by decide +kernel
theorem dX3_indexOf_39 : decode cX3_indexOf 39 = .ok (.iadd, 1) := by decide +kernel
theorem dX3_indexOf_40 : decode cX3_indexOf 40 = .ok (.ireturn, 1) := by decide +kernel
theorem dX3_indexOf_41 : decode cX3_indexOf 41 = .ok (.iconst (-1), 1) := by decide +kernel
theorem dX3_indexOf_42 : decode cX3_indexOf 42 = .ok (.ireturn, 1) := by decide +kernel
theorem dX3_put_0 : decode cX3_put 0 = .ok (.iload_n 1, 1) := by decide +kernel
theorem dX3_put_1 : decode cX3_put 1 = .ok (.ifCond .lt 30, 3) := by decide +kernel
theorem dX3_put_4 : decode cX3_put 4 = .ok (.iload_n 1, 1) := by decide +kernel
theorem dX3_put_5 : decode cX3_put 5 = .ok (.bipush 17, 2) := by decide +kernel
theorem dX3_put_7 : decode cX3_put 7 = .ok (.if_icmp .ge 24, 3) := by decide +kernel
theorem dX3_put_10 : decode cX3_put 10 = .ok (.aload_n 0, 1) := by decide +kernel
theorem dX3_put_11 : decode cX3_put 11 = .ok (.getfield 11, 3) := by decide +kernel
theorem dX3_put_14 : decode cX3_put 14 = .ok (.iload_n 1, 1) := by decide +kernel
theorem dX3_put_15 : decode cX3_put 15 = .ok (.iconst 1, 1) := by decide +kernel
theorem dX3_put_16 : decode cX3_put 16 = .ok (.bastore, 1) := by decide +kernel
theorem dX3_put_17 : decode cX3_put 17 = .ok (.aload_n 0, 1) := by decide +kernel
theorem dX3_put_18 : decode cX3_put 18 = .ok (.getfield 15, 3) := by decide +kernel
theorem dX3_put_21 : decode cX3_put 21 = .ok (.iload_n 1, 1) := by decide +kernel
theorem dX3_put_22 : decode cX3_put 22 = .ok (.iload_n 2, 1) := by decide +kernel
theorem dX3_put_23 : decode cX3_put 23 = .ok (.iastore, 1) := by decide +kernel
theorem dX3_put_24 : decode cX3_put 24 = .ok (.aload_n 0, 1) := by decide +kernel
theorem dX3_put_25 : decode cX3_put 25 = .ok (.getfield 19, 3) := by decide +kernel
theorem dX3_put_28 : decode cX3_put 28 = .ok (.iload_n 1, 1) := by decide +kernel
theorem dX3_put_29 : decode cX3_put 29 = .ok (.iload_n 3, 1) := by decide +kernel
theorem dX3_put_30 : decode cX3_put 30 = .ok (.bastore, 1) := by decide +kernel
theorem dX3_put_31 : decode cX3_put 31 = .ok (.return_, 1) := by decide +kernel
theorem dX4_init_0 : decode cX4_init 0 = .ok (.aload_n 0, 1) := by decide +kernel
theorem dX4_init_1 : decode cX4_init 1 = .ok (.invokespecial 3, 3) := by decide +kernel
theorem dX4_init_4 : decode cX4_init 4 = .ok (.return_, 1) := by decide +kernel
theorem dX4_begin_0 : decode cX4_begin 0 = .ok (.aload_n 0, 1) := by decide +kernel
theorem dX4_begin_1 : decode cX4_begin 1 = .ok (.aload_n 1, 1) := by decide +kernel
theorem dX4_begin_2 : decode cX4_begin 2 = .ok (.putfield 9, 3) := by decide +kernel
theorem dX4_begin_5 : decode cX4_begin 5 = .ok (.aload_n 0, 1) := by decide +kernel
theorem dX4_begin_6 : decode cX4_begin 6 = .ok (.aload_n 1, 1) := by decide +kernel
theorem dX4_begin_7 : decode cX4_begin 7 = .ok (.ifnonnull 7, 3) := by decide +kernel
theorem dX4_begin_10 : decode cX4_begin 10 = .ok (.aconst_null, 1) := by decide +kernel
theorem dX4_begin_11 : decode cX4_begin 11 = .ok (.goto 7, 3) := by decide +kernel
theorem dX4_begin_18 : decode cX4_begin 18 = .ok (.putfield 21, 3) := by decide +kernel
theorem dX4_begin_21 : decode cX4_begin 21 = .ok (.aload_n 0, 1) := by decide +kernel
theorem dX4_begin_22 : decode cX4_begin 22 = .ok (.aload_n 1, 1) := by decide +kernel
theorem dX4_begin_23 : decode cX4_begin 23 = .ok (.ifnonnull 7, 3) := by decide +kernel
theorem dX4_begin_26 : decode cX4_begin 26 = .ok (.iconst 0, 1) := by decide +kernel
theorem dX4_begin_27 : decode cX4_begin 27 = .ok (.goto 12, 3) := by decide +kernel
theorem dX4_begin_39 : decode cX4_begin 39 = .ok (.putfield 27, 3) := by decide +kernel
theorem dX4_begin_42 : decode cX4_begin 42 = .ok (.aload_n 0, 1) := by decide +kernel
theorem dX4_begin_43 : decode cX4_begin 43 = .ok (.aload_n 1, 1) := by decide +kernel
theorem dX4_begin_44 : decode cX4_begin 44 = .ok (.ifnonnull 7, 3) := by decide +kernel
theorem dX4_begin_47 : decode cX4_begin 47 = .ok (.iconst 0, 1) := by decide +kernel
theorem dX4_begin_48 : decode cX4_begin 48 = .ok (.goto 7, 3) := by decide +kernel
theorem dX4_begin_55 : decode cX4_begin 55 = .ok (.putfield 34, 3) := by decide +kernel
theorem dX4_begin_58 : decode cX4_begin 58 = .ok (.aload_n 0, 1) := by decide +kernel
theorem dX4_begin_59 : decode cX4_begin 59 = .ok (.iconst 0, 1) := by decide +kernel
theorem dX4_begin_60 : decode cX4_begin 60 = .ok (.putfield 37, 3) := by decide +kernel
theorem dX4_begin_63 : decode cX4_begin 63 = .ok (.aload_n 0, 1) := by decide +kernel
theorem dX4_begin_64 : decode cX4_begin 64 = .ok (.aconst_null, 1) := by decide +kernel
theorem dX4_begin_65 : decode cX4_begin 65 = .ok (.putfield 40, 3) := by decide +kernel
theorem dX4_begin_68 : decode cX4_begin 68 = .ok (.aload_n 0, 1) := by decide +kernel
theorem dX4_begin_69 : decode cX4_begin 69 = .ok (.aconst_null, 1) := by decide +kernel
theorem dX4_begin_70 : decode cX4_begin 70 = .ok (.putfield 43, 3) := by decide +kernel
theorem dX4_begin_73 : decode cX4_begin 73 = .ok (.aload_n 0, 1) := by decide +kernel
theorem dX4_begin_74 : decode cX4_begin 74 = .ok (.aconst_null, 1) := by decide +kernel
theorem dX4_begin_75 : decode cX4_begin 75 = .ok (.putfield 46, 3) := by decide +kernel
theorem dX4_begin_78 : decode cX4_begin 78 = .ok (.aload_n 0, 1) := by decide +kernel
theorem dX4_begin_79 : decode cX4_begin 79 = .ok (.iconst 0, 1) := by decide +kernel
theorem dX4_begin_80 : decode cX4_begin 80 = .ok (.putfield 49, 3) := by decide +kernel
theorem dX4_begin_83 : decode cX4_begin 83 = .ok (.return_, 1) := by decide +kernel
theorem dX5_init_0 : decode cX5_init 0 = .ok (.aload_n 0, 1) := by decide +kernel
theorem dX5_init_1 : decode cX5_init 1 = .ok (.invokespecial 3, 3) := by decide +kernel
theorem dX5_init_4 : decode cX5_init 4 = .ok (.aload_n 0, 1) := by decide +kernel
theorem dX5_init_5 : decode cX5_init 5 = .ok (.iload_n 1, 1) := by decide +kernel
theorem dX5_init_6 : decode cX5_init 6 = .ok (.putfield 9, 3) := by decide +kernel
theorem dX5_init_9 : decode cX5_init 9 = .ok (.aload_n 0, 1) := by decide +kernel
theorem dX5_init_10 : decode cX5_init 10 = .ok (.new 15, 3) := by decide +kernel
theorem dX5_init_13 : decode cX5_init 13 = .ok (.dup, 1) := by decide +kernel
theorem dX5_init_14 : decode cX5_init 14 = .ok (.iconst 4, 1) := by decide +kernel
theorem dX5_init_15 : decode cX5_init 15 = .ok (.iload_n 1, 1) := by decide +kernel
theorem dX5_init_16 : decode cX5_init 16 = .ok (.imul, 1) := by decide +kernel
theorem dX5_init_17 : decode cX5_init 17 = .ok (.invokespecial 17, 3) := by decide +kernel
theorem dX5_init_20 : decode cX5_init 20 = .ok (.putfield 20, 3) := by decide +kernel
theorem dX5_init_23 : decode cX5_init 23 = .ok (.return_, 1) := by decide +kernel
theorem dX5_clear_0 : decode cX5_clear 0 = .ok (.aload_n 0, 1) := by decide +kernel
theorem dX5_clear_1 : decode cX5_clear 1 = .ok (.getfield 20, 3) := by decide +kernel
theorem dX5_clear_4 : decode cX5_clear 4 = .ok (.invokevirtual 24, 3) := by decide +kernel
theorem dX5_clear_7 : decode cX5_clear 7 = .ok (.return_, 1) := by decide +kernel
theorem dX5_at_0 : decode cX5_at 0 = .ok (.iload_n 1, 1) := by decide +kernel
theorem dX5_at_1 : decode cX5_at 1 = .ok (.ifCond .lt 20, 3) := by decide +kernel
theorem dX5_at_4 : decode cX5_at 4 = .ok (.iload_n 1, 1) := by decide +kernel
theorem dX5_at_5 : decode cX5_at 5 = .ok (.aload_n 0, 1) := by decide +kernel
theorem dX5_at_6 : decode cX5_at 6 = .ok (.getfield 9, 3) := by decide +kernel
theorem dX5_at_9 : decode cX5_at 9 = .ok (.if_icmp .ge 12, 3) := by decide +kernel
theorem dX5_at_12 : decode cX5_at 12 = .ok (.iload_n 2, 1) := by decide +kernel
theorem dX5_at_13 : decode cX5_at 13 = .ok (.ifCond .lt 8, 3) := by decide +kernel
theorem dX5_at_16 : decode cX5_at 16 = .ok (.iload_n 2, 1) := by decide +kernel
theorem dX5_at_17 : decode cX5_at 17 = .ok (.iconst 4, 1) := by decide +kernel
theorem dX5_at_18 : decode cX5_at 18 = .ok (.if_icmp .lt 5, 3) := by decide +kernel
theorem dX5_at_21 : decode cX5_at 21 = .ok (.iconst (-1), 1) := by decide +kernel
theorem dX5_at_22 : decode cX5_at 22 = .ok (.ireturn, 1) := by decide +kernel
theorem dX5_at_23 : decode cX5_at 23 = .ok (.iconst 4, 1) := by decide +kernel
theorem dX5_at_24 : decode cX5_at 24 = .ok (.iload_n 1, 1) := by decide +kernel
theorem dX5_at_25 : decode cX5_at 25 = .ok (.imul, 1) := by decide +kernel
theorem dX5_at_26 : decode cX5_at 26 = .ok (.iload_n 2, 1) := by decide +kernel
theorem dX5_at_27 : decode cX5_at 27 = .ok (.iadd, 1) := by decide +kernel
theorem dX5_at_28 : decode cX5_at 28 = .ok (.istore_n 3, 1) := by decide +kernel
theorem dX5_at_29 : decode cX5_at 29 = .ok (.aload_n 0, 1) := by decide +kernel
theorem dX5_at_30 : decode cX5_at 30 = .ok (.getfield 20, 3) := by decide +kernel
theorem dX5_at_33 : decode cX5_at 33 = .ok (.iload_n 3, 1) := by decide +kernel
theorem dX5_at_34 : decode cX5_at 34 = .ok (.invokevirtual 30, 3) := by decide +kernel
theorem dX5_at_37 : decode cX5_at 37 = .ok (.ifCond .eq 14, 3) := by decide +kernel
theorem dX5_at_51 : decode cX5_at 51 = .ok (.iconst (-1), 1) := by decide +kernel
theorem dX5_at_52 : decode cX5_at 52 = .ok (.ireturn, 1) := by decide +kernel
theorem dX6_init_0 : decode cX6_init 0 = .ok (.aload_n 0, 1) := by decide +kernel
theorem dX6_init_1 : decode cX6_init 1 = .ok (.invokespecial 3, 3) := by decide +kernel
theorem dX6_init_4 : decode cX6_init 4 = .ok (.aload_n 0, 1) := by decide +kernel
theorem dX6_init_5 : decode cX6_init 5 = .ok (.bipush 8, 2) := by decide +kernel
theorem dX6_init_7 : decode cX6_init 7 = .ok (.newarray .boolean, 2) := by decide +kernel
theorem dX6_init_9 : decode cX6_init 9 = .ok (.putfield 9, 3) := by decide +kernel
theorem dX6_init_12 : decode cX6_init 12 = .ok (.aload_n 0, 1) := by decide +kernel
theorem dX6_init_13 : decode cX6_init 13 = .ok (.bipush 8, 2) := by decide +kernel
theorem dX6_init_15 : decode cX6_init 15 = .ok (.newarray .int, 2) := by decide +kernel
theorem dX6_init_17 : decode cX6_init 17 = .ok (.putfield 15, 3) := by decide +kernel
theorem dX6_init_20 : decode cX6_init 20 = .ok (.aload_n 0, 1) := by decide +kernel
theorem dX6_init_21 : decode cX6_init 21 = .ok (.bipush 8, 2) := by decide +kernel
theorem dX6_init_23 : decode cX6_init 23 = .ok (.newarray .int, 2) := by decide +kernel
theorem dX6_init_25 : decode cX6_init 25 = .ok (.putfield 19, 3) := by decide +kernel
theorem dX6_init_28 : decode cX6_init 28 = .ok (.return_, 1) := by decide +kernel
theorem dX6_clear_0 : decode cX6_clear 0 = .ok (.iconst 0, 1) := by decide +kernel
theorem dX6_clear_1 : decode cX6_clear 1 = .ok (.istore_n 1, 1) := by decide +kernel
theorem dX6_clear_2 : decode cX6_clear 2 = .ok (.iload_n 1, 1) := by decide +kernel
theorem dX6_clear_3 : decode cX6_clear 3 = .ok (.bipush 8, 2) := by decide +kernel
theorem dX6_clear_5 : decode cX6_clear 5 = .ok (.if_icmp .ge 23, 3) := by decide +kernel
theorem dX6_clear_8 : decode cX6_clear 8 = .ok (.aload_n 0, 1) := by decide +kernel
theorem dX6_clear_9 : decode cX6_clear 9 = .ok (.getfield 9, 3) := by decide +kernel
theorem dX6_clear_12 : decode cX6_clear 12 = .ok (.iload_n 1, 1) := by decide +kernel
theorem dX6_clear_13 : decode cX6_clear 13 = .ok (.iconst 0, 1) := by decide +kernel
theorem dX6_clear_14 : decode cX6_clear 14 = .ok (.bastore, 1) := by decide +kernel
theorem dX6_clear_15 : decode cX6_clear 15 = .ok (.aload_n 0, 1) := by decide +kernel
theorem dX6_clear_16 : decode cX6_clear 16 = .ok (.getfield 19, 3) := by decide +kernel
theorem dX6_clear_19 : decode cX6_clear 19 = .ok (.iload_n 1, 1) := by decide +kernel
theorem dX6_clear_20 : decode cX6_clear 20 = .ok (.iconst 0, 1) := by decide +kernel
theorem dX6_clear_21 : decode cX6_clear 21 = .ok (.iastore, 1) := by decide +kernel
theorem dX6_clear_22 : decode cX6_clear 22 = .ok (.iinc 1 1, 3) := by decide +kernel
theorem dX6_clear_25 : decode cX6_clear 25 = .ok (.goto (-23), 3) := by decide +kernel
theorem dX6_clear_28 : decode cX6_clear 28 = .ok (.return_, 1) := by decide +kernel
theorem dX6_give_0 : decode cX6_give 0 = .ok (.iload_n 1, 1) := by decide +kernel
theorem dX6_give_1 : decode cX6_give 1 = .ok (.invokestatic 22, 3) := by decide +kernel
theorem dX6_give_4 : decode cX6_give 4 = .ok (.ifCond .eq 10, 3) := by decide +kernel
theorem dX6_give_7 : decode cX6_give 7 = .ok (.aload_n 0, 1) := by decide +kernel
theorem dX6_give_8 : decode cX6_give 8 = .ok (.getfield 19, 3) := by decide +kernel
theorem dX6_give_11 : decode cX6_give 11 = .ok (.iload_n 1, 1) := by decide +kernel
theorem dX6_give_12 : decode cX6_give 12 = .ok (.iload_n 2, 1) := by decide +kernel
theorem dX6_give_13 : decode cX6_give 13 = .ok (.iastore, 1) := by decide +kernel
theorem dX6_give_14 : decode cX6_give 14 = .ok (.return_, 1) := by decide +kernel
theorem dX7_init_0 : decode cX7_init 0 = .ok (.aload_n 0, 1) := by decide +kernel
theorem dX7_init_1 : decode cX7_init 1 = .ok (.invokespecial 3, 3) := by decide +kernel
theorem dX7_init_4 : decode cX7_init 4 = .ok (.aload_n 0, 1) := by decide +kernel
theorem dX7_init_5 : decode cX7_init 5 = .ok (.new 9, 3) := by decide +kernel
theorem dX7_init_8 : decode cX7_init 8 = .ok (.dup, 1) := by decide +kernel
theorem dX7_init_9 : decode cX7_init 9 = .ok (.invokespecial 11, 3) := by decide +kernel
theorem dX7_init_12 : decode cX7_init 12 = .ok (.putfield 12, 3) := by decide +kernel
theorem dX7_init_15 : decode cX7_init 15 = .ok (.aload_n 0, 1) := by decide +kernel
theorem dX7_init_16 : decode cX7_init 16 = .ok (.new 18, 3) := by decide +kernel
theorem dX7_init_19 : decode cX7_init 19 = .ok (.dup, 1) := by decide +kernel
theorem dX7_init_20 : decode cX7_init 20 = .ok (.invokespecial 20, 3) := by decide +kernel
theorem dX7_init_23 : decode cX7_init 23 = .ok (.putfield 21, 3) := by decide +kernel
theorem dX7_init_26 : decode cX7_init 26 = .ok (.aload_n 0, 1) := by decide +kernel
theorem dX7_init_27 : decode cX7_init 27 = .ok (.new 25, 3) := by decide +kernel
theorem dX7_init_30 : decode cX7_init 30 = .ok (.dup, 1) := by decide +kernel
theorem dX7_init_31 : decode cX7_init 31 = .ok (.invokespecial 27, 3) := by decide +kernel
theorem dX7_init_34 : decode cX7_init 34 = .ok (.putfield 28, 3) := by decide +kernel
theorem dX7_init_37 : decode cX7_init 37 = .ok (.aload_n 0, 1) := by decide +kernel
theorem dX7_init_38 : decode cX7_init 38 = .ok (.new 32, 3) := by decide +kernel
theorem dX7_init_41 : decode cX7_init 41 = .ok (.dup, 1) := by decide +kernel
theorem dX7_init_42 : decode cX7_init 42 = .ok (.invokespecial 34, 3) := by decide +kernel
theorem dX7_init_45 : decode cX7_init 45 = .ok (.putfield 35, 3) := by decide +kernel
theorem dX7_init_48 : decode cX7_init 48 = .ok (.aload_n 0, 1) := by decide +kernel
theorem dX7_init_49 : decode cX7_init 49 = .ok (.new 39, 3) := by decide +kernel
theorem dX7_init_52 : decode cX7_init 52 = .ok (.dup, 1) := by decide +kernel
theorem dX7_init_53 : decode cX7_init 53 = .ok (.ldc 41, 2) := by decide +kernel
theorem dX7_init_55 : decode cX7_init 55 = .ok (.invokespecial 42, 3) := by decide +kernel
theorem dX7_init_58 : decode cX7_init 58 = .ok (.putfield 45, 3) := by decide +kernel
theorem dX7_init_61 : decode cX7_init 61 = .ok (.aload_n 0, 1) := by decide +kernel
theorem dX7_init_62 : decode cX7_init 62 = .ok (.iload_n 1, 1) := by decide +kernel
theorem dX7_init_63 : decode cX7_init 63 = .ok (.putfield 49, 3) := by decide +kernel
theorem dX7_init_66 : decode cX7_init 66 = .ok (.return_, 1) := by decide +kernel
theorem dX7_begin_0 : decode cX7_begin 0 = .ok (.aload_n 0, 1) := by decide +kernel
theorem dX7_begin_1 : decode cX7_begin 1 = .ok (.iload_n 1, 1) := by decide +kernel
theorem dX7_begin_2 : decode cX7_begin 2 = .ok (.putfield 53, 3) := by decide +kernel
theorem dX7_begin_5 : decode cX7_begin 5 = .ok (.aload_n 0, 1) := by decide +kernel
theorem dX7_begin_6 : decode cX7_begin 6 = .ok (.iconst 0, 1) := by decide +kernel
theorem dX7_begin_7 : decode cX7_begin 7 = .ok (.putfield 56, 3) := by decide +kernel
theorem dX7_begin_10 : decode cX7_begin 10 = .ok (.aload_n 0, 1) := by decide +kernel
theorem dX7_begin_11 : decode cX7_begin 11 = .ok (.iconst (-1), 1) := by decide +kernel
theorem dX7_begin_12 : decode cX7_begin 12 = .ok (.putfield 59, 3) := by decide +kernel
theorem dX7_begin_15 : decode cX7_begin 15 = .ok (.aload_n 0, 1) := by decide +kernel
theorem dX7_begin_16 : decode cX7_begin 16 = .ok (.iconst 0, 1) := by decide +kernel
theorem dX7_begin_17 : decode cX7_begin 17 = .ok (.putfield 62, 3) := by decide +kernel
theorem dX7_begin_20 : decode cX7_begin 20 = .ok (.aload_n 0, 1) := by decide +kernel
theorem dX7_begin_21 : decode cX7_begin 21 = .ok (.iconst 0, 1) := by decide +kernel
theorem dX7_begin_22 : decode cX7_begin 22 = .ok (.putfield 65, 3) := by decide +kernel
theorem dX7_begin_25 : decode cX7_begin 25 = .ok (.aload_n 0, 1) := by decide +kernel
theorem dX7_begin_26 : decode cX7_begin 26 = .ok (.iconst 0, 1) := by decide +kernel
theorem dX7_begin_27 : decode cX7_begin 27 = .ok (.putfield 68, 3) := by decide +kernel
theorem dX7_begin_30 : decode cX7_begin 30 = .ok (.aload_n 0, 1) := by decide +kernel
theorem dX7_begin_31 : decode cX7_begin 31 = .ok (.iconst (-1), 1) := by decide +kernel
theorem dX7_begin_32 : decode cX7_begin 32 = .ok (.putfield 71, 3) := by decide +kernel
theorem dX7_begin_35 : decode cX7_begin 35 = .ok (.aload_n 0, 1) := by decide +kernel
theorem dX7_begin_36 : decode cX7_begin 36 = .ok (.iconst 0, 1) := by decide +kernel
theorem dX7_begin_37 : decode cX7_begin 37 = .ok (.putfield 74, 3) := by decide +kernel
theorem dX7_begin_40 : decode cX7_begin 40 = .ok (.aload_n 0, 1) := by decide +kernel
theorem dX7_begin_41 : decode cX7_begin 41 = .ok (.iconst 0, 1) := by decide +kernel
theorem dX7_begin_42 : decode cX7_begin 42 = .ok (.putfield 78, 3) := by decide +kernel
theorem dX7_begin_45 : decode cX7_begin 45 = .ok (.aload_n 0, 1) := by decide +kernel
theorem dX7_begin_46 : decode cX7_begin 46 = .ok (.getfield 12, 3) := by decide +kernel
theorem dX7_begin_49 : decode cX7_begin 49 = .ok (.aload_n 2, 1) := by decide +kernel
theorem dX7_begin_50 : decode cX7_begin 50 = .ok (.invokevirtual 81, 3) := by decide +kernel
theorem dX7_begin_53 : decode cX7_begin 53 = .ok (.aload_n 0, 1) := by decide +kernel
theorem dX7_begin_54 : decode cX7_begin 54 = .ok (.getfield 21, 3) := by decide +kernel
theorem dX7_begin_57 : decode cX7_begin 57 = .ok (.invokevirtual 85, 3) := by decide +kernel
theorem dX7_begin_60 : decode cX7_begin 60 = .ok (.aload_n 0, 1) := by decide +kernel
theorem dX7_begin_61 : decode cX7_begin 61 = .ok (.getfield 28, 3) := by decide +kernel
theorem dX7_begin_64 : decode cX7_begin 64 = .ok (.invokevirtual 88, 3) := by decide +kernel
theorem dX7_begin_67 : decode cX7_begin 67 = .ok (.aload_n 0, 1) := by decide +kernel
theorem dX7_begin_68 : decode cX7_begin 68 = .ok (.getfield 35, 3) := by decide +kernel
theorem dX7_begin_71 : decode cX7_begin 71 = .ok (.invokevirtual 89, 3) := by decide +kernel
theorem dX7_begin_74 : decode cX7_begin 74 = .ok (.aload_n 0, 1) := by decide +kernel
theorem dX7_begin_75 : decode cX7_begin 75 = .ok (.getfield 45, 3) := by decide +kernel
theorem dX7_begin_78 : decode cX7_begin 78 = .ok (.invokevirtual 90, 3) := by decide +kernel
theorem dX7_begin_81 : decode cX7_begin 81 = .ok (.return_, 1) := by decide +kernel
theorem dX8_init_0 : decode cX8_init 0 = .ok (.aload_n 0, 1) := by decide +kernel
theorem dX8_init_1 : decode cX8_init 1 = .ok (.invokespecial 3, 3) := by decide +kernel
theorem dX8_init_4 : decode cX8_init 4 = .ok (.aload_n 0, 1) := by decide +kernel
theorem dX8_init_5 : decode cX8_init 5 = .ok (.bipush 24, 2) := by decide +kernel
theorem dX8_init_7 : decode cX8_init 7 = .ok (.newarray .int, 2) := by decide +kernel
theorem dX8_init_9 : decode cX8_init 9 = .ok (.putfield 9, 3) := by decide +kernel
theorem dX8_init_12 : decode cX8_init 12 = .ok (.aload_n 0, 1) := by decide +kernel
theorem dX8_init_13 : decode cX8_init 13 = .ok (.bipush 24, 2) := by decide +kernel
theorem dX8_init_15 : decode cX8_init 15 = .ok (.newarray .int, 2) := by decide +kernel
theorem dX8_init_17 : decode cX8_init 17 = .ok (.putfield 15, 3) := by decide +kernel
theorem dX8_init_20 : decode cX8_init 20 = .ok (.aload_n 0, 1) := by decide +kernel
theorem dX8_init_21 : decode cX8_init 21 = .ok (.bipush 24, 2) := by decide +kernel
theorem dX8_init_23 : decode cX8_init 23 = .ok (.newarray .int, 2) := by decide +kernel
theorem dX8_init_25 : decode cX8_init 25 = .ok (.putfield 18, 3) := by decide +kernel
theorem dX8_init_28 : decode cX8_init 28 = .ok (.aload_n 0, 1) := by decide +kernel
theorem dX8_init_29 : decode cX8_init 29 = .ok (.bipush 24, 2) := by decide +kernel
theorem dX8_init_31 : decode cX8_init 31 = .ok (.newarray .int, 2) := by decide +kernel
theorem dX8_init_33 : decode cX8_init 33 = .ok (.putfield 21, 3) := by decide +kernel
theorem dX8_init_36 : decode cX8_init 36 = .ok (.aload_n 0, 1) := by decide +kernel
theorem dX8_init_37 : decode cX8_init 37 = .ok (.bipush 24, 2) := by decide +kernel
theorem dX8_init_39 : decode cX8_init 39 = .ok (.newarray .int, 2) := by decide +kernel
theorem dX8_init_41 : decode cX8_init 41 = .ok (.putfield 24, 3) := by decide +kernel
theorem dX8_init_44 : decode cX8_init 44 = .ok (.aload_n 0, 1) := by decide +kernel
theorem dX8_init_45 : decode cX8_init 45 = .ok (.bipush 24, 2) := by decide +kernel
theorem dX8_init_47 : decode cX8_init 47 = .ok (.newarray .int, 2) := by decide +kernel
theorem dX8_init_49 : decode cX8_init 49 = .ok (.putfield 27, 3) := by decide +kernel
theorem dX8_init_52 : decode cX8_init 52 = .ok (.return_, 1) := by decide +kernel
theorem dX8_clear_0 : decode cX8_clear 0 = .ok (.aload_n 0, 1) := by decide +kernel
theorem dX8_clear_1 : decode cX8_clear 1 = .ok (.iconst 0, 1) := by decide +kernel
theorem dX8_clear_2 : decode cX8_clear 2 = .ok (.putfield 30, 3) := by decide +kernel
theorem dX8_clear_5 : decode cX8_clear 5 = .ok (.aload_n 0, 1) := by decide +kernel
theorem dX8_clear_6 : decode cX8_clear 6 = .ok (.iconst 0, 1) := by decide +kernel
theorem dX8_clear_7 : decode cX8_clear 7 = .ok (.putfield 34, 3) := by decide +kernel
theorem dX8_clear_10 : decode cX8_clear 10 = .ok (.aload_n 0, 1) := by decide +kernel
theorem dX8_clear_11 : decode cX8_clear 11 = .ok (.iconst 0, 1) := by decide +kernel
theorem dX8_clear_12 : decode cX8_clear 12 = .ok (.putfield 37, 3) := by decide +kernel
theorem dX8_clear_15 : decode cX8_clear 15 = .ok (.return_, 1) := by decide +kernel
theorem dX9_init_0 : decode cX9_init 0 = .ok (.aload_n 0, 1) := by decide +kernel
theorem dX9_init_1 : decode cX9_init 1 = .ok (.invokespecial 3, 3) := by decide +kernel
theorem dX9_init_4 : decode cX9_init 4 = .ok (.aload_n 0, 1) := by decide +kernel
theorem dX9_init_5 : decode cX9_init 5 = .ok (.bipush 8, 2) := by decide +kernel
theorem dX9_init_7 : decode cX9_init 7 = .ok (.newarray .int, 2) := by decide +kernel
theorem dX9_init_9 : decode cX9_init 9 = .ok (.putfield 9, 3) := by decide +kernel
theorem dX9_init_12 : decode cX9_init 12 = .ok (.aload_n 0, 1) := by decide +kernel
theorem dX9_init_13 : decode cX9_init 13 = .ok (.bipush 8, 2) := by decide +kernel
theorem dX9_init_15 : decode cX9_init 15 = .ok (.newarray .int, 2) := by decide +kernel
theorem dX9_init_17 : decode cX9_init 17 = .ok (.putfield 13, 3) := by decide +kernel
theorem dX9_init_20 : decode cX9_init 20 = .ok (.aload_n 0, 1) := by decide +kernel
theorem dX9_init_21 : decode cX9_init 21 = .ok (.bipush 8, 2) := by decide +kernel
theorem dX9_init_23 : decode cX9_init 23 = .ok (.anewarray 16, 3) := by decide +kernel
theorem dX9_init_26 : decode cX9_init 26 = .ok (.putfield 18, 3) := by decide +kernel
theorem dX9_init_29 : decode cX9_init 29 = .ok (.aload_n 0, 1) := by decide +kernel
theorem dX9_init_30 : decode cX9_init 30 = .ok (.new 22, 3) := by decide +kernel
theorem dX9_init_33 : decode cX9_init 33 = .ok (.dup, 1) := by decide +kernel
theorem dX9_init_34 : decode cX9_init 34 = .ok (.invokespecial 24, 3) := by decide +kernel
theorem dX9_init_37 : decode cX9_init 37 = .ok (.putfield 25, 3) := by decide +kernel
theorem dX9_init_40 : decode cX9_init 40 = .ok (.aload_n 0, 1) := by decide +kernel
theorem dX9_init_41 : decode cX9_init 41 = .ok (.sipush 200, 3) := by decide +kernel
theorem dX9_init_44 : decode cX9_init 44 = .ok (.anewarray 29, 3) := by decide +kernel
theorem dX9_init_47 : decode cX9_init 47 = .ok (.putfield 31, 3) := by decide +kernel
theorem dX9_init_50 : decode cX9_init 50 = .ok (.aload_n 0, 1) := by decide +kernel
theorem dX9_init_51 : decode cX9_init 51 = .ok (.bipush 6, 2) := by decide +kernel
theorem dX9_init_53 : decode cX9_init 53 = .ok (.anewarray 29, 3) := by decide +kernel
theorem dX9_init_56 : decode cX9_init 56 = .ok (.putfield 35, 3) := by decide +kernel
theorem dX9_init_59 : decode cX9_init 59 = .ok (.aload_n 0, 1) := by decide +kernel
theorem dX9_init_60 : decode cX9_init 60 = .ok (.iconst 2, 1) := by decide +kernel
theorem dX9_init_61 : decode cX9_init 61 = .ok (.putfield 38, 3) := by decide +kernel
theorem dX9_init_64 : decode cX9_init 64 = .ok (.aload_n 0, 1) := by decide +kernel
theorem dX9_init_65 : decode cX9_init 65 = .ok (.new 42, 3) := by decide +kernel
theorem dX9_init_68 : decode cX9_init 68 = .ok (.dup, 1) := by decide +kernel
theorem dX9_init_69 : decode cX9_init 69 = .ok (.sipush 1000, 3) := by decide +kernel
theorem dX9_init_72 : decode cX9_init 72 = .ok (.invokespecial 44, 3) := by decide +kernel
theorem dX9_init_75 : decode cX9_init 75 = .ok (.putfield 47, 3) := by decide +kernel
theorem dX9_init_78 : decode cX9_init 78 = .ok (.aload_n 0, 1) := by decide +kernel
theorem dX9_init_79 : decode cX9_init 79 = .ok (.new 42, 3) := by decide +kernel
theorem dX9_init_82 : decode cX9_init 82 = .ok (.dup, 1) := by decide +kernel
theorem dX9_init_83 : decode cX9_init 83 = .ok (.sipush 600, 3) := by decide +kernel
theorem dX9_init_86 : decode cX9_init 86 = .ok (.invokespecial 44, 3) := by decide +kernel
theorem dX9_init_89 : decode cX9_init 89 = .ok (.putfield 51, 3) := by decide +kernel
theorem dX9_init_92 : decode cX9_init 92 = .ok (.aload_n 0, 1) := by decide +kernel
theorem dX9_init_93 : decode cX9_init 93 = .ok (.new 54, 3) := by decide +kernel
theorem dX9_init_96 : decode cX9_init 96 = .ok (.dup, 1) := by decide +kernel
theorem dX9_init_97 : decode cX9_init 97 = .ok (.sipush 2000, 3) := by decide +kernel
theorem dX9_init_100 : decode cX9_init 100 = .ok (.invokespecial 56, 3) := by decide +kernel
theorem dX9_init_103 : decode cX9_init 103 = .ok (.putfield 57, 3) := by decide +kernel
theorem dX9_init_106 : decode cX9_init 106 = .ok (.iconst 0, 1) := by decide +kernel
theorem dX9_init_107 : decode cX9_init 107 = .ok (.istore_n 1, 1) := by decide +kernel
theorem dX9_init_108 : decode cX9_init 108 = .ok (.iload_n 1, 1) := by decide +kernel
theorem dX9_init_109 : decode cX9_init 109 = .ok (.bipush 8, 2) := by decide +kernel
theorem dX9_init_111 : decode cX9_init 111 = .ok (.if_icmp .ge 22, 3) := by decide +kernel
theorem dX9_init_114 : decode cX9_init 114 = .ok (.aload_n 0, 1) := by decide +kernel
theorem dX9_init_115 : decode cX9_init 115 = .ok (.getfield 18, 3) := by decide +kernel
theorem dX9_init_118 : decode cX9_init 118 = .ok (.iload_n 1, 1) := by decide +kernel
theorem dX9_init_119 : decode cX9_init 119 = .ok (.new 16, 3) := by decide +kernel
theorem dX9_init_122 : decode cX9_init 122 = .ok (.dup, 1) := by decide +kernel
theorem dX9_init_123 : decode cX9_init 123 = .ok (.invokespecial 61, 3) := by decide +kernel
theorem dX9_init_126 : decode cX9_init 126 = .ok (.aastore, 1) := by decide +kernel
theorem dX9_init_127 : decode cX9_init 127 = .ok (.iinc 1 1, 3) := by decide +kernel
theorem dX9_init_130 : decode cX9_init 130 = .ok (.goto (-22), 3) := by decide +kernel
theorem dX9_init_133 : decode cX9_init 133 = .ok (.return_, 1) := by decide +kernel
theorem dX9_slot_0 : decode cX9_slot 0 = .ok (.iload_n 1, 1) := by decide +kernel
theorem dX9_slot_1 : decode cX9_slot 1 = .ok (.invokestatic 62, 3) := by decide +kernel
theorem dX9_slot_4 : decode cX9_slot 4 = .ok (.ifCond .eq 19, 3) := by decide +kernel
theorem dX9_slot_7 : decode cX9_slot 7 = .ok (.iload_n 2, 1) := by decide +kernel
theorem dX9_slot_8 : decode cX9_slot 8 = .ok (.ifCond .lt 15, 3) := by decide +kernel
theorem dX9_slot_11 : decode cX9_slot 11 = .ok (.iload_n 2, 1) := by decide +kernel
theorem dX9_slot_12 : decode cX9_slot 12 = .ok (.iconst 4, 1) := by decide +kernel
theorem dX9_slot_13 : decode cX9_slot 13 = .ok (.if_icmp .gt 10, 3) := by decide +kernel
theorem dX9_slot_16 : decode cX9_slot 16 = .ok (.aload_n 0, 1) := by decide +kernel
theorem dX9_slot_17 : decode cX9_slot 17 = .ok (.getfield 66, 3) := by decide +kernel
theorem dX9_slot_20 : decode cX9_slot 20 = .ok (.ifCond .le 5, 3) := by decide +kernel
theorem dX9_slot_23 : decode cX9_slot 23 = .ok (.iconst 0, 1) := by decide +kernel
theorem dX9_slot_24 : decode cX9_slot 24 = .ok (.ireturn, 1) := by decide +kernel
theorem dX9_slot_25 : decode cX9_slot 25 = .ok (.aload_n 0, 1) := by decide +kernel
theorem dX9_slot_26 : decode cX9_slot 26 = .ok (.getfield 9, 3) := by decide +kernel
theorem dX9_slot_29 : decode cX9_slot 29 = .ok (.iload_n 1, 1) := by decide +kernel
theorem dX9_slot_30 : decode cX9_slot 30 = .ok (.iload_n 2, 1) := by decide +kernel
theorem dX9_slot_31 : decode cX9_slot 31 = .ok (.iastore, 1) := by decide +kernel
theorem dX9_slot_32 : decode cX9_slot 32 = .ok (.aload_n 0, 1) := by decide +kernel
theorem dX9_slot_33 : decode cX9_slot 33 = .ok (.getfield 13, 3) := by decide +kernel
theorem dX9_slot_36 : decode cX9_slot 36 = .ok (.iload_n 1, 1) := by decide +kernel
theorem dX9_slot_37 : decode cX9_slot 37 = .ok (.iload_n 3, 1) := by decide +kernel
theorem dX9_slot_38 : decode cX9_slot 38 = .ok (.iastore, 1) := by decide +kernel
theorem dX9_slot_39 : decode cX9_slot 39 = .ok (.iconst 1, 1) := by decide +kernel
theorem dX9_slot_40 : decode cX9_slot 40 = .ok (.ireturn, 1) := by decide +kernel
theorem dX9_first_0 : decode cX9_first 0 = .ok (.iload_n 1, 1) := by decide +kernel
theorem dX9_first_1 : decode cX9_first 1 = .ok (.invokestatic 62, 3) := by decide +kernel
theorem dX9_first_4 : decode cX9_first 4 = .ok (.ifCond .ne 5, 3) := by decide +kernel
theorem dX9_first_7 : decode cX9_first 7 = .ok (.iconst 0, 1) := by decide +kernel
theorem dX9_first_8 : decode cX9_first 8 = .ok (.ireturn, 1) := by decide +kernel
theorem dX9_first_9 : decode cX9_first 9 = .ok (.aload_n 0, 1) := by decide +kernel
theorem dX9_first_10 : decode cX9_first 10 = .ok (.getfield 13, 3) := by decide +kernel
theorem dX9_first_13 : decode cX9_first 13 = .ok (.iload_n 1, 1) := by decide +kernel
theorem dX9_first_14 : decode cX9_first 14 = .ok (.iload_n 2, 1) := by decide +kernel
theorem dX9_first_15 : decode cX9_first 15 = .ok (.iastore, 1) := by decide +kernel
theorem dX9_first_16 : decode cX9_first 16 = .ok (.iconst 1, 1) := by decide +kernel
theorem dX9_first_17 : decode cX9_first 17 = .ok (.ireturn, 1) := by decide +kernel
theorem dX9_step_0 : decode cX9_step 0 = .ok (.aload_n 0, 1) := by decide +kernel
theorem dX9_step_1 : decode cX9_step 1 = .ok (.iload_n 1, 1) := by decide +kernel
theorem dX9_step_2 : decode cX9_step 2 = .ok (.invokevirtual 69, 3) := by decide +kernel
theorem dX9_step_5 : decode cX9_step 5 = .ok (.astore 5, 2) := by decide +kernel
theorem dX9_step_7 : decode cX9_step 7 = .ok (.aload 5, 2) := by decide +kernel
theorem dX9_step_9 : decode cX9_step 9 = .ok (.ifnull 10, 3) := by decide +kernel
theorem dX9_step_12 : decode cX9_step 12 = .ok (.aload_n 0, 1) := by decide +kernel
theorem dX9_step_13 : decode cX9_step 13 = .ok (.getfield 66, 3) := by decide +kernel
theorem dX9_step_16 : decode cX9_step 16 = .ok (.ifCond .le 5, 3) := by decide +kernel
theorem dX9_step_19 : decode cX9_step 19 = .ok (.iconst (-1), 1) := by decide +kernel
theorem dX9_step_20 : decode cX9_step 20 = .ok (.ireturn, 1) := by decide +kernel
theorem dX9_step_21 : decode cX9_step 21 = .ok (.aload 5, 2) := by decide +kernel
theorem dX9_step_23 : decode cX9_step 23 = .ok (.getfield 73, 3) := by decide +kernel
theorem dX9_step_26 : decode cX9_step 26 = .ok (.bipush 24, 2) := by decide +kernel
theorem dX9_step_28 : decode cX9_step 28 = .ok (.if_icmp .ge 18, 3) := by decide +kernel
theorem dX9_step_31 : decode cX9_step 31 = .ok (.iload_n 2, 1) := by decide +kernel
theorem dX9_step_32 : decode cX9_step 32 = .ok (.iload_n 3, 1) := by decide +kernel
theorem dX9_step_33 : decode cX9_step 33 = .ok (.iload 4, 2) := by decide +kernel
theorem dX9_step_35 : decode cX9_step 35 = .ok (.aload 5, 2) := by decide +kernel
theorem dX9_step_37 : decode cX9_step 37 = .ok (.getfield 73, 3) := by decide +kernel
theorem dX9_step_40 : decode cX9_step 40 = .ok (.invokestatic 76, 3) := by decide +kernel
theorem dX9_step_43 : decode cX9_step 43 = .ok (.ifCond .ne 5, 3) := by decide +kernel
theorem dX9_step_46 : decode cX9_step 46 = .ok (.iconst (-1), 1) := by decide +kernel
theorem dX9_step_47 : decode cX9_step 47 = .ok (.ireturn, 1) := by decide +kernel
theorem dX9_step_48 : decode cX9_step 48 = .ok (.aload 5, 2) := by decide +kernel
theorem dX9_step_50 : decode cX9_step 50 = .ok (.iload_n 2, 1) := by decide +kernel
theorem dX9_step_51 : decode cX9_step 51 = .ok (.iload_n 3, 1) := by decide +kernel
theorem dX9_step_52 : decode cX9_step 52 = .ok (.iload 4, 2) := by decide +kernel
theorem dX9_step_54 : decode cX9_step 54 = .ok (.invokevirtual 80, 3) := by decide +kernel
theorem dX9_step_57 : decode cX9_step 57 = .ok (.aload 5, 2) := by decide +kernel
theorem dX9_step_59 : decode cX9_step 59 = .ok (.getfield 73, 3) := by decide +kernel
theorem dX9_step_62 : decode cX9_step 62 = .ok (.ireturn, 1) := by decide +kernel
theorem dX9_anew_0 : decode cX9_anew 0 = .ok (.aload_n 0, 1) := by decide +kernel
theorem dX9_anew_1 : decode cX9_anew 1 = .ok (.iconst 0, 1) := by decide +kernel
theorem dX9_anew_2 : decode cX9_anew 2 = .ok (.putfield 66, 3) := by decide +kernel
theorem dX9_anew_5 : decode cX9_anew 5 = .ok (.aload_n 0, 1) := by decide +kernel
theorem dX9_anew_6 : decode cX9_anew 6 = .ok (.iconst 0, 1) := by decide +kernel
theorem dX9_anew_7 : decode cX9_anew 7 = .ok (.putfield 84, 3) := by decide +kernel
theorem dX9_anew_10 : decode cX9_anew 10 = .ok (.iconst 0, 1) := by decide +kernel
theorem dX9_anew_11 : decode cX9_anew 11 = .ok (.istore_n 2, 1) := by decide +kernel
theorem dX9_anew_12 : decode cX9_anew 12 = .ok (.iload_n 2, 1) := by decide +kernel
theorem dX9_anew_13 : decode cX9_anew 13 = .ok (.bipush 6, 2) := by decide +kernel
theorem dX9_anew_15 : decode cX9_anew 15 = .ok (.if_icmp .ge 16, 3) := by decide +kernel
theorem dX9_anew_18 : decode cX9_anew 18 = .ok (.aload_n 0, 1) := by decide +kernel
theorem dX9_anew_19 : decode cX9_anew 19 = .ok (.getfield 35, 3) := by decide +kernel
theorem dX9_anew_22 : decode cX9_anew 22 = .ok (.iload_n 2, 1) := by decide +kernel
theorem dX9_anew_23 : decode cX9_anew 23 = .ok (.aconst_null, 1) := by decide +kernel
theorem dX9_anew_24 : decode cX9_anew 24 = .ok (.aastore, 1) := by decide +kernel
theorem dX9_anew_25 : decode cX9_anew 25 = .ok (.iinc 2 1, 3) := by decide +kernel
theorem dX9_anew_28 : decode cX9_anew 28 = .ok (.goto (-16), 3) := by decide +kernel
theorem dX9_anew_31 : decode cX9_anew 31 = .ok (.aload_n 0, 1) := by decide +kernel
theorem dX9_anew_32 : decode cX9_anew 32 = .ok (.getfield 47, 3) := by decide +kernel
theorem dX9_anew_35 : decode cX9_anew 35 = .ok (.invokevirtual 87, 3) := by decide +kernel
theorem dX9_anew_38 : decode cX9_anew 38 = .ok (.aload_n 0, 1) := by decide +kernel
theorem dX9_anew_39 : decode cX9_anew 39 = .ok (.iconst 0, 1) := by decide +kernel
theorem dX9_anew_40 : decode cX9_anew 40 = .ok (.putfield 90, 3) := by decide +kernel
theorem dX9_anew_43 : decode cX9_anew 43 = .ok (.aload_n 0, 1) := by decide +kernel
theorem dX9_anew_44 : decode cX9_anew 44 = .ok (.getfield 51, 3) := by decide +kernel
theorem dX9_anew_47 : decode cX9_anew 47 = .ok (.invokevirtual 87, 3) := by decide +kernel
theorem dX9_anew_50 : decode cX9_anew 50 = .ok (.aload_n 0, 1) := by decide +kernel
theorem dX9_anew_51 : decode cX9_anew 51 = .ok (.iconst 0, 1) := by decide +kernel
theorem dX9_anew_52 : decode cX9_anew 52 = .ok (.putfield 93, 3) := by decide +kernel
theorem dX9_anew_55 : decode cX9_anew 55 = .ok (.aload_n 0, 1) := by decide +kernel
theorem dX9_anew_56 : decode cX9_anew 56 = .ok (.getfield 57, 3) := by decide +kernel
theorem dX9_anew_59 : decode cX9_anew 59 = .ok (.invokevirtual 96, 3) := by decide +kernel
theorem dX9_anew_62 : decode cX9_anew 62 = .ok (.aload_n 0, 1) := by decide +kernel
theorem dX9_anew_63 : decode cX9_anew 63 = .ok (.iconst 0, 1) := by decide +kernel
theorem dX9_anew_64 : decode cX9_anew 64 = .ok (.putfield 97, 3) := by decide +kernel
theorem dX9_anew_67 : decode cX9_anew 67 = .ok (.iload_n 1, 1) := by decide +kernel
theorem dX9_anew_68 : decode cX9_anew 68 = .ok (.ifCond .eq 7, 3) := by decide +kernel
theorem dX9_anew_71 : decode cX9_anew 71 = .ok (.aload_n 0, 1) := by decide +kernel
theorem dX9_anew_72 : decode cX9_anew 72 = .ok (.invokevirtual 100, 3) := by decide +kernel
theorem dX9_anew_75 : decode cX9_anew 75 = .ok (.return_, 1) := by decide +kernel
theorem dX9_threads_0 : decode cX9_threads 0 = .ok (.iload_n 1, 1) := by decide +kernel
theorem dX9_threads_1 : decode cX9_threads 1 = .ok (.iconst 1, 1) := by decide +kernel
theorem dX9_threads_2 : decode cX9_threads 2 = .ok (.if_icmp .lt 16, 3) := by decide +kernel
theorem dX9_threads_5 : decode cX9_threads 5 = .ok (.iload_n 1, 1) := by decide +kernel
theorem dX9_threads_6 : decode cX9_threads 6 = .ok (.bipush 6, 2) := by decide +kernel
theorem dX9_threads_8 : decode cX9_threads 8 = .ok (.if_icmp .gt 10, 3) := by decide +kernel
theorem dX9_threads_11 : decode cX9_threads 11 = .ok (.aload_n 0, 1) := by decide +kernel
theorem dX9_threads_12 : decode cX9_threads 12 = .ok (.getfield 66, 3) := by decide +kernel
theorem dX9_threads_15 : decode cX9_threads 15 = .ok (.ifCond .le 5, 3) := by decide +kernel
theorem dX9_threads_18 : decode cX9_threads 18 = .ok (.iconst 0, 1) := by decide +kernel
theorem dX9_threads_19 : decode cX9_threads 19 = .ok (.ireturn, 1) := by decide +kernel
theorem dX9_threads_20 : decode cX9_threads 20 = .ok (.aload_n 0, 1) := by decide +kernel
theorem dX9_threads_21 : decode cX9_threads 21 = .ok (.iload_n 1, 1) := by decide +kernel
theorem dX9_threads_22 : decode cX9_threads 22 = .ok (.putfield 38, 3) := by decide +kernel
theorem dX9_threads_25 : decode cX9_threads 25 = .ok (.iconst 1, 1) := by decide +kernel
theorem dX9_threads_26 : decode cX9_threads 26 = .ok (.ireturn, 1) := by decide +kernel
theorem dX9_handler_0 : decode cX9_handler 0 = .ok (.iload_n 1, 1) := by decide +kernel
theorem dX9_handler_1 : decode cX9_handler 1 = .ok (.iload_n 2, 1) := by decide +kernel
theorem dX9_handler_2 : decode cX9_handler 2 = .ok (.invokestatic 103, 3) := by decide +kernel
theorem dX9_handler_5 : decode cX9_handler 5 = .ok (.istore 5, 2) := by decide +kernel
theorem dX9_handler_7 : decode cX9_handler 7 = .ok (.iload 5, 2) := by decide +kernel
theorem dX9_handler_9 : decode cX9_handler 9 = .ok (.iconst (-1), 1) := by decide +kernel
theorem dX9_handler_10 : decode cX9_handler 10 = .ok (.if_icmp .ne 5, 3) := by decide +kernel
theorem dX9_handler_13 : decode cX9_handler 13 = .ok (.iconst 0, 1) := by decide +kernel
theorem dX9_handler_14 : decode cX9_handler 14 = .ok (.ireturn, 1) := by decide +kernel
theorem dX9_handler_15 : decode cX9_handler 15 = .ok (.aload_n 0, 1) := by decide +kernel
theorem dX9_handler_16 : decode cX9_handler 16 = .ok (.getfield 25, 3) := by decide +kernel
theorem dX9_handler_19 : decode cX9_handler 19 = .ok (.iload 5, 2) := by decide +kernel
theorem dX9_handler_21 : decode cX9_handler 21 = .ok (.iload_n 3, 1) := by decide +kernel
theorem dX9_handler_22 : decode cX9_handler 22 = .ok (.iload 4, 2) := by decide +kernel
theorem dX9_handler_24 : decode cX9_handler 24 = .ok (.invokevirtual 107, 3) := by decide +kernel
theorem dX9_handler_27 : decode cX9_handler 27 = .ok (.iconst 1, 1) := by decide +kernel
theorem dX9_handler_28 : decode cX9_handler 28 = .ok (.ireturn, 1) := by decide +kernel
theorem dX9_submit_0 : decode cX9_submit 0 = .ok (.iload_n 1, 1) := by decide +kernel
theorem dX9_submit_1 : decode cX9_submit 1 = .ok (.invokestatic 111, 3) := by decide +kernel
theorem dX9_submit_4 : decode cX9_submit 4 = .ok (.ifCond .ne 5, 3) := by decide +kernel
theorem dX9_submit_7 : decode cX9_submit 7 = .ok (.iconst (-1), 1) := by decide +kernel
theorem dX9_submit_8 : decode cX9_submit 8 = .ok (.ireturn, 1) := by decide +kernel
theorem dX9_submit_9 : decode cX9_submit 9 = .ok (.aload_n 0, 1) := by decide +kernel
theorem dX9_submit_10 : decode cX9_submit 10 = .ok (.iload_n 1, 1) := by decide +kernel
theorem dX9_submit_11 : decode cX9_submit 11 = .ok (.aconst_null, 1) := by decide +kernel
theorem dX9_submit_12 : decode cX9_submit 12 = .ok (.invokevirtual 114, 3) := by decide +kernel
theorem dX9_submit_15 : decode cX9_submit 15 = .ok (.astore_n 2, 1) := by decide +kernel
theorem dX9_submit_16 : decode cX9_submit 16 = .ok (.aload_n 2, 1) := by decide +kernel
theorem dX9_submit_17 : decode cX9_submit 17 = .ok (.ifnonnull 7, 3) := by decide +kernel
theorem dX9_submit_24 : decode cX9_submit 24 = .ok (.aload_n 2, 1) := by decide +kernel
theorem dX9_submit_25 : decode cX9_submit 25 = .ok (.getfield 118, 3) := by decide +kernel
theorem dX9_submit_28 : decode cX9_submit 28 = .ok (.ireturn, 1) := by decide +kernel
theorem dX9_beat_0 : decode cX9_beat 0 = .ok (.iload_n 1, 1) := by decide +kernel
theorem dX9_beat_1 : decode cX9_beat 1 = .ok (.iconst 1, 1) := by decide +kernel
theorem dX9_beat_2 : decode cX9_beat 2 = .ok (.if_icmp .lt 9, 3) := by decide +kernel
theorem dX9_beat_5 : decode cX9_beat 5 = .ok (.iload_n 1, 1) := by decide +kernel
theorem dX9_beat_6 : decode cX9_beat 6 = .ok (.bipush 100, 2) := by decide +kernel
theorem dX9_beat_8 : decode cX9_beat 8 = .ok (.if_icmp .le 5, 3) := by decide +kernel
theorem dX9_beat_11 : decode cX9_beat 11 = .ok (.iconst (-1), 1) := by decide +kernel
theorem dX9_beat_12 : decode cX9_beat 12 = .ok (.ireturn, 1) := by decide +kernel
theorem dX9_beat_13 : decode cX9_beat 13 = .ok (.iconst 0, 1) := by decide +kernel
theorem dX9_beat_14 : decode cX9_beat 14 = .ok (.istore_n 2, 1) := by decide +kernel
theorem dX9_beat_15 : decode cX9_beat 15 = .ok (.iload_n 2, 1) := by decide +kernel
theorem dX9_beat_16 : decode cX9_beat 16 = .ok (.iload_n 1, 1) := by decide +kernel
theorem dX9_beat_17 : decode cX9_beat 17 = .ok (.if_icmp .ge 38, 3) := by decide +kernel
theorem dX9_beat_20 : decode cX9_beat 20 = .ok (.aload_n 0, 1) := by decide +kernel
theorem dX9_beat_21 : decode cX9_beat 21 = .ok (.invokevirtual 121, 3) := by decide +kernel
theorem dX9_beat_24 : decode cX9_beat 24 = .ok (.ifCond .eq 31, 3) := by decide +kernel
theorem dX9_beat_55 : decode cX9_beat 55 = .ok (.iload_n 2, 1) := by decide +kernel
theorem dX9_beat_56 : decode cX9_beat 56 = .ok (.ireturn, 1) := by decide +kernel
theorem dX9_interrupt_0 : decode cX9_interrupt 0 = .ok (.aload_n 0, 1) := by decide +kernel
theorem dX9_interrupt_1 : decode cX9_interrupt 1 = .ok (.iload_n 1, 1) := by decide +kernel
theorem dX9_interrupt_2 : decode cX9_interrupt 2 = .ok (.invokevirtual 134, 3) := by decide +kernel
theorem dX9_interrupt_5 : decode cX9_interrupt 5 = .ok (.astore_n 2, 1) := by decide +kernel
theorem dX9_interrupt_6 : decode cX9_interrupt 6 = .ok (.aload_n 2, 1) := by decide +kernel
theorem dX9_interrupt_7 : decode cX9_interrupt 7 = .ok (.ifnull 17, 3) := by decide +kernel
theorem dX9_interrupt_24 : decode cX9_interrupt 24 = .ok (.iconst 0, 1) := by decide +kernel
theorem dX9_interrupt_25 : decode cX9_interrupt 25 = .ok (.ireturn, 1) := by decide +kernel
theorem dX9_run_0 : decode cX9_run 0 = .ok (.aload_n 0, 1) := by decide +kernel
theorem dX9_run_1 : decode cX9_run 1 = .ok (.iload_n 1, 1) := by decide +kernel
theorem dX9_run_2 : decode cX9_run 2 = .ok (.invokevirtual 134, 3) := by decide +kernel
theorem dX9_run_5 : decode cX9_run 5 = .ok (.astore_n 3, 1) := by decide +kernel
theorem dX9_run_6 : decode cX9_run 6 = .ok (.aload_n 3, 1) := by decide +kernel
theorem dX9_run_7 : decode cX9_run 7 = .ok (.ifnonnull 5, 3) := by decide +kernel
theorem dX9_run_10 : decode cX9_run 10 = .ok (.iconst (-1), 1) := by decide +kernel
theorem dX9_run_11 : decode cX9_run 11 = .ok (.ireturn, 1) := by decide +kernel
theorem dX9_failure_0 : decode cX9_failure 0 = .ok (.aload_n 0, 1) := by decide +kernel
theorem dX9_failure_1 : decode cX9_failure 1 = .ok (.iload_n 1, 1) := by decide +kernel
theorem dX9_failure_2 : decode cX9_failure 2 = .ok (.invokevirtual 198, 3) := by decide +kernel
theorem dX9_failure_5 : decode cX9_failure 5 = .ok (.astore_n 3, 1) := by decide +kernel
theorem dX9_failure_6 : decode cX9_failure 6 = .ok (.aload_n 3, 1) := by decide +kernel
theorem dX9_failure_7 : decode cX9_failure 7 = .ok (.ifnonnull 5, 3) := by decide +kernel
theorem dX9_failure_10 : decode cX9_failure 10 = .ok (.iconst (-1), 1) := by decide +kernel
theorem dX9_failure_11 : decode cX9_failure 11 = .ok (.ireturn, 1) := by decide +kernel
theorem dX9_trace_0 : decode cX9_trace 0 = .ok (.aload_n 0, 1) := by decide +kernel
theorem dX9_trace_1 : decode cX9_trace 1 = .ok (.iload_n 1, 1) := by decide +kernel
theorem dX9_trace_2 : decode cX9_trace 2 = .ok (.invokevirtual 198, 3) := by decide +kernel
theorem dX9_trace_5 : decode cX9_trace 5 = .ok (.astore_n 3, 1) := by decide +kernel
theorem dX9_trace_6 : decode cX9_trace 6 = .ok (.aload_n 3, 1) := by decide +kernel
theorem dX9_trace_7 : decode cX9_trace 7 = .ok (.ifnull 18, 3) := by decide +kernel
theorem dX9_trace_25 : decode cX9_trace 25 = .ok (.iconst (-1), 1) := by decide +kernel
theorem dX9_trace_26 : decode cX9_trace 26 = .ok (.ireturn, 1) := by decide +kernel
theorem dX9_child_0 : decode cX9_child 0 = .ok (.aload_n 0, 1) := by decide +kernel
theorem dX9_child_1 : decode cX9_child 1 = .ok (.iload_n 1, 1) := by decide +kernel
theorem dX9_child_2 : decode cX9_child 2 = .ok (.invokevirtual 134, 3) := by decide +kernel
theorem dX9_child_5 : decode cX9_child 5 = .ok (.astore_n 3, 1) := by decide +kernel
theorem dX9_child_6 : decode cX9_child 6 = .ok (.aload_n 3, 1) := by decide +kernel
theorem dX9_child_7 : decode cX9_child 7 = .ok (.ifnull 18, 3) := by decide +kernel
theorem dX9_child_25 : decode cX9_child 25 = .ok (.iconst (-1), 1) := by decide +kernel
theorem dX9_child_26 : decode cX9_child 26 = .ok (.ireturn, 1) := by decide +kernel
theorem dX9_value_0 : decode cX9_value 0 = .ok (.aload_n 0, 1) := by decide +kernel
theorem dX9_value_1 : decode cX9_value 1 = .ok (.iload_n 1, 1) := by decide +kernel
theorem dX9_value_2 : decode cX9_value 2 = .ok (.invokevirtual 134, 3) := by decide +kernel
theorem dX9_value_5 : decode cX9_value 5 = .ok (.astore_n 3, 1) := by decide +kernel
theorem dX9_value_6 : decode cX9_value 6 = .ok (.aload_n 3, 1) := by decide +kernel
theorem dX9_value_7 : decode cX9_value 7 = .ok (.ifnull 10, 3) := by decide +kernel
theorem dX9_value_17 : decode cX9_value 17 = .ok (.iconst 0, 1) := by decide +kernel
theorem dX9_value_18 : decode cX9_value 18 = .ok (.ireturn, 1) := by decide +kernel
theorem dX9_seen_0 : decode cX9_seen 0 = .ok (.aload_n 0, 1) := by decide +kernel
theorem dX9_seen_1 : decode cX9_seen 1 = .ok (.getfield 47, 3) := by decide +kernel
theorem dX9_seen_4 : decode cX9_seen 4 = .ok (.iload_n 1, 1) := by decide +kernel
theorem dX9_seen_5 : decode cX9_seen 5 = .ok (.iload_n 2, 1) := by decide +kernel
theorem dX9_seen_6 : decode cX9_seen 6 = .ok (.invokevirtual 235, 3) := by decide +kernel
theorem dX9_seen_9 : decode cX9_seen 9 = .ok (.ireturn, 1) := by decide +kernel
theorem dX9_remark_0 : decode cX9_remark 0 = .ok (.aload_n 0, 1) := by decide +kernel
theorem dX9_remark_1 : decode cX9_remark 1 = .ok (.iload_n 1, 1) := by decide +kernel
theorem dX9_remark_2 : decode cX9_remark 2 = .ok (.invokevirtual 134, 3) := by decide +kernel
theorem dX9_remark_5 : decode cX9_remark 5 = .ok (.astore_n 3, 1) := by decide +kernel
theorem dX9_remark_6 : decode cX9_remark 6 = .ok (.aload_n 3, 1) := by decide +kernel
theorem dX9_remark_7 : decode cX9_remark 7 = .ok (.ifnull 13, 3) := by decide +kernel
theorem dX9_remark_20 : decode cX9_remark 20 = .ok (.iconst 0, 1) := by decide +kernel
theorem dX9_remark_21 : decode cX9_remark 21 = .ok (.ireturn, 1) := by decide +kernel
theorem dX9_handled_0 : decode cX9_handled 0 = .ok (.aload_n 0, 1) := by decide +kernel
theorem dX9_handled_1 : decode cX9_handled 1 = .ok (.getfield 51, 3) := by decide +kernel
theorem dX9_handled_4 : decode cX9_handled 4 = .ok (.iload_n 1, 1) := by decide +kernel
theorem dX9_handled_5 : decode cX9_handled 5 = .ok (.iload_n 2, 1) := by decide +kernel
theorem dX9_handled_6 : decode cX9_handled 6 = .ok (.invokevirtual 235, 3) := by decide +kernel
theorem dX9_handled_9 : decode cX9_handled 9 = .ok (.ireturn, 1) := by decide +kernel
theorem dX9_order_0 : decode cX9_order 0 = .ok (.aload_n 0, 1) := by decide +kernel
theorem dX9_order_1 : decode cX9_order 1 = .ok (.getfield 57, 3) := by decide +kernel
theorem dX9_order_4 : decode cX9_order 4 = .ok (.iload_n 1, 1) := by decide +kernel
theorem dX9_order_5 : decode cX9_order 5 = .ok (.invokevirtual 241, 3) := by decide +kernel
theorem dX9_order_8 : decode cX9_order 8 = .ok (.ifCond .eq 14, 3) := by decide +kernel
theorem dX9_order_22 : decode cX9_order 22 = .ok (.iconst (-1), 1) := by decide +kernel
theorem dX9_order_23 : decode cX9_order 23 = .ok (.ireturn, 1) := by decide +kernel
theorem dX9_count_0 : decode cX9_count 0 = .ok (.iload_n 1, 1) := by decide +kernel
theorem dX9_count_1 : decode cX9_count 1 = .ok (.tableswitch 119 0 10 #[59, 64, 69, 74, 80, 86, 92, 98, 104, 109, 114], 59) := by decide +kernel
theorem dX9_count_60 : decode cX9_count 60 = .ok (.aload_n 0, 1) := by decide +kernel
theorem dX9_count_61 : decode cX9_count 61 = .ok (.getfield 66, 3) := by decide +kernel
theorem dX9_count_64 : decode cX9_count 64 = .ok (.ireturn, 1) := by decide +kernel
theorem dX9_count_65 : decode cX9_count 65 = .ok (.aload_n 0, 1) := by decide +kernel
theorem dX9_count_66 : decode cX9_count 66 = .ok (.getfield 84, 3) := by decide +kernel
theorem dX9_count_69 : decode cX9_count 69 = .ok (.ireturn, 1) := by decide +kernel
theorem dX9_count_70 : decode cX9_count 70 = .ok (.aload_n 0, 1) := by decide +kernel
theorem dX9_count_71 : decode cX9_count 71 = .ok (.getfield 38, 3) := by decide +kernel
theorem dX9_count_74 : decode cX9_count 74 = .ok (.ireturn, 1) := by decide +kernel
theorem dX9_count_75 : decode cX9_count 75 = .ok (.aload_n 0, 1) := by decide +kernel
theorem dX9_count_76 : decode cX9_count 76 = .ok (.iconst 0, 1) := by decide +kernel
theorem dX9_count_77 : decode cX9_count 77 = .ok (.invokevirtual 247, 3) := by decide +kernel
theorem dX9_count_80 : decode cX9_count 80 = .ok (.ireturn, 1) := by decide +kernel
theorem dX9_count_81 : decode cX9_count 81 = .ok (.aload_n 0, 1) := by decide +kernel
theorem dX9_count_82 : decode cX9_count 82 = .ok (.iconst 1, 1) := by decide +kernel
theorem dX9_count_83 : decode cX9_count 83 = .ok (.invokevirtual 247, 3) := by decide +kernel
theorem dX9_count_86 : decode cX9_count 86 = .ok (.ireturn, 1) := by decide +kernel
theorem dX9_count_87 : decode cX9_count 87 = .ok (.aload_n 0, 1) := by decide +kernel
theorem dX9_count_88 : decode cX9_count 88 = .ok (.iconst 2, 1) := by decide +kernel
theorem dX9_count_89 : decode cX9_count 89 = .ok (.invokevirtual 247, 3) := by decide +kernel
theorem dX9_count_92 : decode cX9_count 92 = .ok (.ireturn, 1) := by decide +kernel
theorem dX9_count_93 : decode cX9_count 93 = .ok (.aload_n 0, 1) := by decide +kernel
theorem dX9_count_94 : decode cX9_count 94 = .ok (.iconst 3, 1) := by decide +kernel
theorem dX9_count_95 : decode cX9_count 95 = .ok (.invokevirtual 247, 3) := by decide +kernel
theorem dX9_count_98 : decode cX9_count 98 = .ok (.ireturn, 1) := by decide +kernel
theorem dX9_count_99 : decode cX9_count 99 = .ok (.aload_n 0, 1) := by decide +kernel
theorem dX9_count_100 : decode cX9_count 100 = .ok (.iconst 4, 1) := by decide +kernel
theorem dX9_count_101 : decode cX9_count 101 = .ok (.invokevirtual 247, 3) := by decide +kernel
theorem dX9_count_104 : decode cX9_count 104 = .ok (.ireturn, 1) := by decide +kernel
theorem dX9_count_105 : decode cX9_count 105 = .ok (.aload_n 0, 1) := by decide +kernel
theorem dX9_count_106 : decode cX9_count 106 = .ok (.getfield 90, 3) := by decide +kernel
theorem dX9_count_109 : decode cX9_count 109 = .ok (.ireturn, 1) := by decide +kernel
theorem dX9_count_110 : decode cX9_count 110 = .ok (.aload_n 0, 1) := by decide +kernel
theorem dX9_count_111 : decode cX9_count 111 = .ok (.getfield 93, 3) := by decide +kernel
theorem dX9_count_114 : decode cX9_count 114 = .ok (.ireturn, 1) := by decide +kernel
theorem dX9_count_115 : decode cX9_count 115 = .ok (.aload_n 0, 1) := by decide +kernel
theorem dX9_count_116 : decode cX9_count 116 = .ok (.getfield 97, 3) := by decide +kernel
theorem dX9_count_119 : decode cX9_count 119 = .ok (.ireturn, 1) := by decide +kernel
theorem dX9_count_120 : decode cX9_count 120 = .ok (.aload_n 0, 1) := by decide +kernel
theorem dX9_count_121 : decode cX9_count 121 = .ok (.iload_n 1, 1) := by decide +kernel
theorem dX9_count_122 : decode cX9_count 122 = .ok (.invokevirtual 250, 3) := by decide +kernel
theorem dX9_count_125 : decode cX9_count 125 = .ok (.ireturn, 1) := by decide +kernel
theorem dX9_isSlot_0 : decode cX9_isSlot 0 = .ok (.iload_n 0, 1) := by decide +kernel
theorem dX9_isSlot_1 : decode cX9_isSlot 1 = .ok (.ifCond .lt 13, 3) := by decide +kernel
theorem dX9_isSlot_4 : decode cX9_isSlot 4 = .ok (.iload_n 0, 1) := by decide +kernel
theorem dX9_isSlot_5 : decode cX9_isSlot 5 = .ok (.bipush 8, 2) := by decide +kernel
theorem dX9_isSlot_7 : decode cX9_isSlot 7 = .ok (.if_icmp .ge 7, 3) := by decide +kernel
theorem dX9_isSlot_10 : decode cX9_isSlot 10 = .ok (.iconst 1, 1) := by decide +kernel
theorem dX9_isSlot_11 : decode cX9_isSlot 11 = .ok (.goto 4, 3) := by decide +kernel
theorem dX9_isSlot_14 : decode cX9_isSlot 14 = .ok (.iconst 0, 1) := by decide +kernel
theorem dX9_isSlot_15 : decode cX9_isSlot 15 = .ok (.ireturn, 1) := by decide +kernel
theorem dX9_isErrand_0 : decode cX9_isErrand 0 = .ok (.iload_n 0, 1) := by decide +kernel
theorem dX9_isErrand_1 : decode cX9_isErrand 1 = .ok (.ifCond .lt 13, 3) := by decide +kernel
theorem dX9_isErrand_4 : decode cX9_isErrand 4 = .ok (.iload_n 0, 1) := by decide +kernel
theorem dX9_isErrand_5 : decode cX9_isErrand 5 = .ok (.bipush 8, 2) := by decide +kernel
theorem dX9_isErrand_7 : decode cX9_isErrand 7 = .ok (.if_icmp .ge 7, 3) := by decide +kernel
theorem dX9_isErrand_10 : decode cX9_isErrand 10 = .ok (.iconst 1, 1) := by decide +kernel
theorem dX9_isErrand_11 : decode cX9_isErrand 11 = .ok (.goto 4, 3) := by decide +kernel
theorem dX9_isErrand_14 : decode cX9_isErrand 14 = .ok (.iconst 0, 1) := by decide +kernel
theorem dX9_isErrand_15 : decode cX9_isErrand 15 = .ok (.ireturn, 1) := by decide +kernel
theorem dX9_errandAt_0 : decode cX9_errandAt 0 = .ok (.iload_n 1, 1) := by decide +kernel
theorem dX9_errandAt_1 : decode cX9_errandAt 1 = .ok (.invokestatic 111, 3) := by decide +kernel
theorem dX9_errandAt_4 : decode cX9_errandAt 4 = .ok (.ifCond .eq 12, 3) := by decide +kernel
theorem dX9_errandAt_7 : decode cX9_errandAt 7 = .ok (.aload_n 0, 1) := by decide +kernel
theorem dX9_errandAt_8 : decode cX9_errandAt 8 = .ok (.getfield 18, 3) := by decide +kernel
theorem dX9_errandAt_11 : decode cX9_errandAt 11 = .ok (.iload_n 1, 1) := by decide +kernel
theorem dX9_errandAt_12 : decode cX9_errandAt 12 = .ok (.aaload, 1) := by decide +kernel
theorem dX9_errandAt_13 : decode cX9_errandAt 13 = .ok (.goto 4, 3) := by decide +kernel
theorem dX9_errandAt_16 : decode cX9_errandAt 16 = .ok (.aconst_null, 1) := by decide +kernel
theorem dX9_errandAt_17 : decode cX9_errandAt 17 = .ok (.areturn, 1) := by decide +kernel
theorem dX9_runAt_0 : decode cX9_runAt 0 = .ok (.iload_n 1, 1) := by decide +kernel
theorem dX9_runAt_1 : decode cX9_runAt 1 = .ok (.ifCond .lt 27, 3) := by decide +kernel
theorem dX9_runAt_4 : decode cX9_runAt 4 = .ok (.iload_n 1, 1) := by decide +kernel
theorem dX9_runAt_5 : decode cX9_runAt 5 = .ok (.aload_n 0, 1) := by decide +kernel
theorem dX9_runAt_6 : decode cX9_runAt 6 = .ok (.getfield 66, 3) := by decide +kernel
theorem dX9_runAt_9 : decode cX9_runAt 9 = .ok (.if_icmp .ge 19, 3) := by decide +kernel
theorem dX9_runAt_28 : decode cX9_runAt 28 = .ok (.aconst_null, 1) := by decide +kernel
theorem dX9_runAt_29 : decode cX9_runAt 29 = .ok (.areturn, 1) := by decide +kernel
theorem dX9_failedAt_0 : decode cX9_failedAt 0 = .ok (.aload_n 0, 1) := by decide +kernel
theorem dX9_failedAt_1 : decode cX9_failedAt 1 = .ok (.iload_n 1, 1) := by decide +kernel
theorem dX9_failedAt_2 : decode cX9_failedAt 2 = .ok (.invokevirtual 134, 3) := by decide +kernel
theorem dX9_failedAt_5 : decode cX9_failedAt 5 = .ok (.astore_n 2, 1) := by decide +kernel
theorem dX9_failedAt_6 : decode cX9_failedAt 6 = .ok (.aload_n 2, 1) := by decide +kernel
theorem dX9_failedAt_7 : decode cX9_failedAt 7 = .ok (.ifnull 15, 3) := by decide +kernel
theorem dX9_failedAt_22 : decode cX9_failedAt 22 = .ok (.aconst_null, 1) := by decide +kernel
theorem dX9_failedAt_23 : decode cX9_failedAt 23 = .ok (.areturn, 1) := by decide +kernel
theorem dX9_runsThatAre_0 : decode cX9_runsThatAre 0 = .ok (.iconst 0, 1) := by decide +kernel
theorem dX9_runsThatAre_1 : decode cX9_runsThatAre 1 = .ok (.istore_n 2, 1) := by decide +kernel
theorem dX9_runsThatAre_2 : decode cX9_runsThatAre 2 = .ok (.iconst 0, 1) := by decide +kernel
theorem dX9_runsThatAre_3 : decode cX9_runsThatAre 3 = .ok (.istore_n 3, 1) := by decide +kernel
theorem dX9_runsThatAre_4 : decode cX9_runsThatAre 4 = .ok (.iload_n 3, 1) := by decide +kernel
theorem dX9_runsThatAre_5 : decode cX9_runsThatAre 5 = .ok (.aload_n 0, 1) := by decide +kernel
theorem dX9_runsThatAre_6 : decode cX9_runsThatAre 6 = .ok (.getfield 66, 3) := by decide +kernel
theorem dX9_runsThatAre_9 : decode cX9_runsThatAre 9 = .ok (.if_icmp .ge 33, 3) := by decide +kernel
theorem dX9_runsThatAre_42 : decode cX9_runsThatAre 42 = .ok (.iload_n 2, 1) := by decide +kernel
theorem dX9_runsThatAre_43 : decode cX9_runsThatAre 43 = .ok (.ireturn, 1) := by decide +kernel
theorem dX9_runOnThread_0 : decode cX9_runOnThread 0 = .ok (.iload_n 1, 1) := by decide +kernel
theorem dX9_runOnThread_1 : decode cX9_runOnThread 1 = .ok (.bipush 16, 2) := by decide +kernel
theorem dX9_runOnThread_3 : decode cX9_runOnThread 3 = .ok (.if_icmp .lt 14, 3) := by decide +kernel
theorem dX9_runOnThread_6 : decode cX9_runOnThread 6 = .ok (.iload_n 1, 1) := by decide +kernel
theorem dX9_runOnThread_7 : decode cX9_runOnThread 7 = .ok (.bipush 16, 2) := by decide +kernel
theorem dX9_runOnThread_9 : decode cX9_runOnThread 9 = .ok (.aload_n 0, 1) := by decide +kernel
theorem dX9_runOnThread_10 : decode cX9_runOnThread 10 = .ok (.getfield 38, 3) := by decide +kernel
theorem dX9_runOnThread_13 : decode cX9_runOnThread 13 = .ok (.iadd, 1) := by decide +kernel
theorem dX9_runOnThread_14 : decode cX9_runOnThread 14 = .ok (.if_icmp .lt 5, 3) := by decide +kernel
theorem dX9_runOnThread_17 : decode cX9_runOnThread 17 = .ok (.iconst (-1), 1) := by decide +kernel
theorem dX9_runOnThread_18 : decode cX9_runOnThread 18 = .ok (.ireturn, 1) := by decide +kernel
theorem dX9_runOnThread_19 : decode cX9_runOnThread 19 = .ok (.iload_n 1, 1) := by decide +kernel
theorem dX9_runOnThread_20 : decode cX9_runOnThread 20 = .ok (.bipush 16, 2) := by decide +kernel
theorem dX9_runOnThread_22 : decode cX9_runOnThread 22 = .ok (.isub, 1) := by decide +kernel
theorem dX9_runOnThread_23 : decode cX9_runOnThread 23 = .ok (.istore_n 2, 1) := by decide +kernel
theorem dX9_runOnThread_24 : decode cX9_runOnThread 24 = .ok (.iload_n 2, 1) := by decide +kernel
theorem dX9_runOnThread_25 : decode cX9_runOnThread 25 = .ok (.bipush 6, 2) := by decide +kernel
theorem dX9_runOnThread_27 : decode cX9_runOnThread 27 = .ok (.if_icmp .ge 12, 3) := by decide +kernel
theorem dX9_runOnThread_30 : decode cX9_runOnThread 30 = .ok (.aload_n 0, 1) := by decide +kernel
theorem dX9_runOnThread_31 : decode cX9_runOnThread 31 = .ok (.getfield 35, 3) := by decide +kernel
theorem dX9_runOnThread_34 : decode cX9_runOnThread 34 = .ok (.iload_n 2, 1) := by decide +kernel
theorem dX9_runOnThread_35 : decode cX9_runOnThread 35 = .ok (.aaload, 1) := by decide +kernel
theorem dX9_runOnThread_36 : decode cX9_runOnThread 36 = .ok (.ifnonnull 5, 3) := by decide +kernel
theorem dX9_runOnThread_39 : decode cX9_runOnThread 39 = .ok (.iconst (-1), 1) := by decide +kernel
theorem dX9_runOnThread_40 : decode cX9_runOnThread 40 = .ok (.ireturn, 1) := by decide +kernel
theorem dX9_isWorkLeft_0 : decode cX9_isWorkLeft 0 = .ok (.iconst 0, 1) := by decide +kernel
theorem dX9_isWorkLeft_1 : decode cX9_isWorkLeft 1 = .ok (.istore_n 1, 1) := by decide +kernel
theorem dX9_isWorkLeft_2 : decode cX9_isWorkLeft 2 = .ok (.iload_n 1, 1) := by decide +kernel
theorem dX9_isWorkLeft_3 : decode cX9_isWorkLeft 3 = .ok (.aload_n 0, 1) := by decide +kernel
theorem dX9_isWorkLeft_4 : decode cX9_isWorkLeft 4 = .ok (.getfield 66, 3) := by decide +kernel
theorem dX9_isWorkLeft_7 : decode cX9_isWorkLeft 7 = .ok (.if_icmp .ge 28, 3) := by decide +kernel
theorem dX9_isWorkLeft_35 : decode cX9_isWorkLeft 35 = .ok (.iconst 0, 1) := by decide +kernel
theorem dX9_isWorkLeft_36 : decode cX9_isWorkLeft 36 = .ok (.ireturn, 1) := by decide +kernel
theorem dX9_wipeErrands_0 : decode cX9_wipeErrands 0 = .ok (.iconst 0, 1) := by decide +kernel
theorem dX9_wipeErrands_1 : decode cX9_wipeErrands 1 = .ok (.istore_n 1, 1) := by decide +kernel
theorem dX9_wipeErrands_2 : decode cX9_wipeErrands 2 = .ok (.iload_n 1, 1) := by decide +kernel
theorem dX9_wipeErrands_3 : decode cX9_wipeErrands 3 = .ok (.bipush 8, 2) := by decide +kernel
theorem dX9_wipeErrands_5 : decode cX9_wipeErrands 5 = .ok (.if_icmp .ge 24, 3) := by decide +kernel
theorem dX9_wipeErrands_8 : decode cX9_wipeErrands 8 = .ok (.aload_n 0, 1) := by decide +kernel
theorem dX9_wipeErrands_9 : decode cX9_wipeErrands 9 = .ok (.iload_n 1, 1) := by decide +kernel
theorem dX9_wipeErrands_10 : decode cX9_wipeErrands 10 = .ok (.invokevirtual 69, 3) := by decide +kernel
theorem dX9_wipeErrands_13 : decode cX9_wipeErrands 13 = .ok (.astore_n 2, 1) := by decide +kernel
theorem dX9_wipeErrands_14 : decode cX9_wipeErrands 14 = .ok (.aload_n 2, 1) := by decide +kernel
theorem dX9_wipeErrands_15 : decode cX9_wipeErrands 15 = .ok (.ifnull 8, 3) := by decide +kernel
theorem dX9_wipeErrands_18 : decode cX9_wipeErrands 18 = .ok (.aload_n 2, 1) := by decide +kernel
theorem dX9_wipeErrands_19 : decode cX9_wipeErrands 19 = .ok (.iconst 0, 1) := by decide +kernel
theorem dX9_wipeErrands_20 : decode cX9_wipeErrands 20 = .ok (.putfield 73, 3) := by decide +kernel
theorem dX9_wipeErrands_23 : decode cX9_wipeErrands 23 = .ok (.iinc 1 1, 3) := by decide +kernel
theorem dX9_wipeErrands_26 : decode cX9_wipeErrands 26 = .ok (.goto (-24), 3) := by decide +kernel
theorem dX9_wipeErrands_29 : decode cX9_wipeErrands 29 = .ok (.return_, 1) := by decide +kernel
theorem dX9_fits_0 : decode cX9_fits 0 = .ok (.iload_n 0, 1) := by decide +kernel
theorem dX9_fits_1 : decode cX9_fits 1 = .ok (.tableswitch 161 0 12 #[67, 67, 67, 67, 72, 94, 159, 159, 117, 132, 159, 159, 159], 67) := by decide +kernel
theorem dX9_fits_68 : decode cX9_fits 68 = .ok (.iload_n 1, 1) := by decide +kernel
theorem dX9_fits_69 : decode cX9_fits 69 = .ok (.invokestatic 62, 3) := by decide +kernel
theorem dX9_fits_72 : decode cX9_fits 72 = .ok (.ireturn, 1) := by decide +kernel
theorem dX9_fits_73 : decode cX9_fits 73 = .ok (.iload_n 1, 1) := by decide +kernel
theorem dX9_fits_74 : decode cX9_fits 74 = .ok (.invokestatic 111, 3) := by decide +kernel
theorem dX9_fits_77 : decode cX9_fits 77 = .ok (.ifCond .eq 16, 3) := by decide +kernel
theorem dX9_fits_80 : decode cX9_fits 80 = .ok (.iload_n 2, 1) := by decide +kernel
theorem dX9_fits_81 : decode cX9_fits 81 = .ok (.ifCond .eq 8, 3) := by decide +kernel
theorem dX9_fits_84 : decode cX9_fits 84 = .ok (.iload_n 2, 1) := by decide +kernel
theorem dX9_fits_85 : decode cX9_fits 85 = .ok (.iconst 1, 1) := by decide +kernel
theorem dX9_fits_86 : decode cX9_fits 86 = .ok (.if_icmp .ne 7, 3) := by decide +kernel
theorem dX9_fits_89 : decode cX9_fits 89 = .ok (.iconst 1, 1) := by decide +kernel
theorem dX9_fits_90 : decode cX9_fits 90 = .ok (.goto 4, 3) := by decide +kernel
theorem dX9_fits_93 : decode cX9_fits 93 = .ok (.iconst 0, 1) := by decide +kernel
theorem dX9_fits_94 : decode cX9_fits 94 = .ok (.ireturn, 1) := by decide +kernel
theorem dX9_fits_95 : decode cX9_fits 95 = .ok (.iload_n 1, 1) := by decide +kernel
theorem dX9_fits_96 : decode cX9_fits 96 = .ok (.invokestatic 111, 3) := by decide +kernel
theorem dX9_fits_99 : decode cX9_fits 99 = .ok (.ifCond .eq 17, 3) := by decide +kernel
theorem dX9_fits_102 : decode cX9_fits 102 = .ok (.iload_n 2, 1) := by decide +kernel
theorem dX9_fits_103 : decode cX9_fits 103 = .ok (.iconst 2, 1) := by decide +kernel
theorem dX9_fits_104 : decode cX9_fits 104 = .ok (.if_icmp .lt 12, 3) := by decide +kernel
theorem dX9_fits_107 : decode cX9_fits 107 = .ok (.iload_n 2, 1) := by decide +kernel
theorem dX9_fits_108 : decode cX9_fits 108 = .ok (.iconst 4, 1) := by decide +kernel
theorem dX9_fits_109 : decode cX9_fits 109 = .ok (.if_icmp .gt 7, 3) := by decide +kernel
theorem dX9_fits_112 : decode cX9_fits 112 = .ok (.iconst 1, 1) := by decide +kernel
theorem dX9_fits_113 : decode cX9_fits 113 = .ok (.goto 4, 3) := by decide +kernel
theorem dX9_fits_116 : decode cX9_fits 116 = .ok (.iconst 0, 1) := by decide +kernel
theorem dX9_fits_117 : decode cX9_fits 117 = .ok (.ireturn, 1) := by decide +kernel
theorem dX9_fits_118 : decode cX9_fits 118 = .ok (.iload_n 1, 1) := by decide +kernel
theorem dX9_fits_119 : decode cX9_fits 119 = .ok (.ifCond .lt 12, 3) := by decide +kernel
theorem dX9_fits_122 : decode cX9_fits 122 = .ok (.iload_n 1, 1) := by decide +kernel
theorem dX9_fits_123 : decode cX9_fits 123 = .ok (.iconst 4, 1) := by decide +kernel
theorem dX9_fits_124 : decode cX9_fits 124 = .ok (.if_icmp .ge 7, 3) := by decide +kernel
theorem dX9_fits_127 : decode cX9_fits 127 = .ok (.iconst 1, 1) := by decide +kernel
theorem dX9_fits_128 : decode cX9_fits 128 = .ok (.goto 4, 3) := by decide +kernel
theorem dX9_fits_131 : decode cX9_fits 131 = .ok (.iconst 0, 1) := by decide +kernel
theorem dX9_fits_132 : decode cX9_fits 132 = .ok (.ireturn, 1) := by decide +kernel
theorem dX9_fits_133 : decode cX9_fits 133 = .ok (.iload_n 1, 1) := by decide +kernel
theorem dX9_fits_134 : decode cX9_fits 134 = .ok (.ifCond .lt 24, 3) := by decide +kernel
theorem dX9_fits_137 : decode cX9_fits 137 = .ok (.iload_n 1, 1) := by decide +kernel
theorem dX9_fits_138 : decode cX9_fits 138 = .ok (.bipush 8, 2) := by decide +kernel
theorem dX9_fits_140 : decode cX9_fits 140 = .ok (.if_icmp .gt 18, 3) := by decide +kernel
theorem dX9_fits_143 : decode cX9_fits 143 = .ok (.iload_n 2, 1) := by decide +kernel
theorem dX9_fits_144 : decode cX9_fits 144 = .ok (.iload_n 3, 1) := by decide +kernel
theorem dX9_fits_145 : decode cX9_fits 145 = .ok (.if_icmp .le 13, 3) := by decide +kernel
theorem dX9_fits_148 : decode cX9_fits 148 = .ok (.iload_n 2, 1) := by decide +kernel
theorem dX9_fits_149 : decode cX9_fits 149 = .ok (.bipush 24, 2) := by decide +kernel
theorem dX9_fits_151 : decode cX9_fits 151 = .ok (.if_icmp .gt 7, 3) := by decide +kernel
theorem dX9_fits_154 : decode cX9_fits 154 = .ok (.iconst 1, 1) := by decide +kernel
theorem dX9_fits_155 : decode cX9_fits 155 = .ok (.goto 4, 3) := by decide +kernel
theorem dX9_fits_158 : decode cX9_fits 158 = .ok (.iconst 0, 1) := by decide +kernel
theorem dX9_fits_159 : decode cX9_fits 159 = .ok (.ireturn, 1) := by decide +kernel
theorem dX9_fits_160 : decode cX9_fits 160 = .ok (.iconst 1, 1) := by decide +kernel
theorem dX9_fits_161 : decode cX9_fits 161 = .ok (.ireturn, 1) := by decide +kernel
theorem dX9_fits_162 : decode cX9_fits 162 = .ok (.iconst 0, 1) := by decide +kernel
theorem dX9_fits_163 : decode cX9_fits 163 = .ok (.ireturn, 1) := by decide +kernel
theorem dX9_openRun_0 : decode cX9_openRun 0 = .ok (.aload_n 0, 1) := by decide +kernel
theorem dX9_openRun_1 : decode cX9_openRun 1 = .ok (.getfield 66, 3) := by decide +kernel
theorem dX9_openRun_4 : decode cX9_openRun 4 = .ok (.ifCond .lt 13, 3) := by decide +kernel
theorem dX9_openRun_7 : decode cX9_openRun 7 = .ok (.aload_n 0, 1) := by decide +kernel
theorem dX9_openRun_8 : decode cX9_openRun 8 = .ok (.getfield 66, 3) := by decide +kernel
theorem dX9_openRun_11 : decode cX9_openRun 11 = .ok (.sipush 200, 3) := by decide +kernel
theorem dX9_openRun_14 : decode cX9_openRun 14 = .ok (.if_icmp .lt 5, 3) := by decide +kernel
theorem dX9_openRun_19 : decode cX9_openRun 19 = .ok (.aload_n 0, 1) := by decide +kernel
theorem dX9_openRun_20 : decode cX9_openRun 20 = .ok (.getfield 31, 3) := by decide +kernel
theorem dX9_openRun_23 : decode cX9_openRun 23 = .ok (.aload_n 0, 1) := by decide +kernel
theorem dX9_openRun_24 : decode cX9_openRun 24 = .ok (.getfield 66, 3) := by decide +kernel
theorem dX9_openRun_27 : decode cX9_openRun 27 = .ok (.aaload, 1) := by decide +kernel
theorem dX9_openRun_28 : decode cX9_openRun 28 = .ok (.astore_n 3, 1) := by decide +kernel
theorem dX9_openRun_29 : decode cX9_openRun 29 = .ok (.aload_n 3, 1) := by decide +kernel
theorem dX9_openRun_30 : decode cX9_openRun 30 = .ok (.ifnonnull 25, 3) := by decide +kernel
theorem dX9_openRun_33 : decode cX9_openRun 33 = .ok (.new 29, 3) := by decide +kernel
theorem dX9_openRun_36 : decode cX9_openRun 36 = .ok (.dup, 1) := by decide +kernel
theorem dX9_openRun_37 : decode cX9_openRun 37 = .ok (.aload_n 0, 1) := by decide +kernel
theorem dX9_openRun_38 : decode cX9_openRun 38 = .ok (.getfield 66, 3) := by decide +kernel
theorem dX9_openRun_41 : decode cX9_openRun 41 = .ok (.invokespecial 368, 3) := by decide +kernel
theorem dX9_openRun_44 : decode cX9_openRun 44 = .ok (.astore_n 3, 1) := by decide +kernel
theorem dX9_openRun_45 : decode cX9_openRun 45 = .ok (.aload_n 0, 1) := by decide +kernel
theorem dX9_openRun_46 : decode cX9_openRun 46 = .ok (.getfield 31, 3) := by decide +kernel
theorem dX9_openRun_49 : decode cX9_openRun 49 = .ok (.aload_n 0, 1) := by decide +kernel
theorem dX9_openRun_50 : decode cX9_openRun 50 = .ok (.getfield 66, 3) := by decide +kernel
theorem dX9_openRun_53 : decode cX9_openRun 53 = .ok (.aload_n 3, 1) := by decide +kernel
theorem dX9_openRun_54 : decode cX9_openRun 54 = .ok (.aastore, 1) := by decide +kernel
theorem dX9_openRun_55 : decode cX9_openRun 55 = .ok (.aload_n 3, 1) := by decide +kernel
theorem dX9_openRun_56 : decode cX9_openRun 56 = .ok (.iload_n 1, 1) := by decide +kernel
theorem dX9_openRun_57 : decode cX9_openRun 57 = .ok (.aload_n 2, 1) := by decide +kernel
theorem dX9_openRun_58 : decode cX9_openRun 58 = .ok (.invokevirtual 369, 3) := by decide +kernel
theorem dX9_openRun_61 : decode cX9_openRun 61 = .ok (.iconst 0, 1) := by decide +kernel
theorem dX9_openRun_62 : decode cX9_openRun 62 = .ok (.istore 4, 2) := by decide +kernel
theorem dX9_openRun_64 : decode cX9_openRun 64 = .ok (.iload 4, 2) := by decide +kernel
theorem dX9_openRun_66 : decode cX9_openRun 66 = .ok (.bipush 8, 2) := by decide +kernel
theorem dX9_openRun_68 : decode cX9_openRun 68 = .ok (.if_icmp .ge 39, 3) := by decide +kernel
theorem dX9_openRun_71 : decode cX9_openRun 71 = .ok (.aload_n 3, 1) := by decide +kernel
theorem dX9_openRun_72 : decode cX9_openRun 72 = .ok (.getfield 253, 3) := by decide +kernel
theorem dX9_openRun_75 : decode cX9_openRun 75 = .ok (.iload 4, 2) := by decide +kernel
theorem dX9_openRun_77 : decode cX9_openRun 77 = .ok (.aload_n 2, 1) := by decide +kernel
theorem dX9_openRun_78 : decode cX9_openRun 78 = .ok (.ifnonnull 13, 3) := by decide +kernel
theorem dX9_openRun_81 : decode cX9_openRun 81 = .ok (.aload_n 0, 1) := by decide +kernel
theorem dX9_openRun_82 : decode cX9_openRun 82 = .ok (.getfield 13, 3) := by decide +kernel
theorem dX9_openRun_85 : decode cX9_openRun 85 = .ok (.iload 4, 2) := by decide +kernel
theorem dX9_openRun_87 : decode cX9_openRun 87 = .ok (.iaload, 1) := by decide +kernel
theorem dX9_openRun_88 : decode cX9_openRun 88 = .ok (.goto 10, 3) := by decide +kernel
theorem dX9_openRun_98 : decode cX9_openRun 98 = .ok (.invokevirtual 373, 3) := by decide +kernel
theorem dX9_openRun_101 : decode cX9_openRun 101 = .ok (.iinc 4 1, 3) := by decide +kernel
theorem dX9_openRun_104 : decode cX9_openRun 104 = .ok (.goto (-40), 3) := by decide +kernel
theorem dX9_openRun_107 : decode cX9_openRun 107 = .ok (.aload_n 0, 1) := by decide +kernel
theorem dX9_openRun_108 : decode cX9_openRun 108 = .ok (.dup, 1) := by decide +kernel
theorem dX9_openRun_109 : decode cX9_openRun 109 = .ok (.getfield 66, 3) := by decide +kernel
theorem dX9_openRun_112 : decode cX9_openRun 112 = .ok (.iconst 1, 1) := by decide +kernel
theorem dX9_openRun_113 : decode cX9_openRun 113 = .ok (.iadd, 1) := by decide +kernel
theorem dX9_openRun_114 : decode cX9_openRun 114 = .ok (.putfield 66, 3) := by decide +kernel
theorem dX9_openRun_117 : decode cX9_openRun 117 = .ok (.aload_n 3, 1) := by decide +kernel
theorem dX9_openRun_118 : decode cX9_openRun 118 = .ok (.areturn, 1) := by decide +kernel
theorem dX10_init_0 : decode cX10_init 0 = .ok (.aload_n 0, 1) := by decide +kernel
theorem dX10_init_1 : decode cX10_init 1 = .ok (.invokespecial 1, 3) := by decide +kernel
theorem dX10_init_4 : decode cX10_init 4 = .ok (.aload_n 0, 1) := by decide +kernel
theorem dX10_init_5 : decode cX10_init 5 = .ok (.bipush 8, 2) := by decide +kernel
theorem dX10_init_7 : decode cX10_init 7 = .ok (.newarray .int, 2) := by decide +kernel
theorem dX10_init_9 : decode cX10_init 9 = .ok (.putfield 7, 3) := by decide +kernel
theorem dX10_init_12 : decode cX10_init 12 = .ok (.aload_n 0, 1) := by decide +kernel
theorem dX10_init_13 : decode cX10_init 13 = .ok (.bipush 8, 2) := by decide +kernel
theorem dX10_init_15 : decode cX10_init 15 = .ok (.newarray .int, 2) := by decide +kernel
theorem dX10_init_17 : decode cX10_init 17 = .ok (.putfield 13, 3) := by decide +kernel
theorem dX10_init_20 : decode cX10_init 20 = .ok (.aload_n 0, 1) := by decide +kernel
theorem dX10_init_21 : decode cX10_init 21 = .ok (.bipush 8, 2) := by decide +kernel
theorem dX10_init_23 : decode cX10_init 23 = .ok (.newarray .int, 2) := by decide +kernel
theorem dX10_init_25 : decode cX10_init 25 = .ok (.putfield 16, 3) := by decide +kernel
theorem dX10_init_28 : decode cX10_init 28 = .ok (.aload_n 0, 1) := by decide +kernel
theorem dX10_init_29 : decode cX10_init 29 = .ok (.sipush 192, 3) := by decide +kernel
theorem dX10_init_32 : decode cX10_init 32 = .ok (.newarray .int, 2) := by decide +kernel
theorem dX10_init_34 : decode cX10_init 34 = .ok (.putfield 19, 3) := by decide +kernel
theorem dX10_init_37 : decode cX10_init 37 = .ok (.aload_n 0, 1) := by decide +kernel
theorem dX10_init_38 : decode cX10_init 38 = .ok (.sipush 192, 3) := by decide +kernel
theorem dX10_init_41 : decode cX10_init 41 = .ok (.newarray .int, 2) := by decide +kernel
theorem dX10_init_43 : decode cX10_init 43 = .ok (.putfield 22, 3) := by decide +kernel
theorem dX10_init_46 : decode cX10_init 46 = .ok (.aload_n 0, 1) := by decide +kernel
theorem dX10_init_47 : decode cX10_init 47 = .ok (.sipush 192, 3) := by decide +kernel
theorem dX10_init_50 : decode cX10_init 50 = .ok (.newarray .int, 2) := by decide +kernel
theorem dX10_init_52 : decode cX10_init 52 = .ok (.putfield 25, 3) := by decide +kernel
theorem dX10_init_55 : decode cX10_init 55 = .ok (.aload_n 0, 1) := by decide +kernel
theorem dX10_init_56 : decode cX10_init 56 = .ok (.bipush 17, 2) := by decide +kernel
theorem dX10_init_58 : decode cX10_init 58 = .ok (.newarray .boolean, 2) := by decide +kernel
theorem dX10_init_60 : decode cX10_init 60 = .ok (.putfield 28, 3) := by decide +kernel
theorem dX10_init_63 : decode cX10_init 63 = .ok (.aload_n 0, 1) := by decide +kernel
theorem dX10_init_64 : decode cX10_init 64 = .ok (.bipush 17, 2) := by decide +kernel
theorem dX10_init_66 : decode cX10_init 66 = .ok (.newarray .boolean, 2) := by decide +kernel
theorem dX10_init_68 : decode cX10_init 68 = .ok (.putfield 32, 3) := by decide +kernel
theorem dX10_init_71 : decode cX10_init 71 = .ok (.aload_n 0, 1) := by decide +kernel
theorem dX10_init_72 : decode cX10_init 72 = .ok (.bipush 17, 2) := by decide +kernel
theorem dX10_init_74 : decode cX10_init 74 = .ok (.newarray .int, 2) := by decide +kernel
theorem dX10_init_76 : decode cX10_init 76 = .ok (.putfield 35, 3) := by decide +kernel
theorem dX10_init_79 : decode cX10_init 79 = .ok (.aload_n 0, 1) := by decide +kernel
theorem dX10_init_80 : decode cX10_init 80 = .ok (.iconst 2, 1) := by decide +kernel
theorem dX10_init_81 : decode cX10_init 81 = .ok (.putfield 38, 3) := by decide +kernel
theorem dX10_init_84 : decode cX10_init 84 = .ok (.aload_n 0, 1) := by decide +kernel
theorem dX10_init_85 : decode cX10_init 85 = .ok (.bipush 6, 2) := by decide +kernel
theorem dX10_init_87 : decode cX10_init 87 = .ok (.newarray .int, 2) := by decide +kernel
theorem dX10_init_89 : decode cX10_init 89 = .ok (.putfield 42, 3) := by decide +kernel
theorem dX10_init_92 : decode cX10_init 92 = .ok (.aload_n 0, 1) := by decide +kernel
theorem dX10_init_93 : decode cX10_init 93 = .ok (.sipush 200, 3) := by decide +kernel
theorem dX10_init_96 : decode cX10_init 96 = .ok (.newarray .int, 2) := by decide +kernel
theorem dX10_init_98 : decode cX10_init 98 = .ok (.putfield 45, 3) := by decide +kernel
theorem dX10_init_101 : decode cX10_init 101 = .ok (.aload_n 0, 1) := by decide +kernel
theorem dX10_init_102 : decode cX10_init 102 = .ok (.sipush 200, 3) := by decide +kernel
theorem dX10_init_105 : decode cX10_init 105 = .ok (.newarray .int, 2) := by decide +kernel
theorem dX10_init_107 : decode cX10_init 107 = .ok (.putfield 48, 3) := by decide +kernel
theorem dX10_init_110 : decode cX10_init 110 = .ok (.aload_n 0, 1) := by decide +kernel
theorem dX10_init_111 : decode cX10_init 111 = .ok (.sipush 200, 3) := by decide +kernel
theorem dX10_init_114 : decode cX10_init 114 = .ok (.newarray .int, 2) := by decide +kernel
theorem dX10_init_116 : decode cX10_init 116 = .ok (.putfield 51, 3) := by decide +kernel
theorem dX10_init_119 : decode cX10_init 119 = .ok (.aload_n 0, 1) := by decide +kernel
theorem dX10_init_120 : decode cX10_init 120 = .ok (.sipush 200, 3) := by decide +kernel
theorem dX10_init_123 : decode cX10_init 123 = .ok (.newarray .int, 2) := by decide +kernel
theorem dX10_init_125 : decode cX10_init 125 = .ok (.putfield 54, 3) := by decide +kernel
theorem dX10_init_128 : decode cX10_init 128 = .ok (.aload_n 0, 1) := by decide +kernel
theorem dX10_init_129 : decode cX10_init 129 = .ok (.sipush 200, 3) := by decide +kernel
theorem dX10_init_132 : decode cX10_init 132 = .ok (.newarray .int, 2) := by decide +kernel
theorem dX10_init_134 : decode cX10_init 134 = .ok (.putfield 57, 3) := by decide +kernel
theorem dX10_init_137 : decode cX10_init 137 = .ok (.aload_n 0, 1) := by decide +kernel
theorem dX10_init_138 : decode cX10_init 138 = .ok (.sipush 200, 3) := by decide +kernel
theorem dX10_init_141 : decode cX10_init 141 = .ok (.newarray .int, 2) := by decide +kernel
theorem dX10_init_143 : decode cX10_init 143 = .ok (.putfield 60, 3) := by decide +kernel
theorem dX10_init_146 : decode cX10_init 146 = .ok (.aload_n 0, 1) := by decide +kernel
theorem dX10_init_147 : decode cX10_init 147 = .ok (.sipush 200, 3) := by decide +kernel
theorem dX10_init_150 : decode cX10_init 150 = .ok (.newarray .int, 2) := by decide +kernel
theorem dX10_init_152 : decode cX10_init 152 = .ok (.putfield 63, 3) := by decide +kernel
theorem dX10_init_155 : decode cX10_init 155 = .ok (.aload_n 0, 1) := by decide +kernel
theorem dX10_init_156 : decode cX10_init 156 = .ok (.sipush 200, 3) := by decide +kernel
theorem dX10_init_159 : decode cX10_init 159 = .ok (.newarray .int, 2) := by decide +kernel
theorem dX10_init_161 : decode cX10_init 161 = .ok (.putfield 66, 3) := by decide +kernel
theorem dX10_init_164 : decode cX10_init 164 = .ok (.aload_n 0, 1) := by decide +kernel
theorem dX10_init_165 : decode cX10_init 165 = .ok (.sipush 200, 3) := by decide +kernel
theorem dX10_init_168 : decode cX10_init 168 = .ok (.newarray .int, 2) := by decide +kernel
theorem dX10_init_170 : decode cX10_init 170 = .ok (.putfield 69, 3) := by decide +kernel
theorem dX10_init_173 : decode cX10_init 173 = .ok (.aload_n 0, 1) := by decide +kernel
theorem dX10_init_174 : decode cX10_init 174 = .ok (.sipush 200, 3) := by decide +kernel
theorem dX10_init_177 : decode cX10_init 177 = .ok (.newarray .int, 2) := by decide +kernel
theorem dX10_init_179 : decode cX10_init 179 = .ok (.putfield 72, 3) := by decide +kernel
theorem dX10_init_182 : decode cX10_init 182 = .ok (.aload_n 0, 1) := by decide +kernel
theorem dX10_init_183 : decode cX10_init 183 = .ok (.sipush 200, 3) := by decide +kernel
theorem dX10_init_186 : decode cX10_init 186 = .ok (.newarray .int, 2) := by decide +kernel
theorem dX10_init_188 : decode cX10_init 188 = .ok (.putfield 75, 3) := by decide +kernel
theorem dX10_init_191 : decode cX10_init 191 = .ok (.aload_n 0, 1) := by decide +kernel
theorem dX10_init_192 : decode cX10_init 192 = .ok (.sipush 200, 3) := by decide +kernel
theorem dX10_init_195 : decode cX10_init 195 = .ok (.newarray .boolean, 2) := by decide +kernel
theorem dX10_init_197 : decode cX10_init 197 = .ok (.putfield 78, 3) := by decide +kernel
theorem dX10_init_200 : decode cX10_init 200 = .ok (.aload_n 0, 1) := by decide +kernel
theorem dX10_init_201 : decode cX10_init 201 = .ok (.sipush 200, 3) := by decide +kernel
theorem dX10_init_204 : decode cX10_init 204 = .ok (.newarray .boolean, 2) := by decide +kernel
theorem dX10_init_206 : decode cX10_init 206 = .ok (.putfield 81, 3) := by decide +kernel
theorem dX10_init_209 : decode cX10_init 209 = .ok (.aload_n 0, 1) := by decide +kernel
theorem dX10_init_210 : decode cX10_init 210 = .ok (.sipush 200, 3) := by decide +kernel
theorem dX10_init_213 : decode cX10_init 213 = .ok (.newarray .boolean, 2) := by decide +kernel
theorem dX10_init_215 : decode cX10_init 215 = .ok (.putfield 84, 3) := by decide +kernel
theorem dX10_init_218 : decode cX10_init 218 = .ok (.aload_n 0, 1) := by decide +kernel
theorem dX10_init_219 : decode cX10_init 219 = .ok (.sipush 200, 3) := by decide +kernel
theorem dX10_init_222 : decode cX10_init 222 = .ok (.newarray .boolean, 2) := by decide +kernel
theorem dX10_init_224 : decode cX10_init 224 = .ok (.putfield 87, 3) := by decide +kernel
theorem dX10_init_227 : decode cX10_init 227 = .ok (.aload_n 0, 1) := by decide +kernel
theorem dX10_init_228 : decode cX10_init 228 = .ok (.sipush 200, 3) := by decide +kernel
theorem dX10_init_231 : decode cX10_init 231 = .ok (.newarray .int, 2) := by decide +kernel
theorem dX10_init_233 : decode cX10_init 233 = .ok (.putfield 90, 3) := by decide +kernel
theorem dX10_init_236 : decode cX10_init 236 = .ok (.aload_n 0, 1) := by decide +kernel
theorem dX10_init_237 : decode cX10_init 237 = .ok (.sipush 200, 3) := by decide +kernel
theorem dX10_init_240 : decode cX10_init 240 = .ok (.newarray .int, 2) := by decide +kernel
theorem dX10_init_242 : decode cX10_init 242 = .ok (.putfield 93, 3) := by decide +kernel
theorem dX10_init_245 : decode cX10_init 245 = .ok (.aload_n 0, 1) := by decide +kernel
theorem dX10_init_246 : decode cX10_init 246 = .ok (.sipush 200, 3) := by decide +kernel
theorem dX10_init_249 : decode cX10_init 249 = .ok (.newarray .int, 2) := by decide +kernel
theorem dX10_init_251 : decode cX10_init 251 = .ok (.putfield 96, 3) := by decide +kernel
theorem dX10_init_254 : decode cX10_init 254 = .ok (.aload_n 0, 1) := by decide +kernel
theorem dX10_init_255 : decode cX10_init 255 = .ok (.sipush 200, 3) := by decide +kernel
theorem dX10_init_258 : decode cX10_init 258 = .ok (.newarray .int, 2) := by decide +kernel
theorem dX10_init_260 : decode cX10_init 260 = .ok (.putfield 99, 3) := by decide +kernel
theorem dX10_init_263 : decode cX10_init 263 = .ok (.aload_n 0, 1) := by decide +kernel
theorem dX10_init_264 : decode cX10_init 264 = .ok (.sipush 200, 3) := by decide +kernel
theorem dX10_init_267 : decode cX10_init 267 = .ok (.newarray .boolean, 2) := by decide +kernel
theorem dX10_init_269 : decode cX10_init 269 = .ok (.putfield 102, 3) := by decide +kernel
theorem dX10_init_272 : decode cX10_init 272 = .ok (.aload_n 0, 1) := by decide +kernel
theorem dX10_init_273 : decode cX10_init 273 = .ok (.sipush 1600, 3) := by decide +kernel
theorem dX10_init_276 : decode cX10_init 276 = .ok (.newarray .int, 2) := by decide +kernel
theorem dX10_init_278 : decode cX10_init 278 = .ok (.putfield 105, 3) := by decide +kernel
theorem dX10_init_281 : decode cX10_init 281 = .ok (.aload_n 0, 1) := by decide +kernel
theorem dX10_init_282 : decode cX10_init 282 = .ok (.sipush 1600, 3) := by decide +kernel
theorem dX10_init_285 : decode cX10_init 285 = .ok (.newarray .int, 2) := by decide +kernel
theorem dX10_init_287 : decode cX10_init 287 = .ok (.putfield 108, 3) := by decide +kernel
theorem dX10_init_290 : decode cX10_init 290 = .ok (.aload_n 0, 1) := by decide +kernel
theorem dX10_init_291 : decode cX10_init 291 = .ok (.sipush 1600, 3) := by decide +kernel
theorem dX10_init_294 : decode cX10_init 294 = .ok (.newarray .boolean, 2) := by decide +kernel
theorem dX10_init_296 : decode cX10_init 296 = .ok (.putfield 111, 3) := by decide +kernel
theorem dX10_init_299 : decode cX10_init 299 = .ok (.aload_n 0, 1) := by decide +kernel
theorem dX10_init_300 : decode cX10_init 300 = .ok (.sipush 200, 3) := by decide +kernel
theorem dX10_init_303 : decode cX10_init 303 = .ok (.newarray .int, 2) := by decide +kernel
theorem dX10_init_305 : decode cX10_init 305 = .ok (.putfield 114, 3) := by decide +kernel
theorem dX10_init_308 : decode cX10_init 308 = .ok (.aload_n 0, 1) := by decide +kernel
theorem dX10_init_309 : decode cX10_init 309 = .ok (.sipush 4800, 3) := by decide +kernel
theorem dX10_init_312 : decode cX10_init 312 = .ok (.newarray .int, 2) := by decide +kernel
theorem dX10_init_314 : decode cX10_init 314 = .ok (.putfield 117, 3) := by decide +kernel
theorem dX10_init_317 : decode cX10_init 317 = .ok (.aload_n 0, 1) := by decide +kernel
theorem dX10_init_318 : decode cX10_init 318 = .ok (.sipush 4800, 3) := by decide +kernel
theorem dX10_init_321 : decode cX10_init 321 = .ok (.newarray .int, 2) := by decide +kernel
theorem dX10_init_323 : decode cX10_init 323 = .ok (.putfield 120, 3) := by decide +kernel
theorem dX10_init_326 : decode cX10_init 326 = .ok (.aload_n 0, 1) := by decide +kernel
theorem dX10_init_327 : decode cX10_init 327 = .ok (.sipush 200, 3) := by decide +kernel
theorem dX10_init_330 : decode cX10_init 330 = .ok (.newarray .int, 2) := by decide +kernel
theorem dX10_init_332 : decode cX10_init 332 = .ok (.putfield 123, 3) := by decide +kernel
theorem dX10_init_335 : decode cX10_init 335 = .ok (.aload_n 0, 1) := by decide +kernel
theorem dX10_init_336 : decode cX10_init 336 = .ok (.sipush 4800, 3) := by decide +kernel
theorem dX10_init_339 : decode cX10_init 339 = .ok (.newarray .int, 2) := by decide +kernel
theorem dX10_init_341 : decode cX10_init 341 = .ok (.putfield 126, 3) := by decide +kernel
theorem dX10_init_344 : decode cX10_init 344 = .ok (.aload_n 0, 1) := by decide +kernel
theorem dX10_init_345 : decode cX10_init 345 = .ok (.sipush 4800, 3) := by decide +kernel
theorem dX10_init_348 : decode cX10_init 348 = .ok (.newarray .int, 2) := by decide +kernel
theorem dX10_init_350 : decode cX10_init 350 = .ok (.putfield 129, 3) := by decide +kernel
theorem dX10_init_353 : decode cX10_init 353 = .ok (.aload_n 0, 1) := by decide +kernel
theorem dX10_init_354 : decode cX10_init 354 = .ok (.sipush 4800, 3) := by decide +kernel
theorem dX10_init_357 : decode cX10_init 357 = .ok (.newarray .int, 2) := by decide +kernel
theorem dX10_init_359 : decode cX10_init 359 = .ok (.putfield 132, 3) := by decide +kernel
theorem dX10_init_362 : decode cX10_init 362 = .ok (.aload_n 0, 1) := by decide +kernel
theorem dX10_init_363 : decode cX10_init 363 = .ok (.sipush 4800, 3) := by decide +kernel
theorem dX10_init_366 : decode cX10_init 366 = .ok (.newarray .int, 2) := by decide +kernel
theorem dX10_init_368 : decode cX10_init 368 = .ok (.putfield 135, 3) := by decide +kernel
theorem dX10_init_371 : decode cX10_init 371 = .ok (.aload_n 0, 1) := by decide +kernel
theorem dX10_init_372 : decode cX10_init 372 = .ok (.sipush 1000, 3) := by decide +kernel
theorem dX10_init_375 : decode cX10_init 375 = .ok (.newarray .int, 2) := by decide +kernel
theorem dX10_init_377 : decode cX10_init 377 = .ok (.putfield 138, 3) := by decide +kernel
theorem dX10_init_380 : decode cX10_init 380 = .ok (.aload_n 0, 1) := by decide +kernel
theorem dX10_init_381 : decode cX10_init 381 = .ok (.sipush 1000, 3) := by decide +kernel
theorem dX10_init_384 : decode cX10_init 384 = .ok (.newarray .int, 2) := by decide +kernel
theorem dX10_init_386 : decode cX10_init 386 = .ok (.putfield 141, 3) := by decide +kernel
theorem dX10_init_389 : decode cX10_init 389 = .ok (.aload_n 0, 1) := by decide +kernel
theorem dX10_init_390 : decode cX10_init 390 = .ok (.sipush 1000, 3) := by decide +kernel
theorem dX10_init_393 : decode cX10_init 393 = .ok (.newarray .int, 2) := by decide +kernel
theorem dX10_init_395 : decode cX10_init 395 = .ok (.putfield 144, 3) := by decide +kernel
theorem dX10_init_398 : decode cX10_init 398 = .ok (.aload_n 0, 1) := by decide +kernel
theorem dX10_init_399 : decode cX10_init 399 = .ok (.sipush 1000, 3) := by decide +kernel
theorem dX10_init_402 : decode cX10_init 402 = .ok (.newarray .int, 2) := by decide +kernel
theorem dX10_init_404 : decode cX10_init 404 = .ok (.putfield 147, 3) := by decide +kernel
theorem dX10_init_407 : decode cX10_init 407 = .ok (.aload_n 0, 1) := by decide +kernel
theorem dX10_init_408 : decode cX10_init 408 = .ok (.ldc 150, 2) := by decide +kernel
theorem dX10_init_410 : decode cX10_init 410 = .ok (.newarray .int, 2) := by decide +kernel
theorem dX10_init_412 : decode cX10_init 412 = .ok (.putfield 151, 3) := by decide +kernel
theorem dX10_init_415 : decode cX10_init 415 = .ok (.aload_n 0, 1) := by decide +kernel
theorem dX10_init_416 : decode cX10_init 416 = .ok (.ldc 150, 2) := by decide +kernel
theorem dX10_init_418 : decode cX10_init 418 = .ok (.newarray .int, 2) := by decide +kernel
theorem dX10_init_420 : decode cX10_init 420 = .ok (.putfield 154, 3) := by decide +kernel
theorem dX10_init_423 : decode cX10_init 423 = .ok (.aload_n 0, 1) := by decide +kernel
theorem dX10_init_424 : decode cX10_init 424 = .ok (.sipush 600, 3) := by decide +kernel
theorem dX10_init_427 : decode cX10_init 427 = .ok (.newarray .int, 2) := by decide +kernel
theorem dX10_init_429 : decode cX10_init 429 = .ok (.putfield 157, 3) := by decide +kernel
theorem dX10_init_432 : decode cX10_init 432 = .ok (.aload_n 0, 1) := by decide +kernel
theorem dX10_init_433 : decode cX10_init 433 = .ok (.sipush 600, 3) := by decide +kernel
theorem dX10_init_436 : decode cX10_init 436 = .ok (.newarray .int, 2) := by decide +kernel
theorem dX10_init_438 : decode cX10_init 438 = .ok (.putfield 160, 3) := by decide +kernel
theorem dX10_init_441 : decode cX10_init 441 = .ok (.aload_n 0, 1) := by decide +kernel
theorem dX10_init_442 : decode cX10_init 442 = .ok (.sipush 600, 3) := by decide +kernel
theorem dX10_init_445 : decode cX10_init 445 = .ok (.newarray .int, 2) := by decide +kernel
theorem dX10_init_447 : decode cX10_init 447 = .ok (.putfield 163, 3) := by decide +kernel
theorem dX10_init_450 : decode cX10_init 450 = .ok (.aload_n 0, 1) := by decide +kernel
theorem dX10_init_451 : decode cX10_init 451 = .ok (.sipush 600, 3) := by decide +kernel
theorem dX10_init_454 : decode cX10_init 454 = .ok (.newarray .int, 2) := by decide +kernel
theorem dX10_init_456 : decode cX10_init 456 = .ok (.putfield 166, 3) := by decide +kernel
theorem dX10_init_459 : decode cX10_init 459 = .ok (.aload_n 0, 1) := by decide +kernel
theorem dX10_init_460 : decode cX10_init 460 = .ok (.sipush 2000, 3) := by decide +kernel
theorem dX10_init_463 : decode cX10_init 463 = .ok (.newarray .int, 2) := by decide +kernel
theorem dX10_init_465 : decode cX10_init 465 = .ok (.putfield 169, 3) := by decide +kernel
theorem dX10_init_468 : decode cX10_init 468 = .ok (.iconst 0, 1) := by decide +kernel
theorem dX10_init_469 : decode cX10_init 469 = .ok (.istore_n 1, 1) := by decide +kernel
theorem dX10_init_470 : decode cX10_init 470 = .ok (.iload_n 1, 1) := by decide +kernel
theorem dX10_init_471 : decode cX10_init 471 = .ok (.bipush 17, 2) := by decide +kernel
theorem dX10_init_473 : decode cX10_init 473 = .ok (.if_icmp .ge 16, 3) := by decide +kernel
theorem dX10_init_476 : decode cX10_init 476 = .ok (.aload_n 0, 1) := by decide +kernel
theorem dX10_init_477 : decode cX10_init 477 = .ok (.getfield 28, 3) := by decide +kernel
theorem dX10_init_480 : decode cX10_init 480 = .ok (.iload_n 1, 1) := by decide +kernel
theorem dX10_init_481 : decode cX10_init 481 = .ok (.iconst 0, 1) := by decide +kernel
theorem dX10_init_482 : decode cX10_init 482 = .ok (.bastore, 1) := by decide +kernel
theorem dX10_init_483 : decode cX10_init 483 = .ok (.iinc 1 1, 3) := by decide +kernel
theorem dX10_init_486 : decode cX10_init 486 = .ok (.goto (-16), 3) := by decide +kernel
theorem dX10_init_489 : decode cX10_init 489 = .ok (.iconst 0, 1) := by decide +kernel
theorem dX10_init_490 : decode cX10_init 490 = .ok (.istore_n 1, 1) := by decide +kernel
theorem dX10_init_491 : decode cX10_init 491 = .ok (.iload_n 1, 1) := by decide +kernel
theorem dX10_init_492 : decode cX10_init 492 = .ok (.bipush 6, 2) := by decide +kernel
theorem dX10_init_494 : decode cX10_init 494 = .ok (.if_icmp .ge 16, 3) := by decide +kernel
theorem dX10_init_497 : decode cX10_init 497 = .ok (.aload_n 0, 1) := by decide +kernel
theorem dX10_init_498 : decode cX10_init 498 = .ok (.getfield 42, 3) := by decide +kernel
theorem dX10_init_501 : decode cX10_init 501 = .ok (.iload_n 1, 1) := by decide +kernel
theorem dX10_init_502 : decode cX10_init 502 = .ok (.iconst (-1), 1) := by decide +kernel
theorem dX10_init_503 : decode cX10_init 503 = .ok (.iastore, 1) := by decide +kernel
theorem dX10_init_504 : decode cX10_init 504 = .ok (.iinc 1 1, 3) := by decide +kernel
theorem dX10_init_507 : decode cX10_init 507 = .ok (.goto (-16), 3) := by decide +kernel
theorem dX10_init_510 : decode cX10_init 510 = .ok (.return_, 1) := by decide +kernel
theorem dX10_isSlot_0 : decode cX10_isSlot 0 = .ok (.iload_n 0, 1) := by decide +kernel
theorem dX10_isSlot_1 : decode cX10_isSlot 1 = .ok (.ifCond .lt 13, 3) := by decide +kernel
theorem dX10_isSlot_4 : decode cX10_isSlot 4 = .ok (.iload_n 0, 1) := by decide +kernel
theorem dX10_isSlot_5 : decode cX10_isSlot 5 = .ok (.bipush 8, 2) := by decide +kernel
theorem dX10_isSlot_7 : decode cX10_isSlot 7 = .ok (.if_icmp .ge 7, 3) := by decide +kernel
theorem dX10_isSlot_10 : decode cX10_isSlot 10 = .ok (.iconst 1, 1) := by decide +kernel
theorem dX10_isSlot_11 : decode cX10_isSlot 11 = .ok (.goto 4, 3) := by decide +kernel
theorem dX10_isSlot_14 : decode cX10_isSlot 14 = .ok (.iconst 0, 1) := by decide +kernel
theorem dX10_isSlot_15 : decode cX10_isSlot 15 = .ok (.ireturn, 1) := by decide +kernel
theorem dX10_isErrand_0 : decode cX10_isErrand 0 = .ok (.iload_n 0, 1) := by decide +kernel
theorem dX10_isErrand_1 : decode cX10_isErrand 1 = .ok (.ifCond .lt 13, 3) := by decide +kernel
theorem dX10_isErrand_4 : decode cX10_isErrand 4 = .ok (.iload_n 0, 1) := by decide +kernel
theorem dX10_isErrand_5 : decode cX10_isErrand 5 = .ok (.bipush 8, 2) := by decide +kernel
theorem dX10_isErrand_7 : decode cX10_isErrand 7 = .ok (.if_icmp .ge 7, 3) := by decide +kernel
theorem dX10_isErrand_10 : decode cX10_isErrand 10 = .ok (.iconst 1, 1) := by decide +kernel
theorem dX10_isErrand_11 : decode cX10_isErrand 11 = .ok (.goto 4, 3) := by decide +kernel
theorem dX10_isErrand_14 : decode cX10_isErrand 14 = .ok (.iconst 0, 1) := by decide +kernel
theorem dX10_isErrand_15 : decode cX10_isErrand 15 = .ok (.ireturn, 1) := by decide +kernel
theorem dX10_slot_0 : decode cX10_slot 0 = .ok (.iload_n 1, 1) := by decide +kernel
theorem dX10_slot_1 : decode cX10_slot 1 = .ok (.invokestatic 172, 3) := by decide +kernel
theorem dX10_slot_4 : decode cX10_slot 4 = .ok (.ifCond .eq 19, 3) := by decide +kernel
theorem dX10_slot_7 : decode cX10_slot 7 = .ok (.iload_n 2, 1) := by decide +kernel
theorem dX10_slot_8 : decode cX10_slot 8 = .ok (.ifCond .lt 15, 3) := by decide +kernel
theorem dX10_slot_11 : decode cX10_slot 11 = .ok (.iload_n 2, 1) := by decide +kernel
theorem dX10_slot_12 : decode cX10_slot 12 = .ok (.iconst 4, 1) := by decide +kernel
theorem dX10_slot_13 : decode cX10_slot 13 = .ok (.if_icmp .gt 10, 3) := by decide +kernel
theorem dX10_slot_16 : decode cX10_slot 16 = .ok (.aload_n 0, 1) := by decide +kernel
theorem dX10_slot_17 : decode cX10_slot 17 = .ok (.getfield 176, 3) := by decide +kernel
theorem dX10_slot_20 : decode cX10_slot 20 = .ok (.ifCond .le 5, 3) := by decide +kernel
theorem dX10_slot_23 : decode cX10_slot 23 = .ok (.iconst 0, 1) := by decide +kernel
theorem dX10_slot_24 : decode cX10_slot 24 = .ok (.ireturn, 1) := by decide +kernel
theorem dX10_slot_25 : decode cX10_slot 25 = .ok (.aload_n 0, 1) := by decide +kernel
theorem dX10_slot_26 : decode cX10_slot 26 = .ok (.getfield 7, 3) := by decide +kernel
theorem dX10_slot_29 : decode cX10_slot 29 = .ok (.iload_n 1, 1) := by decide +kernel
theorem dX10_slot_30 : decode cX10_slot 30 = .ok (.iload_n 2, 1) := by decide +kernel
theorem dX10_slot_31 : decode cX10_slot 31 = .ok (.iastore, 1) := by decide +kernel
theorem dX10_slot_32 : decode cX10_slot 32 = .ok (.aload_n 0, 1) := by decide +kernel
theorem dX10_slot_33 : decode cX10_slot 33 = .ok (.getfield 13, 3) := by decide +kernel
theorem dX10_slot_36 : decode cX10_slot 36 = .ok (.iload_n 1, 1) := by decide +kernel
theorem dX10_slot_37 : decode cX10_slot 37 = .ok (.iload_n 3, 1) := by decide +kernel
theorem dX10_slot_38 : decode cX10_slot 38 = .ok (.iastore, 1) := by decide +kernel
theorem dX10_slot_39 : decode cX10_slot 39 = .ok (.iconst 1, 1) := by decide +kernel
theorem dX10_slot_40 : decode cX10_slot 40 = .ok (.ireturn, 1) := by decide +kernel
theorem dX10_first_0 : decode cX10_first 0 = .ok (.iload_n 1, 1) := by decide +kernel
theorem dX10_first_1 : decode cX10_first 1 = .ok (.invokestatic 172, 3) := by decide +kernel
theorem dX10_first_4 : decode cX10_first 4 = .ok (.ifCond .ne 5, 3) := by decide +kernel
theorem dX10_first_7 : decode cX10_first 7 = .ok (.iconst 0, 1) := by decide +kernel
theorem dX10_first_8 : decode cX10_first 8 = .ok (.ireturn, 1) := by decide +kernel
theorem dX10_first_9 : decode cX10_first 9 = .ok (.aload_n 0, 1) := by decide +kernel
theorem dX10_first_10 : decode cX10_first 10 = .ok (.getfield 13, 3) := by decide +kernel
theorem dX10_first_13 : decode cX10_first 13 = .ok (.iload_n 1, 1) := by decide +kernel
theorem dX10_first_14 : decode cX10_first 14 = .ok (.iload_n 2, 1) := by decide +kernel
theorem dX10_first_15 : decode cX10_first 15 = .ok (.iastore, 1) := by decide +kernel
theorem dX10_first_16 : decode cX10_first 16 = .ok (.iconst 1, 1) := by decide +kernel
theorem dX10_first_17 : decode cX10_first 17 = .ok (.ireturn, 1) := by decide +kernel
theorem dX10_areGood_0 : decode cX10_areGood 0 = .ok (.iload_n 0, 1) := by decide +kernel
theorem dX10_areGood_1 : decode cX10_areGood 1 = .ok (.ifCond .lt 9, 3) := by decide +kernel
theorem dX10_areGood_4 : decode cX10_areGood 4 = .ok (.iload_n 0, 1) := by decide +kernel
theorem dX10_areGood_5 : decode cX10_areGood 5 = .ok (.bipush 12, 2) := by decide +kernel
theorem dX10_areGood_7 : decode cX10_areGood 7 = .ok (.if_icmp .le 5, 3) := by decide +kernel
theorem dX10_areGood_10 : decode cX10_areGood 10 = .ok (.iconst 0, 1) := by decide +kernel
theorem dX10_areGood_11 : decode cX10_areGood 11 = .ok (.ireturn, 1) := by decide +kernel
theorem dX10_areGood_12 : decode cX10_areGood 12 = .ok (.iload_n 0, 1) := by decide +kernel
theorem dX10_areGood_13 : decode cX10_areGood 13 = .ok (.iconst 4, 1) := by decide +kernel
theorem dX10_areGood_14 : decode cX10_areGood 14 = .ok (.if_icmp .ge 8, 3) := by decide +kernel
theorem dX10_areGood_17 : decode cX10_areGood 17 = .ok (.iload_n 1, 1) := by decide +kernel
theorem dX10_areGood_18 : decode cX10_areGood 18 = .ok (.invokestatic 172, 3) := by decide +kernel
theorem dX10_areGood_21 : decode cX10_areGood 21 = .ok (.ireturn, 1) := by decide +kernel
theorem dX10_areGood_22 : decode cX10_areGood 22 = .ok (.iload_n 0, 1) := by decide +kernel
theorem dX10_areGood_23 : decode cX10_areGood 23 = .ok (.iconst 4, 1) := by decide +kernel
theorem dX10_areGood_24 : decode cX10_areGood 24 = .ok (.if_icmp .ne 25, 3) := by decide +kernel
theorem dX10_areGood_27 : decode cX10_areGood 27 = .ok (.iload_n 1, 1) := by decide +kernel
theorem dX10_areGood_28 : decode cX10_areGood 28 = .ok (.invokestatic 179, 3) := by decide +kernel
theorem dX10_areGood_31 : decode cX10_areGood 31 = .ok (.ifCond .eq 16, 3) := by decide +kernel
theorem dX10_areGood_34 : decode cX10_areGood 34 = .ok (.iload_n 2, 1) := by decide +kernel
theorem dX10_areGood_35 : decode cX10_areGood 35 = .ok (.ifCond .eq 8, 3) := by decide +kernel
theorem dX10_areGood_38 : decode cX10_areGood 38 = .ok (.iload_n 2, 1) := by decide +kernel
theorem dX10_areGood_39 : decode cX10_areGood 39 = .ok (.iconst 1, 1) := by decide +kernel
theorem dX10_areGood_40 : decode cX10_areGood 40 = .ok (.if_icmp .ne 7, 3) := by decide +kernel
theorem dX10_areGood_43 : decode cX10_areGood 43 = .ok (.iconst 1, 1) := by decide +kernel
theorem dX10_areGood_44 : decode cX10_areGood 44 = .ok (.goto 4, 3) := by decide +kernel
theorem dX10_areGood_47 : decode cX10_areGood 47 = .ok (.iconst 0, 1) := by decide +kernel
theorem dX10_areGood_48 : decode cX10_areGood 48 = .ok (.ireturn, 1) := by decide +kernel
theorem dX10_areGood_49 : decode cX10_areGood 49 = .ok (.iload_n 0, 1) := by decide +kernel
theorem dX10_areGood_50 : decode cX10_areGood 50 = .ok (.iconst 5, 1) := by decide +kernel
theorem dX10_areGood_51 : decode cX10_areGood 51 = .ok (.if_icmp .ne 26, 3) := by decide +kernel
theorem dX10_areGood_54 : decode cX10_areGood 54 = .ok (.iload_n 1, 1) := by decide +kernel
theorem dX10_areGood_55 : decode cX10_areGood 55 = .ok (.invokestatic 179, 3) := by decide +kernel
theorem dX10_areGood_58 : decode cX10_areGood 58 = .ok (.ifCond .eq 17, 3) := by decide +kernel
theorem dX10_areGood_61 : decode cX10_areGood 61 = .ok (.iload_n 2, 1) := by decide +kernel
theorem dX10_areGood_62 : decode cX10_areGood 62 = .ok (.iconst 2, 1) := by decide +kernel
theorem dX10_areGood_63 : decode cX10_areGood 63 = .ok (.if_icmp .lt 12, 3) := by decide +kernel
theorem dX10_areGood_66 : decode cX10_areGood 66 = .ok (.iload_n 2, 1) := by decide +kernel
theorem dX10_areGood_67 : decode cX10_areGood 67 = .ok (.iconst 4, 1) := by decide +kernel
theorem dX10_areGood_68 : decode cX10_areGood 68 = .ok (.if_icmp .gt 7, 3) := by decide +kernel
theorem dX10_areGood_71 : decode cX10_areGood 71 = .ok (.iconst 1, 1) := by decide +kernel
theorem dX10_areGood_72 : decode cX10_areGood 72 = .ok (.goto 4, 3) := by decide +kernel
theorem dX10_areGood_75 : decode cX10_areGood 75 = .ok (.iconst 0, 1) := by decide +kernel
theorem dX10_areGood_76 : decode cX10_areGood 76 = .ok (.ireturn, 1) := by decide +kernel
theorem dX10_areGood_77 : decode cX10_areGood 77 = .ok (.iload_n 0, 1) := by decide +kernel
theorem dX10_areGood_78 : decode cX10_areGood 78 = .ok (.bipush 8, 2) := by decide +kernel
theorem dX10_areGood_80 : decode cX10_areGood 80 = .ok (.if_icmp .ne 18, 3) := by decide +kernel
theorem dX10_areGood_83 : decode cX10_areGood 83 = .ok (.iload_n 1, 1) := by decide +kernel
theorem dX10_areGood_84 : decode cX10_areGood 84 = .ok (.ifCond .lt 12, 3) := by decide +kernel
theorem dX10_areGood_87 : decode cX10_areGood 87 = .ok (.iload_n 1, 1) := by decide +kernel
theorem dX10_areGood_88 : decode cX10_areGood 88 = .ok (.iconst 3, 1) := by decide +kernel
theorem dX10_areGood_89 : decode cX10_areGood 89 = .ok (.if_icmp .gt 7, 3) := by decide +kernel
theorem dX10_areGood_92 : decode cX10_areGood 92 = .ok (.iconst 1, 1) := by decide +kernel
theorem dX10_areGood_93 : decode cX10_areGood 93 = .ok (.goto 4, 3) := by decide +kernel
theorem dX10_areGood_96 : decode cX10_areGood 96 = .ok (.iconst 0, 1) := by decide +kernel
theorem dX10_areGood_97 : decode cX10_areGood 97 = .ok (.ireturn, 1) := by decide +kernel
theorem dX10_areGood_98 : decode cX10_areGood 98 = .ok (.iload_n 0, 1) := by decide +kernel
theorem dX10_areGood_99 : decode cX10_areGood 99 = .ok (.bipush 9, 2) := by decide +kernel
theorem dX10_areGood_101 : decode cX10_areGood 101 = .ok (.if_icmp .ne 24, 3) := by decide +kernel
theorem dX10_areGood_104 : decode cX10_areGood 104 = .ok (.iload_n 1, 1) := by decide +kernel
theorem dX10_areGood_105 : decode cX10_areGood 105 = .ok (.ifCond .lt 24, 3) := by decide +kernel
theorem dX10_areGood_108 : decode cX10_areGood 108 = .ok (.iload_n 1, 1) := by decide +kernel
theorem dX10_areGood_109 : decode cX10_areGood 109 = .ok (.bipush 8, 2) := by decide +kernel
theorem dX10_areGood_111 : decode cX10_areGood 111 = .ok (.if_icmp .gt 18, 3) := by decide +kernel
theorem dX10_areGood_114 : decode cX10_areGood 114 = .ok (.iload_n 2, 1) := by decide +kernel
theorem dX10_areGood_115 : decode cX10_areGood 115 = .ok (.iload_n 3, 1) := by decide +kernel
theorem dX10_areGood_116 : decode cX10_areGood 116 = .ok (.if_icmp .le 13, 3) := by decide +kernel
theorem dX10_areGood_119 : decode cX10_areGood 119 = .ok (.iload_n 2, 1) := by decide +kernel
theorem dX10_areGood_120 : decode cX10_areGood 120 = .ok (.bipush 24, 2) := by decide +kernel
theorem dX10_areGood_122 : decode cX10_areGood 122 = .ok (.if_icmp .gt 7, 3) := by decide +kernel
theorem dX10_areGood_125 : decode cX10_areGood 125 = .ok (.iconst 1, 1) := by decide +kernel
theorem dX10_areGood_126 : decode cX10_areGood 126 = .ok (.goto 4, 3) := by decide +kernel
theorem dX10_areGood_129 : decode cX10_areGood 129 = .ok (.iconst 0, 1) := by decide +kernel
theorem dX10_areGood_130 : decode cX10_areGood 130 = .ok (.ireturn, 1) := by decide +kernel
theorem dX10_step_0 : decode cX10_step 0 = .ok (.aload_n 0, 1) := by decide +kernel
theorem dX10_step_1 : decode cX10_step 1 = .ok (.getfield 176, 3) := by decide +kernel
theorem dX10_step_4 : decode cX10_step 4 = .ok (.ifCond .gt 37, 3) := by decide +kernel
theorem dX10_step_7 : decode cX10_step 7 = .ok (.iload_n 1, 1) := by decide +kernel
theorem dX10_step_8 : decode cX10_step 8 = .ok (.invokestatic 179, 3) := by decide +kernel
theorem dX10_step_11 : decode cX10_step 11 = .ok (.ifCond .eq 30, 3) := by decide +kernel
theorem dX10_step_14 : decode cX10_step 14 = .ok (.aload_n 0, 1) := by decide +kernel
theorem dX10_step_15 : decode cX10_step 15 = .ok (.getfield 16, 3) := by decide +kernel
theorem dX10_step_18 : decode cX10_step 18 = .ok (.iload_n 1, 1) := by decide +kernel
theorem dX10_step_19 : decode cX10_step 19 = .ok (.iaload, 1) := by decide +kernel
theorem dX10_step_20 : decode cX10_step 20 = .ok (.bipush 24, 2) := by decide +kernel
theorem dX10_step_22 : decode cX10_step 22 = .ok (.if_icmp .eq 19, 3) := by decide +kernel
theorem dX10_step_25 : decode cX10_step 25 = .ok (.iload_n 2, 1) := by decide +kernel
theorem dX10_step_26 : decode cX10_step 26 = .ok (.iload_n 3, 1) := by decide +kernel
theorem dX10_step_27 : decode cX10_step 27 = .ok (.iload 4, 2) := by decide +kernel
theorem dX10_step_29 : decode cX10_step 29 = .ok (.aload_n 0, 1) := by decide +kernel
theorem dX10_step_30 : decode cX10_step 30 = .ok (.getfield 16, 3) := by decide +kernel
theorem dX10_step_33 : decode cX10_step 33 = .ok (.iload_n 1, 1) := by decide +kernel
theorem dX10_step_34 : decode cX10_step 34 = .ok (.iaload, 1) := by decide +kernel
theorem dX10_step_35 : decode cX10_step 35 = .ok (.invokestatic 182, 3) := by decide +kernel
theorem dX10_step_38 : decode cX10_step 38 = .ok (.ifCond .ne 5, 3) := by decide +kernel
theorem dX10_step_41 : decode cX10_step 41 = .ok (.iconst (-1), 1) := by decide +kernel
theorem dX10_step_42 : decode cX10_step 42 = .ok (.ireturn, 1) := by decide +kernel
theorem dX10_step_43 : decode cX10_step 43 = .ok (.bipush 24, 2) := by decide +kernel
theorem dX10_step_45 : decode cX10_step 45 = .ok (.iload_n 1, 1) := by decide +kernel
theorem dX10_step_46 : decode cX10_step 46 = .ok (.imul, 1) := by decide +kernel
theorem dX10_step_47 : decode cX10_step 47 = .ok (.aload_n 0, 1) := by decide +kernel
theorem dX10_step_48 : decode cX10_step 48 = .ok (.getfield 16, 3) := by decide +kernel
theorem dX10_step_51 : decode cX10_step 51 = .ok (.iload_n 1, 1) := by decide +kernel
theorem dX10_step_52 : decode cX10_step 52 = .ok (.iaload, 1) := by decide +kernel
theorem dX10_step_53 : decode cX10_step 53 = .ok (.iadd, 1) := by decide +kernel
theorem dX10_step_54 : decode cX10_step 54 = .ok (.istore 5, 2) := by decide +kernel
theorem dX10_step_56 : decode cX10_step 56 = .ok (.aload_n 0, 1) := by decide +kernel
theorem dX10_step_57 : decode cX10_step 57 = .ok (.getfield 19, 3) := by decide +kernel
theorem dX10_step_60 : decode cX10_step 60 = .ok (.iload 5, 2) := by decide +kernel
theorem dX10_step_62 : decode cX10_step 62 = .ok (.iload_n 2, 1) := by decide +kernel
theorem dX10_step_63 : decode cX10_step 63 = .ok (.iastore, 1) := by decide +kernel
theorem dX10_step_64 : decode cX10_step 64 = .ok (.aload_n 0, 1) := by decide +kernel
theorem dX10_step_65 : decode cX10_step 65 = .ok (.getfield 22, 3) := by decide +kernel
theorem dX10_step_68 : decode cX10_step 68 = .ok (.iload 5, 2) := by decide +kernel
theorem dX10_step_70 : decode cX10_step 70 = .ok (.iload_n 3, 1) := by decide +kernel
theorem dX10_step_71 : decode cX10_step 71 = .ok (.iastore, 1) := by decide +kernel
theorem dX10_step_72 : decode cX10_step 72 = .ok (.aload_n 0, 1) := by decide +kernel
theorem dX10_step_73 : decode cX10_step 73 = .ok (.getfield 25, 3) := by decide +kernel
theorem dX10_step_76 : decode cX10_step 76 = .ok (.iload 5, 2) := by decide +kernel
theorem dX10_step_78 : decode cX10_step 78 = .ok (.iload 4, 2) := by decide +kernel
theorem dX10_step_80 : decode cX10_step 80 = .ok (.iastore, 1) := by decide +kernel
theorem dX10_step_81 : decode cX10_step 81 = .ok (.aload_n 0, 1) := by decide +kernel
theorem dX10_step_82 : decode cX10_step 82 = .ok (.getfield 16, 3) := by decide +kernel
theorem dX10_step_85 : decode cX10_step 85 = .ok (.iload_n 1, 1) := by decide +kernel
theorem dX10_step_86 : decode cX10_step 86 = .ok (.aload_n 0, 1) := by decide +kernel
theorem dX10_step_87 : decode cX10_step 87 = .ok (.getfield 16, 3) := by decide +kernel
theorem dX10_step_90 : decode cX10_step 90 = .ok (.iload_n 1, 1) := by decide +kernel
theorem dX10_step_91 : decode cX10_step 91 = .ok (.iaload, 1) := by decide +kernel
theorem dX10_step_92 : decode cX10_step 92 = .ok (.iconst 1, 1) := by decide +kernel
theorem dX10_step_93 : decode cX10_step 93 = .ok (.iadd, 1) := by decide +kernel
theorem dX10_step_94 : decode cX10_step 94 = .ok (.iastore, 1) := by decide +kernel
theorem dX10_step_95 : decode cX10_step 95 = .ok (.aload_n 0, 1) := by decide +kernel
theorem dX10_step_96 : decode cX10_step 96 = .ok (.getfield 16, 3) := by decide +kernel
theorem dX10_step_99 : decode cX10_step 99 = .ok (.iload_n 1, 1) := by decide +kernel
theorem dX10_step_100 : decode cX10_step 100 = .ok (.iaload, 1) := by decide +kernel
theorem dX10_step_101 : decode cX10_step 101 = .ok (.ireturn, 1) := by decide +kernel
theorem dX10_handler_0 : decode cX10_handler 0 = .ok (.iload_n 1, 1) := by decide +kernel
theorem dX10_handler_1 : decode cX10_handler 1 = .ok (.ifCond .lt 23, 3) := by decide +kernel
theorem dX10_handler_4 : decode cX10_handler 4 = .ok (.iload_n 1, 1) := by decide +kernel
theorem dX10_handler_5 : decode cX10_handler 5 = .ok (.iconst 2, 1) := by decide +kernel
theorem dX10_handler_6 : decode cX10_handler 6 = .ok (.if_icmp .gt 18, 3) := by decide +kernel
theorem dX10_handler_9 : decode cX10_handler 9 = .ok (.iload_n 1, 1) := by decide +kernel
theorem dX10_handler_10 : decode cX10_handler 10 = .ok (.iconst 2, 1) := by decide +kernel
theorem dX10_handler_11 : decode cX10_handler 11 = .ok (.if_icmp .ge 15, 3) := by decide +kernel
theorem dX10_handler_14 : decode cX10_handler 14 = .ok (.iload_n 2, 1) := by decide +kernel
theorem dX10_handler_15 : decode cX10_handler 15 = .ok (.ifCond .lt 9, 3) := by decide +kernel
theorem dX10_handler_18 : decode cX10_handler 18 = .ok (.iload_n 2, 1) := by decide +kernel
theorem dX10_handler_19 : decode cX10_handler 19 = .ok (.bipush 7, 2) := by decide +kernel
theorem dX10_handler_21 : decode cX10_handler 21 = .ok (.if_icmp .le 5, 3) := by decide +kernel
theorem dX10_handler_24 : decode cX10_handler 24 = .ok (.iconst 0, 1) := by decide +kernel
theorem dX10_handler_25 : decode cX10_handler 25 = .ok (.ireturn, 1) := by decide +kernel
theorem dX10_handler_26 : decode cX10_handler 26 = .ok (.iload_n 1, 1) := by decide +kernel
theorem dX10_handler_27 : decode cX10_handler 27 = .ok (.iconst 2, 1) := by decide +kernel
theorem dX10_handler_28 : decode cX10_handler 28 = .ok (.if_icmp .ne 8, 3) := by decide +kernel
theorem dX10_handler_31 : decode cX10_handler 31 = .ok (.bipush 16, 2) := by decide +kernel
theorem dX10_handler_33 : decode cX10_handler 33 = .ok (.goto 9, 3) := by decide +kernel
theorem dX10_handler_36 : decode cX10_handler 36 = .ok (.bipush 8, 2) := by decide +kernel
theorem dX10_handler_38 : decode cX10_handler 38 = .ok (.iload_n 1, 1) := by decide +kernel
theorem dX10_handler_39 : decode cX10_handler 39 = .ok (.imul, 1) := by decide +kernel
theorem dX10_handler_40 : decode cX10_handler 40 = .ok (.iload_n 2, 1) := by decide +kernel
theorem dX10_handler_41 : decode cX10_handler 41 = .ok (.iadd, 1) := by decide +kernel
theorem dX10_handler_42 : decode cX10_handler 42 = .ok (.istore 5, 2) := by decide +kernel
theorem dX10_handler_44 : decode cX10_handler 44 = .ok (.aload_n 0, 1) := by decide +kernel
theorem dX10_handler_45 : decode cX10_handler 45 = .ok (.getfield 28, 3) := by decide +kernel
theorem dX10_handler_48 : decode cX10_handler 48 = .ok (.iload 5, 2) := by decide +kernel
theorem dX10_handler_50 : decode cX10_handler 50 = .ok (.iconst 1, 1) := by decide +kernel
theorem dX10_handler_51 : decode cX10_handler 51 = .ok (.bastore, 1) := by decide +kernel
theorem dX10_handler_52 : decode cX10_handler 52 = .ok (.aload_n 0, 1) := by decide +kernel
theorem dX10_handler_53 : decode cX10_handler 53 = .ok (.getfield 35, 3) := by decide +kernel
theorem dX10_handler_56 : decode cX10_handler 56 = .ok (.iload 5, 2) := by decide +kernel
theorem dX10_handler_58 : decode cX10_handler 58 = .ok (.iload_n 3, 1) := by decide +kernel
theorem dX10_handler_59 : decode cX10_handler 59 = .ok (.iastore, 1) := by decide +kernel
theorem dX10_handler_60 : decode cX10_handler 60 = .ok (.aload_n 0, 1) := by decide +kernel
theorem dX10_handler_61 : decode cX10_handler 61 = .ok (.getfield 32, 3) := by decide +kernel
theorem dX10_handler_64 : decode cX10_handler 64 = .ok (.iload 5, 2) := by decide +kernel
theorem dX10_handler_66 : decode cX10_handler 66 = .ok (.iload 4, 2) := by decide +kernel
theorem dX10_handler_68 : decode cX10_handler 68 = .ok (.bastore, 1) := by decide +kernel
theorem dX10_handler_69 : decode cX10_handler 69 = .ok (.iconst 1, 1) := by decide +kernel
theorem dX10_handler_70 : decode cX10_handler 70 = .ok (.ireturn, 1) := by decide +kernel
theorem dX10_threads_0 : decode cX10_threads 0 = .ok (.iload_n 1, 1) := by decide +kernel
theorem dX10_threads_1 : decode cX10_threads 1 = .ok (.iconst 1, 1) := by decide +kernel
theorem dX10_threads_2 : decode cX10_threads 2 = .ok (.if_icmp .lt 16, 3) := by decide +kernel
theorem dX10_threads_5 : decode cX10_threads 5 = .ok (.iload_n 1, 1) := by decide +kernel
theorem dX10_threads_6 : decode cX10_threads 6 = .ok (.bipush 6, 2) := by decide +kernel
theorem dX10_threads_8 : decode cX10_threads 8 = .ok (.if_icmp .gt 10, 3) := by decide +kernel
theorem dX10_threads_11 : decode cX10_threads 11 = .ok (.aload_n 0, 1) := by decide +kernel
theorem dX10_threads_12 : decode cX10_threads 12 = .ok (.getfield 176, 3) := by decide +kernel
theorem dX10_threads_15 : decode cX10_threads 15 = .ok (.ifCond .le 5, 3) := by decide +kernel
theorem dX10_threads_18 : decode cX10_threads 18 = .ok (.iconst 0, 1) := by decide +kernel
theorem dX10_threads_19 : decode cX10_threads 19 = .ok (.ireturn, 1) := by decide +kernel
theorem dX10_threads_20 : decode cX10_threads 20 = .ok (.aload_n 0, 1) := by decide +kernel
theorem dX10_threads_21 : decode cX10_threads 21 = .ok (.iload_n 1, 1) := by decide +kernel
theorem dX10_threads_22 : decode cX10_threads 22 = .ok (.putfield 38, 3) := by decide +kernel
theorem dX10_threads_25 : decode cX10_threads 25 = .ok (.iconst 1, 1) := by decide +kernel
theorem dX10_threads_26 : decode cX10_threads 26 = .ok (.ireturn, 1) := by decide +kernel
theorem dX10_anew_0 : decode cX10_anew 0 = .ok (.iconst 0, 1) := by decide +kernel
theorem dX10_anew_1 : decode cX10_anew 1 = .ok (.istore_n 2, 1) := by decide +kernel
theorem dX10_anew_2 : decode cX10_anew 2 = .ok (.iload_n 2, 1) := by decide +kernel
theorem dX10_anew_3 : decode cX10_anew 3 = .ok (.bipush 8, 2) := by decide +kernel
theorem dX10_anew_5 : decode cX10_anew 5 = .ok (.if_icmp .ge 20, 3) := by decide +kernel
theorem dX10_anew_8 : decode cX10_anew 8 = .ok (.iload_n 1, 1) := by decide +kernel
theorem dX10_anew_9 : decode cX10_anew 9 = .ok (.ifCond .eq 16, 3) := by decide +kernel
theorem dX10_anew_12 : decode cX10_anew 12 = .ok (.aload_n 0, 1) := by decide +kernel
theorem dX10_anew_13 : decode cX10_anew 13 = .ok (.getfield 16, 3) := by decide +kernel
theorem dX10_anew_16 : decode cX10_anew 16 = .ok (.iload_n 2, 1) := by decide +kernel
theorem dX10_anew_17 : decode cX10_anew 17 = .ok (.iconst 0, 1) := by decide +kernel
theorem dX10_anew_18 : decode cX10_anew 18 = .ok (.iastore, 1) := by decide +kernel
theorem dX10_anew_19 : decode cX10_anew 19 = .ok (.iinc 2 1, 3) := by decide +kernel
theorem dX10_anew_22 : decode cX10_anew 22 = .ok (.goto (-20), 3) := by decide +kernel
theorem dX10_anew_25 : decode cX10_anew 25 = .ok (.aload_n 0, 1) := by decide +kernel
theorem dX10_anew_26 : decode cX10_anew 26 = .ok (.iconst 0, 1) := by decide +kernel
theorem dX10_anew_27 : decode cX10_anew 27 = .ok (.putfield 176, 3) := by decide +kernel
theorem dX10_anew_30 : decode cX10_anew 30 = .ok (.aload_n 0, 1) := by decide +kernel
theorem dX10_anew_31 : decode cX10_anew 31 = .ok (.iconst 0, 1) := by decide +kernel
theorem dX10_anew_32 : decode cX10_anew 32 = .ok (.putfield 186, 3) := by decide +kernel
theorem dX10_anew_35 : decode cX10_anew 35 = .ok (.aload_n 0, 1) := by decide +kernel
theorem dX10_anew_36 : decode cX10_anew 36 = .ok (.iconst 0, 1) := by decide +kernel
theorem dX10_anew_37 : decode cX10_anew 37 = .ok (.putfield 189, 3) := by decide +kernel
theorem dX10_anew_40 : decode cX10_anew 40 = .ok (.aload_n 0, 1) := by decide +kernel
theorem dX10_anew_41 : decode cX10_anew 41 = .ok (.iconst 0, 1) := by decide +kernel
theorem dX10_anew_42 : decode cX10_anew 42 = .ok (.putfield 192, 3) := by decide +kernel
theorem dX10_anew_45 : decode cX10_anew 45 = .ok (.aload_n 0, 1) := by decide +kernel
theorem dX10_anew_46 : decode cX10_anew 46 = .ok (.iconst 0, 1) := by decide +kernel
theorem dX10_anew_47 : decode cX10_anew 47 = .ok (.putfield 195, 3) := by decide +kernel
theorem dX10_anew_50 : decode cX10_anew 50 = .ok (.aload_n 0, 1) := by decide +kernel
theorem dX10_anew_51 : decode cX10_anew 51 = .ok (.iconst 0, 1) := by decide +kernel
theorem dX10_anew_52 : decode cX10_anew 52 = .ok (.putfield 198, 3) := by decide +kernel
theorem dX10_anew_55 : decode cX10_anew 55 = .ok (.iconst 0, 1) := by decide +kernel
theorem dX10_anew_56 : decode cX10_anew 56 = .ok (.istore_n 2, 1) := by decide +kernel
theorem dX10_anew_57 : decode cX10_anew 57 = .ok (.iload_n 2, 1) := by decide +kernel
theorem dX10_anew_58 : decode cX10_anew 58 = .ok (.bipush 6, 2) := by decide +kernel
theorem dX10_anew_60 : decode cX10_anew 60 = .ok (.if_icmp .ge 16, 3) := by decide +kernel
theorem dX10_anew_63 : decode cX10_anew 63 = .ok (.aload_n 0, 1) := by decide +kernel
theorem dX10_anew_64 : decode cX10_anew 64 = .ok (.getfield 42, 3) := by decide +kernel
theorem dX10_anew_67 : decode cX10_anew 67 = .ok (.iload_n 2, 1) := by decide +kernel
theorem dX10_anew_68 : decode cX10_anew 68 = .ok (.iconst (-1), 1) := by decide +kernel
theorem dX10_anew_69 : decode cX10_anew 69 = .ok (.iastore, 1) := by decide +kernel
theorem dX10_anew_70 : decode cX10_anew 70 = .ok (.iinc 2 1, 3) := by decide +kernel
theorem dX10_anew_73 : decode cX10_anew 73 = .ok (.goto (-16), 3) := by decide +kernel
theorem dX10_anew_76 : decode cX10_anew 76 = .ok (.return_, 1) := by decide +kernel
theorem dX10_isRun_0 : decode cX10_isRun 0 = .ok (.iload_n 1, 1) := by decide +kernel
theorem dX10_isRun_1 : decode cX10_isRun 1 = .ok (.ifCond .lt 15, 3) := by decide +kernel
theorem dX10_isRun_4 : decode cX10_isRun 4 = .ok (.iload_n 1, 1) := by decide +kernel
theorem dX10_isRun_5 : decode cX10_isRun 5 = .ok (.aload_n 0, 1) := by decide +kernel
theorem dX10_isRun_6 : decode cX10_isRun 6 = .ok (.getfield 176, 3) := by decide +kernel
theorem dX10_isRun_9 : decode cX10_isRun 9 = .ok (.if_icmp .ge 7, 3) := by decide +kernel
theorem dX10_isRun_16 : decode cX10_isRun 16 = .ok (.iconst 0, 1) := by decide +kernel
theorem dX10_isRun_17 : decode cX10_isRun 17 = .ok (.ireturn, 1) := by decide +kernel
theorem dX10_comes_0 : decode cX10_comes 0 = .ok (.aload_n 0, 1) := by decide +kernel
theorem dX10_comes_1 : decode cX10_comes 1 = .ok (.getfield 176, 3) := by decide +kernel
theorem dX10_comes_4 : decode cX10_comes 4 = .ok (.istore_n 3, 1) := by decide +kernel
theorem dX10_comes_5 : decode cX10_comes 5 = .ok (.aload_n 0, 1) := by decide +kernel
theorem dX10_comes_6 : decode cX10_comes 6 = .ok (.iload_n 3, 1) := by decide +kernel
theorem dX10_comes_7 : decode cX10_comes 7 = .ok (.iconst 1, 1) := by decide +kernel
theorem dX10_comes_8 : decode cX10_comes 8 = .ok (.iadd, 1) := by decide +kernel
theorem dX10_comes_9 : decode cX10_comes 9 = .ok (.putfield 176, 3) := by decide +kernel
theorem dX10_comes_12 : decode cX10_comes 12 = .ok (.aload_n 0, 1) := by decide +kernel
theorem dX10_comes_13 : decode cX10_comes 13 = .ok (.getfield 45, 3) := by decide +kernel
theorem dX10_comes_16 : decode cX10_comes 16 = .ok (.iload_n 3, 1) := by decide +kernel
theorem dX10_comes_17 : decode cX10_comes 17 = .ok (.iconst 0, 1) := by decide +kernel
theorem dX10_comes_18 : decode cX10_comes 18 = .ok (.iastore, 1) := by decide +kernel
theorem dX10_comes_19 : decode cX10_comes 19 = .ok (.aload_n 0, 1) := by decide +kernel
theorem dX10_comes_20 : decode cX10_comes 20 = .ok (.getfield 48, 3) := by decide +kernel
theorem dX10_comes_23 : decode cX10_comes 23 = .ok (.iload_n 3, 1) := by decide +kernel
theorem dX10_comes_24 : decode cX10_comes 24 = .ok (.iload_n 1, 1) := by decide +kernel
theorem dX10_comes_25 : decode cX10_comes 25 = .ok (.iastore, 1) := by decide +kernel
theorem dX10_comes_26 : decode cX10_comes 26 = .ok (.aload_n 0, 1) := by decide +kernel
theorem dX10_comes_27 : decode cX10_comes 27 = .ok (.getfield 51, 3) := by decide +kernel
theorem dX10_comes_30 : decode cX10_comes 30 = .ok (.iload_n 3, 1) := by decide +kernel
theorem dX10_comes_31 : decode cX10_comes 31 = .ok (.iload_n 2, 1) := by decide +kernel
theorem dX10_comes_32 : decode cX10_comes 32 = .ok (.iastore, 1) := by decide +kernel
theorem dX10_comes_33 : decode cX10_comes 33 = .ok (.aload_n 0, 1) := by decide +kernel
theorem dX10_comes_34 : decode cX10_comes 34 = .ok (.getfield 54, 3) := by decide +kernel
theorem dX10_comes_37 : decode cX10_comes 37 = .ok (.iload_n 3, 1) := by decide +kernel
theorem dX10_comes_38 : decode cX10_comes 38 = .ok (.iload_n 2, 1) := by decide +kernel
theorem dX10_comes_39 : decode cX10_comes 39 = .ok (.iconst (-1), 1) := by decide +kernel
theorem dX10_comes_40 : decode cX10_comes 40 = .ok (.if_icmp .ne 7, 3) := by decide +kernel
theorem dX10_comes_43 : decode cX10_comes 43 = .ok (.iload_n 3, 1) := by decide +kernel
theorem dX10_comes_44 : decode cX10_comes 44 = .ok (.goto 9, 3) := by decide +kernel
theorem dX10_comes_53 : decode cX10_comes 53 = .ok (.iastore, 1) := by decide +kernel
theorem dX10_comes_54 : decode cX10_comes 54 = .ok (.aload_n 0, 1) := by decide +kernel
theorem dX10_comes_55 : decode cX10_comes 55 = .ok (.getfield 57, 3) := by decide +kernel
theorem dX10_comes_58 : decode cX10_comes 58 = .ok (.iload_n 3, 1) := by decide +kernel
theorem dX10_comes_59 : decode cX10_comes 59 = .ok (.iload_n 2, 1) := by decide +kernel
theorem dX10_comes_60 : decode cX10_comes 60 = .ok (.iconst (-1), 1) := by decide +kernel
theorem dX10_comes_61 : decode cX10_comes 61 = .ok (.if_icmp .ne 7, 3) := by decide +kernel
theorem dX10_comes_64 : decode cX10_comes 64 = .ok (.iconst 0, 1) := by decide +kernel
theorem dX10_comes_65 : decode cX10_comes 65 = .ok (.goto 11, 3) := by decide +kernel
theorem dX10_comes_76 : decode cX10_comes 76 = .ok (.iastore, 1) := by decide +kernel
theorem dX10_comes_77 : decode cX10_comes 77 = .ok (.aload_n 0, 1) := by decide +kernel
theorem dX10_comes_78 : decode cX10_comes 78 = .ok (.getfield 60, 3) := by decide +kernel
theorem dX10_comes_81 : decode cX10_comes 81 = .ok (.iload_n 3, 1) := by decide +kernel
theorem dX10_comes_82 : decode cX10_comes 82 = .ok (.iconst (-1), 1) := by decide +kernel
theorem dX10_comes_83 : decode cX10_comes 83 = .ok (.iastore, 1) := by decide +kernel
theorem dX10_comes_84 : decode cX10_comes 84 = .ok (.aload_n 0, 1) := by decide +kernel
theorem dX10_comes_85 : decode cX10_comes 85 = .ok (.getfield 63, 3) := by decide +kernel
theorem dX10_comes_88 : decode cX10_comes 88 = .ok (.iload_n 3, 1) := by decide +kernel
theorem dX10_comes_89 : decode cX10_comes 89 = .ok (.iconst 0, 1) := by decide +kernel
theorem dX10_comes_90 : decode cX10_comes 90 = .ok (.iastore, 1) := by decide +kernel
theorem dX10_comes_91 : decode cX10_comes 91 = .ok (.aload_n 0, 1) := by decide +kernel
theorem dX10_comes_92 : decode cX10_comes 92 = .ok (.getfield 66, 3) := by decide +kernel
theorem dX10_comes_95 : decode cX10_comes 95 = .ok (.iload_n 3, 1) := by decide +kernel
theorem dX10_comes_96 : decode cX10_comes 96 = .ok (.iconst 0, 1) := by decide +kernel
theorem dX10_comes_97 : decode cX10_comes 97 = .ok (.iastore, 1) := by decide +kernel
theorem dX10_comes_98 : decode cX10_comes 98 = .ok (.aload_n 0, 1) := by decide +kernel
theorem dX10_comes_99 : decode cX10_comes 99 = .ok (.getfield 69, 3) := by decide +kernel
theorem dX10_comes_102 : decode cX10_comes 102 = .ok (.iload_n 3, 1) := by decide +kernel
theorem dX10_comes_103 : decode cX10_comes 103 = .ok (.iload_n 2, 1) := by decide +kernel
theorem dX10_comes_104 : decode cX10_comes 104 = .ok (.iconst (-1), 1) := by decide +kernel
theorem dX10_comes_105 : decode cX10_comes 105 = .ok (.if_icmp .ne 7, 3) := by decide +kernel
theorem dX10_comes_108 : decode cX10_comes 108 = .ok (.iconst (-1), 1) := by decide +kernel
theorem dX10_comes_109 : decode cX10_comes 109 = .ok (.goto 9, 3) := by decide +kernel
theorem dX10_comes_118 : decode cX10_comes 118 = .ok (.iastore, 1) := by decide +kernel
theorem dX10_comes_119 : decode cX10_comes 119 = .ok (.aload_n 0, 1) := by decide +kernel
theorem dX10_comes_120 : decode cX10_comes 120 = .ok (.getfield 72, 3) := by decide +kernel
theorem dX10_comes_123 : decode cX10_comes 123 = .ok (.iload_n 3, 1) := by decide +kernel
theorem dX10_comes_124 : decode cX10_comes 124 = .ok (.iconst (-1), 1) := by decide +kernel
theorem dX10_comes_125 : decode cX10_comes 125 = .ok (.iastore, 1) := by decide +kernel
theorem dX10_comes_126 : decode cX10_comes 126 = .ok (.aload_n 0, 1) := by decide +kernel
theorem dX10_comes_127 : decode cX10_comes 127 = .ok (.getfield 75, 3) := by decide +kernel
theorem dX10_comes_130 : decode cX10_comes 130 = .ok (.iload_n 3, 1) := by decide +kernel
theorem dX10_comes_131 : decode cX10_comes 131 = .ok (.iconst 0, 1) := by decide +kernel
theorem dX10_comes_132 : decode cX10_comes 132 = .ok (.iastore, 1) := by decide +kernel
theorem dX10_comes_133 : decode cX10_comes 133 = .ok (.aload_n 0, 1) := by decide +kernel
theorem dX10_comes_134 : decode cX10_comes 134 = .ok (.getfield 78, 3) := by decide +kernel
theorem dX10_comes_137 : decode cX10_comes 137 = .ok (.iload_n 3, 1) := by decide +kernel
theorem dX10_comes_138 : decode cX10_comes 138 = .ok (.iconst 0, 1) := by decide +kernel
theorem dX10_comes_139 : decode cX10_comes 139 = .ok (.bastore, 1) := by decide +kernel
theorem dX10_comes_140 : decode cX10_comes 140 = .ok (.aload_n 0, 1) := by decide +kernel
theorem dX10_comes_141 : decode cX10_comes 141 = .ok (.getfield 81, 3) := by decide +kernel
theorem dX10_comes_144 : decode cX10_comes 144 = .ok (.iload_n 3, 1) := by decide +kernel
theorem dX10_comes_145 : decode cX10_comes 145 = .ok (.iconst 0, 1) := by decide +kernel
theorem dX10_comes_146 : decode cX10_comes 146 = .ok (.bastore, 1) := by decide +kernel
theorem dX10_comes_147 : decode cX10_comes 147 = .ok (.aload_n 0, 1) := by decide +kernel
theorem dX10_comes_148 : decode cX10_comes 148 = .ok (.getfield 84, 3) := by decide +kernel
theorem dX10_comes_151 : decode cX10_comes 151 = .ok (.iload_n 3, 1) := by decide +kernel
theorem dX10_comes_152 : decode cX10_comes 152 = .ok (.iconst 0, 1) := by decide +kernel
theorem dX10_comes_153 : decode cX10_comes 153 = .ok (.bastore, 1) := by decide +kernel
theorem dX10_comes_154 : decode cX10_comes 154 = .ok (.aload_n 0, 1) := by decide +kernel
theorem dX10_comes_155 : decode cX10_comes 155 = .ok (.getfield 87, 3) := by decide +kernel
theorem dX10_comes_158 : decode cX10_comes 158 = .ok (.iload_n 3, 1) := by decide +kernel
theorem dX10_comes_159 : decode cX10_comes 159 = .ok (.iconst 0, 1) := by decide +kernel
theorem dX10_comes_160 : decode cX10_comes 160 = .ok (.bastore, 1) := by decide +kernel
theorem dX10_comes_161 : decode cX10_comes 161 = .ok (.aload_n 0, 1) := by decide +kernel
theorem dX10_comes_162 : decode cX10_comes 162 = .ok (.getfield 102, 3) := by decide +kernel
theorem dX10_comes_165 : decode cX10_comes 165 = .ok (.iload_n 3, 1) := by decide +kernel
theorem dX10_comes_166 : decode cX10_comes 166 = .ok (.iconst 0, 1) := by decide +kernel
theorem dX10_comes_167 : decode cX10_comes 167 = .ok (.bastore, 1) := by decide +kernel
theorem dX10_comes_168 : decode cX10_comes 168 = .ok (.aload_n 0, 1) := by decide +kernel
theorem dX10_comes_169 : decode cX10_comes 169 = .ok (.getfield 114, 3) := by decide +kernel
theorem dX10_comes_172 : decode cX10_comes 172 = .ok (.iload_n 3, 1) := by decide +kernel
theorem dX10_comes_173 : decode cX10_comes 173 = .ok (.iconst 0, 1) := by decide +kernel
theorem dX10_comes_174 : decode cX10_comes 174 = .ok (.iastore, 1) := by decide +kernel
theorem dX10_comes_175 : decode cX10_comes 175 = .ok (.aload_n 0, 1) := by decide +kernel
theorem dX10_comes_176 : decode cX10_comes 176 = .ok (.getfield 123, 3) := by decide +kernel
theorem dX10_comes_179 : decode cX10_comes 179 = .ok (.iload_n 3, 1) := by decide +kernel
theorem dX10_comes_180 : decode cX10_comes 180 = .ok (.iconst 0, 1) := by decide +kernel
theorem dX10_comes_181 : decode cX10_comes 181 = .ok (.iastore, 1) := by decide +kernel
theorem dX10_comes_182 : decode cX10_comes 182 = .ok (.iconst 0, 1) := by decide +kernel
theorem dX10_comes_183 : decode cX10_comes 183 = .ok (.istore 4, 2) := by decide +kernel
theorem dX10_comes_185 : decode cX10_comes 185 = .ok (.iload 4, 2) := by decide +kernel
theorem dX10_comes_187 : decode cX10_comes 187 = .ok (.bipush 8, 2) := by decide +kernel
theorem dX10_comes_189 : decode cX10_comes 189 = .ok (.if_icmp .ge 56, 3) := by decide +kernel
theorem dX10_comes_192 : decode cX10_comes 192 = .ok (.aload_n 0, 1) := by decide +kernel
theorem dX10_comes_193 : decode cX10_comes 193 = .ok (.getfield 111, 3) := by decide +kernel
theorem dX10_comes_196 : decode cX10_comes 196 = .ok (.bipush 8, 2) := by decide +kernel
theorem dX10_comes_198 : decode cX10_comes 198 = .ok (.iload_n 3, 1) := by decide +kernel
theorem dX10_comes_199 : decode cX10_comes 199 = .ok (.imul, 1) := by decide +kernel
theorem dX10_comes_200 : decode cX10_comes 200 = .ok (.iload 4, 2) := by decide +kernel
theorem dX10_comes_202 : decode cX10_comes 202 = .ok (.iadd, 1) := by decide +kernel
theorem dX10_comes_203 : decode cX10_comes 203 = .ok (.iconst 0, 1) := by decide +kernel
theorem dX10_comes_204 : decode cX10_comes 204 = .ok (.bastore, 1) := by decide +kernel
theorem dX10_comes_205 : decode cX10_comes 205 = .ok (.aload_n 0, 1) := by decide +kernel
theorem dX10_comes_206 : decode cX10_comes 206 = .ok (.getfield 105, 3) := by decide +kernel
theorem dX10_comes_209 : decode cX10_comes 209 = .ok (.bipush 8, 2) := by decide +kernel
theorem dX10_comes_211 : decode cX10_comes 211 = .ok (.iload_n 3, 1) := by decide +kernel
theorem dX10_comes_212 : decode cX10_comes 212 = .ok (.imul, 1) := by decide +kernel
theorem dX10_comes_213 : decode cX10_comes 213 = .ok (.iload 4, 2) := by decide +kernel
theorem dX10_comes_215 : decode cX10_comes 215 = .ok (.iadd, 1) := by decide +kernel
theorem dX10_comes_216 : decode cX10_comes 216 = .ok (.iload_n 2, 1) := by decide +kernel
theorem dX10_comes_217 : decode cX10_comes 217 = .ok (.iconst (-1), 1) := by decide +kernel
theorem dX10_comes_218 : decode cX10_comes 218 = .ok (.if_icmp .ne 13, 3) := by decide +kernel
theorem dX10_comes_221 : decode cX10_comes 221 = .ok (.aload_n 0, 1) := by decide +kernel
theorem dX10_comes_222 : decode cX10_comes 222 = .ok (.getfield 13, 3) := by decide +kernel
theorem dX10_comes_225 : decode cX10_comes 225 = .ok (.iload 4, 2) := by decide +kernel
theorem dX10_comes_227 : decode cX10_comes 227 = .ok (.iaload, 1) := by decide +kernel
theorem dX10_comes_228 : decode cX10_comes 228 = .ok (.goto 10, 3) := by decide +kernel
theorem dX10_comes_238 : decode cX10_comes 238 = .ok (.iastore, 1) := by decide +kernel
theorem dX10_comes_239 : decode cX10_comes 239 = .ok (.iinc 4 1, 3) := by decide +kernel
theorem dX10_comes_242 : decode cX10_comes 242 = .ok (.goto (-57), 3) := by decide +kernel
theorem dX10_comes_245 : decode cX10_comes 245 = .ok (.iload_n 3, 1) := by decide +kernel
theorem dX10_comes_246 : decode cX10_comes 246 = .ok (.ireturn, 1) := by decide +kernel
theorem dX10_submit_0 : decode cX10_submit 0 = .ok (.iload_n 1, 1) := by decide +kernel
theorem dX10_submit_1 : decode cX10_submit 1 = .ok (.invokestatic 179, 3) := by decide +kernel
theorem dX10_submit_4 : decode cX10_submit 4 = .ok (.ifCond .eq 13, 3) := by decide +kernel
theorem dX10_submit_7 : decode cX10_submit 7 = .ok (.aload_n 0, 1) := by decide +kernel
theorem dX10_submit_8 : decode cX10_submit 8 = .ok (.getfield 176, 3) := by decide +kernel
theorem dX10_submit_11 : decode cX10_submit 11 = .ok (.sipush 200, 3) := by decide +kernel
theorem dX10_submit_14 : decode cX10_submit 14 = .ok (.if_icmp .ne 5, 3) := by decide +kernel
theorem dX10_submit_17 : decode cX10_submit 17 = .ok (.iconst (-1), 1) := by decide +kernel
theorem dX10_submit_18 : decode cX10_submit 18 = .ok (.ireturn, 1) := by decide +kernel
theorem dX10_submit_19 : decode cX10_submit 19 = .ok (.aload_n 0, 1) := by decide +kernel
theorem dX10_submit_20 : decode cX10_submit 20 = .ok (.iload_n 1, 1) := by decide +kernel
theorem dX10_submit_21 : decode cX10_submit 21 = .ok (.iconst (-1), 1) := by decide +kernel
theorem dX10_submit_22 : decode cX10_submit 22 = .ok (.invokevirtual 205, 3) := by decide +kernel
theorem dX10_submit_25 : decode cX10_submit 25 = .ok (.ireturn, 1) := by decide +kernel
theorem dX10_isLeft_0 : decode cX10_isLeft 0 = .ok (.iconst 0, 1) := by decide +kernel
theorem dX10_isLeft_1 : decode cX10_isLeft 1 = .ok (.istore_n 1, 1) := by decide +kernel
theorem dX10_isLeft_2 : decode cX10_isLeft 2 = .ok (.iconst 0, 1) := by decide +kernel
theorem dX10_isLeft_3 : decode cX10_isLeft 3 = .ok (.istore_n 2, 1) := by decide +kernel
theorem dX10_isLeft_4 : decode cX10_isLeft 4 = .ok (.iload_n 2, 1) := by decide +kernel
theorem dX10_isLeft_5 : decode cX10_isLeft 5 = .ok (.aload_n 0, 1) := by decide +kernel
theorem dX10_isLeft_6 : decode cX10_isLeft 6 = .ok (.getfield 176, 3) := by decide +kernel
theorem dX10_isLeft_9 : decode cX10_isLeft 9 = .ok (.if_icmp .ge 27, 3) := by decide +kernel
theorem dX10_isLeft_36 : decode cX10_isLeft 36 = .ok (.iload_n 1, 1) := by decide +kernel
theorem dX10_isLeft_37 : decode cX10_isLeft 37 = .ok (.ireturn, 1) := by decide +kernel
theorem dX10_beat_0 : decode cX10_beat 0 = .ok (.iload_n 1, 1) := by decide +kernel
theorem dX10_beat_1 : decode cX10_beat 1 = .ok (.iconst 1, 1) := by decide +kernel
theorem dX10_beat_2 : decode cX10_beat 2 = .ok (.if_icmp .lt 9, 3) := by decide +kernel
theorem dX10_beat_5 : decode cX10_beat 5 = .ok (.iload_n 1, 1) := by decide +kernel
theorem dX10_beat_6 : decode cX10_beat 6 = .ok (.bipush 100, 2) := by decide +kernel
theorem dX10_beat_8 : decode cX10_beat 8 = .ok (.if_icmp .le 5, 3) := by decide +kernel
theorem dX10_beat_11 : decode cX10_beat 11 = .ok (.iconst (-1), 1) := by decide +kernel
theorem dX10_beat_12 : decode cX10_beat 12 = .ok (.ireturn, 1) := by decide +kernel
theorem dX10_beat_13 : decode cX10_beat 13 = .ok (.iconst 0, 1) := by decide +kernel
theorem dX10_beat_14 : decode cX10_beat 14 = .ok (.istore_n 2, 1) := by decide +kernel
theorem dX10_beat_15 : decode cX10_beat 15 = .ok (.iload_n 2, 1) := by decide +kernel
theorem dX10_beat_16 : decode cX10_beat 16 = .ok (.iload_n 1, 1) := by decide +kernel
theorem dX10_beat_17 : decode cX10_beat 17 = .ok (.if_icmp .ge 21, 3) := by decide +kernel
theorem dX10_beat_20 : decode cX10_beat 20 = .ok (.aload_n 0, 1) := by decide +kernel
theorem dX10_beat_21 : decode cX10_beat 21 = .ok (.invokevirtual 269, 3) := by decide +kernel
theorem dX10_beat_24 : decode cX10_beat 24 = .ok (.ifCond .eq 14, 3) := by decide +kernel
theorem dX10_beat_38 : decode cX10_beat 38 = .ok (.iload_n 2, 1) := by decide +kernel
theorem dX10_beat_39 : decode cX10_beat 39 = .ok (.ireturn, 1) := by decide +kernel
theorem dX10_interrupt_0 : decode cX10_interrupt 0 = .ok (.aload_n 0, 1) := by decide +kernel
theorem dX10_interrupt_1 : decode cX10_interrupt 1 = .ok (.iload_n 1, 1) := by decide +kernel
theorem dX10_interrupt_2 : decode cX10_interrupt 2 = .ok (.invokevirtual 276, 3) := by decide +kernel
theorem dX10_interrupt_5 : decode cX10_interrupt 5 = .ok (.ifCond .eq 20, 3) := by decide +kernel
theorem dX10_interrupt_25 : decode cX10_interrupt 25 = .ok (.iconst 0, 1) := by decide +kernel
theorem dX10_interrupt_26 : decode cX10_interrupt 26 = .ok (.ireturn, 1) := by decide +kernel
theorem dX10_run_0 : decode cX10_run 0 = .ok (.aload_n 0, 1) := by decide +kernel
theorem dX10_run_1 : decode cX10_run 1 = .ok (.iload_n 1, 1) := by decide +kernel
theorem dX10_run_2 : decode cX10_run 2 = .ok (.invokevirtual 276, 3) := by decide +kernel
theorem dX10_run_5 : decode cX10_run 5 = .ok (.ifCond .ne 5, 3) := by decide +kernel
theorem dX10_run_8 : decode cX10_run 8 = .ok (.iconst (-1), 1) := by decide +kernel
theorem dX10_run_9 : decode cX10_run 9 = .ok (.ireturn, 1) := by decide +kernel
theorem dX10_failure_0 : decode cX10_failure 0 = .ok (.aload_n 0, 1) := by decide +kernel
theorem dX10_failure_1 : decode cX10_failure 1 = .ok (.iload_n 1, 1) := by decide +kernel
theorem dX10_failure_2 : decode cX10_failure 2 = .ok (.invokevirtual 276, 3) := by decide +kernel
theorem dX10_failure_5 : decode cX10_failure 5 = .ok (.ifCond .eq 13, 3) := by decide +kernel
theorem dX10_failure_18 : decode cX10_failure 18 = .ok (.iconst (-1), 1) := by decide +kernel
theorem dX10_failure_19 : decode cX10_failure 19 = .ok (.ireturn, 1) := by decide +kernel
theorem dX10_trace_0 : decode cX10_trace 0 = .ok (.aload_n 0, 1) := by decide +kernel
theorem dX10_trace_1 : decode cX10_trace 1 = .ok (.iload_n 1, 1) := by decide +kernel
theorem dX10_trace_2 : decode cX10_trace 2 = .ok (.invokevirtual 276, 3) := by decide +kernel
theorem dX10_trace_5 : decode cX10_trace 5 = .ok (.ifCond .eq 17, 3) := by decide +kernel
theorem dX10_trace_22 : decode cX10_trace 22 = .ok (.iconst (-1), 1) := by decide +kernel
theorem dX10_trace_23 : decode cX10_trace 23 = .ok (.ireturn, 1) := by decide +kernel
theorem dX10_child_0 : decode cX10_child 0 = .ok (.aload_n 0, 1) := by decide +kernel
theorem dX10_child_1 : decode cX10_child 1 = .ok (.iload_n 1, 1) := by decide +kernel
theorem dX10_child_2 : decode cX10_child 2 = .ok (.invokevirtual 276, 3) := by decide +kernel
theorem dX10_child_5 : decode cX10_child 5 = .ok (.ifCond .eq 7, 3) := by decide +kernel
theorem dX10_child_12 : decode cX10_child 12 = .ok (.iconst (-1), 1) := by decide +kernel
theorem dX10_child_13 : decode cX10_child 13 = .ok (.ireturn, 1) := by decide +kernel
theorem dX10_value_0 : decode cX10_value 0 = .ok (.aload_n 0, 1) := by decide +kernel
theorem dX10_value_1 : decode cX10_value 1 = .ok (.iload_n 1, 1) := by decide +kernel
theorem dX10_value_2 : decode cX10_value 2 = .ok (.invokevirtual 276, 3) := by decide +kernel
theorem dX10_value_5 : decode cX10_value 5 = .ok (.ifCond .eq 19, 3) := by decide +kernel
theorem dX10_value_24 : decode cX10_value 24 = .ok (.iconst 0, 1) := by decide +kernel
theorem dX10_value_25 : decode cX10_value 25 = .ok (.ireturn, 1) := by decide +kernel
theorem dX10_seen_0 : decode cX10_seen 0 = .ok (.iload_n 1, 1) := by decide +kernel
theorem dX10_seen_1 : decode cX10_seen 1 = .ok (.ifCond .lt 18, 3) := by decide +kernel
theorem dX10_seen_4 : decode cX10_seen 4 = .ok (.iload_n 1, 1) := by decide +kernel
theorem dX10_seen_5 : decode cX10_seen 5 = .ok (.aload_n 0, 1) := by decide +kernel
theorem dX10_seen_6 : decode cX10_seen 6 = .ok (.getfield 189, 3) := by decide +kernel
theorem dX10_seen_9 : decode cX10_seen 9 = .ok (.if_icmp .ge 10, 3) := by decide +kernel
theorem dX10_seen_19 : decode cX10_seen 19 = .ok (.iconst (-1), 1) := by decide +kernel
theorem dX10_seen_20 : decode cX10_seen 20 = .ok (.ireturn, 1) := by decide +kernel
theorem dX10_remark_0 : decode cX10_remark 0 = .ok (.iconst 0, 1) := by decide +kernel
theorem dX10_remark_1 : decode cX10_remark 1 = .ok (.istore_n 3, 1) := by decide +kernel
theorem dX10_remark_2 : decode cX10_remark 2 = .ok (.iconst 0, 1) := by decide +kernel
theorem dX10_remark_3 : decode cX10_remark 3 = .ok (.istore 4, 2) := by decide +kernel
theorem dX10_remark_5 : decode cX10_remark 5 = .ok (.iload 4, 2) := by decide +kernel
theorem dX10_remark_7 : decode cX10_remark 7 = .ok (.aload_n 0, 1) := by decide +kernel
theorem dX10_remark_8 : decode cX10_remark 8 = .ok (.getfield 192, 3) := by decide +kernel
theorem dX10_remark_11 : decode cX10_remark 11 = .ok (.if_icmp .ge 44, 3) := by decide +kernel
theorem dX10_remark_55 : decode cX10_remark 55 = .ok (.iconst 0, 1) := by decide +kernel
theorem dX10_remark_56 : decode cX10_remark 56 = .ok (.ireturn, 1) := by decide +kernel
theorem dX10_handled_0 : decode cX10_handled 0 = .ok (.iload_n 1, 1) := by decide +kernel
theorem dX10_handled_1 : decode cX10_handled 1 = .ok (.ifCond .lt 11, 3) := by decide +kernel
theorem dX10_handled_4 : decode cX10_handled 4 = .ok (.iload_n 1, 1) := by decide +kernel
theorem dX10_handled_5 : decode cX10_handled 5 = .ok (.aload_n 0, 1) := by decide +kernel
theorem dX10_handled_6 : decode cX10_handled 6 = .ok (.getfield 195, 3) := by decide +kernel
theorem dX10_handled_9 : decode cX10_handled 9 = .ok (.if_icmp .lt 5, 3) := by decide +kernel
theorem dX10_handled_12 : decode cX10_handled 12 = .ok (.iconst (-1), 1) := by decide +kernel
theorem dX10_handled_13 : decode cX10_handled 13 = .ok (.ireturn, 1) := by decide +kernel
theorem dX10_order_0 : decode cX10_order 0 = .ok (.iload_n 1, 1) := by decide +kernel
theorem dX10_order_1 : decode cX10_order 1 = .ok (.ifCond .lt 27, 3) := by decide +kernel
theorem dX10_order_4 : decode cX10_order 4 = .ok (.iload_n 1, 1) := by decide +kernel
theorem dX10_order_5 : decode cX10_order 5 = .ok (.aload_n 0, 1) := by decide +kernel
theorem dX10_order_6 : decode cX10_order 6 = .ok (.getfield 198, 3) := by decide +kernel
theorem dX10_order_9 : decode cX10_order 9 = .ok (.if_icmp .ge 19, 3) := by decide +kernel
theorem dX10_order_28 : decode cX10_order 28 = .ok (.iconst (-1), 1) := by decide +kernel
theorem dX10_order_29 : decode cX10_order 29 = .ok (.ireturn, 1) := by decide +kernel
theorem dX10_inState_0 : decode cX10_inState 0 = .ok (.iconst 0, 1) := by decide +kernel
theorem dX10_inState_1 : decode cX10_inState 1 = .ok (.istore_n 2, 1) := by decide +kernel
theorem dX10_inState_2 : decode cX10_inState 2 = .ok (.iconst 0, 1) := by decide +kernel
theorem dX10_inState_3 : decode cX10_inState 3 = .ok (.istore_n 3, 1) := by decide +kernel
theorem dX10_inState_4 : decode cX10_inState 4 = .ok (.iload_n 3, 1) := by decide +kernel
theorem dX10_inState_5 : decode cX10_inState 5 = .ok (.aload_n 0, 1) := by decide +kernel
theorem dX10_inState_6 : decode cX10_inState 6 = .ok (.getfield 176, 3) := by decide +kernel
theorem dX10_inState_9 : decode cX10_inState 9 = .ok (.if_icmp .ge 27, 3) := by decide +kernel
theorem dX10_inState_36 : decode cX10_inState 36 = .ok (.iload_n 2, 1) := by decide +kernel
theorem dX10_inState_37 : decode cX10_inState 37 = .ok (.ireturn, 1) := by decide +kernel
theorem dX10_count_0 : decode cX10_count 0 = .ok (.iload_n 1, 1) := by decide +kernel
theorem dX10_count_1 : decode cX10_count 1 = .ok (.tableswitch 119 0 10 #[59, 64, 69, 74, 80, 86, 92, 98, 104, 109, 114], 59) := by decide +kernel
theorem dX10_count_60 : decode cX10_count 60 = .ok (.aload_n 0, 1) := by decide +kernel
theorem dX10_count_61 : decode cX10_count 61 = .ok (.getfield 176, 3) := by decide +kernel
theorem dX10_count_64 : decode cX10_count 64 = .ok (.ireturn, 1) := by decide +kernel
theorem dX10_count_65 : decode cX10_count 65 = .ok (.aload_n 0, 1) := by decide +kernel
theorem dX10_count_66 : decode cX10_count 66 = .ok (.getfield 186, 3) := by decide +kernel
theorem dX10_count_69 : decode cX10_count 69 = .ok (.ireturn, 1) := by decide +kernel
theorem dX10_count_70 : decode cX10_count 70 = .ok (.aload_n 0, 1) := by decide +kernel
theorem dX10_count_71 : decode cX10_count 71 = .ok (.getfield 38, 3) := by decide +kernel
theorem dX10_count_74 : decode cX10_count 74 = .ok (.ireturn, 1) := by decide +kernel
theorem dX10_count_75 : decode cX10_count 75 = .ok (.aload_n 0, 1) := by decide +kernel
theorem dX10_count_76 : decode cX10_count 76 = .ok (.iconst 0, 1) := by decide +kernel
theorem dX10_count_77 : decode cX10_count 77 = .ok (.invokevirtual 283, 3) := by decide +kernel
theorem dX10_count_80 : decode cX10_count 80 = .ok (.ireturn, 1) := by decide +kernel
theorem dX10_count_81 : decode cX10_count 81 = .ok (.aload_n 0, 1) := by decide +kernel
theorem dX10_count_82 : decode cX10_count 82 = .ok (.iconst 1, 1) := by decide +kernel
theorem dX10_count_83 : decode cX10_count 83 = .ok (.invokevirtual 283, 3) := by decide +kernel
theorem dX10_count_86 : decode cX10_count 86 = .ok (.ireturn, 1) := by decide +kernel
theorem dX10_count_87 : decode cX10_count 87 = .ok (.aload_n 0, 1) := by decide +kernel
theorem dX10_count_88 : decode cX10_count 88 = .ok (.iconst 2, 1) := by decide +kernel
theorem dX10_count_89 : decode cX10_count 89 = .ok (.invokevirtual 283, 3) := by decide +kernel
theorem dX10_count_92 : decode cX10_count 92 = .ok (.ireturn, 1) := by decide +kernel
theorem dX10_count_93 : decode cX10_count 93 = .ok (.aload_n 0, 1) := by decide +kernel
theorem dX10_count_94 : decode cX10_count 94 = .ok (.iconst 3, 1) := by decide +kernel
theorem dX10_count_95 : decode cX10_count 95 = .ok (.invokevirtual 283, 3) := by decide +kernel
theorem dX10_count_98 : decode cX10_count 98 = .ok (.ireturn, 1) := by decide +kernel
theorem dX10_count_99 : decode cX10_count 99 = .ok (.aload_n 0, 1) := by decide +kernel
theorem dX10_count_100 : decode cX10_count 100 = .ok (.iconst 4, 1) := by decide +kernel
theorem dX10_count_101 : decode cX10_count 101 = .ok (.invokevirtual 283, 3) := by decide +kernel
theorem dX10_count_104 : decode cX10_count 104 = .ok (.ireturn, 1) := by decide +kernel
theorem dX10_count_105 : decode cX10_count 105 = .ok (.aload_n 0, 1) := by decide +kernel
theorem dX10_count_106 : decode cX10_count 106 = .ok (.getfield 189, 3) := by decide +kernel
theorem dX10_count_109 : decode cX10_count 109 = .ok (.ireturn, 1) := by decide +kernel
theorem dX10_count_110 : decode cX10_count 110 = .ok (.aload_n 0, 1) := by decide +kernel
theorem dX10_count_111 : decode cX10_count 111 = .ok (.getfield 195, 3) := by decide +kernel
theorem dX10_count_114 : decode cX10_count 114 = .ok (.ireturn, 1) := by decide +kernel
theorem dX10_count_115 : decode cX10_count 115 = .ok (.aload_n 0, 1) := by decide +kernel
theorem dX10_count_116 : decode cX10_count 116 = .ok (.getfield 198, 3) := by decide +kernel
theorem dX10_count_119 : decode cX10_count 119 = .ok (.ireturn, 1) := by decide +kernel
theorem dX10_count_120 : decode cX10_count 120 = .ok (.iload_n 1, 1) := by decide +kernel
theorem dX10_count_121 : decode cX10_count 121 = .ok (.bipush 16, 2) := by decide +kernel
theorem dX10_count_123 : decode cX10_count 123 = .ok (.if_icmp .lt 26, 3) := by decide +kernel
theorem dX10_count_126 : decode cX10_count 126 = .ok (.iload_n 1, 1) := by decide +kernel
theorem dX10_count_127 : decode cX10_count 127 = .ok (.bipush 16, 2) := by decide +kernel
theorem dX10_count_129 : decode cX10_count 129 = .ok (.aload_n 0, 1) := by decide +kernel
theorem dX10_count_130 : decode cX10_count 130 = .ok (.getfield 38, 3) := by decide +kernel
theorem dX10_count_133 : decode cX10_count 133 = .ok (.iadd, 1) := by decide +kernel
theorem dX10_count_134 : decode cX10_count 134 = .ok (.if_icmp .ge 15, 3) := by decide +kernel
theorem dX10_count_137 : decode cX10_count 137 = .ok (.aload_n 0, 1) := by decide +kernel
theorem dX10_count_138 : decode cX10_count 138 = .ok (.getfield 42, 3) := by decide +kernel
theorem dX10_count_141 : decode cX10_count 141 = .ok (.iload_n 1, 1) := by decide +kernel
theorem dX10_count_142 : decode cX10_count 142 = .ok (.bipush 16, 2) := by decide +kernel
theorem dX10_count_144 : decode cX10_count 144 = .ok (.isub, 1) := by decide +kernel
theorem dX10_count_145 : decode cX10_count 145 = .ok (.iaload, 1) := by decide +kernel
theorem dX10_count_146 : decode cX10_count 146 = .ok (.goto 4, 3) := by decide +kernel
theorem dX10_count_149 : decode cX10_count 149 = .ok (.iconst (-1), 1) := by decide +kernel
theorem dX10_count_150 : decode cX10_count 150 = .ok (.ireturn, 1) := by decide +kernel
theorem dL_law_0 : decode cL_law 0 = .ok (.new 7, 3) := by decide +kernel
theorem dL_law_3 : decode cL_law 3 = .ok (.dup, 1) := by decide +kernel
theorem dL_law_4 : decode cL_law 4 = .ok (.invokespecial 9, 3) := by decide +kernel
theorem dL_law_7 : decode cL_law 7 = .ok (.astore_n 1, 1) := by decide +kernel
theorem dL_law_8 : decode cL_law 8 = .ok (.new 10, 3) := by decide +kernel
theorem dL_law_11 : decode cL_law 11 = .ok (.dup, 1) := by decide +kernel
theorem dL_law_12 : decode cL_law 12 = .ok (.invokespecial 12, 3) := by decide +kernel
theorem dL_law_15 : decode cL_law 15 = .ok (.astore_n 2, 1) := by decide +kernel
theorem dL_law_16 : decode cL_law 16 = .ok (.iconst 0, 1) := by decide +kernel
theorem dL_law_17 : decode cL_law 17 = .ok (.istore_n 3, 1) := by decide +kernel
theorem dL_law_18 : decode cL_law 18 = .ok (.iload_n 3, 1) := by decide +kernel
theorem dL_law_19 : decode cL_law 19 = .ok (.aload_n 0, 1) := by decide +kernel
theorem dL_law_20 : decode cL_law 20 = .ok (.arraylength, 1) := by decide +kernel
theorem dL_law_21 : decode cL_law 21 = .ok (.iconst 5, 1) := by decide +kernel
theorem dL_law_22 : decode cL_law 22 = .ok (.isub, 1) := by decide +kernel
theorem dL_law_23 : decode cL_law 23 = .ok (.if_icmp .gt 744, 3) := by decide +kernel
theorem dL_law_26 : decode cL_law 26 = .ok (.aload_n 0, 1) := by decide +kernel
theorem dL_law_27 : decode cL_law 27 = .ok (.iload_n 3, 1) := by decide +kernel
theorem dL_law_28 : decode cL_law 28 = .ok (.iaload, 1) := by decide +kernel
theorem dL_law_29 : decode cL_law 29 = .ok (.bipush 31, 2) := by decide +kernel
theorem dL_law_31 : decode cL_law 31 = .ok (.iand, 1) := by decide +kernel
theorem dL_law_32 : decode cL_law 32 = .ok (.tableswitch 729 0 18 #[92, 135, 168, 221, 258, 281, 350, 373, 396, 419, 452, 485, 518, 551, 584, 617, 650, 683, 706], 92) := by decide +kernel
theorem dL_law_124 : decode cL_law 124 = .ok (.aload_n 1, 1) := by decide +kernel
theorem dL_law_125 : decode cL_law 125 = .ok (.aload_n 0, 1) := by decide +kernel
theorem dL_law_126 : decode cL_law 126 = .ok (.iload_n 3, 1) := by decide +kernel
theorem dL_law_127 : decode cL_law 127 = .ok (.iconst 1, 1) := by decide +kernel
theorem dL_law_128 : decode cL_law 128 = .ok (.iadd, 1) := by decide +kernel
theorem dL_law_129 : decode cL_law 129 = .ok (.iaload, 1) := by decide +kernel
theorem dL_law_130 : decode cL_law 130 = .ok (.aload_n 0, 1) := by decide +kernel
theorem dL_law_131 : decode cL_law 131 = .ok (.iload_n 3, 1) := by decide +kernel
theorem dL_law_132 : decode cL_law 132 = .ok (.iconst 2, 1) := by decide +kernel
theorem dL_law_133 : decode cL_law 133 = .ok (.iadd, 1) := by decide +kernel
theorem dL_law_134 : decode cL_law 134 = .ok (.iaload, 1) := by decide +kernel
theorem dL_law_135 : decode cL_law 135 = .ok (.aload_n 0, 1) := by decide +kernel
theorem dL_law_136 : decode cL_law 136 = .ok (.iload_n 3, 1) := by decide +kernel
theorem dL_law_137 : decode cL_law 137 = .ok (.iconst 3, 1) := by decide +kernel
theorem dL_law_138 : decode cL_law 138 = .ok (.iadd, 1) := by decide +kernel
theorem dL_law_139 : decode cL_law 139 = .ok (.iaload, 1) := by decide +kernel
theorem dL_law_140 : decode cL_law 140 = .ok (.invokevirtual 13, 3) := by decide +kernel
theorem dL_law_143 : decode cL_law 143 = .ok (.aload_n 2, 1) := by decide +kernel
theorem dL_law_144 : decode cL_law 144 = .ok (.aload_n 0, 1) := by decide +kernel
theorem dL_law_145 : decode cL_law 145 = .ok (.iload_n 3, 1) := by decide +kernel
theorem dL_law_146 : decode cL_law 146 = .ok (.iconst 1, 1) := by decide +kernel
theorem dL_law_147 : decode cL_law 147 = .ok (.iadd, 1) := by decide +kernel
theorem dL_law_148 : decode cL_law 148 = .ok (.iaload, 1) := by decide +kernel
theorem dL_law_149 : decode cL_law 149 = .ok (.aload_n 0, 1) := by decide +kernel
theorem dL_law_150 : decode cL_law 150 = .ok (.iload_n 3, 1) := by decide +kernel
theorem dL_law_151 : decode cL_law 151 = .ok (.iconst 2, 1) := by decide +kernel
theorem dL_law_152 : decode cL_law 152 = .ok (.iadd, 1) := by decide +kernel
theorem dL_law_153 : decode cL_law 153 = .ok (.iaload, 1) := by decide +kernel
theorem dL_law_154 : decode cL_law 154 = .ok (.aload_n 0, 1) := by decide +kernel
theorem dL_law_155 : decode cL_law 155 = .ok (.iload_n 3, 1) := by decide +kernel
theorem dL_law_156 : decode cL_law 156 = .ok (.iconst 3, 1) := by decide +kernel
theorem dL_law_157 : decode cL_law 157 = .ok (.iadd, 1) := by decide +kernel
theorem dL_law_158 : decode cL_law 158 = .ok (.iaload, 1) := by decide +kernel
theorem dL_law_159 : decode cL_law 159 = .ok (.invokevirtual 17, 3) := by decide +kernel
theorem dL_law_162 : decode cL_law 162 = .ok (.if_icmp .eq 599, 3) := by decide +kernel
theorem dL_law_167 : decode cL_law 167 = .ok (.aload_n 1, 1) := by decide +kernel
theorem dL_law_168 : decode cL_law 168 = .ok (.aload_n 0, 1) := by decide +kernel
theorem dL_law_169 : decode cL_law 169 = .ok (.iload_n 3, 1) := by decide +kernel
theorem dL_law_170 : decode cL_law 170 = .ok (.iconst 1, 1) := by decide +kernel
theorem dL_law_171 : decode cL_law 171 = .ok (.iadd, 1) := by decide +kernel
theorem dL_law_172 : decode cL_law 172 = .ok (.iaload, 1) := by decide +kernel
theorem dL_law_173 : decode cL_law 173 = .ok (.aload_n 0, 1) := by decide +kernel
theorem dL_law_174 : decode cL_law 174 = .ok (.iload_n 3, 1) := by decide +kernel
theorem dL_law_175 : decode cL_law 175 = .ok (.iconst 2, 1) := by decide +kernel
theorem dL_law_176 : decode cL_law 176 = .ok (.iadd, 1) := by decide +kernel
theorem dL_law_177 : decode cL_law 177 = .ok (.iaload, 1) := by decide +kernel
theorem dL_law_178 : decode cL_law 178 = .ok (.invokevirtual 18, 3) := by decide +kernel
theorem dL_law_181 : decode cL_law 181 = .ok (.aload_n 2, 1) := by decide +kernel
theorem dL_law_182 : decode cL_law 182 = .ok (.aload_n 0, 1) := by decide +kernel
theorem dL_law_183 : decode cL_law 183 = .ok (.iload_n 3, 1) := by decide +kernel
theorem dL_law_184 : decode cL_law 184 = .ok (.iconst 1, 1) := by decide +kernel
theorem dL_law_185 : decode cL_law 185 = .ok (.iadd, 1) := by decide +kernel
theorem dL_law_186 : decode cL_law 186 = .ok (.iaload, 1) := by decide +kernel
theorem dL_law_187 : decode cL_law 187 = .ok (.aload_n 0, 1) := by decide +kernel
theorem dL_law_188 : decode cL_law 188 = .ok (.iload_n 3, 1) := by decide +kernel
theorem dL_law_189 : decode cL_law 189 = .ok (.iconst 2, 1) := by decide +kernel
theorem dL_law_190 : decode cL_law 190 = .ok (.iadd, 1) := by decide +kernel
theorem dL_law_191 : decode cL_law 191 = .ok (.iaload, 1) := by decide +kernel
theorem dL_law_192 : decode cL_law 192 = .ok (.invokevirtual 22, 3) := by decide +kernel
theorem dL_law_195 : decode cL_law 195 = .ok (.if_icmp .eq 566, 3) := by decide +kernel
theorem dL_law_200 : decode cL_law 200 = .ok (.aload_n 1, 1) := by decide +kernel
theorem dL_law_201 : decode cL_law 201 = .ok (.aload_n 0, 1) := by decide +kernel
theorem dL_law_202 : decode cL_law 202 = .ok (.iload_n 3, 1) := by decide +kernel
theorem dL_law_203 : decode cL_law 203 = .ok (.iconst 1, 1) := by decide +kernel
theorem dL_law_204 : decode cL_law 204 = .ok (.iadd, 1) := by decide +kernel
theorem dL_law_205 : decode cL_law 205 = .ok (.iaload, 1) := by decide +kernel
theorem dL_law_206 : decode cL_law 206 = .ok (.aload_n 0, 1) := by decide +kernel
theorem dL_law_207 : decode cL_law 207 = .ok (.iload_n 3, 1) := by decide +kernel
theorem dL_law_208 : decode cL_law 208 = .ok (.iconst 2, 1) := by decide +kernel
theorem dL_law_209 : decode cL_law 209 = .ok (.iadd, 1) := by decide +kernel
theorem dL_law_210 : decode cL_law 210 = .ok (.iaload, 1) := by decide +kernel
theorem dL_law_211 : decode cL_law 211 = .ok (.aload_n 0, 1) := by decide +kernel
theorem dL_law_212 : decode cL_law 212 = .ok (.iload_n 3, 1) := by decide +kernel
theorem dL_law_213 : decode cL_law 213 = .ok (.iconst 3, 1) := by decide +kernel
theorem dL_law_214 : decode cL_law 214 = .ok (.iadd, 1) := by decide +kernel
theorem dL_law_215 : decode cL_law 215 = .ok (.iaload, 1) := by decide +kernel
theorem dL_law_216 : decode cL_law 216 = .ok (.aload_n 0, 1) := by decide +kernel
theorem dL_law_217 : decode cL_law 217 = .ok (.iload_n 3, 1) := by decide +kernel
theorem dL_law_218 : decode cL_law 218 = .ok (.iconst 4, 1) := by decide +kernel
theorem dL_law_219 : decode cL_law 219 = .ok (.iadd, 1) := by decide +kernel
theorem dL_law_220 : decode cL_law 220 = .ok (.iaload, 1) := by decide +kernel
theorem dL_law_221 : decode cL_law 221 = .ok (.invokevirtual 23, 3) := by decide +kernel
theorem dL_law_224 : decode cL_law 224 = .ok (.aload_n 2, 1) := by decide +kernel
theorem dL_law_225 : decode cL_law 225 = .ok (.aload_n 0, 1) := by decide +kernel
theorem dL_law_226 : decode cL_law 226 = .ok (.iload_n 3, 1) := by decide +kernel
theorem dL_law_227 : decode cL_law 227 = .ok (.iconst 1, 1) := by decide +kernel
theorem dL_law_228 : decode cL_law 228 = .ok (.iadd, 1) := by decide +kernel
theorem dL_law_229 : decode cL_law 229 = .ok (.iaload, 1) := by decide +kernel
theorem dL_law_230 : decode cL_law 230 = .ok (.aload_n 0, 1) := by decide +kernel
theorem dL_law_231 : decode cL_law 231 = .ok (.iload_n 3, 1) := by decide +kernel
theorem dL_law_232 : decode cL_law 232 = .ok (.iconst 2, 1) := by decide +kernel
theorem dL_law_233 : decode cL_law 233 = .ok (.iadd, 1) := by decide +kernel
theorem dL_law_234 : decode cL_law 234 = .ok (.iaload, 1) := by decide +kernel
theorem dL_law_235 : decode cL_law 235 = .ok (.aload_n 0, 1) := by decide +kernel
theorem dL_law_236 : decode cL_law 236 = .ok (.iload_n 3, 1) := by decide +kernel
theorem dL_law_237 : decode cL_law 237 = .ok (.iconst 3, 1) := by decide +kernel
theorem dL_law_238 : decode cL_law 238 = .ok (.iadd, 1) := by decide +kernel
theorem dL_law_239 : decode cL_law 239 = .ok (.iaload, 1) := by decide +kernel
theorem dL_law_240 : decode cL_law 240 = .ok (.aload_n 0, 1) := by decide +kernel
theorem dL_law_241 : decode cL_law 241 = .ok (.iload_n 3, 1) := by decide +kernel
theorem dL_law_242 : decode cL_law 242 = .ok (.iconst 4, 1) := by decide +kernel
theorem dL_law_243 : decode cL_law 243 = .ok (.iadd, 1) := by decide +kernel
theorem dL_law_244 : decode cL_law 244 = .ok (.iaload, 1) := by decide +kernel
theorem dL_law_245 : decode cL_law 245 = .ok (.invokevirtual 27, 3) := by decide +kernel
theorem dL_law_248 : decode cL_law 248 = .ok (.if_icmp .eq 513, 3) := by decide +kernel
theorem dL_law_253 : decode cL_law 253 = .ok (.aload_n 1, 1) := by decide +kernel
theorem dL_law_254 : decode cL_law 254 = .ok (.aload_n 0, 1) := by decide +kernel
theorem dL_law_255 : decode cL_law 255 = .ok (.iload_n 3, 1) := by decide +kernel
theorem dL_law_256 : decode cL_law 256 = .ok (.iconst 1, 1) := by decide +kernel
theorem dL_law_257 : decode cL_law 257 = .ok (.iadd, 1) := by decide +kernel
theorem dL_law_258 : decode cL_law 258 = .ok (.iaload, 1) := by decide +kernel
theorem dL_law_259 : decode cL_law 259 = .ok (.ifCond .eq 7, 3) := by decide +kernel
theorem dL_law_262 : decode cL_law 262 = .ok (.iconst 1, 1) := by decide +kernel
theorem dL_law_263 : decode cL_law 263 = .ok (.goto 4, 3) := by decide +kernel
theorem dL_law_266 : decode cL_law 266 = .ok (.iconst 0, 1) := by decide +kernel
theorem dL_law_267 : decode cL_law 267 = .ok (.invokevirtual 28, 3) := by decide +kernel
theorem dL_law_270 : decode cL_law 270 = .ok (.aload_n 2, 1) := by decide +kernel
theorem dL_law_271 : decode cL_law 271 = .ok (.aload_n 0, 1) := by decide +kernel
theorem dL_law_272 : decode cL_law 272 = .ok (.iload_n 3, 1) := by decide +kernel
theorem dL_law_273 : decode cL_law 273 = .ok (.iconst 1, 1) := by decide +kernel
theorem dL_law_274 : decode cL_law 274 = .ok (.iadd, 1) := by decide +kernel
theorem dL_law_275 : decode cL_law 275 = .ok (.iaload, 1) := by decide +kernel
theorem dL_law_276 : decode cL_law 276 = .ok (.ifCond .eq 7, 3) := by decide +kernel
theorem dL_law_279 : decode cL_law 279 = .ok (.iconst 1, 1) := by decide +kernel
theorem dL_law_280 : decode cL_law 280 = .ok (.goto 4, 3) := by decide +kernel
theorem dL_law_283 : decode cL_law 283 = .ok (.iconst 0, 1) := by decide +kernel
theorem dL_law_284 : decode cL_law 284 = .ok (.invokevirtual 32, 3) := by decide +kernel
theorem dL_law_287 : decode cL_law 287 = .ok (.goto 474, 3) := by decide +kernel
theorem dL_law_290 : decode cL_law 290 = .ok (.aload_n 1, 1) := by decide +kernel
theorem dL_law_291 : decode cL_law 291 = .ok (.aload_n 0, 1) := by decide +kernel
theorem dL_law_292 : decode cL_law 292 = .ok (.iload_n 3, 1) := by decide +kernel
theorem dL_law_293 : decode cL_law 293 = .ok (.iconst 1, 1) := by decide +kernel
theorem dL_law_294 : decode cL_law 294 = .ok (.iadd, 1) := by decide +kernel
theorem dL_law_295 : decode cL_law 295 = .ok (.iaload, 1) := by decide +kernel
theorem dL_law_296 : decode cL_law 296 = .ok (.invokevirtual 33, 3) := by decide +kernel
theorem dL_law_299 : decode cL_law 299 = .ok (.aload_n 2, 1) := by decide +kernel
theorem dL_law_300 : decode cL_law 300 = .ok (.aload_n 0, 1) := by decide +kernel
theorem dL_law_301 : decode cL_law 301 = .ok (.iload_n 3, 1) := by decide +kernel
theorem dL_law_302 : decode cL_law 302 = .ok (.iconst 1, 1) := by decide +kernel
theorem dL_law_303 : decode cL_law 303 = .ok (.iadd, 1) := by decide +kernel
theorem dL_law_304 : decode cL_law 304 = .ok (.iaload, 1) := by decide +kernel
theorem dL_law_305 : decode cL_law 305 = .ok (.invokevirtual 37, 3) := by decide +kernel
theorem dL_law_308 : decode cL_law 308 = .ok (.if_icmp .eq 453, 3) := by decide +kernel
theorem dL_law_313 : decode cL_law 313 = .ok (.aload_n 1, 1) := by decide +kernel
theorem dL_law_314 : decode cL_law 314 = .ok (.aload_n 0, 1) := by decide +kernel
theorem dL_law_315 : decode cL_law 315 = .ok (.iload_n 3, 1) := by decide +kernel
theorem dL_law_316 : decode cL_law 316 = .ok (.iconst 1, 1) := by decide +kernel
theorem dL_law_317 : decode cL_law 317 = .ok (.iadd, 1) := by decide +kernel
theorem dL_law_318 : decode cL_law 318 = .ok (.iaload, 1) := by decide +kernel
theorem dL_law_319 : decode cL_law 319 = .ok (.aload_n 0, 1) := by decide +kernel
theorem dL_law_320 : decode cL_law 320 = .ok (.iload_n 3, 1) := by decide +kernel
theorem dL_law_321 : decode cL_law 321 = .ok (.iconst 2, 1) := by decide +kernel
theorem dL_law_322 : decode cL_law 322 = .ok (.iadd, 1) := by decide +kernel
theorem dL_law_323 : decode cL_law 323 = .ok (.iaload, 1) := by decide +kernel
theorem dL_law_324 : decode cL_law 324 = .ok (.aload_n 0, 1) := by decide +kernel
theorem dL_law_325 : decode cL_law 325 = .ok (.iload_n 3, 1) := by decide +kernel
theorem dL_law_326 : decode cL_law 326 = .ok (.iconst 3, 1) := by decide +kernel
theorem dL_law_327 : decode cL_law 327 = .ok (.iadd, 1) := by decide +kernel
theorem dL_law_328 : decode cL_law 328 = .ok (.iaload, 1) := by decide +kernel
theorem dL_law_329 : decode cL_law 329 = .ok (.aload_n 0, 1) := by decide +kernel
theorem dL_law_330 : decode cL_law 330 = .ok (.iload_n 3, 1) := by decide +kernel
theorem dL_law_331 : decode cL_law 331 = .ok (.iconst 4, 1) := by decide +kernel
theorem dL_law_332 : decode cL_law 332 = .ok (.iadd, 1) := by decide +kernel
theorem dL_law_333 : decode cL_law 333 = .ok (.iaload, 1) := by decide +kernel
theorem dL_law_334 : decode cL_law 334 = .ok (.ifCond .eq 7, 3) := by decide +kernel
theorem dL_law_337 : decode cL_law 337 = .ok (.iconst 1, 1) := by decide +kernel
theorem dL_law_338 : decode cL_law 338 = .ok (.goto 4, 3) := by decide +kernel
theorem dL_law_341 : decode cL_law 341 = .ok (.iconst 0, 1) := by decide +kernel
theorem dL_law_342 : decode cL_law 342 = .ok (.invokevirtual 38, 3) := by decide +kernel
theorem dL_law_345 : decode cL_law 345 = .ok (.aload_n 2, 1) := by decide +kernel
theorem dL_law_346 : decode cL_law 346 = .ok (.aload_n 0, 1) := by decide +kernel
theorem dL_law_347 : decode cL_law 347 = .ok (.iload_n 3, 1) := by decide +kernel
theorem dL_law_348 : decode cL_law 348 = .ok (.iconst 1, 1) := by decide +kernel
theorem dL_law_349 : decode cL_law 349 = .ok (.iadd, 1) := by decide +kernel
theorem dL_law_350 : decode cL_law 350 = .ok (.iaload, 1) := by decide +kernel
theorem dL_law_351 : decode cL_law 351 = .ok (.aload_n 0, 1) := by decide +kernel
theorem dL_law_352 : decode cL_law 352 = .ok (.iload_n 3, 1) := by decide +kernel
theorem dL_law_353 : decode cL_law 353 = .ok (.iconst 2, 1) := by decide +kernel
theorem dL_law_354 : decode cL_law 354 = .ok (.iadd, 1) := by decide +kernel
theorem dL_law_355 : decode cL_law 355 = .ok (.iaload, 1) := by decide +kernel
theorem dL_law_356 : decode cL_law 356 = .ok (.aload_n 0, 1) := by decide +kernel
theorem dL_law_357 : decode cL_law 357 = .ok (.iload_n 3, 1) := by decide +kernel
theorem dL_law_358 : decode cL_law 358 = .ok (.iconst 3, 1) := by decide +kernel
theorem dL_law_359 : decode cL_law 359 = .ok (.iadd, 1) := by decide +kernel
theorem dL_law_360 : decode cL_law 360 = .ok (.iaload, 1) := by decide +kernel
theorem dL_law_361 : decode cL_law 361 = .ok (.aload_n 0, 1) := by decide +kernel
theorem dL_law_362 : decode cL_law 362 = .ok (.iload_n 3, 1) := by decide +kernel
theorem dL_law_363 : decode cL_law 363 = .ok (.iconst 4, 1) := by decide +kernel
theorem dL_law_364 : decode cL_law 364 = .ok (.iadd, 1) := by decide +kernel
theorem dL_law_365 : decode cL_law 365 = .ok (.iaload, 1) := by decide +kernel
theorem dL_law_366 : decode cL_law 366 = .ok (.ifCond .eq 7, 3) := by decide +kernel
theorem dL_law_369 : decode cL_law 369 = .ok (.iconst 1, 1) := by decide +kernel
theorem dL_law_370 : decode cL_law 370 = .ok (.goto 4, 3) := by decide +kernel
theorem dL_law_373 : decode cL_law 373 = .ok (.iconst 0, 1) := by decide +kernel
theorem dL_law_374 : decode cL_law 374 = .ok (.invokevirtual 42, 3) := by decide +kernel
theorem dL_law_377 : decode cL_law 377 = .ok (.if_icmp .eq 384, 3) := by decide +kernel
theorem dL_law_382 : decode cL_law 382 = .ok (.aload_n 1, 1) := by decide +kernel
theorem dL_law_383 : decode cL_law 383 = .ok (.aload_n 0, 1) := by decide +kernel
theorem dL_law_384 : decode cL_law 384 = .ok (.iload_n 3, 1) := by decide +kernel
theorem dL_law_385 : decode cL_law 385 = .ok (.iconst 1, 1) := by decide +kernel
theorem dL_law_386 : decode cL_law 386 = .ok (.iadd, 1) := by decide +kernel
theorem dL_law_387 : decode cL_law 387 = .ok (.iaload, 1) := by decide +kernel
theorem dL_law_388 : decode cL_law 388 = .ok (.invokevirtual 43, 3) := by decide +kernel
theorem dL_law_391 : decode cL_law 391 = .ok (.aload_n 2, 1) := by decide +kernel
theorem dL_law_392 : decode cL_law 392 = .ok (.aload_n 0, 1) := by decide +kernel
theorem dL_law_393 : decode cL_law 393 = .ok (.iload_n 3, 1) := by decide +kernel
theorem dL_law_394 : decode cL_law 394 = .ok (.iconst 1, 1) := by decide +kernel
theorem dL_law_395 : decode cL_law 395 = .ok (.iadd, 1) := by decide +kernel
theorem dL_law_396 : decode cL_law 396 = .ok (.iaload, 1) := by decide +kernel
theorem dL_law_397 : decode cL_law 397 = .ok (.invokevirtual 47, 3) := by decide +kernel
theorem dL_law_400 : decode cL_law 400 = .ok (.if_icmp .eq 361, 3) := by decide +kernel
theorem dL_law_405 : decode cL_law 405 = .ok (.aload_n 1, 1) := by decide +kernel
theorem dL_law_406 : decode cL_law 406 = .ok (.aload_n 0, 1) := by decide +kernel
theorem dL_law_407 : decode cL_law 407 = .ok (.iload_n 3, 1) := by decide +kernel
theorem dL_law_408 : decode cL_law 408 = .ok (.iconst 1, 1) := by decide +kernel
theorem dL_law_409 : decode cL_law 409 = .ok (.iadd, 1) := by decide +kernel
theorem dL_law_410 : decode cL_law 410 = .ok (.iaload, 1) := by decide +kernel
theorem dL_law_411 : decode cL_law 411 = .ok (.invokevirtual 48, 3) := by decide +kernel
theorem dL_law_414 : decode cL_law 414 = .ok (.aload_n 2, 1) := by decide +kernel
theorem dL_law_415 : decode cL_law 415 = .ok (.aload_n 0, 1) := by decide +kernel
theorem dL_law_416 : decode cL_law 416 = .ok (.iload_n 3, 1) := by decide +kernel
theorem dL_law_417 : decode cL_law 417 = .ok (.iconst 1, 1) := by decide +kernel
theorem dL_law_418 : decode cL_law 418 = .ok (.iadd, 1) := by decide +kernel
theorem dL_law_419 : decode cL_law 419 = .ok (.iaload, 1) := by decide +kernel
theorem dL_law_420 : decode cL_law 420 = .ok (.invokevirtual 51, 3) := by decide +kernel
theorem dL_law_423 : decode cL_law 423 = .ok (.if_icmp .eq 338, 3) := by decide +kernel
theorem dL_law_428 : decode cL_law 428 = .ok (.aload_n 1, 1) := by decide +kernel
theorem dL_law_429 : decode cL_law 429 = .ok (.aload_n 0, 1) := by decide +kernel
theorem dL_law_430 : decode cL_law 430 = .ok (.iload_n 3, 1) := by decide +kernel
theorem dL_law_431 : decode cL_law 431 = .ok (.iconst 1, 1) := by decide +kernel
theorem dL_law_432 : decode cL_law 432 = .ok (.iadd, 1) := by decide +kernel
theorem dL_law_433 : decode cL_law 433 = .ok (.iaload, 1) := by decide +kernel
theorem dL_law_434 : decode cL_law 434 = .ok (.invokevirtual 52, 3) := by decide +kernel
theorem dL_law_437 : decode cL_law 437 = .ok (.aload_n 2, 1) := by decide +kernel
theorem dL_law_438 : decode cL_law 438 = .ok (.aload_n 0, 1) := by decide +kernel
theorem dL_law_439 : decode cL_law 439 = .ok (.iload_n 3, 1) := by decide +kernel
theorem dL_law_440 : decode cL_law 440 = .ok (.iconst 1, 1) := by decide +kernel
theorem dL_law_441 : decode cL_law 441 = .ok (.iadd, 1) := by decide +kernel
theorem dL_law_442 : decode cL_law 442 = .ok (.iaload, 1) := by decide +kernel
theorem dL_law_443 : decode cL_law 443 = .ok (.invokevirtual 55, 3) := by decide +kernel
theorem dL_law_446 : decode cL_law 446 = .ok (.if_icmp .eq 315, 3) := by decide +kernel
theorem dL_law_451 : decode cL_law 451 = .ok (.aload_n 1, 1) := by decide +kernel
theorem dL_law_452 : decode cL_law 452 = .ok (.aload_n 0, 1) := by decide +kernel
theorem dL_law_453 : decode cL_law 453 = .ok (.iload_n 3, 1) := by decide +kernel
theorem dL_law_454 : decode cL_law 454 = .ok (.iconst 1, 1) := by decide +kernel
theorem dL_law_455 : decode cL_law 455 = .ok (.iadd, 1) := by decide +kernel
theorem dL_law_456 : decode cL_law 456 = .ok (.iaload, 1) := by decide +kernel
theorem dL_law_457 : decode cL_law 457 = .ok (.aload_n 0, 1) := by decide +kernel
theorem dL_law_458 : decode cL_law 458 = .ok (.iload_n 3, 1) := by decide +kernel
theorem dL_law_459 : decode cL_law 459 = .ok (.iconst 2, 1) := by decide +kernel
theorem dL_law_460 : decode cL_law 460 = .ok (.iadd, 1) := by decide +kernel
theorem dL_law_461 : decode cL_law 461 = .ok (.iaload, 1) := by decide +kernel
theorem dL_law_462 : decode cL_law 462 = .ok (.invokevirtual 56, 3) := by decide +kernel
theorem dL_law_465 : decode cL_law 465 = .ok (.aload_n 2, 1) := by decide +kernel
theorem dL_law_466 : decode cL_law 466 = .ok (.aload_n 0, 1) := by decide +kernel
theorem dL_law_467 : decode cL_law 467 = .ok (.iload_n 3, 1) := by decide +kernel
theorem dL_law_468 : decode cL_law 468 = .ok (.iconst 1, 1) := by decide +kernel
theorem dL_law_469 : decode cL_law 469 = .ok (.iadd, 1) := by decide +kernel
theorem dL_law_470 : decode cL_law 470 = .ok (.iaload, 1) := by decide +kernel
theorem dL_law_471 : decode cL_law 471 = .ok (.aload_n 0, 1) := by decide +kernel
theorem dL_law_472 : decode cL_law 472 = .ok (.iload_n 3, 1) := by decide +kernel
theorem dL_law_473 : decode cL_law 473 = .ok (.iconst 2, 1) := by decide +kernel
theorem dL_law_474 : decode cL_law 474 = .ok (.iadd, 1) := by decide +kernel
theorem dL_law_475 : decode cL_law 475 = .ok (.iaload, 1) := by decide +kernel
theorem dL_law_476 : decode cL_law 476 = .ok (.invokevirtual 60, 3) := by decide +kernel
theorem dL_law_479 : decode cL_law 479 = .ok (.if_icmp .eq 282, 3) := by decide +kernel
theorem dL_law_484 : decode cL_law 484 = .ok (.aload_n 1, 1) := by decide +kernel
theorem dL_law_485 : decode cL_law 485 = .ok (.aload_n 0, 1) := by decide +kernel
theorem dL_law_486 : decode cL_law 486 = .ok (.iload_n 3, 1) := by decide +kernel
theorem dL_law_487 : decode cL_law 487 = .ok (.iconst 1, 1) := by decide +kernel
theorem dL_law_488 : decode cL_law 488 = .ok (.iadd, 1) := by decide +kernel
theorem dL_law_489 : decode cL_law 489 = .ok (.iaload, 1) := by decide +kernel
theorem dL_law_490 : decode cL_law 490 = .ok (.aload_n 0, 1) := by decide +kernel
theorem dL_law_491 : decode cL_law 491 = .ok (.iload_n 3, 1) := by decide +kernel
theorem dL_law_492 : decode cL_law 492 = .ok (.iconst 2, 1) := by decide +kernel
theorem dL_law_493 : decode cL_law 493 = .ok (.iadd, 1) := by decide +kernel
theorem dL_law_494 : decode cL_law 494 = .ok (.iaload, 1) := by decide +kernel
theorem dL_law_495 : decode cL_law 495 = .ok (.invokevirtual 61, 3) := by decide +kernel
theorem dL_law_498 : decode cL_law 498 = .ok (.aload_n 2, 1) := by decide +kernel
theorem dL_law_499 : decode cL_law 499 = .ok (.aload_n 0, 1) := by decide +kernel
theorem dL_law_500 : decode cL_law 500 = .ok (.iload_n 3, 1) := by decide +kernel
theorem dL_law_501 : decode cL_law 501 = .ok (.iconst 1, 1) := by decide +kernel
theorem dL_law_502 : decode cL_law 502 = .ok (.iadd, 1) := by decide +kernel
theorem dL_law_503 : decode cL_law 503 = .ok (.iaload, 1) := by decide +kernel
theorem dL_law_504 : decode cL_law 504 = .ok (.aload_n 0, 1) := by decide +kernel
theorem dL_law_505 : decode cL_law 505 = .ok (.iload_n 3, 1) := by decide +kernel
theorem dL_law_506 : decode cL_law 506 = .ok (.iconst 2, 1) := by decide +kernel
theorem dL_law_507 : decode cL_law 507 = .ok (.iadd, 1) := by decide +kernel
theorem dL_law_508 : decode cL_law 508 = .ok (.iaload, 1) := by decide +kernel
theorem dL_law_509 : decode cL_law 509 = .ok (.invokevirtual 64, 3) := by decide +kernel
theorem dL_law_512 : decode cL_law 512 = .ok (.if_icmp .eq 249, 3) := by decide +kernel
theorem dL_law_517 : decode cL_law 517 = .ok (.aload_n 1, 1) := by decide +kernel
theorem dL_law_518 : decode cL_law 518 = .ok (.aload_n 0, 1) := by decide +kernel
theorem dL_law_519 : decode cL_law 519 = .ok (.iload_n 3, 1) := by decide +kernel
theorem dL_law_520 : decode cL_law 520 = .ok (.iconst 1, 1) := by decide +kernel
theorem dL_law_521 : decode cL_law 521 = .ok (.iadd, 1) := by decide +kernel
theorem dL_law_522 : decode cL_law 522 = .ok (.iaload, 1) := by decide +kernel
theorem dL_law_523 : decode cL_law 523 = .ok (.aload_n 0, 1) := by decide +kernel
theorem dL_law_524 : decode cL_law 524 = .ok (.iload_n 3, 1) := by decide +kernel
theorem dL_law_525 : decode cL_law 525 = .ok (.iconst 2, 1) := by decide +kernel
theorem dL_law_526 : decode cL_law 526 = .ok (.iadd, 1) := by decide +kernel
theorem dL_law_527 : decode cL_law 527 = .ok (.iaload, 1) := by decide +kernel
theorem dL_law_528 : decode cL_law 528 = .ok (.invokevirtual 65, 3) := by decide +kernel
theorem dL_law_531 : decode cL_law 531 = .ok (.aload_n 2, 1) := by decide +kernel
theorem dL_law_532 : decode cL_law 532 = .ok (.aload_n 0, 1) := by decide +kernel
theorem dL_law_533 : decode cL_law 533 = .ok (.iload_n 3, 1) := by decide +kernel
theorem dL_law_534 : decode cL_law 534 = .ok (.iconst 1, 1) := by decide +kernel
theorem dL_law_535 : decode cL_law 535 = .ok (.iadd, 1) := by decide +kernel
theorem dL_law_536 : decode cL_law 536 = .ok (.iaload, 1) := by decide +kernel
theorem dL_law_537 : decode cL_law 537 = .ok (.aload_n 0, 1) := by decide +kernel
theorem dL_law_538 : decode cL_law 538 = .ok (.iload_n 3, 1) := by decide +kernel
theorem dL_law_539 : decode cL_law 539 = .ok (.iconst 2, 1) := by decide +kernel
theorem dL_law_540 : decode cL_law 540 = .ok (.iadd, 1) := by decide +kernel
theorem dL_law_541 : decode cL_law 541 = .ok (.iaload, 1) := by decide +kernel
theorem dL_law_542 : decode cL_law 542 = .ok (.invokevirtual 68, 3) := by decide +kernel
theorem dL_law_545 : decode cL_law 545 = .ok (.if_icmp .eq 216, 3) := by decide +kernel
theorem dL_law_550 : decode cL_law 550 = .ok (.aload_n 1, 1) := by decide +kernel
theorem dL_law_551 : decode cL_law 551 = .ok (.aload_n 0, 1) := by decide +kernel
theorem dL_law_552 : decode cL_law 552 = .ok (.iload_n 3, 1) := by decide +kernel
theorem dL_law_553 : decode cL_law 553 = .ok (.iconst 1, 1) := by decide +kernel
theorem dL_law_554 : decode cL_law 554 = .ok (.iadd, 1) := by decide +kernel
theorem dL_law_555 : decode cL_law 555 = .ok (.iaload, 1) := by decide +kernel
theorem dL_law_556 : decode cL_law 556 = .ok (.aload_n 0, 1) := by decide +kernel
theorem dL_law_557 : decode cL_law 557 = .ok (.iload_n 3, 1) := by decide +kernel
theorem dL_law_558 : decode cL_law 558 = .ok (.iconst 2, 1) := by decide +kernel
theorem dL_law_559 : decode cL_law 559 = .ok (.iadd, 1) := by decide +kernel
theorem dL_law_560 : decode cL_law 560 = .ok (.iaload, 1) := by decide +kernel
theorem dL_law_561 : decode cL_law 561 = .ok (.invokevirtual 69, 3) := by decide +kernel
theorem dL_law_564 : decode cL_law 564 = .ok (.aload_n 2, 1) := by decide +kernel
theorem dL_law_565 : decode cL_law 565 = .ok (.aload_n 0, 1) := by decide +kernel
theorem dL_law_566 : decode cL_law 566 = .ok (.iload_n 3, 1) := by decide +kernel
theorem dL_law_567 : decode cL_law 567 = .ok (.iconst 1, 1) := by decide +kernel
theorem dL_law_568 : decode cL_law 568 = .ok (.iadd, 1) := by decide +kernel
theorem dL_law_569 : decode cL_law 569 = .ok (.iaload, 1) := by decide +kernel
theorem dL_law_570 : decode cL_law 570 = .ok (.aload_n 0, 1) := by decide +kernel
theorem dL_law_571 : decode cL_law 571 = .ok (.iload_n 3, 1) := by decide +kernel
theorem dL_law_572 : decode cL_law 572 = .ok (.iconst 2, 1) := by decide +kernel
theorem dL_law_573 : decode cL_law 573 = .ok (.iadd, 1) := by decide +kernel
theorem dL_law_574 : decode cL_law 574 = .ok (.iaload, 1) := by decide +kernel
theorem dL_law_575 : decode cL_law 575 = .ok (.invokevirtual 72, 3) := by decide +kernel
theorem dL_law_578 : decode cL_law 578 = .ok (.if_icmp .eq 183, 3) := by decide +kernel
theorem dL_law_583 : decode cL_law 583 = .ok (.aload_n 1, 1) := by decide +kernel
theorem dL_law_584 : decode cL_law 584 = .ok (.aload_n 0, 1) := by decide +kernel
theorem dL_law_585 : decode cL_law 585 = .ok (.iload_n 3, 1) := by decide +kernel
theorem dL_law_586 : decode cL_law 586 = .ok (.iconst 1, 1) := by decide +kernel
theorem dL_law_587 : decode cL_law 587 = .ok (.iadd, 1) := by decide +kernel
theorem dL_law_588 : decode cL_law 588 = .ok (.iaload, 1) := by decide +kernel
theorem dL_law_589 : decode cL_law 589 = .ok (.aload_n 0, 1) := by decide +kernel
theorem dL_law_590 : decode cL_law 590 = .ok (.iload_n 3, 1) := by decide +kernel
theorem dL_law_591 : decode cL_law 591 = .ok (.iconst 2, 1) := by decide +kernel
theorem dL_law_592 : decode cL_law 592 = .ok (.iadd, 1) := by decide +kernel
theorem dL_law_593 : decode cL_law 593 = .ok (.iaload, 1) := by decide +kernel
theorem dL_law_594 : decode cL_law 594 = .ok (.invokevirtual 73, 3) := by decide +kernel
theorem dL_law_597 : decode cL_law 597 = .ok (.aload_n 2, 1) := by decide +kernel
theorem dL_law_598 : decode cL_law 598 = .ok (.aload_n 0, 1) := by decide +kernel
theorem dL_law_599 : decode cL_law 599 = .ok (.iload_n 3, 1) := by decide +kernel
theorem dL_law_600 : decode cL_law 600 = .ok (.iconst 1, 1) := by decide +kernel
theorem dL_law_601 : decode cL_law 601 = .ok (.iadd, 1) := by decide +kernel
theorem dL_law_602 : decode cL_law 602 = .ok (.iaload, 1) := by decide +kernel
theorem dL_law_603 : decode cL_law 603 = .ok (.aload_n 0, 1) := by decide +kernel
theorem dL_law_604 : decode cL_law 604 = .ok (.iload_n 3, 1) := by decide +kernel
theorem dL_law_605 : decode cL_law 605 = .ok (.iconst 2, 1) := by decide +kernel
theorem dL_law_606 : decode cL_law 606 = .ok (.iadd, 1) := by decide +kernel
theorem dL_law_607 : decode cL_law 607 = .ok (.iaload, 1) := by decide +kernel
theorem dL_law_608 : decode cL_law 608 = .ok (.invokevirtual 76, 3) := by decide +kernel
theorem dL_law_611 : decode cL_law 611 = .ok (.if_icmp .eq 150, 3) := by decide +kernel
theorem dL_law_616 : decode cL_law 616 = .ok (.aload_n 1, 1) := by decide +kernel
theorem dL_law_617 : decode cL_law 617 = .ok (.aload_n 0, 1) := by decide +kernel
theorem dL_law_618 : decode cL_law 618 = .ok (.iload_n 3, 1) := by decide +kernel
theorem dL_law_619 : decode cL_law 619 = .ok (.iconst 1, 1) := by decide +kernel
theorem dL_law_620 : decode cL_law 620 = .ok (.iadd, 1) := by decide +kernel
theorem dL_law_621 : decode cL_law 621 = .ok (.iaload, 1) := by decide +kernel
theorem dL_law_622 : decode cL_law 622 = .ok (.aload_n 0, 1) := by decide +kernel
theorem dL_law_623 : decode cL_law 623 = .ok (.iload_n 3, 1) := by decide +kernel
theorem dL_law_624 : decode cL_law 624 = .ok (.iconst 2, 1) := by decide +kernel
theorem dL_law_625 : decode cL_law 625 = .ok (.iadd, 1) := by decide +kernel
theorem dL_law_626 : decode cL_law 626 = .ok (.iaload, 1) := by decide +kernel
theorem dL_law_627 : decode cL_law 627 = .ok (.invokevirtual 77, 3) := by decide +kernel
theorem dL_law_630 : decode cL_law 630 = .ok (.aload_n 2, 1) := by decide +kernel
theorem dL_law_631 : decode cL_law 631 = .ok (.aload_n 0, 1) := by decide +kernel
theorem dL_law_632 : decode cL_law 632 = .ok (.iload_n 3, 1) := by decide +kernel
theorem dL_law_633 : decode cL_law 633 = .ok (.iconst 1, 1) := by decide +kernel
theorem dL_law_634 : decode cL_law 634 = .ok (.iadd, 1) := by decide +kernel
theorem dL_law_635 : decode cL_law 635 = .ok (.iaload, 1) := by decide +kernel
theorem dL_law_636 : decode cL_law 636 = .ok (.aload_n 0, 1) := by decide +kernel
theorem dL_law_637 : decode cL_law 637 = .ok (.iload_n 3, 1) := by decide +kernel
theorem dL_law_638 : decode cL_law 638 = .ok (.iconst 2, 1) := by decide +kernel
theorem dL_law_639 : decode cL_law 639 = .ok (.iadd, 1) := by decide +kernel
theorem dL_law_640 : decode cL_law 640 = .ok (.iaload, 1) := by decide +kernel
theorem dL_law_641 : decode cL_law 641 = .ok (.invokevirtual 80, 3) := by decide +kernel
theorem dL_law_644 : decode cL_law 644 = .ok (.if_icmp .eq 117, 3) := by decide +kernel
theorem dL_law_649 : decode cL_law 649 = .ok (.aload_n 1, 1) := by decide +kernel
theorem dL_law_650 : decode cL_law 650 = .ok (.aload_n 0, 1) := by decide +kernel
theorem dL_law_651 : decode cL_law 651 = .ok (.iload_n 3, 1) := by decide +kernel
theorem dL_law_652 : decode cL_law 652 = .ok (.iconst 1, 1) := by decide +kernel
theorem dL_law_653 : decode cL_law 653 = .ok (.iadd, 1) := by decide +kernel
theorem dL_law_654 : decode cL_law 654 = .ok (.iaload, 1) := by decide +kernel
theorem dL_law_655 : decode cL_law 655 = .ok (.aload_n 0, 1) := by decide +kernel
theorem dL_law_656 : decode cL_law 656 = .ok (.iload_n 3, 1) := by decide +kernel
theorem dL_law_657 : decode cL_law 657 = .ok (.iconst 2, 1) := by decide +kernel
theorem dL_law_658 : decode cL_law 658 = .ok (.iadd, 1) := by decide +kernel
theorem dL_law_659 : decode cL_law 659 = .ok (.iaload, 1) := by decide +kernel
theorem dL_law_660 : decode cL_law 660 = .ok (.invokevirtual 81, 3) := by decide +kernel
theorem dL_law_663 : decode cL_law 663 = .ok (.aload_n 2, 1) := by decide +kernel
theorem dL_law_664 : decode cL_law 664 = .ok (.aload_n 0, 1) := by decide +kernel
theorem dL_law_665 : decode cL_law 665 = .ok (.iload_n 3, 1) := by decide +kernel
theorem dL_law_666 : decode cL_law 666 = .ok (.iconst 1, 1) := by decide +kernel
theorem dL_law_667 : decode cL_law 667 = .ok (.iadd, 1) := by decide +kernel
theorem dL_law_668 : decode cL_law 668 = .ok (.iaload, 1) := by decide +kernel
theorem dL_law_669 : decode cL_law 669 = .ok (.aload_n 0, 1) := by decide +kernel
theorem dL_law_670 : decode cL_law 670 = .ok (.iload_n 3, 1) := by decide +kernel
theorem dL_law_671 : decode cL_law 671 = .ok (.iconst 2, 1) := by decide +kernel
theorem dL_law_672 : decode cL_law 672 = .ok (.iadd, 1) := by decide +kernel
theorem dL_law_673 : decode cL_law 673 = .ok (.iaload, 1) := by decide +kernel
theorem dL_law_674 : decode cL_law 674 = .ok (.invokevirtual 84, 3) := by decide +kernel
theorem dL_law_677 : decode cL_law 677 = .ok (.if_icmp .eq 84, 3) := by decide +kernel
theorem dL_law_682 : decode cL_law 682 = .ok (.aload_n 1, 1) := by decide +kernel
theorem dL_law_683 : decode cL_law 683 = .ok (.aload_n 0, 1) := by decide +kernel
theorem dL_law_684 : decode cL_law 684 = .ok (.iload_n 3, 1) := by decide +kernel
theorem dL_law_685 : decode cL_law 685 = .ok (.iconst 1, 1) := by decide +kernel
theorem dL_law_686 : decode cL_law 686 = .ok (.iadd, 1) := by decide +kernel
theorem dL_law_687 : decode cL_law 687 = .ok (.iaload, 1) := by decide +kernel
theorem dL_law_688 : decode cL_law 688 = .ok (.aload_n 0, 1) := by decide +kernel
theorem dL_law_689 : decode cL_law 689 = .ok (.iload_n 3, 1) := by decide +kernel
theorem dL_law_690 : decode cL_law 690 = .ok (.iconst 2, 1) := by decide +kernel
theorem dL_law_691 : decode cL_law 691 = .ok (.iadd, 1) := by decide +kernel
theorem dL_law_692 : decode cL_law 692 = .ok (.iaload, 1) := by decide +kernel
theorem dL_law_693 : decode cL_law 693 = .ok (.invokevirtual 85, 3) := by decide +kernel
theorem dL_law_696 : decode cL_law 696 = .ok (.aload_n 2, 1) := by decide +kernel
theorem dL_law_697 : decode cL_law 697 = .ok (.aload_n 0, 1) := by decide +kernel
theorem dL_law_698 : decode cL_law 698 = .ok (.iload_n 3, 1) := by decide +kernel
theorem dL_law_699 : decode cL_law 699 = .ok (.iconst 1, 1) := by decide +kernel
theorem dL_law_700 : decode cL_law 700 = .ok (.iadd, 1) := by decide +kernel
theorem dL_law_701 : decode cL_law 701 = .ok (.iaload, 1) := by decide +kernel
theorem dL_law_702 : decode cL_law 702 = .ok (.aload_n 0, 1) := by decide +kernel
theorem dL_law_703 : decode cL_law 703 = .ok (.iload_n 3, 1) := by decide +kernel
theorem dL_law_704 : decode cL_law 704 = .ok (.iconst 2, 1) := by decide +kernel
theorem dL_law_705 : decode cL_law 705 = .ok (.iadd, 1) := by decide +kernel
theorem dL_law_706 : decode cL_law 706 = .ok (.iaload, 1) := by decide +kernel
theorem dL_law_707 : decode cL_law 707 = .ok (.invokevirtual 88, 3) := by decide +kernel
theorem dL_law_710 : decode cL_law 710 = .ok (.if_icmp .eq 51, 3) := by decide +kernel
theorem dL_law_715 : decode cL_law 715 = .ok (.aload_n 1, 1) := by decide +kernel
theorem dL_law_716 : decode cL_law 716 = .ok (.aload_n 0, 1) := by decide +kernel
theorem dL_law_717 : decode cL_law 717 = .ok (.iload_n 3, 1) := by decide +kernel
theorem dL_law_718 : decode cL_law 718 = .ok (.iconst 1, 1) := by decide +kernel
theorem dL_law_719 : decode cL_law 719 = .ok (.iadd, 1) := by decide +kernel
theorem dL_law_720 : decode cL_law 720 = .ok (.iaload, 1) := by decide +kernel
theorem dL_law_721 : decode cL_law 721 = .ok (.invokevirtual 89, 3) := by decide +kernel
theorem dL_law_724 : decode cL_law 724 = .ok (.aload_n 2, 1) := by decide +kernel
theorem dL_law_725 : decode cL_law 725 = .ok (.aload_n 0, 1) := by decide +kernel
theorem dL_law_726 : decode cL_law 726 = .ok (.iload_n 3, 1) := by decide +kernel
theorem dL_law_727 : decode cL_law 727 = .ok (.iconst 1, 1) := by decide +kernel
theorem dL_law_728 : decode cL_law 728 = .ok (.iadd, 1) := by decide +kernel
theorem dL_law_729 : decode cL_law 729 = .ok (.iaload, 1) := by decide +kernel
theorem dL_law_730 : decode cL_law 730 = .ok (.invokevirtual 92, 3) := by decide +kernel
theorem dL_law_733 : decode cL_law 733 = .ok (.if_icmp .eq 28, 3) := by decide +kernel
theorem dL_law_738 : decode cL_law 738 = .ok (.aload_n 1, 1) := by decide +kernel
theorem dL_law_739 : decode cL_law 739 = .ok (.aload_n 0, 1) := by decide +kernel
theorem dL_law_740 : decode cL_law 740 = .ok (.iload_n 3, 1) := by decide +kernel
theorem dL_law_741 : decode cL_law 741 = .ok (.iconst 1, 1) := by decide +kernel
theorem dL_law_742 : decode cL_law 742 = .ok (.iadd, 1) := by decide +kernel
theorem dL_law_743 : decode cL_law 743 = .ok (.iaload, 1) := by decide +kernel
theorem dL_law_744 : decode cL_law 744 = .ok (.invokevirtual 93, 3) := by decide +kernel
theorem dL_law_747 : decode cL_law 747 = .ok (.aload_n 2, 1) := by decide +kernel
theorem dL_law_748 : decode cL_law 748 = .ok (.aload_n 0, 1) := by decide +kernel
theorem dL_law_749 : decode cL_law 749 = .ok (.iload_n 3, 1) := by decide +kernel
theorem dL_law_750 : decode cL_law 750 = .ok (.iconst 1, 1) := by decide +kernel
theorem dL_law_751 : decode cL_law 751 = .ok (.iadd, 1) := by decide +kernel
theorem dL_law_752 : decode cL_law 752 = .ok (.iaload, 1) := by decide +kernel
theorem dL_law_753 : decode cL_law 753 = .ok (.invokevirtual 96, 3) := by decide +kernel
theorem dL_law_756 : decode cL_law 756 = .ok (.if_icmp .eq 5, 3) := by decide +kernel
theorem dL_law_761 : decode cL_law 761 = .ok (.iinc 3 5, 3) := by decide +kernel
theorem dL_law_764 : decode cL_law 764 = .ok (.goto (-746), 3) := by decide +kernel
theorem dL_law_767 : decode cL_law 767 = .ok (.iconst 1, 1) := by decide +kernel
theorem dL_law_768 : decode cL_law 768 = .ok (.ireturn, 1) := by decide +kernel
