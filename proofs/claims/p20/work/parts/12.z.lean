theorem dX0_clear_0 : decode cX0_clear 0 = .ok (.aload_n 0, 1) := by decide +kernel
theorem dX0_clear_1 : decode cX0_clear 1 = .ok (.iconst 0, 1) := by decide +kernel
theorem dX0_clear_2 : decode cX0_clear 2 = .ok (.putfield 19, 3) := by decide +kernel
theorem dX0_clear_5 : decode cX0_clear 5 = .ok (.return_, 1) := by decide +kernel
theorem dX0_add_0 : decode cX0_add 0 = .ok (.aload_n 0, 1) := by decide +kernel
theorem dX0_add_1 : decode cX0_add 1 = .ok (.getfield 19, 3) := by decide +kernel
theorem dX0_add_4 : decode cX0_add 4 = .ok (.aload_n 0, 1) := by decide +kernel
theorem dX0_add_5 : decode cX0_add 5 = .ok (.getfield 15, 3) := by decide +kernel
theorem dX0_add_8 : decode cX0_add 8 = .ok (.if_icmp .lt 4, 3) := by decide +kernel
theorem dX0_add_11 : decode cX0_add 11 = .ok (.return_, 1) := by decide +kernel
theorem dX0_add_12 : decode cX0_add 12 = .ok (.aload_n 0, 1) := by decide +kernel
theorem dX0_add_13 : decode cX0_add 13 = .ok (.getfield 19, 3) := by decide +kernel
theorem dX0_add_16 : decode cX0_add 16 = .ok (.aload_n 0, 1) := by decide +kernel
theorem dX0_add_17 : decode cX0_add 17 = .ok (.getfield 9, 3) := by decide +kernel
theorem dX0_add_20 : decode cX0_add 20 = .ok (.arraylength, 1) := by decide +kernel
theorem dX0_add_21 : decode cX0_add 21 = .ok (.if_icmp .lt 33, 3) := by decide +kernel
theorem dX0_add_24 : decode cX0_add 24 = .ok (.iconst 2, 1) := by decide +kernel
theorem dX0_add_25 : decode cX0_add 25 = .ok (.aload_n 0, 1) := by decide +kernel
theorem dX0_add_26 : decode cX0_add 26 = .ok (.getfield 9, 3) := by decide +kernel
theorem dX0_add_29 : decode cX0_add 29 = .ok (.arraylength, 1) := by decide +kernel
theorem dX0_add_30 : decode cX0_add 30 = .ok (.imul, 1) := by decide +kernel
theorem dX0_add_31 : decode cX0_add 31 = .ok (.newarray .int, 2) := by decide +kernel
theorem dX0_add_33 : decode cX0_add 33 = .ok (.astore_n 2, 1) := by decide +kernel
theorem dX0_add_34 : decode cX0_add 34 = .ok (.aload_n 0, 1) := by decide +kernel
theorem dX0_add_35 : decode cX0_add 35 = .ok (.getfield 9, 3) := by decide +kernel
theorem dX0_add_38 : decode cX0_add 38 = .ok (.iconst 0, 1) := by decide +kernel
theorem dX0_add_39 : decode cX0_add 39 = .ok (.aload_n 2, 1) := by decide +kernel
theorem dX0_add_40 : decode cX0_add 40 = .ok (.iconst 0, 1) := by decide +kernel
theorem dX0_add_41 : decode cX0_add 41 = .ok (.aload_n 0, 1) := by decide +kernel
theorem dX0_add_42 : decode cX0_add 42 = .ok (.getfield 9, 3) := by decide +kernel
theorem dX0_add_45 : decode cX0_add 45 = .ok (.arraylength, 1) := by decide +kernel
theorem dX0_add_46 : decode cX0_add 46 = .ok (.invokestatic 22, 3) := by decide +kernel
theorem dX0_add_49 : decode cX0_add 49 = .ok (.aload_n 0, 1) := by decide +kernel
theorem dX0_add_50 : decode cX0_add 50 = .ok (.aload_n 2, 1) := by decide +kernel
theorem dX0_add_51 : decode cX0_add 51 = .ok (.putfield 9, 3) := by decide +kernel
theorem dX0_add_54 : decode cX0_add 54 = .ok (.aload_n 0, 1) := by decide +kernel
theorem dX0_add_55 : decode cX0_add 55 = .ok (.getfield 19, 3) := by decide +kernel
theorem dX0_add_58 : decode cX0_add 58 = .ok (.ifCond .lt 35, 3) := by decide +kernel
theorem dX0_add_61 : decode cX0_add 61 = .ok (.aload_n 0, 1) := by decide +kernel
theorem dX0_add_62 : decode cX0_add 62 = .ok (.getfield 19, 3) := by decide +kernel
theorem dX0_add_65 : decode cX0_add 65 = .ok (.aload_n 0, 1) := by decide +kernel
theorem dX0_add_66 : decode cX0_add 66 = .ok (.getfield 9, 3) := by decide +kernel
theorem dX0_add_69 : decode cX0_add 69 = .ok (.arraylength, 1) := by decide +kernel
theorem dX0_add_70 : decode cX0_add 70 = .ok (.if_icmp .ge 23, 3) := by decide +kernel
theorem dX0_add_73 : decode cX0_add 73 = .ok (.aload_n 0, 1) := by decide +kernel
theorem dX0_add_74 : decode cX0_add 74 = .ok (.getfield 9, 3) := by decide +kernel
theorem dX0_add_77 : decode cX0_add 77 = .ok (.aload_n 0, 1) := by decide +kernel
theorem dX0_add_78 : decode cX0_add 78 = .ok (.getfield 19, 3) := by decide +kernel
theorem dX0_add_81 : decode cX0_add 81 = .ok (.iload_n 1, 1) := by decide +kernel
theorem dX0_add_82 : decode cX0_add 82 = .ok (.iastore, 1) := by decide +kernel
theorem dX0_add_83 : decode cX0_add 83 = .ok (.aload_n 0, 1) := by decide +kernel
theorem dX0_add_84 : decode cX0_add 84 = .ok (.dup, 1) := by decide +kernel
theorem dX0_add_85 : decode cX0_add 85 = .ok (.getfield 19, 3) := by decide +kernel
theorem dX0_add_88 : decode cX0_add 88 = .ok (.iconst 1, 1) := by decide +kernel
theorem dX0_add_89 : decode cX0_add 89 = .ok (.iadd, 1) := by decide +kernel
theorem dX0_add_90 : decode cX0_add 90 = .ok (.putfield 19, 3) := by decide +kernel
theorem dX0_add_93 : decode cX0_add 93 = .ok (.return_, 1) := by decide +kernel
theorem dX0_has_0 : decode cX0_has 0 = .ok (.iload_n 1, 1) := by decide +kernel
theorem dX0_has_1 : decode cX0_has 1 = .ok (.ifCond .lt 24, 3) := by decide +kernel
theorem dX0_has_4 : decode cX0_has 4 = .ok (.iload_n 1, 1) := by decide +kernel
theorem dX0_has_5 : decode cX0_has 5 = .ok (.aload_n 0, 1) := by decide +kernel
theorem dX0_has_6 : decode cX0_has 6 = .ok (.getfield 19, 3) := by decide +kernel
theorem dX0_has_9 : decode cX0_has 9 = .ok (.if_icmp .ge 16, 3) := by decide +kernel
theorem dX0_has_12 : decode cX0_has 12 = .ok (.iload_n 1, 1) := by decide +kernel
theorem dX0_has_13 : decode cX0_has 13 = .ok (.aload_n 0, 1) := by decide +kernel
theorem dX0_has_14 : decode cX0_has 14 = .ok (.getfield 9, 3) := by decide +kernel
theorem dX0_has_17 : decode cX0_has 17 = .ok (.arraylength, 1) := by decide +kernel
theorem dX0_has_18 : decode cX0_has 18 = .ok (.if_icmp .ge 7, 3) := by decide +kernel
theorem dX0_has_21 : decode cX0_has 21 = .ok (.iconst 1, 1) := by decide +kernel
theorem dX0_has_22 : decode cX0_has 22 = .ok (.goto 4, 3) := by decide +kernel
theorem dX0_has_25 : decode cX0_has 25 = .ok (.iconst 0, 1) := by decide +kernel
theorem dX0_has_26 : decode cX0_has 26 = .ok (.ireturn, 1) := by decide +kernel
theorem dX0_at_0 : decode cX0_at 0 = .ok (.aload_n 0, 1) := by decide +kernel
theorem dX0_at_1 : decode cX0_at 1 = .ok (.iload_n 1, 1) := by decide +kernel
theorem dX0_at_2 : decode cX0_at 2 = .ok (.invokevirtual 28, 3) := by decide +kernel
theorem dX0_at_5 : decode cX0_at 5 = .ok (.ifCond .eq 12, 3) := by decide +kernel
theorem dX0_at_8 : decode cX0_at 8 = .ok (.aload_n 0, 1) := by decide +kernel
theorem dX0_at_9 : decode cX0_at 9 = .ok (.getfield 9, 3) := by decide +kernel
theorem dX0_at_12 : decode cX0_at 12 = .ok (.iload_n 1, 1) := by decide +kernel
theorem dX0_at_13 : decode cX0_at 13 = .ok (.iaload, 1) := by decide +kernel
theorem dX0_at_14 : decode cX0_at 14 = .ok (.goto 4, 3) := by decide +kernel
theorem dX0_at_17 : decode cX0_at 17 = .ok (.iconst 0, 1) := by decide +kernel
theorem dX0_at_18 : decode cX0_at 18 = .ok (.ireturn, 1) := by decide +kernel
theorem dX1_add_0 : decode cX1_add 0 = .ok (.aload_n 0, 1) := by decide +kernel
theorem dX1_add_1 : decode cX1_add 1 = .ok (.getfield 21, 3) := by decide +kernel
theorem dX1_add_4 : decode cX1_add 4 = .ok (.ifCond .lt 12, 3) := by decide +kernel
theorem dX1_add_7 : decode cX1_add 7 = .ok (.aload_n 0, 1) := by decide +kernel
theorem dX1_add_8 : decode cX1_add 8 = .ok (.getfield 21, 3) := by decide +kernel
theorem dX1_add_11 : decode cX1_add 11 = .ok (.bipush 24, 2) := by decide +kernel
theorem dX1_add_13 : decode cX1_add 13 = .ok (.if_icmp .lt 4, 3) := by decide +kernel
theorem dX1_add_16 : decode cX1_add 16 = .ok (.return_, 1) := by decide +kernel
theorem dX1_add_17 : decode cX1_add 17 = .ok (.aload_n 0, 1) := by decide +kernel
theorem dX1_add_18 : decode cX1_add 18 = .ok (.getfield 9, 3) := by decide +kernel
theorem dX1_add_21 : decode cX1_add 21 = .ok (.aload_n 0, 1) := by decide +kernel
theorem dX1_add_22 : decode cX1_add 22 = .ok (.getfield 21, 3) := by decide +kernel
theorem dX1_add_25 : decode cX1_add 25 = .ok (.iload_n 1, 1) := by decide +kernel
theorem dX1_add_26 : decode cX1_add 26 = .ok (.iastore, 1) := by decide +kernel
theorem dX1_add_27 : decode cX1_add 27 = .ok (.aload_n 0, 1) := by decide +kernel
theorem dX1_add_28 : decode cX1_add 28 = .ok (.getfield 15, 3) := by decide +kernel
theorem dX1_add_31 : decode cX1_add 31 = .ok (.aload_n 0, 1) := by decide +kernel
theorem dX1_add_32 : decode cX1_add 32 = .ok (.getfield 21, 3) := by decide +kernel
theorem dX1_add_35 : decode cX1_add 35 = .ok (.iload_n 2, 1) := by decide +kernel
theorem dX1_add_36 : decode cX1_add 36 = .ok (.iastore, 1) := by decide +kernel
theorem dX1_add_37 : decode cX1_add 37 = .ok (.aload_n 0, 1) := by decide +kernel
theorem dX1_add_38 : decode cX1_add 38 = .ok (.getfield 18, 3) := by decide +kernel
theorem dX1_add_41 : decode cX1_add 41 = .ok (.aload_n 0, 1) := by decide +kernel
theorem dX1_add_42 : decode cX1_add 42 = .ok (.getfield 21, 3) := by decide +kernel
theorem dX1_add_45 : decode cX1_add 45 = .ok (.iload_n 3, 1) := by decide +kernel
theorem dX1_add_46 : decode cX1_add 46 = .ok (.iastore, 1) := by decide +kernel
theorem dX1_add_47 : decode cX1_add 47 = .ok (.aload_n 0, 1) := by decide +kernel
theorem dX1_add_48 : decode cX1_add 48 = .ok (.dup, 1) := by decide +kernel
theorem dX1_add_49 : decode cX1_add 49 = .ok (.getfield 21, 3) := by decide +kernel
theorem dX1_add_52 : decode cX1_add 52 = .ok (.iconst 1, 1) := by decide +kernel
theorem dX1_add_53 : decode cX1_add 53 = .ok (.iadd, 1) := by decide +kernel
theorem dX1_add_54 : decode cX1_add 54 = .ok (.putfield 21, 3) := by decide +kernel
theorem dX1_add_57 : decode cX1_add 57 = .ok (.return_, 1) := by decide +kernel
theorem dX2_clear_0 : decode cX2_clear 0 = .ok (.aload_n 0, 1) := by decide +kernel
theorem dX2_clear_1 : decode cX2_clear 1 = .ok (.iconst (-1), 1) := by decide +kernel
theorem dX2_clear_2 : decode cX2_clear 2 = .ok (.putfield 9, 3) := by decide +kernel
theorem dX2_clear_5 : decode cX2_clear 5 = .ok (.aload_n 0, 1) := by decide +kernel
theorem dX2_clear_6 : decode cX2_clear 6 = .ok (.iconst (-1), 1) := by decide +kernel
theorem dX2_clear_7 : decode cX2_clear 7 = .ok (.putfield 15, 3) := by decide +kernel
theorem dX2_clear_10 : decode cX2_clear 10 = .ok (.aload_n 0, 1) := by decide +kernel
theorem dX2_clear_11 : decode cX2_clear 11 = .ok (.iconst (-1), 1) := by decide +kernel
theorem dX2_clear_12 : decode cX2_clear 12 = .ok (.putfield 18, 3) := by decide +kernel
theorem dX2_clear_15 : decode cX2_clear 15 = .ok (.aload_n 0, 1) := by decide +kernel
theorem dX2_clear_16 : decode cX2_clear 16 = .ok (.iconst 0, 1) := by decide +kernel
theorem dX2_clear_17 : decode cX2_clear 17 = .ok (.putfield 21, 3) := by decide +kernel
theorem dX2_clear_20 : decode cX2_clear 20 = .ok (.aload_n 0, 1) := by decide +kernel
theorem dX2_clear_21 : decode cX2_clear 21 = .ok (.iconst 0, 1) := by decide +kernel
theorem dX2_clear_22 : decode cX2_clear 22 = .ok (.putfield 24, 3) := by decide +kernel
theorem dX2_clear_25 : decode cX2_clear 25 = .ok (.return_, 1) := by decide +kernel
theorem dX3_indexOf_0 : decode cX3_indexOf 0 = .ok (.iload_n 0, 1) := by decide +kernel
theorem dX3_indexOf_1 : decode cX3_indexOf 1 = .ok (.iconst 2, 1) := by decide +kernel
theorem dX3_indexOf_2 : decode cX3_indexOf 2 = .ok (.if_icmp .ne 6, 3) := by decide +kernel
theorem dX3_indexOf_5 : decode cX3_indexOf 5 = .ok (.bipush 16, 2) := by decide +kernel
theorem dX3_indexOf_7 : decode cX3_indexOf 7 = .ok (.ireturn, 1) := by decide +kernel
theorem dX3_indexOf_8 : decode cX3_indexOf 8 = .ok (.iload_n 0, 1) := by decide +kernel
theorem dX3_indexOf_9 : decode cX3_indexOf 9 = .ok (.ifCond .ne 12, 3) := by decide +kernel
theorem dX3_indexOf_12 : decode cX3_indexOf 12 = .ok (.iload_n 1, 1) := by decide +kernel
theorem dX3_indexOf_13 : decode cX3_indexOf 13 = .ok (.invokestatic 22, 3) := by decide +kernel
theorem dX3_indexOf_16 : decode cX3_indexOf 16 = .ok (.ifCond .eq 5, 3) := by decide +kernel
theorem dX3_indexOf_19 : decode cX3_indexOf 19 = .ok (.iload_n 1, 1) := by decide +kernel
theorem dX3_indexOf_20 : decode cX3_indexOf 20 = .ok (.ireturn, 1) := by decide +kernel
theorem dX3_indexOf_21 : decode cX3_indexOf 21 = .ok (.iload_n 0, 1) := by decide +kernel
theorem dX3_indexOf_22 : decode cX3_indexOf 22 = .ok (.iconst 1, 1) := by decide +kernel
theorem dX3_indexOf_23 : decode cX3_indexOf 23 = .ok (.if_icmp .ne 18, 3) := by decide +kernel
theorem dX3_indexOf_26 : decode cX3_indexOf 26 = .ok (.iload_n 1, 1) := by decide +kernel
theorem dX3_indexOf_27 : decode cX3_indexOf 27 = .ok (.ifCond .lt 14, 3) := by decide +kernel
theorem dX3_indexOf_30 : decode cX3_indexOf 30 = .ok (.iload_n 1, 1) := by decide +kernel
theorem dX3_indexOf_31 : decode cX3_indexOf 31 = .ok (.bipush 8, 2) := by decide +kernel
theorem dX3_indexOf_33 : decode cX3_indexOf 33 = .ok (.if_icmp .ge 8, 3) := by decide +kernel
theorem dX3_indexOf_36 : decode cX3_indexOf 36 = .ok (.bipush 8, 2) := by decide +kernel
theorem dX3_indexOf_38 : decode cX3_indexOf 38 = .ok (.iload_n 1, 1) := by decide +kernel
theorem dX3_indexOf_39 : decode cX3_indexOf 39 = .ok (.iadd, 1) := by decide +kernel
theorem dX3_indexOf_40 : decode cX3_indexOf 40 = .ok (.ireturn, 1) := by decide +kernel
theorem dX3_indexOf_41 : decode cX3_indexOf 41 = .ok (.iconst (-1), 1) := by decide +kernel
theorem dX3_indexOf_42 : decode cX3_indexOf 42 = .ok (.ireturn, 1) := by decide +kernel
theorem dX3_put_0 : decode cX3_put 0 = .ok (.iload_n 1, 1) := by decide +kernel
theorem dX3_put_1 : decode cX3_put 1 = .ok (.ifCond .lt 30, 3) := by decide +kernel
theorem dX3_put_4 : decode cX3_put 4 = .ok (.iload_n 1, 1) := by decide +kernel
theorem dX3_put_5 : decode cX3_put 5 = .ok (.bipush 17, 2) := by decide +kernel
theorem dX3_put_7 : decode cX3_put 7 = .ok (.if_icmp .ge 24, 3) := by decide +kernel
theorem dX3_put_10 : decode cX3_put 10 = .ok (.aload_n 0, 1) := by decide +kernel
theorem dX3_put_11 : decode cX3_put 11 = .ok (.getfield 11, 3) := by decide +kernel
theorem dX3_put_14 : decode cX3_put 14 = .ok (.iload_n 1, 1) := by decide +kernel
theorem dX3_put_15 : decode cX3_put 15 = .ok (.iconst 1, 1) := by decide +kernel
theorem dX3_put_16 : decode cX3_put 16 = .ok (.bastore, 1) := by decide +kernel
theorem dX3_put_17 : decode cX3_put 17 = .ok (.aload_n 0, 1) := by decide +kernel
theorem dX3_put_18 : decode cX3_put 18 = .ok (.getfield 15, 3) := by decide +kernel
theorem dX3_put_21 : decode cX3_put 21 = .ok (.iload_n 1, 1) := by decide +kernel
theorem dX3_put_22 : decode cX3_put 22 = .ok (.iload_n 2, 1) := by decide +kernel
theorem dX3_put_23 : decode cX3_put 23 = .ok (.iastore, 1) := by decide +kernel
theorem dX3_put_24 : decode cX3_put 24 = .ok (.aload_n 0, 1) := by decide +kernel
theorem dX3_put_25 : decode cX3_put 25 = .ok (.getfield 19, 3) := by decide +kernel
theorem dX3_put_28 : decode cX3_put 28 = .ok (.iload_n 1, 1) := by decide +kernel
theorem dX3_put_29 : decode cX3_put 29 = .ok (.iload_n 3, 1) := by decide +kernel
theorem dX3_put_30 : decode cX3_put 30 = .ok (.bastore, 1) := by decide +kernel
theorem dX3_put_31 : decode cX3_put 31 = .ok (.return_, 1) := by decide +kernel
theorem dX3_isThere_0 : decode cX3_isThere 0 = .ok (.iload_n 1, 1) := by decide +kernel
theorem dX3_isThere_1 : decode cX3_isThere 1 = .ok (.ifCond .lt 22, 3) := by decide +kernel
theorem dX3_isThere_4 : decode cX3_isThere 4 = .ok (.iload_n 1, 1) := by decide +kernel
theorem dX3_isThere_5 : decode cX3_isThere 5 = .ok (.bipush 17, 2) := by decide +kernel
theorem dX3_isThere_7 : decode cX3_isThere 7 = .ok (.if_icmp .ge 16, 3) := by decide +kernel
theorem dX3_isThere_10 : decode cX3_isThere 10 = .ok (.aload_n 0, 1) := by decide +kernel
theorem dX3_isThere_11 : decode cX3_isThere 11 = .ok (.getfield 11, 3) := by decide +kernel
theorem dX3_isThere_14 : decode cX3_isThere 14 = .ok (.iload_n 1, 1) := by decide +kernel
theorem dX3_isThere_15 : decode cX3_isThere 15 = .ok (.baload, 1) := by decide +kernel
theorem dX3_isThere_16 : decode cX3_isThere 16 = .ok (.ifCond .eq 7, 3) := by decide +kernel
theorem dX3_isThere_19 : decode cX3_isThere 19 = .ok (.iconst 1, 1) := by decide +kernel
theorem dX3_isThere_20 : decode cX3_isThere 20 = .ok (.goto 4, 3) := by decide +kernel
theorem dX3_isThere_23 : decode cX3_isThere 23 = .ok (.iconst 0, 1) := by decide +kernel
theorem dX3_isThere_24 : decode cX3_isThere 24 = .ok (.ireturn, 1) := by decide +kernel
theorem dX3_isThrowing_0 : decode cX3_isThrowing 0 = .ok (.iload_n 1, 1) := by decide +kernel
theorem dX3_isThrowing_1 : decode cX3_isThrowing 1 = .ok (.ifCond .lt 22, 3) := by decide +kernel
theorem dX3_isThrowing_4 : decode cX3_isThrowing 4 = .ok (.iload_n 1, 1) := by decide +kernel
theorem dX3_isThrowing_5 : decode cX3_isThrowing 5 = .ok (.bipush 17, 2) := by decide +kernel
theorem dX3_isThrowing_7 : decode cX3_isThrowing 7 = .ok (.if_icmp .ge 16, 3) := by decide +kernel
theorem dX3_isThrowing_10 : decode cX3_isThrowing 10 = .ok (.aload_n 0, 1) := by decide +kernel
theorem dX3_isThrowing_11 : decode cX3_isThrowing 11 = .ok (.getfield 19, 3) := by decide +kernel
theorem dX3_isThrowing_14 : decode cX3_isThrowing 14 = .ok (.iload_n 1, 1) := by decide +kernel
theorem dX3_isThrowing_15 : decode cX3_isThrowing 15 = .ok (.baload, 1) := by decide +kernel
theorem dX3_isThrowing_16 : decode cX3_isThrowing 16 = .ok (.ifCond .eq 7, 3) := by decide +kernel
theorem dX3_isThrowing_19 : decode cX3_isThrowing 19 = .ok (.iconst 1, 1) := by decide +kernel
theorem dX3_isThrowing_20 : decode cX3_isThrowing 20 = .ok (.goto 4, 3) := by decide +kernel
theorem dX3_isThrowing_23 : decode cX3_isThrowing 23 = .ok (.iconst 0, 1) := by decide +kernel
theorem dX3_isThrowing_24 : decode cX3_isThrowing 24 = .ok (.ireturn, 1) := by decide +kernel
theorem dX3_effectAt_0 : decode cX3_effectAt 0 = .ok (.iload_n 1, 1) := by decide +kernel
theorem dX3_effectAt_1 : decode cX3_effectAt 1 = .ok (.ifCond .lt 18, 3) := by decide +kernel
theorem dX3_effectAt_4 : decode cX3_effectAt 4 = .ok (.iload_n 1, 1) := by decide +kernel
theorem dX3_effectAt_5 : decode cX3_effectAt 5 = .ok (.bipush 17, 2) := by decide +kernel
theorem dX3_effectAt_7 : decode cX3_effectAt 7 = .ok (.if_icmp .ge 12, 3) := by decide +kernel
theorem dX3_effectAt_10 : decode cX3_effectAt 10 = .ok (.aload_n 0, 1) := by decide +kernel
theorem dX3_effectAt_11 : decode cX3_effectAt 11 = .ok (.getfield 15, 3) := by decide +kernel
theorem dX3_effectAt_14 : decode cX3_effectAt 14 = .ok (.iload_n 1, 1) := by decide +kernel
theorem dX3_effectAt_15 : decode cX3_effectAt 15 = .ok (.iaload, 1) := by decide +kernel
theorem dX3_effectAt_16 : decode cX3_effectAt 16 = .ok (.goto 4, 3) := by decide +kernel
theorem dX3_effectAt_19 : decode cX3_effectAt 19 = .ok (.iconst 0, 1) := by decide +kernel
theorem dX3_effectAt_20 : decode cX3_effectAt 20 = .ok (.ireturn, 1) := by decide +kernel
theorem dX5_clear_0 : decode cX5_clear 0 = .ok (.aload_n 0, 1) := by decide +kernel
theorem dX5_clear_1 : decode cX5_clear 1 = .ok (.getfield 20, 3) := by decide +kernel
theorem dX5_clear_4 : decode cX5_clear 4 = .ok (.invokevirtual 24, 3) := by decide +kernel
theorem dX5_clear_7 : decode cX5_clear 7 = .ok (.return_, 1) := by decide +kernel
theorem dX5_at_0 : decode cX5_at 0 = .ok (.iload_n 1, 1) := by decide +kernel
theorem dX5_at_1 : decode cX5_at 1 = .ok (.ifCond .lt 20, 3) := by decide +kernel
theorem dX5_at_4 : decode cX5_at 4 = .ok (.iload_n 1, 1) := by decide +kernel
theorem dX5_at_5 : decode cX5_at 5 = .ok (.aload_n 0, 1) := by decide +kernel
theorem dX5_at_6 : decode cX5_at 6 = .ok (.getfield 9, 3) := by decide +kernel
theorem dX5_at_9 : decode cX5_at 9 = .ok (.if_icmp .ge 12, 3) := by decide +kernel
theorem dX5_at_12 : decode cX5_at 12 = .ok (.iload_n 2, 1) := by decide +kernel
theorem dX5_at_13 : decode cX5_at 13 = .ok (.ifCond .lt 8, 3) := by decide +kernel
theorem dX5_at_16 : decode cX5_at 16 = .ok (.iload_n 2, 1) := by decide +kernel
theorem dX5_at_17 : decode cX5_at 17 = .ok (.iconst 4, 1) := by decide +kernel
theorem dX5_at_18 : decode cX5_at 18 = .ok (.if_icmp .lt 5, 3) := by decide +kernel
theorem dX5_at_21 : decode cX5_at 21 = .ok (.iconst (-1), 1) := by decide +kernel
theorem dX5_at_22 : decode cX5_at 22 = .ok (.ireturn, 1) := by decide +kernel
theorem dX5_at_23 : decode cX5_at 23 = .ok (.iconst 4, 1) := by decide +kernel
theorem dX5_at_24 : decode cX5_at 24 = .ok (.iload_n 1, 1) := by decide +kernel
theorem dX5_at_25 : decode cX5_at 25 = .ok (.imul, 1) := by decide +kernel
theorem dX5_at_26 : decode cX5_at 26 = .ok (.iload_n 2, 1) := by decide +kernel
theorem dX5_at_27 : decode cX5_at 27 = .ok (.iadd, 1) := by decide +kernel
theorem dX5_at_28 : decode cX5_at 28 = .ok (.istore_n 3, 1) := by decide +kernel
theorem dX5_at_29 : decode cX5_at 29 = .ok (.aload_n 0, 1) := by decide +kernel
theorem dX5_at_30 : decode cX5_at 30 = .ok (.getfield 20, 3) := by decide +kernel
theorem dX5_at_33 : decode cX5_at 33 = .ok (.iload_n 3, 1) := by decide +kernel
theorem dX5_at_34 : decode cX5_at 34 = .ok (.invokevirtual 30, 3) := by decide +kernel
theorem dX5_at_37 : decode cX5_at 37 = .ok (.ifCond .eq 14, 3) := by decide +kernel
theorem dX5_at_40 : decode cX5_at 40 = .ok (.aload_n 0, 1) := by decide +kernel
theorem dX5_at_41 : decode cX5_at 41 = .ok (.getfield 20, 3) := by decide +kernel
theorem dX5_at_44 : decode cX5_at 44 = .ok (.iload_n 3, 1) := by decide +kernel
theorem dX5_at_45 : decode cX5_at 45 = .ok (.invokevirtual 34, 3) := by decide +kernel
theorem dX5_at_48 : decode cX5_at 48 = .ok (.goto 4, 3) := by decide +kernel
theorem dX5_at_51 : decode cX5_at 51 = .ok (.iconst (-1), 1) := by decide +kernel
theorem dX5_at_52 : decode cX5_at 52 = .ok (.ireturn, 1) := by decide +kernel
theorem dX6_clear_0 : decode cX6_clear 0 = .ok (.iconst 0, 1) := by decide +kernel
theorem dX6_clear_1 : decode cX6_clear 1 = .ok (.istore_n 1, 1) := by decide +kernel
theorem dX6_clear_2 : decode cX6_clear 2 = .ok (.iload_n 1, 1) := by decide +kernel
theorem dX6_clear_3 : decode cX6_clear 3 = .ok (.bipush 8, 2) := by decide +kernel
theorem dX6_clear_5 : decode cX6_clear 5 = .ok (.if_icmp .ge 23, 3) := by decide +kernel
theorem dX6_clear_8 : decode cX6_clear 8 = .ok (.aload_n 0, 1) := by decide +kernel
theorem dX6_clear_9 : decode cX6_clear 9 = .ok (.getfield 9, 3) := by decide +kernel
theorem dX6_clear_12 : decode cX6_clear 12 = .ok (.iload_n 1, 1) := by decide +kernel
theorem dX6_clear_13 : decode cX6_clear 13 = .ok (.iconst 0, 1) := by decide +kernel
theorem dX6_clear_14 : decode cX6_clear 14 = .ok (.bastore, 1) := by decide +kernel
theorem dX6_clear_15 : decode cX6_clear 15 = .ok (.aload_n 0, 1) := by decide +kernel
theorem dX6_clear_16 : decode cX6_clear 16 = .ok (.getfield 19, 3) := by decide +kernel
theorem dX6_clear_19 : decode cX6_clear 19 = .ok (.iload_n 1, 1) := by decide +kernel
theorem dX6_clear_20 : decode cX6_clear 20 = .ok (.iconst 0, 1) := by decide +kernel
theorem dX6_clear_21 : decode cX6_clear 21 = .ok (.iastore, 1) := by decide +kernel
theorem dX6_clear_22 : decode cX6_clear 22 = .ok (.iinc 1 1, 3) := by decide +kernel
theorem dX6_clear_25 : decode cX6_clear 25 = .ok (.goto (-23), 3) := by decide +kernel
theorem dX6_clear_28 : decode cX6_clear 28 = .ok (.return_, 1) := by decide +kernel
theorem dX6_write_0 : decode cX6_write 0 = .ok (.iload_n 1, 1) := by decide +kernel
theorem dX6_write_1 : decode cX6_write 1 = .ok (.invokestatic 22, 3) := by decide +kernel
theorem dX6_write_4 : decode cX6_write 4 = .ok (.ifCond .eq 17, 3) := by decide +kernel
theorem dX6_write_7 : decode cX6_write 7 = .ok (.aload_n 0, 1) := by decide +kernel
theorem dX6_write_8 : decode cX6_write 8 = .ok (.getfield 9, 3) := by decide +kernel
theorem dX6_write_11 : decode cX6_write 11 = .ok (.iload_n 1, 1) := by decide +kernel
theorem dX6_write_12 : decode cX6_write 12 = .ok (.iconst 1, 1) := by decide +kernel
theorem dX6_write_13 : decode cX6_write 13 = .ok (.bastore, 1) := by decide +kernel
theorem dX6_write_14 : decode cX6_write 14 = .ok (.aload_n 0, 1) := by decide +kernel
theorem dX6_write_15 : decode cX6_write 15 = .ok (.getfield 15, 3) := by decide +kernel
theorem dX6_write_18 : decode cX6_write 18 = .ok (.iload_n 1, 1) := by decide +kernel
theorem dX6_write_19 : decode cX6_write 19 = .ok (.iload_n 2, 1) := by decide +kernel
theorem dX6_write_20 : decode cX6_write 20 = .ok (.iastore, 1) := by decide +kernel
theorem dX6_write_21 : decode cX6_write 21 = .ok (.return_, 1) := by decide +kernel
theorem dX6_forget_0 : decode cX6_forget 0 = .ok (.iload_n 1, 1) := by decide +kernel
theorem dX6_forget_1 : decode cX6_forget 1 = .ok (.invokestatic 22, 3) := by decide +kernel
theorem dX6_forget_4 : decode cX6_forget 4 = .ok (.ifCond .eq 10, 3) := by decide +kernel
theorem dX6_forget_7 : decode cX6_forget 7 = .ok (.aload_n 0, 1) := by decide +kernel
theorem dX6_forget_8 : decode cX6_forget 8 = .ok (.getfield 9, 3) := by decide +kernel
theorem dX6_forget_11 : decode cX6_forget 11 = .ok (.iload_n 1, 1) := by decide +kernel
theorem dX6_forget_12 : decode cX6_forget 12 = .ok (.iconst 0, 1) := by decide +kernel
theorem dX6_forget_13 : decode cX6_forget 13 = .ok (.bastore, 1) := by decide +kernel
theorem dX6_forget_14 : decode cX6_forget 14 = .ok (.return_, 1) := by decide +kernel
theorem dX6_writtenOr_0 : decode cX6_writtenOr 0 = .ok (.iload_n 1, 1) := by decide +kernel
theorem dX6_writtenOr_1 : decode cX6_writtenOr 1 = .ok (.invokestatic 22, 3) := by decide +kernel
theorem dX6_writtenOr_4 : decode cX6_writtenOr 4 = .ok (.ifCond .eq 21, 3) := by decide +kernel
theorem dX6_writtenOr_7 : decode cX6_writtenOr 7 = .ok (.aload_n 0, 1) := by decide +kernel
theorem dX6_writtenOr_8 : decode cX6_writtenOr 8 = .ok (.getfield 9, 3) := by decide +kernel
theorem dX6_writtenOr_11 : decode cX6_writtenOr 11 = .ok (.iload_n 1, 1) := by decide +kernel
theorem dX6_writtenOr_12 : decode cX6_writtenOr 12 = .ok (.baload, 1) := by decide +kernel
theorem dX6_writtenOr_13 : decode cX6_writtenOr 13 = .ok (.ifCond .eq 12, 3) := by decide +kernel
theorem dX6_writtenOr_16 : decode cX6_writtenOr 16 = .ok (.aload_n 0, 1) := by decide +kernel
theorem dX6_writtenOr_17 : decode cX6_writtenOr 17 = .ok (.getfield 15, 3) := by decide +kernel
theorem dX6_writtenOr_20 : decode cX6_writtenOr 20 = .ok (.iload_n 1, 1) := by decide +kernel
theorem dX6_writtenOr_21 : decode cX6_writtenOr 21 = .ok (.iaload, 1) := by decide +kernel
theorem dX6_writtenOr_22 : decode cX6_writtenOr 22 = .ok (.goto 4, 3) := by decide +kernel
theorem dX6_writtenOr_25 : decode cX6_writtenOr 25 = .ok (.iload_n 2, 1) := by decide +kernel
theorem dX6_writtenOr_26 : decode cX6_writtenOr 26 = .ok (.ireturn, 1) := by decide +kernel
theorem dX6_give_0 : decode cX6_give 0 = .ok (.iload_n 1, 1) := by decide +kernel
theorem dX6_give_1 : decode cX6_give 1 = .ok (.invokestatic 22, 3) := by decide +kernel
theorem dX6_give_4 : decode cX6_give 4 = .ok (.ifCond .eq 10, 3) := by decide +kernel
theorem dX6_give_7 : decode cX6_give 7 = .ok (.aload_n 0, 1) := by decide +kernel
theorem dX6_give_8 : decode cX6_give 8 = .ok (.getfield 19, 3) := by decide +kernel
theorem dX6_give_11 : decode cX6_give 11 = .ok (.iload_n 1, 1) := by decide +kernel
theorem dX6_give_12 : decode cX6_give 12 = .ok (.iload_n 2, 1) := by decide +kernel
theorem dX6_give_13 : decode cX6_give 13 = .ok (.iastore, 1) := by decide +kernel
theorem dX6_give_14 : decode cX6_give 14 = .ok (.return_, 1) := by decide +kernel
theorem dX6_givenAt_0 : decode cX6_givenAt 0 = .ok (.iload_n 1, 1) := by decide +kernel
theorem dX6_givenAt_1 : decode cX6_givenAt 1 = .ok (.invokestatic 22, 3) := by decide +kernel
theorem dX6_givenAt_4 : decode cX6_givenAt 4 = .ok (.ifCond .eq 12, 3) := by decide +kernel
theorem dX6_givenAt_7 : decode cX6_givenAt 7 = .ok (.aload_n 0, 1) := by decide +kernel
theorem dX6_givenAt_8 : decode cX6_givenAt 8 = .ok (.getfield 19, 3) := by decide +kernel
theorem dX6_givenAt_11 : decode cX6_givenAt 11 = .ok (.iload_n 1, 1) := by decide +kernel
theorem dX6_givenAt_12 : decode cX6_givenAt 12 = .ok (.iaload, 1) := by decide +kernel
theorem dX6_givenAt_13 : decode cX6_givenAt 13 = .ok (.goto 4, 3) := by decide +kernel
theorem dX6_givenAt_16 : decode cX6_givenAt 16 = .ok (.iconst 0, 1) := by decide +kernel
theorem dX6_givenAt_17 : decode cX6_givenAt 17 = .ok (.ireturn, 1) := by decide +kernel
theorem dX7_isOver_0 : decode cX7_isOver 0 = .ok (.aload_n 0, 1) := by decide +kernel
theorem dX7_isOver_1 : decode cX7_isOver 1 = .ok (.getfield 56, 3) := by decide +kernel
theorem dX7_isOver_4 : decode cX7_isOver 4 = .ok (.iconst 3, 1) := by decide +kernel
theorem dX7_isOver_5 : decode cX7_isOver 5 = .ok (.if_icmp .eq 11, 3) := by decide +kernel
theorem dX7_isOver_8 : decode cX7_isOver 8 = .ok (.aload_n 0, 1) := by decide +kernel
theorem dX7_isOver_9 : decode cX7_isOver 9 = .ok (.getfield 56, 3) := by decide +kernel
theorem dX7_isOver_12 : decode cX7_isOver 12 = .ok (.iconst 4, 1) := by decide +kernel
theorem dX7_isOver_13 : decode cX7_isOver 13 = .ok (.if_icmp .ne 7, 3) := by decide +kernel
theorem dX7_isOver_16 : decode cX7_isOver 16 = .ok (.iconst 1, 1) := by decide +kernel
theorem dX7_isOver_17 : decode cX7_isOver 17 = .ok (.goto 4, 3) := by decide +kernel
theorem dX7_isOver_20 : decode cX7_isOver 20 = .ok (.iconst 0, 1) := by decide +kernel
theorem dX7_isOver_21 : decode cX7_isOver 21 = .ok (.ireturn, 1) := by decide +kernel
theorem dX8_clear_0 : decode cX8_clear 0 = .ok (.aload_n 0, 1) := by decide +kernel
theorem dX8_clear_1 : decode cX8_clear 1 = .ok (.iconst 0, 1) := by decide +kernel
theorem dX8_clear_2 : decode cX8_clear 2 = .ok (.putfield 30, 3) := by decide +kernel
theorem dX8_clear_5 : decode cX8_clear 5 = .ok (.aload_n 0, 1) := by decide +kernel
theorem dX8_clear_6 : decode cX8_clear 6 = .ok (.iconst 0, 1) := by decide +kernel
theorem dX8_clear_7 : decode cX8_clear 7 = .ok (.putfield 34, 3) := by decide +kernel
theorem dX8_clear_10 : decode cX8_clear 10 = .ok (.aload_n 0, 1) := by decide +kernel
theorem dX8_clear_11 : decode cX8_clear 11 = .ok (.iconst 0, 1) := by decide +kernel
theorem dX8_clear_12 : decode cX8_clear 12 = .ok (.putfield 37, 3) := by decide +kernel
theorem dX8_clear_15 : decode cX8_clear 15 = .ok (.return_, 1) := by decide +kernel
theorem dX8_bind_0 : decode cX8_bind 0 = .ok (.aload_n 0, 1) := by decide +kernel
theorem dX8_bind_1 : decode cX8_bind 1 = .ok (.getfield 30, 3) := by decide +kernel
theorem dX8_bind_4 : decode cX8_bind 4 = .ok (.ifCond .lt 12, 3) := by decide +kernel
theorem dX8_bind_7 : decode cX8_bind 7 = .ok (.aload_n 0, 1) := by decide +kernel
theorem dX8_bind_8 : decode cX8_bind 8 = .ok (.getfield 30, 3) := by decide +kernel
theorem dX8_bind_11 : decode cX8_bind 11 = .ok (.bipush 24, 2) := by decide +kernel
theorem dX8_bind_13 : decode cX8_bind 13 = .ok (.if_icmp .lt 4, 3) := by decide +kernel
theorem dX8_bind_16 : decode cX8_bind 16 = .ok (.return_, 1) := by decide +kernel
theorem dX8_bind_17 : decode cX8_bind 17 = .ok (.aload_n 0, 1) := by decide +kernel
theorem dX8_bind_18 : decode cX8_bind 18 = .ok (.getfield 9, 3) := by decide +kernel
theorem dX8_bind_21 : decode cX8_bind 21 = .ok (.aload_n 0, 1) := by decide +kernel
theorem dX8_bind_22 : decode cX8_bind 22 = .ok (.getfield 30, 3) := by decide +kernel
theorem dX8_bind_25 : decode cX8_bind 25 = .ok (.iload_n 1, 1) := by decide +kernel
theorem dX8_bind_26 : decode cX8_bind 26 = .ok (.iastore, 1) := by decide +kernel
theorem dX8_bind_27 : decode cX8_bind 27 = .ok (.aload_n 0, 1) := by decide +kernel
theorem dX8_bind_28 : decode cX8_bind 28 = .ok (.getfield 15, 3) := by decide +kernel
theorem dX8_bind_31 : decode cX8_bind 31 = .ok (.aload_n 0, 1) := by decide +kernel
theorem dX8_bind_32 : decode cX8_bind 32 = .ok (.getfield 30, 3) := by decide +kernel
theorem dX8_bind_35 : decode cX8_bind 35 = .ok (.iload_n 2, 1) := by decide +kernel
theorem dX8_bind_36 : decode cX8_bind 36 = .ok (.iastore, 1) := by decide +kernel
theorem dX8_bind_37 : decode cX8_bind 37 = .ok (.aload_n 0, 1) := by decide +kernel
theorem dX8_bind_38 : decode cX8_bind 38 = .ok (.getfield 18, 3) := by decide +kernel
theorem dX8_bind_41 : decode cX8_bind 41 = .ok (.aload_n 0, 1) := by decide +kernel
theorem dX8_bind_42 : decode cX8_bind 42 = .ok (.getfield 30, 3) := by decide +kernel
theorem dX8_bind_45 : decode cX8_bind 45 = .ok (.aload_n 0, 1) := by decide +kernel
theorem dX8_bind_46 : decode cX8_bind 46 = .ok (.getfield 37, 3) := by decide +kernel
theorem dX8_bind_49 : decode cX8_bind 49 = .ok (.iastore, 1) := by decide +kernel
theorem dX8_bind_50 : decode cX8_bind 50 = .ok (.aload_n 0, 1) := by decide +kernel
theorem dX8_bind_51 : decode cX8_bind 51 = .ok (.dup, 1) := by decide +kernel
theorem dX8_bind_52 : decode cX8_bind 52 = .ok (.getfield 30, 3) := by decide +kernel
theorem dX8_bind_55 : decode cX8_bind 55 = .ok (.iconst 1, 1) := by decide +kernel
theorem dX8_bind_56 : decode cX8_bind 56 = .ok (.iadd, 1) := by decide +kernel
theorem dX8_bind_57 : decode cX8_bind 57 = .ok (.putfield 30, 3) := by decide +kernel
theorem dX8_bind_60 : decode cX8_bind 60 = .ok (.return_, 1) := by decide +kernel
theorem dX8_innermostOf_0 : decode cX8_innermostOf 0 = .ok (.bipush 23, 2) := by decide +kernel
theorem dX8_innermostOf_2 : decode cX8_innermostOf 2 = .ok (.istore_n 2, 1) := by decide +kernel
theorem dX8_innermostOf_3 : decode cX8_innermostOf 3 = .ok (.iload_n 2, 1) := by decide +kernel
theorem dX8_innermostOf_4 : decode cX8_innermostOf 4 = .ok (.ifCond .lt 29, 3) := by decide +kernel
theorem dX8_innermostOf_7 : decode cX8_innermostOf 7 = .ok (.iload_n 2, 1) := by decide +kernel
theorem dX8_innermostOf_8 : decode cX8_innermostOf 8 = .ok (.aload_n 0, 1) := by decide +kernel
theorem dX8_innermostOf_9 : decode cX8_innermostOf 9 = .ok (.getfield 30, 3) := by decide +kernel
theorem dX8_innermostOf_12 : decode cX8_innermostOf 12 = .ok (.if_icmp .ge 15, 3) := by decide +kernel
theorem dX8_innermostOf_15 : decode cX8_innermostOf 15 = .ok (.aload_n 0, 1) := by decide +kernel
theorem dX8_innermostOf_16 : decode cX8_innermostOf 16 = .ok (.getfield 9, 3) := by decide +kernel
theorem dX8_innermostOf_19 : decode cX8_innermostOf 19 = .ok (.iload_n 2, 1) := by decide +kernel
theorem dX8_innermostOf_20 : decode cX8_innermostOf 20 = .ok (.iaload, 1) := by decide +kernel
theorem dX8_innermostOf_21 : decode cX8_innermostOf 21 = .ok (.iload_n 1, 1) := by decide +kernel
theorem dX8_innermostOf_22 : decode cX8_innermostOf 22 = .ok (.if_icmp .ne 5, 3) := by decide +kernel
theorem dX8_innermostOf_25 : decode cX8_innermostOf 25 = .ok (.iload_n 2, 1) := by decide +kernel
theorem dX8_innermostOf_26 : decode cX8_innermostOf 26 = .ok (.ireturn, 1) := by decide +kernel
theorem dX8_innermostOf_27 : decode cX8_innermostOf 27 = .ok (.iinc 2 (-1), 3) := by decide +kernel
theorem dX8_innermostOf_30 : decode cX8_innermostOf 30 = .ok (.goto (-27), 3) := by decide +kernel
theorem dX8_innermostOf_33 : decode cX8_innermostOf 33 = .ok (.iconst (-1), 1) := by decide +kernel
theorem dX8_innermostOf_34 : decode cX8_innermostOf 34 = .ok (.ireturn, 1) := by decide +kernel
theorem dX8_boundOr_0 : decode cX8_boundOr 0 = .ok (.aload_n 0, 1) := by decide +kernel
theorem dX8_boundOr_1 : decode cX8_boundOr 1 = .ok (.iload_n 1, 1) := by decide +kernel
theorem dX8_boundOr_2 : decode cX8_boundOr 2 = .ok (.invokevirtual 40, 3) := by decide +kernel
theorem dX8_boundOr_5 : decode cX8_boundOr 5 = .ok (.istore_n 3, 1) := by decide +kernel
theorem dX8_boundOr_6 : decode cX8_boundOr 6 = .ok (.iload_n 3, 1) := by decide +kernel
theorem dX8_boundOr_7 : decode cX8_boundOr 7 = .ok (.ifCond .lt 18, 3) := by decide +kernel
theorem dX8_boundOr_10 : decode cX8_boundOr 10 = .ok (.iload_n 3, 1) := by decide +kernel
theorem dX8_boundOr_11 : decode cX8_boundOr 11 = .ok (.bipush 24, 2) := by decide +kernel
theorem dX8_boundOr_13 : decode cX8_boundOr 13 = .ok (.if_icmp .ge 12, 3) := by decide +kernel
theorem dX8_boundOr_16 : decode cX8_boundOr 16 = .ok (.aload_n 0, 1) := by decide +kernel
theorem dX8_boundOr_17 : decode cX8_boundOr 17 = .ok (.getfield 15, 3) := by decide +kernel
theorem dX8_boundOr_20 : decode cX8_boundOr 20 = .ok (.iload_n 3, 1) := by decide +kernel
theorem dX8_boundOr_21 : decode cX8_boundOr 21 = .ok (.iaload, 1) := by decide +kernel
theorem dX8_boundOr_22 : decode cX8_boundOr 22 = .ok (.goto 4, 3) := by decide +kernel
theorem dX8_boundOr_25 : decode cX8_boundOr 25 = .ok (.iload_n 2, 1) := by decide +kernel
theorem dX8_boundOr_26 : decode cX8_boundOr 26 = .ok (.ireturn, 1) := by decide +kernel
theorem dX8_rebind_0 : decode cX8_rebind 0 = .ok (.aload_n 0, 1) := by decide +kernel
theorem dX8_rebind_1 : decode cX8_rebind 1 = .ok (.iload_n 1, 1) := by decide +kernel
theorem dX8_rebind_2 : decode cX8_rebind 2 = .ok (.invokevirtual 40, 3) := by decide +kernel
theorem dX8_rebind_5 : decode cX8_rebind 5 = .ok (.istore_n 3, 1) := by decide +kernel
theorem dX8_rebind_6 : decode cX8_rebind 6 = .ok (.iload_n 3, 1) := by decide +kernel
theorem dX8_rebind_7 : decode cX8_rebind 7 = .ok (.ifCond .lt 9, 3) := by decide +kernel
theorem dX8_rebind_10 : decode cX8_rebind 10 = .ok (.iload_n 3, 1) := by decide +kernel
theorem dX8_rebind_11 : decode cX8_rebind 11 = .ok (.bipush 24, 2) := by decide +kernel
theorem dX8_rebind_13 : decode cX8_rebind 13 = .ok (.if_icmp .lt 5, 3) := by decide +kernel
theorem dX8_rebind_16 : decode cX8_rebind 16 = .ok (.iconst 0, 1) := by decide +kernel
theorem dX8_rebind_17 : decode cX8_rebind 17 = .ok (.ireturn, 1) := by decide +kernel
theorem dX8_rebind_18 : decode cX8_rebind 18 = .ok (.aload_n 0, 1) := by decide +kernel
theorem dX8_rebind_19 : decode cX8_rebind 19 = .ok (.getfield 15, 3) := by decide +kernel
theorem dX8_rebind_22 : decode cX8_rebind 22 = .ok (.iload_n 3, 1) := by decide +kernel
theorem dX8_rebind_23 : decode cX8_rebind 23 = .ok (.iload_n 2, 1) := by decide +kernel
theorem dX8_rebind_24 : decode cX8_rebind 24 = .ok (.iastore, 1) := by decide +kernel
theorem dX8_rebind_25 : decode cX8_rebind 25 = .ok (.iconst 1, 1) := by decide +kernel
theorem dX8_rebind_26 : decode cX8_rebind 26 = .ok (.ireturn, 1) := by decide +kernel
theorem dX8_free_0 : decode cX8_free 0 = .ok (.aload_n 0, 1) := by decide +kernel
theorem dX8_free_1 : decode cX8_free 1 = .ok (.getfield 30, 3) := by decide +kernel
theorem dX8_free_4 : decode cX8_free 4 = .ok (.iconst 1, 1) := by decide +kernel
theorem dX8_free_5 : decode cX8_free 5 = .ok (.isub, 1) := by decide +kernel
theorem dX8_free_6 : decode cX8_free 6 = .ok (.istore_n 2, 1) := by decide +kernel
theorem dX8_free_7 : decode cX8_free 7 = .ok (.iload_n 2, 1) := by decide +kernel
theorem dX8_free_8 : decode cX8_free 8 = .ok (.ifCond .lt 19, 3) := by decide +kernel
theorem dX8_free_11 : decode cX8_free 11 = .ok (.iload_n 2, 1) := by decide +kernel
theorem dX8_free_12 : decode cX8_free 12 = .ok (.bipush 24, 2) := by decide +kernel
theorem dX8_free_14 : decode cX8_free 14 = .ok (.if_icmp .ge 13, 3) := by decide +kernel
theorem dX8_free_17 : decode cX8_free 17 = .ok (.aload_n 0, 1) := by decide +kernel
theorem dX8_free_18 : decode cX8_free 18 = .ok (.getfield 9, 3) := by decide +kernel
theorem dX8_free_21 : decode cX8_free 21 = .ok (.iload_n 2, 1) := by decide +kernel
theorem dX8_free_22 : decode cX8_free 22 = .ok (.iaload, 1) := by decide +kernel
theorem dX8_free_23 : decode cX8_free 23 = .ok (.iload_n 1, 1) := by decide +kernel
theorem dX8_free_24 : decode cX8_free 24 = .ok (.if_icmp .eq 5, 3) := by decide +kernel
theorem dX8_free_27 : decode cX8_free 27 = .ok (.iconst 0, 1) := by decide +kernel
theorem dX8_free_28 : decode cX8_free 28 = .ok (.ireturn, 1) := by decide +kernel
theorem dX8_free_29 : decode cX8_free 29 = .ok (.aload_n 0, 1) := by decide +kernel
theorem dX8_free_30 : decode cX8_free 30 = .ok (.iload_n 2, 1) := by decide +kernel
theorem dX8_free_31 : decode cX8_free 31 = .ok (.putfield 30, 3) := by decide +kernel
theorem dX8_free_34 : decode cX8_free 34 = .ok (.iconst 1, 1) := by decide +kernel
theorem dX8_free_35 : decode cX8_free 35 = .ok (.ireturn, 1) := by decide +kernel
theorem dX8_endBindings_0 : decode cX8_endBindings 0 = .ok (.aload_n 0, 1) := by decide +kernel
theorem dX8_endBindings_1 : decode cX8_endBindings 1 = .ok (.iconst 0, 1) := by decide +kernel
theorem dX8_endBindings_2 : decode cX8_endBindings 2 = .ok (.putfield 30, 3) := by decide +kernel
theorem dX8_endBindings_5 : decode cX8_endBindings 5 = .ok (.return_, 1) := by decide +kernel
theorem dX8_openTry_0 : decode cX8_openTry 0 = .ok (.aload_n 0, 1) := by decide +kernel
theorem dX8_openTry_1 : decode cX8_openTry 1 = .ok (.getfield 34, 3) := by decide +kernel
theorem dX8_openTry_4 : decode cX8_openTry 4 = .ok (.ifCond .lt 12, 3) := by decide +kernel
theorem dX8_openTry_7 : decode cX8_openTry 7 = .ok (.aload_n 0, 1) := by decide +kernel
theorem dX8_openTry_8 : decode cX8_openTry 8 = .ok (.getfield 34, 3) := by decide +kernel
theorem dX8_openTry_11 : decode cX8_openTry 11 = .ok (.bipush 24, 2) := by decide +kernel
theorem dX8_openTry_13 : decode cX8_openTry 13 = .ok (.if_icmp .lt 4, 3) := by decide +kernel
theorem dX8_openTry_16 : decode cX8_openTry 16 = .ok (.return_, 1) := by decide +kernel
theorem dX8_openTry_17 : decode cX8_openTry 17 = .ok (.aload_n 0, 1) := by decide +kernel
theorem dX8_openTry_18 : decode cX8_openTry 18 = .ok (.getfield 21, 3) := by decide +kernel
theorem dX8_openTry_21 : decode cX8_openTry 21 = .ok (.aload_n 0, 1) := by decide +kernel
theorem dX8_openTry_22 : decode cX8_openTry 22 = .ok (.getfield 34, 3) := by decide +kernel
theorem dX8_openTry_25 : decode cX8_openTry 25 = .ok (.iload_n 1, 1) := by decide +kernel
theorem dX8_openTry_26 : decode cX8_openTry 26 = .ok (.iastore, 1) := by decide +kernel
theorem dX8_openTry_27 : decode cX8_openTry 27 = .ok (.aload_n 0, 1) := by decide +kernel
theorem dX8_openTry_28 : decode cX8_openTry 28 = .ok (.getfield 24, 3) := by decide +kernel
theorem dX8_openTry_31 : decode cX8_openTry 31 = .ok (.aload_n 0, 1) := by decide +kernel
theorem dX8_openTry_32 : decode cX8_openTry 32 = .ok (.getfield 34, 3) := by decide +kernel
theorem dX8_openTry_35 : decode cX8_openTry 35 = .ok (.iload_n 2, 1) := by decide +kernel
theorem dX8_openTry_36 : decode cX8_openTry 36 = .ok (.iastore, 1) := by decide +kernel
theorem dX8_openTry_37 : decode cX8_openTry 37 = .ok (.aload_n 0, 1) := by decide +kernel
theorem dX8_openTry_38 : decode cX8_openTry 38 = .ok (.getfield 27, 3) := by decide +kernel
theorem dX8_openTry_41 : decode cX8_openTry 41 = .ok (.aload_n 0, 1) := by decide +kernel
theorem dX8_openTry_42 : decode cX8_openTry 42 = .ok (.getfield 34, 3) := by decide +kernel
theorem dX8_openTry_45 : decode cX8_openTry 45 = .ok (.aload_n 0, 1) := by decide +kernel
theorem dX8_openTry_46 : decode cX8_openTry 46 = .ok (.getfield 37, 3) := by decide +kernel
theorem dX8_openTry_49 : decode cX8_openTry 49 = .ok (.iastore, 1) := by decide +kernel
theorem dX8_openTry_50 : decode cX8_openTry 50 = .ok (.aload_n 0, 1) := by decide +kernel
theorem dX8_openTry_51 : decode cX8_openTry 51 = .ok (.dup, 1) := by decide +kernel
theorem dX8_openTry_52 : decode cX8_openTry 52 = .ok (.getfield 34, 3) := by decide +kernel
theorem dX8_openTry_55 : decode cX8_openTry 55 = .ok (.iconst 1, 1) := by decide +kernel
theorem dX8_openTry_56 : decode cX8_openTry 56 = .ok (.iadd, 1) := by decide +kernel
theorem dX8_openTry_57 : decode cX8_openTry 57 = .ok (.putfield 34, 3) := by decide +kernel
theorem dX8_openTry_60 : decode cX8_openTry 60 = .ok (.aload_n 0, 1) := by decide +kernel
theorem dX8_openTry_61 : decode cX8_openTry 61 = .ok (.dup, 1) := by decide +kernel
theorem dX8_openTry_62 : decode cX8_openTry 62 = .ok (.getfield 37, 3) := by decide +kernel
theorem dX8_openTry_65 : decode cX8_openTry 65 = .ok (.iconst 1, 1) := by decide +kernel
theorem dX8_openTry_66 : decode cX8_openTry 66 = .ok (.iadd, 1) := by decide +kernel
theorem dX8_openTry_67 : decode cX8_openTry 67 = .ok (.putfield 37, 3) := by decide +kernel
theorem dX8_openTry_70 : decode cX8_openTry 70 = .ok (.return_, 1) := by decide +kernel
theorem dX8_closeTry_0 : decode cX8_closeTry 0 = .ok (.aload_n 0, 1) := by decide +kernel
theorem dX8_closeTry_1 : decode cX8_closeTry 1 = .ok (.getfield 34, 3) := by decide +kernel
theorem dX8_closeTry_4 : decode cX8_closeTry 4 = .ok (.ifCond .gt 5, 3) := by decide +kernel
theorem dX8_closeTry_7 : decode cX8_closeTry 7 = .ok (.iconst 0, 1) := by decide +kernel
theorem dX8_closeTry_8 : decode cX8_closeTry 8 = .ok (.ireturn, 1) := by decide +kernel
theorem dX8_closeTry_9 : decode cX8_closeTry 9 = .ok (.aload_n 0, 1) := by decide +kernel
theorem dX8_closeTry_10 : decode cX8_closeTry 10 = .ok (.dup, 1) := by decide +kernel
theorem dX8_closeTry_11 : decode cX8_closeTry 11 = .ok (.getfield 34, 3) := by decide +kernel
theorem dX8_closeTry_14 : decode cX8_closeTry 14 = .ok (.iconst 1, 1) := by decide +kernel
theorem dX8_closeTry_15 : decode cX8_closeTry 15 = .ok (.isub, 1) := by decide +kernel
theorem dX8_closeTry_16 : decode cX8_closeTry 16 = .ok (.putfield 34, 3) := by decide +kernel
theorem dX8_closeTry_19 : decode cX8_closeTry 19 = .ok (.iconst 1, 1) := by decide +kernel
theorem dX8_closeTry_20 : decode cX8_closeTry 20 = .ok (.ireturn, 1) := by decide +kernel
theorem dX8_catchOf_0 : decode cX8_catchOf 0 = .ok (.bipush 23, 2) := by decide +kernel
theorem dX8_catchOf_2 : decode cX8_catchOf 2 = .ok (.istore_n 2, 1) := by decide +kernel
theorem dX8_catchOf_3 : decode cX8_catchOf 3 = .ok (.iload_n 2, 1) := by decide +kernel
theorem dX8_catchOf_4 : decode cX8_catchOf 4 = .ok (.ifCond .lt 60, 3) := by decide +kernel
theorem dX8_catchOf_7 : decode cX8_catchOf 7 = .ok (.iload_n 2, 1) := by decide +kernel
theorem dX8_catchOf_8 : decode cX8_catchOf 8 = .ok (.aload_n 0, 1) := by decide +kernel
theorem dX8_catchOf_9 : decode cX8_catchOf 9 = .ok (.getfield 34, 3) := by decide +kernel
theorem dX8_catchOf_12 : decode cX8_catchOf 12 = .ok (.if_icmp .ge 46, 3) := by decide +kernel
theorem dX8_catchOf_15 : decode cX8_catchOf 15 = .ok (.aload_n 0, 1) := by decide +kernel
theorem dX8_catchOf_16 : decode cX8_catchOf 16 = .ok (.getfield 21, 3) := by decide +kernel
theorem dX8_catchOf_19 : decode cX8_catchOf 19 = .ok (.iload_n 2, 1) := by decide +kernel
theorem dX8_catchOf_20 : decode cX8_catchOf 20 = .ok (.iaload, 1) := by decide +kernel
theorem dX8_catchOf_21 : decode cX8_catchOf 21 = .ok (.iload_n 1, 1) := by decide +kernel
theorem dX8_catchOf_22 : decode cX8_catchOf 22 = .ok (.if_icmp .eq 14, 3) := by decide +kernel
theorem dX8_catchOf_25 : decode cX8_catchOf 25 = .ok (.aload_n 0, 1) := by decide +kernel
theorem dX8_catchOf_26 : decode cX8_catchOf 26 = .ok (.getfield 21, 3) := by decide +kernel
theorem dX8_catchOf_29 : decode cX8_catchOf 29 = .ok (.iload_n 2, 1) := by decide +kernel
theorem dX8_catchOf_30 : decode cX8_catchOf 30 = .ok (.iaload, 1) := by decide +kernel
theorem dX8_catchOf_31 : decode cX8_catchOf 31 = .ok (.bipush 8, 2) := by decide +kernel
theorem dX8_catchOf_33 : decode cX8_catchOf 33 = .ok (.if_icmp .ne 25, 3) := by decide +kernel
theorem dX8_catchOf_36 : decode cX8_catchOf 36 = .ok (.aload_n 0, 1) := by decide +kernel
theorem dX8_catchOf_37 : decode cX8_catchOf 37 = .ok (.iload_n 2, 1) := by decide +kernel
theorem dX8_catchOf_38 : decode cX8_catchOf 38 = .ok (.putfield 34, 3) := by decide +kernel
theorem dX8_catchOf_41 : decode cX8_catchOf 41 = .ok (.aload_n 0, 1) := by decide +kernel
theorem dX8_catchOf_42 : decode cX8_catchOf 42 = .ok (.aload_n 0, 1) := by decide +kernel
theorem dX8_catchOf_43 : decode cX8_catchOf 43 = .ok (.getfield 27, 3) := by decide +kernel
theorem dX8_catchOf_46 : decode cX8_catchOf 46 = .ok (.iload_n 2, 1) := by decide +kernel
theorem dX8_catchOf_47 : decode cX8_catchOf 47 = .ok (.iaload, 1) := by decide +kernel
theorem dX8_catchOf_48 : decode cX8_catchOf 48 = .ok (.invokevirtual 44, 3) := by decide +kernel
theorem dX8_catchOf_51 : decode cX8_catchOf 51 = .ok (.aload_n 0, 1) := by decide +kernel
theorem dX8_catchOf_52 : decode cX8_catchOf 52 = .ok (.getfield 24, 3) := by decide +kernel
theorem dX8_catchOf_55 : decode cX8_catchOf 55 = .ok (.iload_n 2, 1) := by decide +kernel
theorem dX8_catchOf_56 : decode cX8_catchOf 56 = .ok (.iaload, 1) := by decide +kernel
theorem dX8_catchOf_57 : decode cX8_catchOf 57 = .ok (.ireturn, 1) := by decide +kernel
theorem dX8_catchOf_58 : decode cX8_catchOf 58 = .ok (.iinc 2 (-1), 3) := by decide +kernel
theorem dX8_catchOf_61 : decode cX8_catchOf 61 = .ok (.goto (-58), 3) := by decide +kernel
theorem dX8_catchOf_64 : decode cX8_catchOf 64 = .ok (.iconst (-1), 1) := by decide +kernel
theorem dX8_catchOf_65 : decode cX8_catchOf 65 = .ok (.ireturn, 1) := by decide +kernel
theorem dX8_endBindingsSince_0 : decode cX8_endBindingsSince 0 = .ok (.bipush 23, 2) := by decide +kernel
theorem dX8_endBindingsSince_2 : decode cX8_endBindingsSince 2 = .ok (.istore_n 2, 1) := by decide +kernel
theorem dX8_endBindingsSince_3 : decode cX8_endBindingsSince 3 = .ok (.iload_n 2, 1) := by decide +kernel
theorem dX8_endBindingsSince_4 : decode cX8_endBindingsSince 4 = .ok (.ifCond .lt 32, 3) := by decide +kernel
theorem dX8_endBindingsSince_7 : decode cX8_endBindingsSince 7 = .ok (.iload_n 2, 1) := by decide +kernel
theorem dX8_endBindingsSince_8 : decode cX8_endBindingsSince 8 = .ok (.aload_n 0, 1) := by decide +kernel
theorem dX8_endBindingsSince_9 : decode cX8_endBindingsSince 9 = .ok (.getfield 30, 3) := by decide +kernel
theorem dX8_endBindingsSince_12 : decode cX8_endBindingsSince 12 = .ok (.if_icmp .ge 18, 3) := by decide +kernel
theorem dX8_endBindingsSince_15 : decode cX8_endBindingsSince 15 = .ok (.aload_n 0, 1) := by decide +kernel
theorem dX8_endBindingsSince_16 : decode cX8_endBindingsSince 16 = .ok (.getfield 18, 3) := by decide +kernel
theorem dX8_endBindingsSince_19 : decode cX8_endBindingsSince 19 = .ok (.iload_n 2, 1) := by decide +kernel
theorem dX8_endBindingsSince_20 : decode cX8_endBindingsSince 20 = .ok (.iaload, 1) := by decide +kernel
theorem dX8_endBindingsSince_21 : decode cX8_endBindingsSince 21 = .ok (.iload_n 1, 1) := by decide +kernel
theorem dX8_endBindingsSince_22 : decode cX8_endBindingsSince 22 = .ok (.if_icmp .le 8, 3) := by decide +kernel
theorem dX8_endBindingsSince_25 : decode cX8_endBindingsSince 25 = .ok (.aload_n 0, 1) := by decide +kernel
theorem dX8_endBindingsSince_26 : decode cX8_endBindingsSince 26 = .ok (.iload_n 2, 1) := by decide +kernel
theorem dX8_endBindingsSince_27 : decode cX8_endBindingsSince 27 = .ok (.putfield 30, 3) := by decide +kernel
theorem dX8_endBindingsSince_30 : decode cX8_endBindingsSince 30 = .ok (.iinc 2 (-1), 3) := by decide +kernel
theorem dX8_endBindingsSince_33 : decode cX8_endBindingsSince 33 = .ok (.goto (-30), 3) := by decide +kernel
theorem dX8_endBindingsSince_36 : decode cX8_endBindingsSince 36 = .ok (.return_, 1) := by decide +kernel
theorem gm_fieldLink_RX0_19_ErrandGuild_Cells_used_I_ : (.fieldLink RX0 19 "ErrandGuild$Cells" "used" "I" : Cond) ∈ gw := gw_m (List.mem_append_right _ (List.mem_append_left _ (List.mem_of_getElem? (i := 57) (by decide +kernel)))) (by decide +kernel)
theorem gm_fieldLink_RX0_9_ErrandGuild_Cells_cells_AI_ : (.fieldLink RX0 9 "ErrandGuild$Cells" "cells" "[I" : Cond) ∈ gw := gw_m (List.mem_append_right _ (List.mem_append_left _ (List.mem_of_getElem? (i := 56) (by decide +kernel)))) (by decide +kernel)
theorem gm_fieldLink_RX8_30_ErrandGuild_Scopes_bindings_I_ : (.fieldLink RX8 30 "ErrandGuild$Scopes" "bindings" "I" : Cond) ∈ gw := gw_m (List.mem_append_right _ (List.mem_append_right _ (List.mem_append_left _ (List.mem_of_getElem? (i := 44) (by decide +kernel))))) (by decide +kernel)
theorem gm_fieldLink_RX8_34_ErrandGuild_Scopes_tries_I_ : (.fieldLink RX8 34 "ErrandGuild$Scopes" "tries" "I" : Cond) ∈ gw := gw_m (List.mem_append_right _ (List.mem_append_right _ (List.mem_append_left _ (List.mem_of_getElem? (i := 49) (by decide +kernel))))) (by decide +kernel)
theorem gm_fieldLink_RX8_37_ErrandGuild_Scopes_marks_I_ : (.fieldLink RX8 37 "ErrandGuild$Scopes" "marks" "I" : Cond) ∈ gw := gw_m (List.mem_append_right _ (List.mem_append_right _ (List.mem_append_left _ (List.mem_of_getElem? (i := 51) (by decide +kernel))))) (by decide +kernel)
theorem gm_fieldLink_RX2_9_ErrandGuild_Fault_kind_I_ : (.fieldLink RX2 9 "ErrandGuild$Fault" "kind" "I" : Cond) ∈ gw := gw_m (List.mem_append_right _ (List.mem_append_right _ (List.mem_append_left _ (List.mem_of_getElem? (i := 77) (by decide +kernel))))) (by decide +kernel)
theorem gm_fieldLink_RX2_15_ErrandGuild_Fault_step_I_ : (.fieldLink RX2 15 "ErrandGuild$Fault" "step" "I" : Cond) ∈ gw := gw_m (List.mem_append_right _ (List.mem_append_right _ (List.mem_append_left _ (List.mem_of_getElem? (i := 79) (by decide +kernel))))) (by decide +kernel)
theorem gm_fieldLink_RX2_18_ErrandGuild_Fault_cause_I_ : (.fieldLink RX2 18 "ErrandGuild$Fault" "cause" "I" : Cond) ∈ gw := gw_m (List.mem_append_right _ (List.mem_append_right _ (List.mem_append_left _ (List.mem_of_getElem? (i := 81) (by decide +kernel))))) (by decide +kernel)
theorem gm_fieldLink_RX2_21_ErrandGuild_Fault_suppressed_I_ : (.fieldLink RX2 21 "ErrandGuild$Fault" "suppressed" "I" : Cond) ∈ gw := gw_m (List.mem_append_right _ (List.mem_append_right _ (List.mem_append_left _ (List.mem_of_getElem? (i := 83) (by decide +kernel))))) (by decide +kernel)
theorem gm_fieldLink_RX2_24_ErrandGuild_Fault_uncaught_Z_ : (.fieldLink RX2 24 "ErrandGuild$Fault" "uncaught" "Z" : Cond) ∈ gw := gw_m (List.mem_append_right _ (List.mem_append_right _ (List.mem_append_left _ (List.mem_of_getElem? (i := 85) (by decide +kernel))))) (by decide +kernel)
theorem gm_fieldLink_RX3_15_ErrandGuild_Handlers_effects_AI_ : (.fieldLink RX3 15 "ErrandGuild$Handlers" "effects" "[I" : Cond) ∈ gw := gw_m (List.mem_append_right _ (List.mem_append_left _ (List.mem_of_getElem? (i := 30) (by decide +kernel)))) (by decide +kernel)
theorem gm_fieldLink_RX8_9_ErrandGuild_Scopes_bindingSlots_AI_ : (.fieldLink RX8 9 "ErrandGuild$Scopes" "bindingSlots" "[I" : Cond) ∈ gw := gw_m (List.mem_append_right _ (List.mem_append_right _ (List.mem_append_left _ (List.mem_of_getElem? (i := 41) (by decide +kernel))))) (by decide +kernel)
theorem gm_methodLink_RX8_40_yX8_innermostOf : (.methodLink RX8 40 yX8_innermostOf : Cond) ∈ gw := gw_m (List.mem_append_right _ (List.mem_append_right _ (List.mem_append_left _ (List.mem_of_getElem? (i := 207) (by decide +kernel))))) (by decide +kernel)
theorem gm_instanceMethod_yX8_innermostOf : (.instanceMethod yX8_innermostOf : Cond) ∈ gw := gw_m (List.mem_append_right _ (List.mem_append_right _ (List.mem_append_left _ (List.mem_of_getElem? (i := 209) (by decide +kernel))))) (by decide +kernel)
theorem gm_selects_RX8_yX8_innermostOf_yX8_innermostOf : (.selects RX8 yX8_innermostOf yX8_innermostOf : Cond) ∈ gw := gw_m (List.mem_append_left _ (List.mem_of_getElem? (i := 4) (by decide +kernel))) (by decide +kernel)
theorem gm_initialized_RX8 : (.initialized RX8 : Cond) ∈ gw := gw_m (List.mem_append_right _ (List.mem_append_left _ (List.mem_of_getElem? (i := 10) (by decide +kernel)))) (by decide +kernel)
theorem gm_code_yX8_innermostOf_cX8_innermostOf_3_some_int_ : (.code yX8_innermostOf cX8_innermostOf 3 (some .int) : Cond) ∈ gw := gw_m (List.mem_append_right _ (List.mem_append_right _ (List.mem_append_left _ (List.mem_of_getElem? (i := 210) rfl)))) (by decide +kernel)
theorem gm_fieldLink_RX8_15_ErrandGuild_Scopes_bindingValues_AI_ : (.fieldLink RX8 15 "ErrandGuild$Scopes" "bindingValues" "[I" : Cond) ∈ gw := gw_m (List.mem_append_right _ (List.mem_append_right _ (List.mem_append_left _ (List.mem_of_getElem? (i := 42) (by decide +kernel))))) (by decide +kernel)
theorem gm_fieldLink_RX8_18_ErrandGuild_Scopes_bindingMarks_AI_ : (.fieldLink RX8 18 "ErrandGuild$Scopes" "bindingMarks" "[I" : Cond) ∈ gw := gw_m (List.mem_append_right _ (List.mem_append_right _ (List.mem_append_left _ (List.mem_of_getElem? (i := 43) (by decide +kernel))))) (by decide +kernel)
theorem gm_fieldLink_RX8_21_ErrandGuild_Scopes_tryKinds_AI_ : (.fieldLink RX8 21 "ErrandGuild$Scopes" "tryKinds" "[I" : Cond) ∈ gw := gw_m (List.mem_append_right _ (List.mem_append_right _ (List.mem_append_left _ (List.mem_of_getElem? (i := 46) (by decide +kernel))))) (by decide +kernel)
theorem gm_fieldLink_RX8_24_ErrandGuild_Scopes_tryPlaces_AI_ : (.fieldLink RX8 24 "ErrandGuild$Scopes" "tryPlaces" "[I" : Cond) ∈ gw := gw_m (List.mem_append_right _ (List.mem_append_right _ (List.mem_append_left _ (List.mem_of_getElem? (i := 47) (by decide +kernel))))) (by decide +kernel)
theorem gm_fieldLink_RX8_27_ErrandGuild_Scopes_tryMarks_AI_ : (.fieldLink RX8 27 "ErrandGuild$Scopes" "tryMarks" "[I" : Cond) ∈ gw := gw_m (List.mem_append_right _ (List.mem_append_right _ (List.mem_append_left _ (List.mem_of_getElem? (i := 48) (by decide +kernel))))) (by decide +kernel)
theorem gm_methodLink_RX8_44_yX8_endBindingsSince : (.methodLink RX8 44 yX8_endBindingsSince : Cond) ∈ gw := gw_m (List.mem_append_right _ (List.mem_append_right _ (List.mem_append_right _ (List.mem_append_left _ (List.mem_of_getElem? (i := 107) (by decide +kernel)))))) (by decide +kernel)
theorem gm_instanceMethod_yX8_endBindingsSince : (.instanceMethod yX8_endBindingsSince : Cond) ∈ gw := gw_m (List.mem_append_right _ (List.mem_append_right _ (List.mem_append_right _ (List.mem_append_left _ (List.mem_of_getElem? (i := 109) (by decide +kernel)))))) (by decide +kernel)
theorem gm_selects_RX8_yX8_endBindingsSince_yX8_endBindingsSince : (.selects RX8 yX8_endBindingsSince yX8_endBindingsSince : Cond) ∈ gw := gw_m (List.mem_append_left _ (List.mem_of_getElem? (i := 20) (by decide +kernel))) (by decide +kernel)
theorem gm_code_yX8_endBindingsSince_cX8_endBindingsSince_3_none : (.code yX8_endBindingsSince cX8_endBindingsSince 3 none : Cond) ∈ gw := gw_m (List.mem_append_right _ (List.mem_append_right _ (List.mem_append_right _ (List.mem_append_left _ (List.mem_of_getElem? (i := 110) rfl))))) (by decide +kernel)
theorem gm_methodLink_RX0_28_yX0_has : (.methodLink RX0 28 yX0_has : Cond) ∈ gw := gw_m (List.mem_append_right _ (List.mem_append_right _ (List.mem_append_right _ (List.mem_append_left _ (List.mem_of_getElem? (i := 187) (by decide +kernel)))))) (by decide +kernel)
theorem gm_instanceMethod_yX0_has : (.instanceMethod yX0_has : Cond) ∈ gw := gw_m (List.mem_append_right _ (List.mem_append_right _ (List.mem_append_right _ (List.mem_append_left _ (List.mem_of_getElem? (i := 180) (by decide +kernel)))))) (by decide +kernel)
theorem gm_selects_RX0_yX0_has_yX0_has : (.selects RX0 yX0_has yX0_has : Cond) ∈ gw := gw_m (List.mem_append_right _ (List.mem_append_right _ (List.mem_append_right _ (List.mem_append_left _ (List.mem_of_getElem? (i := 181) (by decide +kernel)))))) (by decide +kernel)
theorem gm_initialized_RX0 : (.initialized RX0 : Cond) ∈ gw := gw_m (List.mem_append_right _ (List.mem_append_left _ (List.mem_of_getElem? (i := 4) (by decide +kernel)))) (by decide +kernel)
theorem gm_code_yX0_has_cX0_has_2_some_boolean_ : (.code yX0_has cX0_has 2 (some .boolean) : Cond) ∈ gw := gw_m (List.mem_append_right _ (List.mem_append_right _ (List.mem_append_right _ (List.mem_append_left _ (List.mem_of_getElem? (i := 182) rfl))))) (by decide +kernel)
theorem gm_fieldLink_RX5_9_ErrandGuild_Ledger_limit_I_ : (.fieldLink RX5 9 "ErrandGuild$Ledger" "limit" "I" : Cond) ∈ gw := gw_m (List.mem_append_right _ (List.mem_append_left _ (List.mem_of_getElem? (i := 65) (by decide +kernel)))) (by decide +kernel)
theorem gm_fieldLink_RX5_20_ErrandGuild_Ledger_cells_LErrandGuild_Cells_ : (.fieldLink RX5 20 "ErrandGuild$Ledger" "cells" "LErrandGuild$Cells;" : Cond) ∈ gw := gw_m (List.mem_append_right _ (List.mem_append_left _ (List.mem_of_getElem? (i := 66) (by decide +kernel)))) (by decide +kernel)
theorem gm_methodLink_RX5_30_yX0_has : (.methodLink RX5 30 yX0_has : Cond) ∈ gw := gw_m (List.mem_append_right _ (List.mem_append_right _ (List.mem_append_right _ (List.mem_append_left _ (List.mem_of_getElem? (i := 179) (by decide +kernel)))))) (by decide +kernel)
theorem gm_methodLink_RX5_34_yX0_at : (.methodLink RX5 34 yX0_at : Cond) ∈ gw := gw_m (List.mem_append_right _ (List.mem_append_right _ (List.mem_append_right _ (List.mem_append_left _ (List.mem_of_getElem? (i := 183) (by decide +kernel)))))) (by decide +kernel)
theorem gm_instanceMethod_yX0_at : (.instanceMethod yX0_at : Cond) ∈ gw := gw_m (List.mem_append_right _ (List.mem_append_right _ (List.mem_append_right _ (List.mem_append_left _ (List.mem_of_getElem? (i := 184) (by decide +kernel)))))) (by decide +kernel)
theorem gm_selects_RX0_yX0_at_yX0_at : (.selects RX0 yX0_at yX0_at : Cond) ∈ gw := gw_m (List.mem_append_right _ (List.mem_append_right _ (List.mem_append_right _ (List.mem_append_left _ (List.mem_of_getElem? (i := 185) (by decide +kernel)))))) (by decide +kernel)
theorem gm_code_yX0_at_cX0_at_2_some_int_ : (.code yX0_at cX0_at 2 (some .int) : Cond) ∈ gw := gw_m (List.mem_append_right _ (List.mem_append_right _ (List.mem_append_right _ (List.mem_append_left _ (List.mem_of_getElem? (i := 186) rfl))))) (by decide +kernel)
theorem gm_methodLink_RX5_24_yX0_clear : (.methodLink RX5 24 yX0_clear : Cond) ∈ gw := gw_m (List.mem_append_right _ (List.mem_append_left _ (List.mem_of_getElem? (i := 179) (by decide +kernel)))) (by decide +kernel)
theorem gm_instanceMethod_yX0_clear : (.instanceMethod yX0_clear : Cond) ∈ gw := gw_m (List.mem_append_right _ (List.mem_append_left _ (List.mem_of_getElem? (i := 180) (by decide +kernel)))) (by decide +kernel)
theorem gm_selects_RX0_yX0_clear_yX0_clear : (.selects RX0 yX0_clear yX0_clear : Cond) ∈ gw := gw_m (List.mem_append_right _ (List.mem_append_left _ (List.mem_of_getElem? (i := 181) (by decide +kernel)))) (by decide +kernel)
theorem gm_code_yX0_clear_cX0_clear_1_none : (.code yX0_clear cX0_clear 1 none : Cond) ∈ gw := gw_m (List.mem_append_right _ (List.mem_append_left _ (List.mem_of_getElem? (i := 182) rfl))) (by decide +kernel)
theorem gm_fieldLink_RX6_9_ErrandGuild_Memory_wrote_AZ_ : (.fieldLink RX6 9 "ErrandGuild$Memory" "wrote" "[Z" : Cond) ∈ gw := gw_m (List.mem_append_right _ (List.mem_append_right _ (List.mem_append_left _ (List.mem_of_getElem? (i := 25) (by decide +kernel))))) (by decide +kernel)
theorem gm_fieldLink_RX6_19_ErrandGuild_Memory_given_AI_ : (.fieldLink RX6 19 "ErrandGuild$Memory" "given" "[I" : Cond) ∈ gw := gw_m (List.mem_append_right _ (List.mem_append_right _ (List.mem_append_left _ (List.mem_of_getElem? (i := 27) (by decide +kernel))))) (by decide +kernel)
theorem gm_fieldLink_RX6_15_ErrandGuild_Memory_written_AI_ : (.fieldLink RX6 15 "ErrandGuild$Memory" "written" "[I" : Cond) ∈ gw := gw_m (List.mem_append_right _ (List.mem_append_right _ (List.mem_append_left _ (List.mem_of_getElem? (i := 26) (by decide +kernel))))) (by decide +kernel)
theorem gm_fieldLink_RX3_11_ErrandGuild_Handlers_there_AZ_ : (.fieldLink RX3 11 "ErrandGuild$Handlers" "there" "[Z" : Cond) ∈ gw := gw_m (List.mem_append_right _ (List.mem_append_left _ (List.mem_of_getElem? (i := 29) (by decide +kernel)))) (by decide +kernel)
theorem gm_fieldLink_RX3_19_ErrandGuild_Handlers_throwing_AZ_ : (.fieldLink RX3 19 "ErrandGuild$Handlers" "throwing" "[Z" : Cond) ∈ gw := gw_m (List.mem_append_right _ (List.mem_append_left _ (List.mem_of_getElem? (i := 31) (by decide +kernel)))) (by decide +kernel)
theorem gm_fieldLink_RX1_21_ErrandGuild_Errand_count_I_ : (.fieldLink RX1 21 "ErrandGuild$Errand" "count" "I" : Cond) ∈ gw := gw_m (List.mem_append_right _ (List.mem_append_left _ (List.mem_of_getElem? (i := 85) (by decide +kernel)))) (by decide +kernel)
theorem gm_fieldLink_RX1_9_ErrandGuild_Errand_ops_AI_ : (.fieldLink RX1 9 "ErrandGuild$Errand" "ops" "[I" : Cond) ∈ gw := gw_m (List.mem_append_right _ (List.mem_append_left _ (List.mem_of_getElem? (i := 79) (by decide +kernel)))) (by decide +kernel)
theorem gm_fieldLink_RX1_15_ErrandGuild_Errand_as_AI_ : (.fieldLink RX1 15 "ErrandGuild$Errand" "as" "[I" : Cond) ∈ gw := gw_m (List.mem_append_right _ (List.mem_append_left _ (List.mem_of_getElem? (i := 81) (by decide +kernel)))) (by decide +kernel)
theorem gm_fieldLink_RX1_18_ErrandGuild_Errand_bs_AI_ : (.fieldLink RX1 18 "ErrandGuild$Errand" "bs" "[I" : Cond) ∈ gw := gw_m (List.mem_append_right _ (List.mem_append_left _ (List.mem_of_getElem? (i := 83) (by decide +kernel)))) (by decide +kernel)
theorem gm_fieldLink_RX0_15_ErrandGuild_Cells_limit_I_ : (.fieldLink RX0 15 "ErrandGuild$Cells" "limit" "I" : Cond) ∈ gw := gw_m (List.mem_append_right _ (List.mem_append_left _ (List.mem_of_getElem? (i := 55) (by decide +kernel)))) (by decide +kernel)
theorem gm_fieldLink_RX7_56_ErrandGuild_Run_state_I_ : (.fieldLink RX7 56 "ErrandGuild$Run" "state" "I" : Cond) ∈ gw := gw_m (List.mem_append_right _ (List.mem_append_right _ (List.mem_append_left _ (List.mem_of_getElem? (i := 105) (by decide +kernel))))) (by decide +kernel)
theorem gb_0 : ∀ w ∈ u_ws RX0 TX0 3, w ∈ gw := by
  intro w hw
  obtain ⟨j, hj, rfl⟩ := List.mem_map.mp hw
  have hj : j < 3 := List.mem_range.mp hj
  rcases (show j = 0 ∨ j = 1 ∨ j = 2 by omega) with rfl | rfl | rfl
  · exact gw_m (List.mem_append_right _ (List.mem_append_left _ (List.mem_of_getElem? (i := 58) (by decide +kernel)))) (by decide +kernel)
  · exact gw_m (List.mem_append_right _ (List.mem_append_left _ (List.mem_of_getElem? (i := 60) (by decide +kernel)))) (by decide +kernel)
  · exact gw_m (List.mem_append_right _ (List.mem_append_left _ (List.mem_of_getElem? (i := 62) (by decide +kernel)))) (by decide +kernel)
theorem gb_1 : ∀ w ∈ u_ws RX1 TX1 4, w ∈ gw := by
  intro w hw
  obtain ⟨j, hj, rfl⟩ := List.mem_map.mp hw
  have hj : j < 4 := List.mem_range.mp hj
  rcases (show j = 0 ∨ j = 1 ∨ j = 2 ∨ j = 3 by omega) with rfl | rfl | rfl | rfl
  · exact gw_m (List.mem_append_right _ (List.mem_append_left _ (List.mem_of_getElem? (i := 87) (by decide +kernel)))) (by decide +kernel)
  · exact gw_m (List.mem_append_right _ (List.mem_append_left _ (List.mem_of_getElem? (i := 89) (by decide +kernel)))) (by decide +kernel)
  · exact gw_m (List.mem_append_right _ (List.mem_append_left _ (List.mem_of_getElem? (i := 91) (by decide +kernel)))) (by decide +kernel)
  · exact gw_m (List.mem_append_right _ (List.mem_append_left _ (List.mem_of_getElem? (i := 93) (by decide +kernel)))) (by decide +kernel)
theorem gb_2 : ∀ w ∈ u_ws RX2 TX2 5, w ∈ gw := by
  intro w hw
  obtain ⟨j, hj, rfl⟩ := List.mem_map.mp hw
  have hj : j < 5 := List.mem_range.mp hj
  rcases (show j = 0 ∨ j = 1 ∨ j = 2 ∨ j = 3 ∨ j = 4 by omega) with rfl | rfl | rfl | rfl | rfl
  · exact gw_m (List.mem_append_right _ (List.mem_append_right _ (List.mem_append_left _ (List.mem_of_getElem? (i := 87) (by decide +kernel))))) (by decide +kernel)
  · exact gw_m (List.mem_append_right _ (List.mem_append_right _ (List.mem_append_left _ (List.mem_of_getElem? (i := 89) (by decide +kernel))))) (by decide +kernel)
  · exact gw_m (List.mem_append_right _ (List.mem_append_right _ (List.mem_append_left _ (List.mem_of_getElem? (i := 91) (by decide +kernel))))) (by decide +kernel)
  · exact gw_m (List.mem_append_right _ (List.mem_append_right _ (List.mem_append_left _ (List.mem_of_getElem? (i := 93) (by decide +kernel))))) (by decide +kernel)
  · exact gw_m (List.mem_append_right _ (List.mem_append_right _ (List.mem_append_left _ (List.mem_of_getElem? (i := 95) (by decide +kernel))))) (by decide +kernel)
theorem gb_3 : ∀ w ∈ u_ws RX3 TX3 3, w ∈ gw := by
  intro w hw
  obtain ⟨j, hj, rfl⟩ := List.mem_map.mp hw
  have hj : j < 3 := List.mem_range.mp hj
  rcases (show j = 0 ∨ j = 1 ∨ j = 2 by omega) with rfl | rfl | rfl
  · exact gw_m (List.mem_append_right _ (List.mem_append_left _ (List.mem_of_getElem? (i := 32) (by decide +kernel)))) (by decide +kernel)
  · exact gw_m (List.mem_append_right _ (List.mem_append_left _ (List.mem_of_getElem? (i := 34) (by decide +kernel)))) (by decide +kernel)
  · exact gw_m (List.mem_append_right _ (List.mem_append_left _ (List.mem_of_getElem? (i := 36) (by decide +kernel)))) (by decide +kernel)
theorem gb_5 : ∀ w ∈ u_ws RX5 TX5 2, w ∈ gw := by
  intro w hw
  obtain ⟨j, hj, rfl⟩ := List.mem_map.mp hw
  have hj : j < 2 := List.mem_range.mp hj
  rcases (show j = 0 ∨ j = 1 by omega) with rfl | rfl
  · exact gw_m (List.mem_append_right _ (List.mem_append_left _ (List.mem_of_getElem? (i := 67) (by decide +kernel)))) (by decide +kernel)
  · exact gw_m (List.mem_append_right _ (List.mem_append_left _ (List.mem_of_getElem? (i := 69) (by decide +kernel)))) (by decide +kernel)
theorem gb_6 : ∀ w ∈ u_ws RX6 TX6 3, w ∈ gw := by
  intro w hw
  obtain ⟨j, hj, rfl⟩ := List.mem_map.mp hw
  have hj : j < 3 := List.mem_range.mp hj
  rcases (show j = 0 ∨ j = 1 ∨ j = 2 by omega) with rfl | rfl | rfl
  · exact gw_m (List.mem_append_right _ (List.mem_append_right _ (List.mem_append_left _ (List.mem_of_getElem? (i := 28) (by decide +kernel))))) (by decide +kernel)
  · exact gw_m (List.mem_append_right _ (List.mem_append_right _ (List.mem_append_left _ (List.mem_of_getElem? (i := 30) (by decide +kernel))))) (by decide +kernel)
  · exact gw_m (List.mem_append_right _ (List.mem_append_right _ (List.mem_append_left _ (List.mem_of_getElem? (i := 32) (by decide +kernel))))) (by decide +kernel)
theorem gb_7 : ∀ w ∈ u_ws RX7 TX7 15, w ∈ gw := by
  intro w hw
  obtain ⟨j, hj, rfl⟩ := List.mem_map.mp hw
  have hj : j < 15 := List.mem_range.mp hj
  rcases (show j = 0 ∨ j = 1 ∨ j = 2 ∨ j = 3 ∨ j = 4 ∨ j = 5 ∨ j = 6 ∨ j = 7 ∨ j = 8 ∨ j = 9 ∨ j = 10 ∨ j = 11 ∨ j = 12 ∨ j = 13 ∨ j = 14 by omega) with rfl | rfl | rfl | rfl | rfl | rfl | rfl | rfl | rfl | rfl | rfl | rfl | rfl | rfl | rfl
  · exact gw_m (List.mem_append_right _ (List.mem_append_right _ (List.mem_append_left _ (List.mem_of_getElem? (i := 133) (by decide +kernel))))) (by decide +kernel)
  · exact gw_m (List.mem_append_right _ (List.mem_append_right _ (List.mem_append_left _ (List.mem_of_getElem? (i := 135) (by decide +kernel))))) (by decide +kernel)
  · exact gw_m (List.mem_append_right _ (List.mem_append_right _ (List.mem_append_left _ (List.mem_of_getElem? (i := 137) (by decide +kernel))))) (by decide +kernel)
  · exact gw_m (List.mem_append_right _ (List.mem_append_right _ (List.mem_append_left _ (List.mem_of_getElem? (i := 139) (by decide +kernel))))) (by decide +kernel)
  · exact gw_m (List.mem_append_right _ (List.mem_append_right _ (List.mem_append_left _ (List.mem_of_getElem? (i := 141) (by decide +kernel))))) (by decide +kernel)
  · exact gw_m (List.mem_append_right _ (List.mem_append_right _ (List.mem_append_left _ (List.mem_of_getElem? (i := 143) (by decide +kernel))))) (by decide +kernel)
  · exact gw_m (List.mem_append_right _ (List.mem_append_right _ (List.mem_append_left _ (List.mem_of_getElem? (i := 145) (by decide +kernel))))) (by decide +kernel)
  · exact gw_m (List.mem_append_right _ (List.mem_append_right _ (List.mem_append_left _ (List.mem_of_getElem? (i := 147) (by decide +kernel))))) (by decide +kernel)
  · exact gw_m (List.mem_append_right _ (List.mem_append_right _ (List.mem_append_left _ (List.mem_of_getElem? (i := 149) (by decide +kernel))))) (by decide +kernel)
  · exact gw_m (List.mem_append_right _ (List.mem_append_right _ (List.mem_append_left _ (List.mem_of_getElem? (i := 151) (by decide +kernel))))) (by decide +kernel)
  · exact gw_m (List.mem_append_right _ (List.mem_append_right _ (List.mem_append_left _ (List.mem_of_getElem? (i := 153) (by decide +kernel))))) (by decide +kernel)
  · exact gw_m (List.mem_append_right _ (List.mem_append_right _ (List.mem_append_left _ (List.mem_of_getElem? (i := 155) (by decide +kernel))))) (by decide +kernel)
  · exact gw_m (List.mem_append_right _ (List.mem_append_right _ (List.mem_append_left _ (List.mem_of_getElem? (i := 157) (by decide +kernel))))) (by decide +kernel)
  · exact gw_m (List.mem_append_right _ (List.mem_append_right _ (List.mem_append_left _ (List.mem_of_getElem? (i := 159) (by decide +kernel))))) (by decide +kernel)
  · exact gw_m (List.mem_append_right _ (List.mem_append_right _ (List.mem_append_left _ (List.mem_of_getElem? (i := 161) (by decide +kernel))))) (by decide +kernel)
theorem gb_8 : ∀ w ∈ u_ws RX8 TX8 9, w ∈ gw := by
  intro w hw
  obtain ⟨j, hj, rfl⟩ := List.mem_map.mp hw
  have hj : j < 9 := List.mem_range.mp hj
  rcases (show j = 0 ∨ j = 1 ∨ j = 2 ∨ j = 3 ∨ j = 4 ∨ j = 5 ∨ j = 6 ∨ j = 7 ∨ j = 8 by omega) with rfl | rfl | rfl | rfl | rfl | rfl | rfl | rfl | rfl
  · exact gw_m (List.mem_append_right _ (List.mem_append_right _ (List.mem_append_left _ (List.mem_of_getElem? (i := 52) (by decide +kernel))))) (by decide +kernel)
  · exact gw_m (List.mem_append_right _ (List.mem_append_right _ (List.mem_append_left _ (List.mem_of_getElem? (i := 54) (by decide +kernel))))) (by decide +kernel)
  · exact gw_m (List.mem_append_right _ (List.mem_append_right _ (List.mem_append_left _ (List.mem_of_getElem? (i := 56) (by decide +kernel))))) (by decide +kernel)
  · exact gw_m (List.mem_append_right _ (List.mem_append_right _ (List.mem_append_left _ (List.mem_of_getElem? (i := 58) (by decide +kernel))))) (by decide +kernel)
  · exact gw_m (List.mem_append_right _ (List.mem_append_right _ (List.mem_append_left _ (List.mem_of_getElem? (i := 60) (by decide +kernel))))) (by decide +kernel)
  · exact gw_m (List.mem_append_right _ (List.mem_append_right _ (List.mem_append_left _ (List.mem_of_getElem? (i := 62) (by decide +kernel))))) (by decide +kernel)
  · exact gw_m (List.mem_append_right _ (List.mem_append_right _ (List.mem_append_left _ (List.mem_of_getElem? (i := 64) (by decide +kernel))))) (by decide +kernel)
  · exact gw_m (List.mem_append_right _ (List.mem_append_right _ (List.mem_append_left _ (List.mem_of_getElem? (i := 66) (by decide +kernel))))) (by decide +kernel)
  · exact gw_m (List.mem_append_right _ (List.mem_append_right _ (List.mem_append_left _ (List.mem_of_getElem? (i := 68) (by decide +kernel))))) (by decide +kernel)
theorem ti_17 : (17 : Int32).toInt = 17 := by decide
theorem ti_23 : (23 : Int32).toInt = 23 := by decide
