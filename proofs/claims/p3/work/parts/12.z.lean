theorem dX0_clear_0 : decode cX0_clear 0 = .ok (.aload_n 0, 1) := by decide +kernel
theorem dX0_clear_1 : decode cX0_clear 1 = .ok (.iconst 0, 1) := by decide +kernel
theorem dX0_clear_2 : decode cX0_clear 2 = .ok (.putfield 19, 3) := by decide +kernel
theorem dX0_clear_5 : decode cX0_clear 5 = .ok (.return_, 1) := by decide +kernel
theorem dX0_has_0 : decode cX0_has 0 = .ok (.iload_n 1, 1) := by decide +kernel
theorem dX0_has_1 : decode cX0_has 1 = .ok (.ifCond .lt 24, 3) := by decide +kernel
theorem dX0_has_4 : decode cX0_has 4 = .ok (.iload_n 1, 1) := by decide +kernel
theorem dX0_has_5 : decode cX0_has 5 = .ok (.aload_n 0, 1) := by decide +kernel
theorem dX0_has_6 : decode cX0_has 6 = .ok (.getfield 19, 3) := by decide +kernel
theorem dX0_has_9 : decode cX0_has 9 = .ok (.if_icmp .ge 16, 3) := by decide +kernel
theorem dX0_has_12 : decode cX0_has 12 = .ok (.iload_n 1, 1) := by decide +kernel
theorem dX0_has_13 : decode cX0_has 13 = .ok (.aload_n 0, 1) := by decide +kernel
theorem dX0_has_14 : decode cX0_has 14 = .ok (.getfield 9, 3) := by decide +kernel
theorem dX0_has_17 : decode cX0_has 17 = .ok (.arraylength, 1) := by decide +kernel
theorem dX0_has_18 : decode cX0_has 18 = .ok (.if_icmp .ge 7, 3) := by decide +kernel
theorem dX0_has_21 : decode cX0_has 21 = .ok (.iconst 1, 1) := by decide +kernel
theorem dX0_has_22 : decode cX0_has 22 = .ok (.goto 4, 3) := by decide +kernel
theorem dX0_has_25 : decode cX0_has 25 = .ok (.iconst 0, 1) := by decide +kernel
theorem dX0_has_26 : decode cX0_has 26 = .ok (.ireturn, 1) := by decide +kernel
theorem dX2_clear_0 : decode cX2_clear 0 = .ok (.aload_n 0, 1) := by decide +kernel
theorem dX2_clear_1 : decode cX2_clear 1 = .ok (.iconst (-1), 1) := by decide +kernel
theorem dX2_clear_2 : decode cX2_clear 2 = .ok (.putfield 9, 3) := by decide +kernel
theorem dX2_clear_5 : decode cX2_clear 5 = .ok (.aload_n 0, 1) := by decide +kernel
theorem dX2_clear_6 : decode cX2_clear 6 = .ok (.iconst (-1), 1) := by decide +kernel
theorem dX2_clear_7 : decode cX2_clear 7 = .ok (.putfield 15, 3) := by decide +kernel
theorem dX2_clear_10 : decode cX2_clear 10 = .ok (.aload_n 0, 1) := by decide +kernel
theorem dX2_clear_11 : decode cX2_clear 11 = .ok (.iconst (-1), 1) := by decide +kernel
theorem dX2_clear_12 : decode cX2_clear 12 = .ok (.putfield 18, 3) := by decide +kernel
theorem dX2_clear_15 : decode cX2_clear 15 = .ok (.aload_n 0, 1) := by decide +kernel
theorem dX2_clear_16 : decode cX2_clear 16 = .ok (.iconst 0, 1) := by decide +kernel
theorem dX2_clear_17 : decode cX2_clear 17 = .ok (.putfield 21, 3) := by decide +kernel
theorem dX2_clear_20 : decode cX2_clear 20 = .ok (.aload_n 0, 1) := by decide +kernel
theorem dX2_clear_21 : decode cX2_clear 21 = .ok (.iconst 0, 1) := by decide +kernel
theorem dX2_clear_22 : decode cX2_clear 22 = .ok (.putfield 24, 3) := by decide +kernel
theorem dX2_clear_25 : decode cX2_clear 25 = .ok (.return_, 1) := by decide +kernel
theorem dX3_effectAt_0 : decode cX3_effectAt 0 = .ok (.iload_n 1, 1) := by decide +kernel
theorem dX3_effectAt_1 : decode cX3_effectAt 1 = .ok (.ifCond .lt 18, 3) := by decide +kernel
theorem dX3_effectAt_4 : decode cX3_effectAt 4 = .ok (.iload_n 1, 1) := by decide +kernel
theorem dX3_effectAt_5 : decode cX3_effectAt 5 = .ok (.bipush 17, 2) := by decide +kernel
theorem dX3_effectAt_7 : decode cX3_effectAt 7 = .ok (.if_icmp .ge 12, 3) := by decide +kernel
theorem dX3_effectAt_10 : decode cX3_effectAt 10 = .ok (.aload_n 0, 1) := by decide +kernel
theorem dX3_effectAt_11 : decode cX3_effectAt 11 = .ok (.getfield 15, 3) := by decide +kernel
theorem dX3_effectAt_14 : decode cX3_effectAt 14 = .ok (.iload_n 1, 1) := by decide +kernel
theorem dX3_effectAt_15 : decode cX3_effectAt 15 = .ok (.iaload, 1) := by decide +kernel
theorem dX3_effectAt_16 : decode cX3_effectAt 16 = .ok (.goto 4, 3) := by decide +kernel
theorem dX3_effectAt_19 : decode cX3_effectAt 19 = .ok (.iconst 0, 1) := by decide +kernel
theorem dX3_effectAt_20 : decode cX3_effectAt 20 = .ok (.ireturn, 1) := by decide +kernel
theorem dX8_clear_0 : decode cX8_clear 0 = .ok (.aload_n 0, 1) := by decide +kernel
theorem dX8_clear_1 : decode cX8_clear 1 = .ok (.iconst 0, 1) := by decide +kernel
theorem dX8_clear_2 : decode cX8_clear 2 = .ok (.putfield 30, 3) := by decide +kernel
theorem dX8_clear_5 : decode cX8_clear 5 = .ok (.aload_n 0, 1) := by decide +kernel
theorem dX8_clear_6 : decode cX8_clear 6 = .ok (.iconst 0, 1) := by decide +kernel
theorem dX8_clear_7 : decode cX8_clear 7 = .ok (.putfield 34, 3) := by decide +kernel
theorem dX8_clear_10 : decode cX8_clear 10 = .ok (.aload_n 0, 1) := by decide +kernel
theorem dX8_clear_11 : decode cX8_clear 11 = .ok (.iconst 0, 1) := by decide +kernel
theorem dX8_clear_12 : decode cX8_clear 12 = .ok (.putfield 37, 3) := by decide +kernel
theorem dX8_clear_15 : decode cX8_clear 15 = .ok (.return_, 1) := by decide +kernel
theorem dX8_bind_0 : decode cX8_bind 0 = .ok (.aload_n 0, 1) := by decide +kernel
theorem dX8_bind_1 : decode cX8_bind 1 = .ok (.getfield 30, 3) := by decide +kernel
theorem dX8_bind_4 : decode cX8_bind 4 = .ok (.ifCond .lt 12, 3) := by decide +kernel
theorem dX8_bind_7 : decode cX8_bind 7 = .ok (.aload_n 0, 1) := by decide +kernel
theorem dX8_bind_8 : decode cX8_bind 8 = .ok (.getfield 30, 3) := by decide +kernel
theorem dX8_bind_11 : decode cX8_bind 11 = .ok (.bipush 24, 2) := by decide +kernel
theorem dX8_bind_13 : decode cX8_bind 13 = .ok (.if_icmp .lt 4, 3) := by decide +kernel
theorem dX8_bind_16 : decode cX8_bind 16 = .ok (.return_, 1) := by decide +kernel
theorem dX8_bind_17 : decode cX8_bind 17 = .ok (.aload_n 0, 1) := by decide +kernel
theorem dX8_bind_18 : decode cX8_bind 18 = .ok (.getfield 9, 3) := by decide +kernel
theorem dX8_bind_21 : decode cX8_bind 21 = .ok (.aload_n 0, 1) := by decide +kernel
theorem dX8_bind_22 : decode cX8_bind 22 = .ok (.getfield 30, 3) := by decide +kernel
theorem dX8_bind_25 : decode cX8_bind 25 = .ok (.iload_n 1, 1) := by decide +kernel
theorem dX8_bind_26 : decode cX8_bind 26 = .ok (.iastore, 1) := by decide +kernel
theorem dX8_bind_27 : decode cX8_bind 27 = .ok (.aload_n 0, 1) := by decide +kernel
theorem dX8_bind_28 : decode cX8_bind 28 = .ok (.getfield 15, 3) := by decide +kernel
theorem dX8_bind_31 : decode cX8_bind 31 = .ok (.aload_n 0, 1) := by decide +kernel
theorem dX8_bind_32 : decode cX8_bind 32 = .ok (.getfield 30, 3) := by decide +kernel
theorem dX8_bind_35 : decode cX8_bind 35 = .ok (.iload_n 2, 1) := by decide +kernel
theorem dX8_bind_36 : decode cX8_bind 36 = .ok (.iastore, 1) := by decide +kernel
theorem dX8_bind_37 : decode cX8_bind 37 = .ok (.aload_n 0, 1) := by decide +kernel
theorem dX8_bind_38 : decode cX8_bind 38 = .ok (.getfield 18, 3) := by decide +kernel
theorem dX8_bind_41 : decode cX8_bind 41 = .ok (.aload_n 0, 1) := by decide +kernel
theorem dX8_bind_42 : decode cX8_bind 42 = .ok (.getfield 30, 3) := by decide +kernel
theorem dX8_bind_45 : decode cX8_bind 45 = .ok (.aload_n 0, 1) := by decide +kernel
theorem dX8_bind_46 : decode cX8_bind 46 = .ok (.getfield 37, 3) := by decide +kernel
theorem dX8_bind_49 : decode cX8_bind 49 = .ok (.iastore, 1) := by decide +kernel
theorem dX8_bind_50 : decode cX8_bind 50 = .ok (.aload_n 0, 1) := by decide +kernel
theorem dX8_bind_51 : decode cX8_bind 51 = .ok (.dup, 1) := by decide +kernel
theorem dX8_bind_52 : decode cX8_bind 52 = .ok (.getfield 30, 3) := by decide +kernel
theorem dX8_bind_55 : decode cX8_bind 55 = .ok (.iconst 1, 1) := by decide +kernel
theorem dX8_bind_56 : decode cX8_bind 56 = .ok (.iadd, 1) := by decide +kernel
theorem dX8_bind_57 : decode cX8_bind 57 = .ok (.putfield 30, 3) := by decide +kernel
theorem dX8_bind_60 : decode cX8_bind 60 = .ok (.return_, 1) := by decide +kernel
theorem dX8_innermostOf_0 : decode cX8_innermostOf 0 = .ok (.bipush 23, 2) := by decide +kernel
theorem dX8_innermostOf_2 : decode cX8_innermostOf 2 = .ok (.istore_n 2, 1) := by decide +kernel
theorem dX8_innermostOf_3 : decode cX8_innermostOf 3 = .ok (.iload_n 2, 1) := by decide +kernel
theorem dX8_innermostOf_4 : decode cX8_innermostOf 4 = .ok (.ifCond .lt 29, 3) := by decide +kernel
theorem dX8_innermostOf_7 : decode cX8_innermostOf 7 = .ok (.iload_n 2, 1) := by decide +kernel
theorem dX8_innermostOf_8 : decode cX8_innermostOf 8 = .ok (.aload_n 0, 1) := by decide +kernel
theorem dX8_innermostOf_9 : decode cX8_innermostOf 9 = .ok (.getfield 30, 3) := by decide +kernel
theorem dX8_innermostOf_12 : decode cX8_innermostOf 12 = .ok (.if_icmp .ge 15, 3) := by decide +kernel
theorem dX8_innermostOf_15 : decode cX8_innermostOf 15 = .ok (.aload_n 0, 1) := by decide +kernel
theorem dX8_innermostOf_16 : decode cX8_innermostOf 16 = .ok (.getfield 9, 3) := by decide +kernel
theorem dX8_innermostOf_19 : decode cX8_innermostOf 19 = .ok (.iload_n 2, 1) := by decide +kernel
theorem dX8_innermostOf_20 : decode cX8_innermostOf 20 = .ok (.iaload, 1) := by decide +kernel
theorem dX8_innermostOf_21 : decode cX8_innermostOf 21 = .ok (.iload_n 1, 1) := by decide +kernel
theorem dX8_innermostOf_22 : decode cX8_innermostOf 22 = .ok (.if_icmp .ne 5, 3) := by decide +kernel
theorem dX8_innermostOf_25 : decode cX8_innermostOf 25 = .ok (.iload_n 2, 1) := by decide +kernel
theorem dX8_innermostOf_26 : decode cX8_innermostOf 26 = .ok (.ireturn, 1) := by decide +kernel
theorem dX8_innermostOf_27 : decode cX8_innermostOf 27 = .ok (.iinc 2 (-1), 3) := by decide +kernel
theorem dX8_innermostOf_30 : decode cX8_innermostOf 30 = .ok (.goto (-27), 3) := by decide +kernel
theorem dX8_innermostOf_33 : decode cX8_innermostOf 33 = .ok (.iconst (-1), 1) := by decide +kernel
theorem dX8_innermostOf_34 : decode cX8_innermostOf 34 = .ok (.ireturn, 1) := by decide +kernel
theorem dX8_boundOr_0 : decode cX8_boundOr 0 = .ok (.aload_n 0, 1) := by decide +kernel
theorem dX8_boundOr_1 : decode cX8_boundOr 1 = .ok (.iload_n 1, 1) := by decide +kernel
theorem dX8_boundOr_2 : decode cX8_boundOr 2 = .ok (.invokevirtual 40, 3) := by decide +kernel
theorem dX8_boundOr_5 : decode cX8_boundOr 5 = .ok (.istore_n 3, 1) := by decide +kernel
theorem dX8_boundOr_6 : decode cX8_boundOr 6 = .ok (.iload_n 3, 1) := by decide +kernel
theorem dX8_boundOr_7 : decode cX8_boundOr 7 = .ok (.ifCond .lt 18, 3) := by decide +kernel
theorem dX8_boundOr_10 : decode cX8_boundOr 10 = .ok (.iload_n 3, 1) := by decide +kernel
theorem dX8_boundOr_11 : decode cX8_boundOr 11 = .ok (.bipush 24, 2) := by decide +kernel
theorem dX8_boundOr_13 : decode cX8_boundOr 13 = .ok (.if_icmp .ge 12, 3) := by decide +kernel
theorem dX8_boundOr_16 : decode cX8_boundOr 16 = .ok (.aload_n 0, 1) := by decide +kernel
theorem dX8_boundOr_17 : decode cX8_boundOr 17 = .ok (.getfield 15, 3) := by decide +kernel
theorem dX8_boundOr_20 : decode cX8_boundOr 20 = .ok (.iload_n 3, 1) := by decide +kernel
theorem dX8_boundOr_21 : decode cX8_boundOr 21 = .ok (.iaload, 1) := by decide +kernel
theorem dX8_boundOr_22 : decode cX8_boundOr 22 = .ok (.goto 4, 3) := by decide +kernel
theorem dX8_boundOr_25 : decode cX8_boundOr 25 = .ok (.iload_n 2, 1) := by decide +kernel
theorem dX8_boundOr_26 : decode cX8_boundOr 26 = .ok (.ireturn, 1) := by decide +kernel
theorem dX8_rebind_0 : decode cX8_rebind 0 = .ok (.aload_n 0, 1) := by decide +kernel
theorem dX8_rebind_1 : decode cX8_rebind 1 = .ok (.iload_n 1, 1) := by decide +kernel
theorem dX8_rebind_2 : decode cX8_rebind 2 = .ok (.invokevirtual 40, 3) := by decide +kernel
theorem dX8_rebind_5 : decode cX8_rebind 5 = .ok (.istore_n 3, 1) := by decide +kernel
theorem dX8_rebind_6 : decode cX8_rebind 6 = .ok (.iload_n 3, 1) := by decide +kernel
theorem dX8_rebind_7 : decode cX8_rebind 7 = .ok (.ifCond .lt 9, 3) := by decide +kernel
theorem dX8_rebind_10 : decode cX8_rebind 10 = .ok (.iload_n 3, 1) := by decide +kernel
theorem dX8_rebind_11 : decode cX8_rebind 11 = .ok (.bipush 24, 2) := by decide +kernel
theorem dX8_rebind_13 : decode cX8_rebind 13 = .ok (.if_icmp .lt 5, 3) := by decide +kernel
theorem dX8_rebind_16 : decode cX8_rebind 16 = .ok (.iconst 0, 1) := by decide +kernel
theorem dX8_rebind_17 : decode cX8_rebind 17 = .ok (.ireturn, 1) := by decide +kernel
theorem dX8_rebind_18 : decode cX8_rebind 18 = .ok (.aload_n 0, 1) := by decide +kernel
theorem dX8_rebind_19 : decode cX8_rebind 19 = .ok (.getfield 15, 3) := by decide +kernel
theorem dX8_rebind_22 : decode cX8_rebind 22 = .ok (.iload_n 3, 1) := by decide +kernel
theorem dX8_rebind_23 : decode cX8_rebind 23 = .ok (.iload_n 2, 1) := by decide +kernel
theorem dX8_rebind_24 : decode cX8_rebind 24 = .ok (.iastore, 1) := by decide +kernel
theorem dX8_rebind_25 : decode cX8_rebind 25 = .ok (.iconst 1, 1) := by decide +kernel
theorem dX8_rebind_26 : decode cX8_rebind 26 = .ok (.ireturn, 1) := by decide +kernel
theorem dX8_free_0 : decode cX8_free 0 = .ok (.aload_n 0, 1) := by decide +kernel
theorem dX8_free_1 : decode cX8_free 1 = .ok (.getfield 30, 3) := by decide +kernel
theorem dX8_free_4 : decode cX8_free 4 = .ok (.iconst 1, 1) := by decide +kernel
theorem dX8_free_5 : decode cX8_free 5 = .ok (.isub, 1) := by decide +kernel
theorem dX8_free_6 : decode cX8_free 6 = .ok (.istore_n 2, 1) := by decide +kernel
theorem dX8_free_7 : decode cX8_free 7 = .ok (.iload_n 2, 1) := by decide +kernel
theorem dX8_free_8 : decode cX8_free 8 = .ok (.ifCond .lt 19, 3) := by decide +kernel
theorem dX8_free_11 : decode cX8_free 11 = .ok (.iload_n 2, 1) := by decide +kernel
theorem dX8_free_12 : decode cX8_free 12 = .ok (.bipush 24, 2) := by decide +kernel
theorem dX8_free_14 : decode cX8_free 14 = .ok (.if_icmp .ge 13, 3) := by decide +kernel
theorem dX8_free_17 : decode cX8_free 17 = .ok (.aload_n 0, 1) := by decide +kernel
theorem dX8_free_18 : decode cX8_free 18 = .ok (.getfield 9, 3) := by decide +kernel
theorem dX8_free_21 : decode cX8_free 21 = .ok (.iload_n 2, 1) := by decide +kernel
theorem dX8_free_22 : decode cX8_free 22 = .ok (.iaload, 1) := by decide +kernel
theorem dX8_free_23 : decode cX8_free 23 = .ok (.iload_n 1, 1) := by decide +kernel
theorem dX8_free_24 : decode cX8_free 24 = .ok (.if_icmp .eq 5, 3) := by decide +kernel
theorem dX8_free_27 : decode cX8_free 27 = .ok (.iconst 0, 1) := by decide +kernel
theorem dX8_free_28 : decode cX8_free 28 = .ok (.ireturn, 1) := by decide +kernel
theorem dX8_free_29 : decode cX8_free 29 = .ok (.aload_n 0, 1) := by decide +kernel
theorem dX8_free_30 : decode cX8_free 30 = .ok (.iload_n 2, 1) := by decide +kernel
theorem dX8_free_31 : decode cX8_free 31 = .ok (.putfield 30, 3) := by decide +kernel
theorem dX8_free_34 : decode cX8_free 34 = .ok (.iconst 1, 1) := by decide +kernel
theorem dX8_free_35 : decode cX8_free 35 = .ok (.ireturn, 1) := by decide +kernel
theorem dX8_endBindings_0 : decode cX8_endBindings 0 = .ok (.aload_n 0, 1) := by decide +kernel
theorem dX8_endBindings_1 : decode cX8_endBindings 1 = .ok (.iconst 0, 1) := by decide +kernel
theorem dX8_endBindings_2 : decode cX8_endBindings 2 = .ok (.putfield 30, 3) := by decide +kernel
theorem dX8_endBindings_5 : decode cX8_endBindings 5 = .ok (.return_, 1) := by decide +kernel
theorem dX8_openTry_0 : decode cX8_openTry 0 = .ok (.aload_n 0, 1) := by decide +kernel
theorem dX8_openTry_1 : decode cX8_openTry 1 = .ok (.getfield 34, 3) := by decide +kernel
theorem dX8_openTry_4 : decode cX8_openTry 4 = .ok (.ifCond .lt 12, 3) := by decide +kernel
theorem dX8_openTry_7 : decode cX8_openTry 7 = .ok (.aload_n 0, 1) := by decide +kernel
theorem dX8_openTry_8 : decode cX8_openTry 8 = .ok (.getfield 34, 3) := by decide +kernel
theorem dX8_openTry_11 : decode cX8_openTry 11 = .ok (.bipush 24, 2) := by decide +kernel
theorem dX8_openTry_13 : decode cX8_openTry 13 = .ok (.if_icmp .lt 4, 3) := by decide +kernel
theorem dX8_openTry_16 : decode cX8_openTry 16 = .ok (.return_, 1) := by decide +kernel
theorem dX8_openTry_17 : decode cX8_openTry 17 = .ok (.aload_n 0, 1) := by decide +kernel
theorem dX8_openTry_18 : decode cX8_openTry 18 = .ok (.getfield 21, 3) := by decide +kernel
theorem dX8_openTry_21 : decode cX8_openTry 21 = .ok (.aload_n 0, 1) := by decide +kernel
theorem dX8_openTry_22 : decode cX8_openTry 22 = .ok (.getfield 34, 3) := by decide +kernel
theorem dX8_openTry_25 : decode cX8_openTry 25 = .ok (.iload_n 1, 1) := by decide +kernel
theorem dX8_openTry_26 : decode cX8_openTry 26 = .ok (.iastore, 1) := by decide +kernel
theorem dX8_openTry_27 : decode cX8_openTry 27 = .ok (.aload_n 0, 1) := by decide +kernel
theorem dX8_openTry_28 : decode cX8_openTry 28 = .ok (.getfield 24, 3) := by decide +kernel
theorem dX8_openTry_31 : decode cX8_openTry 31 = .ok (.aload_n 0, 1) := by decide +kernel
theorem dX8_openTry_32 : decode cX8_openTry 32 = .ok (.getfield 34, 3) := by decide +kernel
theorem dX8_openTry_35 : decode cX8_openTry 35 = .ok (.iload_n 2, 1) := by decide +kernel
theorem dX8_openTry_36 : decode cX8_openTry 36 = .ok (.iastore, 1) := by decide +kernel
theorem dX8_openTry_37 : decode cX8_openTry 37 = .ok (.aload_n 0, 1) := by decide +kernel
theorem dX8_openTry_38 : decode cX8_openTry 38 = .ok (.getfield 27, 3) := by decide +kernel
theorem dX8_openTry_41 : decode cX8_openTry 41 = .ok (.aload_n 0, 1) := by decide +kernel
theorem dX8_openTry_42 : decode cX8_openTry 42 = .ok (.getfield 34, 3) := by decide +kernel
theorem dX8_openTry_45 : decode cX8_openTry 45 = .ok (.aload_n 0, 1) := by decide +kernel
theorem dX8_openTry_46 : decode cX8_openTry 46 = .ok (.getfield 37, 3) := by decide +kernel
theorem dX8_openTry_49 : decode cX8_openTry 49 = .ok (.iastore, 1) := by decide +kernel
theorem dX8_openTry_50 : decode cX8_openTry 50 = .ok (.aload_n 0, 1) := by decide +kernel
theorem dX8_openTry_51 : decode cX8_openTry 51 = .ok (.dup, 1) := by decide +kernel
theorem dX8_openTry_52 : decode cX8_openTry 52 = .ok (.getfield 34, 3) := by decide +kernel
theorem dX8_openTry_55 : decode cX8_openTry 55 = .ok (.iconst 1, 1) := by decide +kernel
theorem dX8_openTry_56 : decode cX8_openTry 56 = .ok (.iadd, 1) := by decide +kernel
theorem dX8_openTry_57 : decode cX8_openTry 57 = .ok (.putfield 34, 3) := by decide +kernel
theorem dX8_openTry_60 : decode cX8_openTry 60 = .ok (.aload_n 0, 1) := by decide +kernel
theorem dX8_openTry_61 : decode cX8_openTry 61 = .ok (.dup, 1) := by decide +kernel
theorem dX8_openTry_62 : decode cX8_openTry 62 = .ok (.getfield 37, 3) := by decide +kernel
theorem dX8_openTry_65 : decode cX8_openTry 65 = .ok (.iconst 1, 1) := by decide +kernel
theorem dX8_openTry_66 : decode cX8_openTry 66 = .ok (.iadd, 1) := by decide +kernel
theorem dX8_openTry_67 : decode cX8_openTry 67 = .ok (.putfield 37, 3) := by decide +kernel
theorem dX8_openTry_70 : decode cX8_openTry 70 = .ok (.return_, 1) := by decide +kernel
theorem dX8_closeTry_0 : decode cX8_closeTry 0 = .ok (.aload_n 0, 1) := by decide +kernel
theorem dX8_closeTry_1 : decode cX8_closeTry 1 = .ok (.getfield 34, 3) := by decide +kernel
theorem dX8_closeTry_4 : decode cX8_closeTry 4 = .ok (.ifCond .gt 5, 3) := by decide +kernel
theorem dX8_closeTry_7 : decode cX8_closeTry 7 = .ok (.iconst 0, 1) := by decide +kernel
theorem dX8_closeTry_8 : decode cX8_closeTry 8 = .ok (.ireturn, 1) := by decide +kernel
theorem dX8_closeTry_9 : decode cX8_closeTry 9 = .ok (.aload_n 0, 1) := by decide +kernel
theorem dX8_closeTry_10 : decode cX8_closeTry 10 = .ok (.dup, 1) := by decide +kernel
theorem dX8_closeTry_11 : decode cX8_closeTry 11 = .ok (.getfield 34, 3) := by decide +kernel
theorem dX8_closeTry_14 : decode cX8_closeTry 14 = .ok (.iconst 1, 1) := by decide +kernel
theorem dX8_closeTry_15 : decode cX8_closeTry 15 = .ok (.isub, 1) := by decide +kernel
theorem dX8_closeTry_16 : decode cX8_closeTry 16 = .ok (.putfield 34, 3) := by decide +kernel
theorem dX8_closeTry_19 : decode cX8_closeTry 19 = .ok (.iconst 1, 1) := by decide +kernel
theorem dX8_closeTry_20 : decode cX8_closeTry 20 = .ok (.ireturn, 1) := by decide +kernel
theorem gm_fieldLink_RX0_19_ErrandGuild_Cells_used_I_ : (.fieldLink RX0 19 "ErrandGuild$Cells" "used" "I" : Cond) ∈ gw := gw_m (List.mem_append_right _ (List.mem_append_left _ (List.mem_of_getElem? (i := 57) (by decide +kernel)))) (by decide +kernel)
theorem gm_fieldLink_RX0_9_ErrandGuild_Cells_cells_AI_ : (.fieldLink RX0 9 "ErrandGuild$Cells" "cells" "[I" : Cond) ∈ gw := gw_m (List.mem_append_right _ (List.mem_append_left _ (List.mem_of_getElem? (i := 56) (by decide +kernel)))) (by decide +kernel)
theorem gm_fieldLink_RX8_30_ErrandGuild_Scopes_bindings_I_ : (.fieldLink RX8 30 "ErrandGuild$Scopes" "bindings" "I" : Cond) ∈ gw := gw_m (List.mem_append_right _ (List.mem_append_right _ (List.mem_append_left _ (List.mem_of_getElem? (i := 44) (by decide +kernel))))) (by decide +kernel)
theorem gm_fieldLink_RX8_34_ErrandGuild_Scopes_tries_I_ : (.fieldLink RX8 34 "ErrandGuild$Scopes" "tries" "I" : Cond) ∈ gw := gw_m (List.mem_append_right _ (List.mem_append_right _ (List.mem_append_left _ (List.mem_of_getElem? (i := 49) (by decide +kernel))))) (by decide +kernel)
theorem gm_fieldLink_RX8_37_ErrandGuild_Scopes_marks_I_ : (.fieldLink RX8 37 "ErrandGuild$Scopes" "marks" "I" : Cond) ∈ gw := gw_m (List.mem_append_right _ (List.mem_append_right _ (List.mem_append_left _ (List.mem_of_getElem? (i := 51) (by decide +kernel))))) (by decide +kernel)
theorem gm_fieldLink_RX2_9_ErrandGuild_Fault_kind_I_ : (.fieldLink RX2 9 "ErrandGuild$Fault" "kind" "I" : Cond) ∈ gw := gw_m (List.mem_append_right _ (List.mem_append_right _ (List.mem_append_left _ (List.mem_of_getElem? (i := 77) (by decide +kernel))))) (by decide +kernel)
theorem gm_fieldLink_RX2_15_ErrandGuild_Fault_step_I_ : (.fieldLink RX2 15 "ErrandGuild$Fault" "step" "I" : Cond) ∈ gw := gw_m (List.mem_append_right _ (List.mem_append_right _ (List.mem_append_left _ (List.mem_of_getElem? (i := 79) (by decide +kernel))))) (by decide +kernel)
theorem gm_fieldLink_RX2_18_ErrandGuild_Fault_cause_I_ : (.fieldLink RX2 18 "ErrandGuild$Fault" "cause" "I" : Cond) ∈ gw := gw_m (List.mem_append_right _ (List.mem_append_right _ (List.mem_append_left _ (List.mem_of_getElem? (i := 81) (by decide +kernel))))) (by decide +kernel)
theorem gm_fieldLink_RX2_21_ErrandGuild_Fault_suppressed_I_ : (.fieldLink RX2 21 "ErrandGuild$Fault" "suppressed" "I" : Cond) ∈ gw := gw_m (List.mem_append_right _ (List.mem_append_right _ (List.mem_append_left _ (List.mem_of_getElem? (i := 83) (by decide +kernel))))) (by decide +kernel)
theorem gm_fieldLink_RX2_24_ErrandGuild_Fault_uncaught_Z_ : (.fieldLink RX2 24 "ErrandGuild$Fault" "uncaught" "Z" : Cond) ∈ gw := gw_m (List.mem_append_right _ (List.mem_append_right _ (List.mem_append_left _ (List.mem_of_getElem? (i := 85) (by decide +kernel))))) (by decide +kernel)
theorem gm_fieldLink_RX3_15_ErrandGuild_Handlers_effects_AI_ : (.fieldLink RX3 15 "ErrandGuild$Handlers" "effects" "[I" : Cond) ∈ gw := gw_m (List.mem_append_right _ (List.mem_append_left _ (List.mem_of_getElem? (i := 30) (by decide +kernel)))) (by decide +kernel)
theorem gm_fieldLink_RX8_9_ErrandGuild_Scopes_bindingSlots_AI_ : (.fieldLink RX8 9 "ErrandGuild$Scopes" "bindingSlots" "[I" : Cond) ∈ gw := gw_m (List.mem_append_right _ (List.mem_append_right _ (List.mem_append_left _ (List.mem_of_getElem? (i := 41) (by decide +kernel))))) (by decide +kernel)
theorem gm_methodLink_RX8_40_yX8_innermostOf : (.methodLink RX8 40 yX8_innermostOf : Cond) ∈ gw := gw_m (List.mem_append_right _ (List.mem_append_right _ (List.mem_append_left _ (List.mem_of_getElem? (i := 207) (by decide +kernel))))) (by decide +kernel)
theorem gm_instanceMethod_yX8_innermostOf : (.instanceMethod yX8_innermostOf : Cond) ∈ gw := gw_m (List.mem_append_right _ (List.mem_append_right _ (List.mem_append_left _ (List.mem_of_getElem? (i := 209) (by decide +kernel))))) (by decide +kernel)
theorem gm_selects_RX8_yX8_innermostOf_yX8_innermostOf : (.selects RX8 yX8_innermostOf yX8_innermostOf : Cond) ∈ gw := gw_m (List.mem_append_left _ (List.mem_of_getElem? (i := 4) (by decide +kernel))) (by decide +kernel)
theorem gm_initialized_RX8 : (.initialized RX8 : Cond) ∈ gw := gw_m (List.mem_append_right _ (List.mem_append_left _ (List.mem_of_getElem? (i := 10) (by decide +kernel)))) (by decide +kernel)
theorem gm_code_yX8_innermostOf_cX8_innermostOf_3_some_int_ : (.code yX8_innermostOf cX8_innermostOf 3 (some .int) : Cond) ∈ gw := gw_m (List.mem_append_right _ (List.mem_append_right _ (List.mem_append_left _ (List.mem_of_getElem? (i := 210) rfl)))) (by decide +kernel)
theorem gm_fieldLink_RX8_15_ErrandGuild_Scopes_bindingValues_AI_ : (.fieldLink RX8 15 "ErrandGuild$Scopes" "bindingValues" "[I" : Cond) ∈ gw := gw_m (List.mem_append_right _ (List.mem_append_right _ (List.mem_append_left _ (List.mem_of_getElem? (i := 42) (by decide +kernel))))) (by decide +kernel)
theorem gm_fieldLink_RX8_18_ErrandGuild_Scopes_bindingMarks_AI_ : (.fieldLink RX8 18 "ErrandGuild$Scopes" "bindingMarks" "[I" : Cond) ∈ gw := gw_m (List.mem_append_right _ (List.mem_append_right _ (List.mem_append_left _ (List.mem_of_getElem? (i := 43) (by decide +kernel))))) (by decide +kernel)
theorem gm_fieldLink_RX8_21_ErrandGuild_Scopes_tryKinds_AI_ : (.fieldLink RX8 21 "ErrandGuild$Scopes" "tryKinds" "[I" : Cond) ∈ gw := gw_m (List.mem_append_right _ (List.mem_append_right _ (List.mem_append_left _ (List.mem_of_getElem? (i := 46) (by decide +kernel))))) (by decide +kernel)
theorem gm_fieldLink_RX8_24_ErrandGuild_Scopes_tryPlaces_AI_ : (.fieldLink RX8 24 "ErrandGuild$Scopes" "tryPlaces" "[I" : Cond) ∈ gw := gw_m (List.mem_append_right _ (List.mem_append_right _ (List.mem_append_left _ (List.mem_of_getElem? (i := 47) (by decide +kernel))))) (by decide +kernel)
theorem gm_fieldLink_RX8_27_ErrandGuild_Scopes_tryMarks_AI_ : (.fieldLink RX8 27 "ErrandGuild$Scopes" "tryMarks" "[I" : Cond) ∈ gw := gw_m (List.mem_append_right _ (List.mem_append_right _ (List.mem_append_left _ (List.mem_of_getElem? (i := 48) (by decide +kernel))))) (by decide +kernel)
theorem gb_0 : ∀ w ∈ u_ws RX0 TX0 3, w ∈ gw := by
  intro w hw
  obtain ⟨j, hj, rfl⟩ := List.mem_map.mp hw
  have hj : j < 3 := List.mem_range.mp hj
  rcases (show j = 0 ∨ j = 1 ∨ j = 2 by omega) with rfl | rfl | rfl
  · exact gw_m (List.mem_append_right _ (List.mem_append_left _ (List.mem_of_getElem? (i := 58) (by decide +kernel)))) (by decide +kernel)
  · exact gw_m (List.mem_append_right _ (List.mem_append_left _ (List.mem_of_getElem? (i := 60) (by decide +kernel)))) (by decide +kernel)
  · exact gw_m (List.mem_append_right _ (List.mem_append_left _ (List.mem_of_getElem? (i := 62) (by decide +kernel)))) (by decide +kernel)
theorem gb_2 : ∀ w ∈ u_ws RX2 TX2 5, w ∈ gw := by
  intro w hw
  obtain ⟨j, hj, rfl⟩ := List.mem_map.mp hw
  have hj : j < 5 := List.mem_range.mp hj
  rcases (show j = 0 ∨ j = 1 ∨ j = 2 ∨ j = 3 ∨ j = 4 by omega) with rfl | rfl | rfl | rfl | rfl
  · exact gw_m (List.mem_append_right _ (List.mem_append_right _ (List.mem_append_left _ (List.mem_of_getElem? (i := 87) (by decide +kernel))))) (by decide +kernel)
  · exact gw_m (List.mem_append_right _ (List.mem_append_right _ (List.mem_append_left _ (List.mem_of_getElem? (i := 89) (by decide +kernel))))) (by decide +kernel)
  · exact gw_m (List.mem_append_right _ (List.mem_append_right _ (List.mem_append_left _ (List.mem_of_getElem? (i := 91) (by decide +kernel))))) (by decide +kernel)
  · exact gw_m (List.mem_append_right _ (List.mem_append_right _ (List.mem_append_left _ (List.mem_of_getElem? (i := 93) (by decide +kernel))))) (by decide +kernel)
  · exact gw_m (List.mem_append_right _ (List.mem_append_right _ (List.mem_append_left _ (List.mem_of_getElem? (i := 95) (by decide +kernel))))) (by decide +kernel)
theorem gb_3 : ∀ w ∈ u_ws RX3 TX3 3, w ∈ gw := by
  intro w hw
  obtain ⟨j, hj, rfl⟩ := List.mem_map.mp hw
  have hj : j < 3 := List.mem_range.mp hj
  rcases (show j = 0 ∨ j = 1 ∨ j = 2 by omega) with rfl | rfl | rfl
  · exact gw_m (List.mem_append_right _ (List.mem_append_left _ (List.mem_of_getElem? (i := 32) (by decide +kernel)))) (by decide +kernel)
  · exact gw_m (List.mem_append_right _ (List.mem_append_left _ (List.mem_of_getElem? (i := 34) (by decide +kernel)))) (by decide +kernel)
  · exact gw_m (List.mem_append_right _ (List.mem_append_left _ (List.mem_of_getElem? (i := 36) (by decide +kernel)))) (by decide +kernel)
theorem gb_8 : ∀ w ∈ u_ws RX8 TX8 9, w ∈ gw := by
  intro w hw
  obtain ⟨j, hj, rfl⟩ := List.mem_map.mp hw
  have hj : j < 9 := List.mem_range.mp hj
  rcases (show j = 0 ∨ j = 1 ∨ j = 2 ∨ j = 3 ∨ j = 4 ∨ j = 5 ∨ j = 6 ∨ j = 7 ∨ j = 8 by omega) with rfl | rfl | rfl | rfl | rfl | rfl | rfl | rfl | rfl
  · exact gw_m (List.mem_append_right _ (List.mem_append_right _ (List.mem_append_left _ (List.mem_of_getElem? (i := 52) (by decide +kernel))))) (by decide +kernel)
  · exact gw_m (List.mem_append_right _ (List.mem_append_right _ (List.mem_append_left _ (List.mem_of_getElem? (i := 54) (by decide +kernel))))) (by decide +kernel)
  · exact gw_m (List.mem_append_right _ (List.mem_append_right _ (List.mem_append_left _ (List.mem_of_getElem? (i := 56) (by decide +kernel))))) (by decide +kernel)
  · exact gw_m (List.mem_append_right _ (List.mem_append_right _ (List.mem_append_left _ (List.mem_of_getElem? (i := 58) (by decide +kernel))))) (by decide +kernel)
  · exact gw_m (List.mem_append_right _ (List.mem_append_right _ (List.mem_append_left _ (List.mem_of_getElem? (i := 60) (by decide +kernel))))) (by decide +kernel)
  · exact gw_m (List.mem_append_right _ (List.mem_append_right _ (List.mem_append_left _ (List.mem_of_getElem? (i := 62) (by decide +kernel))))) (by decide +kernel)
  · exact gw_m (List.mem_append_right _ (List.mem_append_right _ (List.mem_append_left _ (List.mem_of_getElem? (i := 64) (by decide +kernel))))) (by decide +kernel)
  · exact gw_m (List.mem_append_right _ (List.mem_append_right _ (List.mem_append_left _ (List.mem_of_getElem? (i := 66) (by decide +kernel))))) (by decide +kernel)
  · exact gw_m (List.mem_append_right _ (List.mem_append_right _ (List.mem_append_left _ (List.mem_of_getElem? (i := 68) (by decide +kernel))))) (by decide +kernel)
theorem ti_17 : (17 : Int32).toInt = 17 := by decide
theorem ti_23 : (23 : Int32).toInt = 23 := by decide
