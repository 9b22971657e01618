theorem dX0_init_0 : decode cX0_init 0 = .ok (.aload_n 0, 1) := by decide +kernel
theorem dX0_init_1 : decode cX0_init 1 = .ok (.invokespecial 3, 3) := by decide +kernel
theorem dX0_init_4 : decode cX0_init 4 = .ok (.aload_n 0, 1) := by decide +kernel
theorem dX0_init_5 : decode cX0_init 5 = .ok (.bipush 16, 2) := by decide +kernel
theorem dX0_init_7 : decode cX0_init 7 = .ok (.newarray .int, 2) := by decide +kernel
theorem dX0_init_9 : decode cX0_init 9 = .ok (.putfield 9, 3) := by decide +kernel
theorem dX0_init_12 : decode cX0_init 12 = .ok (.aload_n 0, 1) := by decide +kernel
theorem dX0_init_13 : decode cX0_init 13 = .ok (.iload_n 1, 1) := by decide +kernel
theorem dX0_init_14 : decode cX0_init 14 = .ok (.putfield 15, 3) := by decide +kernel
theorem dX0_init_17 : decode cX0_init 17 = .ok (.return_, 1) := by decide +kernel
theorem dX1_init_0 : decode cX1_init 0 = .ok (.aload_n 0, 1) := by decide +kernel
theorem dX1_init_1 : decode cX1_init 1 = .ok (.invokespecial 3, 3) := by decide +kernel
theorem dX1_init_4 : decode cX1_init 4 = .ok (.aload_n 0, 1) := by decide +kernel
theorem dX1_init_5 : decode cX1_init 5 = .ok (.bipush 24, 2) := by decide +kernel
theorem dX1_init_7 : decode cX1_init 7 = .ok (.newarray .int, 2) := by decide +kernel
theorem dX1_init_9 : decode cX1_init 9 = .ok (.putfield 9, 3) := by decide +kernel
theorem dX1_init_12 : decode cX1_init 12 = .ok (.aload_n 0, 1) := by decide +kernel
theorem dX1_init_13 : decode cX1_init 13 = .ok (.bipush 24, 2) := by decide +kernel
theorem dX1_init_15 : decode cX1_init 15 = .ok (.newarray .int, 2) := by decide +kernel
theorem dX1_init_17 : decode cX1_init 17 = .ok (.putfield 15, 3) := by decide +kernel
theorem dX1_init_20 : decode cX1_init 20 = .ok (.aload_n 0, 1) := by decide +kernel
theorem dX1_init_21 : decode cX1_init 21 = .ok (.bipush 24, 2) := by decide +kernel
theorem dX1_init_23 : decode cX1_init 23 = .ok (.newarray .int, 2) := by decide +kernel
theorem dX1_init_25 : decode cX1_init 25 = .ok (.putfield 18, 3) := by decide +kernel
theorem dX1_init_28 : decode cX1_init 28 = .ok (.return_, 1) := by decide +kernel
theorem dX2_init_0 : decode cX2_init 0 = .ok (.aload_n 0, 1) := by decide +kernel
theorem dX2_init_1 : decode cX2_init 1 = .ok (.invokespecial 3, 3) := by decide +kernel
theorem dX2_init_4 : decode cX2_init 4 = .ok (.return_, 1) := by decide +kernel
theorem dX3_init_0 : decode cX3_init 0 = .ok (.aload_n 0, 1) := by decide +kernel
theorem dX3_init_1 : decode cX3_init 1 = .ok (.invokespecial 3, 3) := by decide +kernel
theorem dX3_init_4 : decode cX3_init 4 = .ok (.aload_n 0, 1) := by decide +kernel
theorem dX3_init_5 : decode cX3_init 5 = .ok (.bipush 17, 2) := by decide +kernel
theorem dX3_init_7 : decode cX3_init 7 = .ok (.newarray .boolean, 2) := by decide +kernel
theorem dX3_init_9 : decode cX3_init 9 = .ok (.putfield 11, 3) := by decide +kernel
theorem dX3_init_12 : decode cX3_init 12 = .ok (.aload_n 0, 1) := by decide +kernel
theorem dX3_init_13 : decode cX3_init 13 = .ok (.bipush 17, 2) := by decide +kernel
theorem dX3_init_15 : decode cX3_init 15 = .ok (.newarray .int, 2) := by decide +kernel
theorem dX3_init_17 : decode cX3_init 17 = .ok (.putfield 15, 3) := by decide +kernel
theorem dX3_init_20 : decode cX3_init 20 = .ok (.aload_n 0, 1) := by decide +kernel
theorem dX3_init_21 : decode cX3_init 21 = .ok (.bipush 17, 2) := by decide +kernel
theorem dX3_init_23 : decode cX3_init 23 = .ok (.newarray .boolean, 2) := by decide +kernel
theorem dX3_init_25 : decode cX3_init 25 = .ok (.putfield 19, 3) := by decide +kernel
theorem dX3_init_28 : decode cX3_init 28 = .ok (.return_, 1) := by decide +kernel
theorem dX4_init_0 : decode cX4_init 0 = .ok (.aload_n 0, 1) := by decide +kernel
theorem dX4_init_1 : decode cX4_init 1 = .ok (.invokespecial 3, 3) := by decide +kernel
theorem dX4_init_4 : decode cX4_init 4 = .ok (.return_, 1) := by decide +kernel
theorem dX5_init_0 : decode cX5_init 0 = .ok (.aload_n 0, 1) := by decide +kernel
theorem dX5_init_1 : decode cX5_init 1 = .ok (.invokespecial 3, 3) := by decide +kernel
theorem dX5_init_4 : decode cX5_init 4 = .ok (.aload_n 0, 1) := by decide +kernel
theorem dX5_init_5 : decode cX5_init 5 = .ok (.iload_n 1, 1) := by decide +kernel
theorem dX5_init_6 : decode cX5_init 6 = .ok (.putfield 9, 3) := by decide +kernel
theorem dX5_init_9 : decode cX5_init 9 = .ok (.aload_n 0, 1) := by decide +kernel
theorem dX5_init_10 : decode cX5_init 10 = .ok (.new 15, 3) := by decide +kernel
theorem dX5_init_13 : decode cX5_init 13 = .ok (.dup, 1) := by decide +kernel
theorem dX5_init_14 : decode cX5_init 14 = .ok (.iconst 4, 1) := by decide +kernel
theorem dX5_init_15 : decode cX5_init 15 = .ok (.iload_n 1, 1) := by decide +kernel
theorem dX5_init_16 : decode cX5_init 16 = .ok (.imul, 1) := by decide +kernel
theorem dX5_init_17 : decode cX5_init 17 = .ok (.invokespecial 17, 3) := by decide +kernel
theorem dX5_init_20 : decode cX5_init 20 = .ok (.putfield 20, 3) := by decide +kernel
theorem dX5_init_23 : decode cX5_init 23 = .ok (.return_, 1) := by decide +kernel
theorem dX6_init_0 : decode cX6_init 0 = .ok (.aload_n 0, 1) := by decide +kernel
theorem dX6_init_1 : decode cX6_init 1 = .ok (.invokespecial 3, 3) := by decide +kernel
theorem dX6_init_4 : decode cX6_init 4 = .ok (.aload_n 0, 1) := by decide +kernel
theorem dX6_init_5 : decode cX6_init 5 = .ok (.bipush 8, 2) := by decide +kernel
theorem dX6_init_7 : decode cX6_init 7 = .ok (.newarray .boolean, 2) := by decide +kernel
theorem dX6_init_9 : decode cX6_init 9 = .ok (.putfield 9, 3) := by decide +kernel
theorem dX6_init_12 : decode cX6_init 12 = .ok (.aload_n 0, 1) := by decide +kernel
theorem dX6_init_13 : decode cX6_init 13 = .ok (.bipush 8, 2) := by decide +kernel
theorem dX6_init_15 : decode cX6_init 15 = .ok (.newarray .int, 2) := by decide +kernel
theorem dX6_init_17 : decode cX6_init 17 = .ok (.putfield 15, 3) := by decide +kernel
theorem dX6_init_20 : decode cX6_init 20 = .ok (.aload_n 0, 1) := by decide +kernel
theorem dX6_init_21 : decode cX6_init 21 = .ok (.bipush 8, 2) := by decide +kernel
theorem dX6_init_23 : decode cX6_init 23 = .ok (.newarray .int, 2) := by decide +kernel
theorem dX6_init_25 : decode cX6_init 25 = .ok (.putfield 19, 3) := by decide +kernel
theorem dX6_init_28 : decode cX6_init 28 = .ok (.return_, 1) := by decide +kernel
theorem dX7_init_0 : decode cX7_init 0 = .ok (.aload_n 0, 1) := by decide +kernel
theorem dX7_init_1 : decode cX7_init 1 = .ok (.invokespecial 3, 3) := by decide +kernel
theorem dX7_init_4 : decode cX7_init 4 = .ok (.aload_n 0, 1) := by decide +kernel
theorem dX7_init_5 : decode cX7_init 5 = .ok (.new 9, 3) := by decide +kernel
theorem dX7_init_8 : decode cX7_init 8 = .ok (.dup, 1) := by decide +kernel
theorem dX7_init_9 : decode cX7_init 9 = .ok (.invokespecial 11, 3) := by decide +kernel
theorem dX7_init_12 : decode cX7_init 12 = .ok (.putfield 12, 3) := by decide +kernel
theorem dX7_init_15 : decode cX7_init 15 = .ok (.aload_n 0, 1) := by decide +kernel
theorem dX7_init_16 : decode cX7_init 16 = .ok (.new 18, 3) := by decide +kernel
theorem dX7_init_19 : decode cX7_init 19 = .ok (.dup, 1) := by decide +kernel
theorem dX7_init_20 : decode cX7_init 20 = .ok (.invokespecial 20, 3) := by decide +kernel
theorem dX7_init_23 : decode cX7_init 23 = .ok (.putfield 21, 3) := by decide +kernel
theorem dX7_init_26 : decode cX7_init 26 = .ok (.aload_n 0, 1) := by decide +kernel
theorem dX7_init_27 : decode cX7_init 27 = .ok (.new 25, 3) := by decide +kernel
theorem dX7_init_30 : decode cX7_init 30 = .ok (.dup, 1) := by decide +kernel
theorem dX7_init_31 : decode cX7_init 31 = .ok (.invokespecial 27, 3) := by decide +kernel
theorem dX7_init_34 : decode cX7_init 34 = .ok (.putfield 28, 3) := by decide +kernel
theorem dX7_init_37 : decode cX7_init 37 = .ok (.aload_n 0, 1) := by decide +kernel
theorem dX7_init_38 : decode cX7_init 38 = .ok (.new 32, 3) := by decide +kernel
theorem dX7_init_41 : decode cX7_init 41 = .ok (.dup, 1) := by decide +kernel
theorem dX7_init_42 : decode cX7_init 42 = .ok (.invokespecial 34, 3) := by decide +kernel
theorem dX7_init_45 : decode cX7_init 45 = .ok (.putfield 35, 3) := by decide +kernel
theorem dX7_init_48 : decode cX7_init 48 = .ok (.aload_n 0, 1) := by decide +kernel
theorem dX7_init_49 : decode cX7_init 49 = .ok (.new 39, 3) := by decide +kernel
theorem dX7_init_52 : decode cX7_init 52 = .ok (.dup, 1) := by decide +kernel
theorem dX7_init_53 : decode cX7_init 53 = .ok (.ldc 41, 2) := by decide +kernel
theorem dX7_init_55 : decode cX7_init 55 = .ok (.invokespecial 42, 3) := by decide +kernel
theorem dX7_init_58 : decode cX7_init 58 = .ok (.putfield 45, 3) := by decide +kernel
theorem dX7_init_61 : decode cX7_init 61 = .ok (.aload_n 0, 1) := by decide +kernel
theorem dX7_init_62 : decode cX7_init 62 = .ok (.iload_n 1, 1) := by decide +kernel
theorem dX7_init_63 : decode cX7_init 63 = .ok (.putfield 49, 3) := by decide +kernel
theorem dX7_init_66 : decode cX7_init 66 = .ok (.return_, 1) := by decide +kernel
theorem dX7_root_0 : decode cX7_root 0 = .ok (.aload_n 0, 1) := by decide +kernel
theorem dX7_root_1 : decode cX7_root 1 = .ok (.getfield 12, 3) := by decide +kernel
theorem dX7_root_4 : decode cX7_root 4 = .ok (.getfield 91, 3) := by decide +kernel
theorem dX7_root_7 : decode cX7_root 7 = .ok (.ifnonnull 7, 3) := by decide +kernel
theorem dX7_root_10 : decode cX7_root 10 = .ok (.aload_n 0, 1) := by decide +kernel
theorem dX7_root_11 : decode cX7_root 11 = .ok (.goto 10, 3) := by decide +kernel
theorem dX7_root_14 : decode cX7_root 14 = .ok (.aload_n 0, 1) := by decide +kernel
theorem dX7_root_15 : decode cX7_root 15 = .ok (.getfield 12, 3) := by decide +kernel
theorem dX7_root_18 : decode cX7_root 18 = .ok (.getfield 91, 3) := by decide +kernel
theorem dX7_root_21 : decode cX7_root 21 = .ok (.areturn, 1) := by decide +kernel
theorem dX8_init_0 : decode cX8_init 0 = .ok (.aload_n 0, 1) := by decide +kernel
theorem dX8_init_1 : decode cX8_init 1 = .ok (.invokespecial 3, 3) := by decide +kernel
theorem dX8_init_4 : decode cX8_init 4 = .ok (.aload_n 0, 1) := by decide +kernel
theorem dX8_init_5 : decode cX8_init 5 = .ok (.bipush 24, 2) := by decide +kernel
theorem dX8_init_7 : decode cX8_init 7 = .ok (.newarray .int, 2) := by decide +kernel
theorem dX8_init_9 : decode cX8_init 9 = .ok (.putfield 9, 3) := by decide +kernel
theorem dX8_init_12 : decode cX8_init 12 = .ok (.aload_n 0, 1) := by decide +kernel
theorem dX8_init_13 : decode cX8_init 13 = .ok (.bipush 24, 2) := by decide +kernel
theorem dX8_init_15 : decode cX8_init 15 = .ok (.newarray .int, 2) := by decide +kernel
theorem dX8_init_17 : decode cX8_init 17 = .ok (.putfield 15, 3) := by decide +kernel
theorem dX8_init_20 : decode cX8_init 20 = .ok (.aload_n 0, 1) := by decide +kernel
theorem dX8_init_21 : decode cX8_init 21 = .ok (.bipush 24, 2) := by decide +kernel
theorem dX8_init_23 : decode cX8_init 23 = .ok (.newarray .int, 2) := by decide +kernel
theorem dX8_init_25 : decode cX8_init 25 = .ok (.putfield 18, 3) := by decide +kernel
theorem dX8_init_28 : decode cX8_init 28 = .ok (.aload_n 0, 1) := by decide +kernel
theorem dX8_init_29 : decode cX8_init 29 = .ok (.bipush 24, 2) := by decide +kernel
theorem dX8_init_31 : decode cX8_init 31 = .ok (.newarray .int, 2) := by decide +kernel
theorem dX8_init_33 : decode cX8_init 33 = .ok (.putfield 21, 3) := by decide +kernel
theorem dX8_init_36 : decode cX8_init 36 = .ok (.aload_n 0, 1) := by decide +kernel
theorem dX8_init_37 : decode cX8_init 37 = .ok (.bipush 24, 2) := by decide +kernel
theorem dX8_init_39 : decode cX8_init 39 = .ok (.newarray .int, 2) := by decide +kernel
theorem dX8_init_41 : decode cX8_init 41 = .ok (.putfield 24, 3) := by decide +kernel
theorem dX8_init_44 : decode cX8_init 44 = .ok (.aload_n 0, 1) := by decide +kernel
theorem dX8_init_45 : decode cX8_init 45 = .ok (.bipush 24, 2) := by decide +kernel
theorem dX8_init_47 : decode cX8_init 47 = .ok (.newarray .int, 2) := by decide +kernel
theorem dX8_init_49 : decode cX8_init 49 = .ok (.putfield 27, 3) := by decide +kernel
theorem dX8_init_52 : decode cX8_init 52 = .ok (.return_, 1) := by decide +kernel
theorem dX9_runAt_0 : decode cX9_runAt 0 = .ok (.iload_n 1, 1) := by decide +kernel
theorem dX9_runAt_1 : decode cX9_runAt 1 = .ok (.ifCond .lt 27, 3) := by decide +kernel
theorem dX9_runAt_4 : decode cX9_runAt 4 = .ok (.iload_n 1, 1) := by decide +kernel
theorem dX9_runAt_5 : decode cX9_runAt 5 = .ok (.aload_n 0, 1) := by decide +kernel
theorem dX9_runAt_6 : decode cX9_runAt 6 = .ok (.getfield 66, 3) := by decide +kernel
theorem dX9_runAt_9 : decode cX9_runAt 9 = .ok (.if_icmp .ge 19, 3) := by decide +kernel
theorem dX9_runAt_12 : decode cX9_runAt 12 = .ok (.iload_n 1, 1) := by decide +kernel
theorem dX9_runAt_13 : decode cX9_runAt 13 = .ok (.sipush 200, 3) := by decide +kernel
theorem dX9_runAt_16 : decode cX9_runAt 16 = .ok (.if_icmp .ge 12, 3) := by decide +kernel
theorem dX9_runAt_19 : decode cX9_runAt 19 = .ok (.aload_n 0, 1) := by decide +kernel
theorem dX9_runAt_20 : decode cX9_runAt 20 = .ok (.getfield 31, 3) := by decide +kernel
theorem dX9_runAt_23 : decode cX9_runAt 23 = .ok (.iload_n 1, 1) := by decide +kernel
theorem dX9_runAt_24 : decode cX9_runAt 24 = .ok (.aaload, 1) := by decide +kernel
theorem dX9_runAt_25 : decode cX9_runAt 25 = .ok (.goto 4, 3) := by decide +kernel
theorem dX9_runAt_28 : decode cX9_runAt 28 = .ok (.aconst_null, 1) := by decide +kernel
theorem dX9_runAt_29 : decode cX9_runAt 29 = .ok (.areturn, 1) := by decide +kernel
theorem dX9_failedAt_0 : decode cX9_failedAt 0 = .ok (.aload_n 0, 1) := by decide +kernel
theorem dX9_failedAt_1 : decode cX9_failedAt 1 = .ok (.iload_n 1, 1) := by decide +kernel
theorem dX9_failedAt_2 : decode cX9_failedAt 2 = .ok (.invokevirtual 134, 3) := by decide +kernel
theorem dX9_failedAt_5 : decode cX9_failedAt 5 = .ok (.astore_n 2, 1) := by decide +kernel
theorem dX9_failedAt_6 : decode cX9_failedAt 6 = .ok (.aload_n 2, 1) := by decide +kernel
theorem dX9_failedAt_7 : decode cX9_failedAt 7 = .ok (.ifnull 15, 3) := by decide +kernel
theorem dX9_failedAt_10 : decode cX9_failedAt 10 = .ok (.aload_n 2, 1) := by decide +kernel
theorem dX9_failedAt_11 : decode cX9_failedAt 11 = .ok (.getfield 145, 3) := by decide +kernel
theorem dX9_failedAt_14 : decode cX9_failedAt 14 = .ok (.iconst 4, 1) := by decide +kernel
theorem dX9_failedAt_15 : decode cX9_failedAt 15 = .ok (.if_icmp .ne 7, 3) := by decide +kernel
theorem dX9_failedAt_18 : decode cX9_failedAt 18 = .ok (.aload_n 2, 1) := by decide +kernel
theorem dX9_failedAt_19 : decode cX9_failedAt 19 = .ok (.goto 4, 3) := by decide +kernel
theorem dX9_failedAt_22 : decode cX9_failedAt 22 = .ok (.aconst_null, 1) := by decide +kernel
theorem dX9_failedAt_23 : decode cX9_failedAt 23 = .ok (.areturn, 1) := by decide +kernel
theorem dX9_areAwaitedOver_0 : decode cX9_areAwaitedOver 0 = .ok (.aload_n 0, 1) := by decide +kernel
theorem dX9_areAwaitedOver_1 : decode cX9_areAwaitedOver 1 = .ok (.getfield 151, 3) := by decide +kernel
theorem dX9_areAwaitedOver_4 : decode cX9_areAwaitedOver 4 = .ok (.getfield 225, 3) := by decide +kernel
theorem dX9_areAwaitedOver_7 : decode cX9_areAwaitedOver 7 = .ok (.astore_n 1, 1) := by decide +kernel
theorem dX9_areAwaitedOver_8 : decode cX9_areAwaitedOver 8 = .ok (.aload_n 1, 1) := by decide +kernel
theorem dX9_areAwaitedOver_9 : decode cX9_areAwaitedOver 9 = .ok (.ifnull 34, 3) := by decide +kernel
theorem dX9_areAwaitedOver_12 : decode cX9_areAwaitedOver 12 = .ok (.aload_n 1, 1) := by decide +kernel
theorem dX9_areAwaitedOver_13 : decode cX9_areAwaitedOver 13 = .ok (.getfield 151, 3) := by decide +kernel
theorem dX9_areAwaitedOver_16 : decode cX9_areAwaitedOver 16 = .ok (.getfield 379, 3) := by decide +kernel
theorem dX9_areAwaitedOver_19 : decode cX9_areAwaitedOver 19 = .ok (.iconst 1, 1) := by decide +kernel
theorem dX9_areAwaitedOver_20 : decode cX9_areAwaitedOver 20 = .ok (.if_icmp .ne 12, 3) := by decide +kernel
theorem dX9_areAwaitedOver_23 : decode cX9_areAwaitedOver 23 = .ok (.aload_n 1, 1) := by decide +kernel
theorem dX9_areAwaitedOver_24 : decode cX9_areAwaitedOver 24 = .ok (.invokevirtual 138, 3) := by decide +kernel
theorem dX9_areAwaitedOver_27 : decode cX9_areAwaitedOver 27 = .ok (.ifCond .ne 5, 3) := by decide +kernel
theorem dX9_areAwaitedOver_30 : decode cX9_areAwaitedOver 30 = .ok (.iconst 0, 1) := by decide +kernel
theorem dX9_areAwaitedOver_31 : decode cX9_areAwaitedOver 31 = .ok (.ireturn, 1) := by decide +kernel
theorem dX9_areAwaitedOver_32 : decode cX9_areAwaitedOver 32 = .ok (.aload_n 1, 1) := by decide +kernel
theorem dX9_areAwaitedOver_33 : decode cX9_areAwaitedOver 33 = .ok (.getfield 151, 3) := by decide +kernel
theorem dX9_areAwaitedOver_36 : decode cX9_areAwaitedOver 36 = .ok (.getfield 228, 3) := by decide +kernel
theorem dX9_areAwaitedOver_39 : decode cX9_areAwaitedOver 39 = .ok (.astore_n 1, 1) := by decide +kernel
theorem dX9_areAwaitedOver_40 : decode cX9_areAwaitedOver 40 = .ok (.goto (-32), 3) := by decide +kernel
theorem dX9_areAwaitedOver_43 : decode cX9_areAwaitedOver 43 = .ok (.iconst 1, 1) := by decide +kernel
theorem dX9_areAwaitedOver_44 : decode cX9_areAwaitedOver 44 = .ok (.ireturn, 1) := by decide +kernel
theorem dX9_settleAwaited_0 : decode cX9_settleAwaited 0 = .ok (.aload_n 0, 1) := by decide +kernel
theorem dX9_settleAwaited_1 : decode cX9_settleAwaited 1 = .ok (.getfield 151, 3) := by decide +kernel
theorem dX9_settleAwaited_4 : decode cX9_settleAwaited 4 = .ok (.getfield 225, 3) := by decide +kernel
theorem dX9_settleAwaited_7 : decode cX9_settleAwaited 7 = .ok (.astore_n 1, 1) := by decide +kernel
theorem dX9_settleAwaited_8 : decode cX9_settleAwaited 8 = .ok (.aload_n 1, 1) := by decide +kernel
theorem dX9_settleAwaited_9 : decode cX9_settleAwaited 9 = .ok (.ifnull 33, 3) := by decide +kernel
theorem dX9_settleAwaited_12 : decode cX9_settleAwaited 12 = .ok (.aload_n 1, 1) := by decide +kernel
theorem dX9_settleAwaited_13 : decode cX9_settleAwaited 13 = .ok (.getfield 151, 3) := by decide +kernel
theorem dX9_settleAwaited_16 : decode cX9_settleAwaited 16 = .ok (.getfield 379, 3) := by decide +kernel
theorem dX9_settleAwaited_19 : decode cX9_settleAwaited 19 = .ok (.iconst 1, 1) := by decide +kernel
theorem dX9_settleAwaited_20 : decode cX9_settleAwaited 20 = .ok (.if_icmp .ne 11, 3) := by decide +kernel
theorem dX9_settleAwaited_23 : decode cX9_settleAwaited 23 = .ok (.aload_n 1, 1) := by decide +kernel
theorem dX9_settleAwaited_24 : decode cX9_settleAwaited 24 = .ok (.getfield 151, 3) := by decide +kernel
theorem dX9_settleAwaited_27 : decode cX9_settleAwaited 27 = .ok (.iconst 2, 1) := by decide +kernel
theorem dX9_settleAwaited_28 : decode cX9_settleAwaited 28 = .ok (.putfield 379, 3) := by decide +kernel
theorem dX9_settleAwaited_31 : decode cX9_settleAwaited 31 = .ok (.aload_n 1, 1) := by decide +kernel
theorem dX9_settleAwaited_32 : decode cX9_settleAwaited 32 = .ok (.getfield 151, 3) := by decide +kernel
theorem dX9_settleAwaited_35 : decode cX9_settleAwaited 35 = .ok (.getfield 228, 3) := by decide +kernel
theorem dX9_settleAwaited_38 : decode cX9_settleAwaited 38 = .ok (.astore_n 1, 1) := by decide +kernel
theorem dX9_settleAwaited_39 : decode cX9_settleAwaited 39 = .ok (.goto (-31), 3) := by decide +kernel
theorem dX9_settleAwaited_42 : decode cX9_settleAwaited 42 = .ok (.return_, 1) := by decide +kernel
theorem gm_methodLink_RX0_3_objectInit : (.methodLink RX0 3 objectInit : Cond) ∈ gw := gw_m (List.mem_append_right _ (List.mem_append_left _ (List.mem_of_getElem? (i := 54) (by decide +kernel)))) (by decide +kernel)
theorem gm_methodLink_RX1_3_objectInit : (.methodLink RX1 3 objectInit : Cond) ∈ gw := gw_m (List.mem_append_right _ (List.mem_append_left _ (List.mem_of_getElem? (i := 78) (by decide +kernel)))) (by decide +kernel)
theorem gm_methodLink_RX3_3_objectInit : (.methodLink RX3 3 objectInit : Cond) ∈ gw := gw_m (List.mem_append_right _ (List.mem_append_left _ (List.mem_of_getElem? (i := 28) (by decide +kernel)))) (by decide +kernel)
theorem gm_methodLink_RX5_3_objectInit : (.methodLink RX5 3 objectInit : Cond) ∈ gw := gw_m (List.mem_append_right _ (List.mem_append_left _ (List.mem_of_getElem? (i := 48) (by decide +kernel)))) (by decide +kernel)
theorem gm_classLink_RX5_15_RX0 : (.classLink RX5 15 RX0 : Cond) ∈ gw := gw_m (List.mem_append_right _ (List.mem_append_left _ (List.mem_of_getElem? (i := 49) (by decide +kernel)))) (by decide +kernel)
theorem gm_instantiable_RX0_3 : (.instantiable RX0 3 : Cond) ∈ gw := gw_m (List.mem_append_right _ (List.mem_append_left _ (List.mem_of_getElem? (i := 50) (by decide +kernel)))) (by decide +kernel)
theorem gm_code_yX0_init_cX0_init_2_none : (.code yX0_init cX0_init 2 none : Cond) ∈ gw := gw_m (List.mem_append_right _ (List.mem_append_left _ (List.mem_of_getElem? (i := 53) rfl))) (by decide +kernel)
theorem gm_methodLink_RX5_17_yX0_init : (.methodLink RX5 17 yX0_init : Cond) ∈ gw := gw_m (List.mem_append_right _ (List.mem_append_left _ (List.mem_of_getElem? (i := 51) (by decide +kernel)))) (by decide +kernel)
theorem gm_instanceMethod_yX0_init : (.instanceMethod yX0_init : Cond) ∈ gw := gw_m (List.mem_append_right _ (List.mem_append_left _ (List.mem_of_getElem? (i := 52) (by decide +kernel)))) (by decide +kernel)
theorem gm_methodLink_RX4_3_objectInit : (.methodLink RX4 3 objectInit : Cond) ∈ gw := gw_m (List.mem_append_right _ (List.mem_append_left _ (List.mem_of_getElem? (i := 222) (by decide +kernel)))) (by decide +kernel)
theorem gm_methodLink_RX2_3_objectInit : (.methodLink RX2 3 objectInit : Cond) ∈ gw := gw_m (List.mem_append_right _ (List.mem_append_right _ (List.mem_append_left _ (List.mem_of_getElem? (i := 76) (by decide +kernel))))) (by decide +kernel)
theorem gm_methodLink_RX6_3_objectInit : (.methodLink RX6 3 objectInit : Cond) ∈ gw := gw_m (List.mem_append_right _ (List.mem_append_right _ (List.mem_append_left _ (List.mem_of_getElem? (i := 24) (by decide +kernel))))) (by decide +kernel)
theorem gm_methodLink_RX8_3_objectInit : (.methodLink RX8 3 objectInit : Cond) ∈ gw := gw_m (List.mem_append_right _ (List.mem_append_right _ (List.mem_append_left _ (List.mem_of_getElem? (i := 40) (by decide +kernel))))) (by decide +kernel)
theorem gm_methodLink_RX7_3_objectInit : (.methodLink RX7 3 objectInit : Cond) ∈ gw := gw_m (List.mem_append_right _ (List.mem_append_left _ (List.mem_of_getElem? (i := 216) (by decide +kernel)))) (by decide +kernel)
theorem gm_classLink_RX7_9_RX4 : (.classLink RX7 9 RX4 : Cond) ∈ gw := gw_m (List.mem_append_right _ (List.mem_append_left _ (List.mem_of_getElem? (i := 217) (by decide +kernel)))) (by decide +kernel)
theorem gm_instantiable_RX4_9 : (.instantiable RX4 9 : Cond) ∈ gw := gw_m (List.mem_append_right _ (List.mem_append_left _ (List.mem_of_getElem? (i := 218) (by decide +kernel)))) (by decide +kernel)
theorem gm_initialized_RX4 : (.initialized RX4 : Cond) ∈ gw := gw_m (List.mem_append_right _ (List.mem_append_left _ (List.mem_of_getElem? (i := 8) (by decide +kernel)))) (by decide +kernel)
theorem gm_code_yX4_init_cX4_init_1_none : (.code yX4_init cX4_init 1 none : Cond) ∈ gw := gw_m (List.mem_append_right _ (List.mem_append_left _ (List.mem_of_getElem? (i := 221) rfl))) (by decide +kernel)
theorem gm_instanceMethod_yX4_init : (.instanceMethod yX4_init : Cond) ∈ gw := gw_m (List.mem_append_right _ (List.mem_append_left _ (List.mem_of_getElem? (i := 220) (by decide +kernel)))) (by decide +kernel)
theorem gm_fieldLink_RX7_12_ErrandGuild_Run_kin_LErrandGuild_Kin_ : (.fieldLink RX7 12 "ErrandGuild$Run" "kin" "LErrandGuild$Kin;" : Cond) ∈ gw := gw_m (List.mem_append_right _ (List.mem_append_right _ (List.mem_append_left _ (List.mem_of_getElem? (i := 122) (by decide +kernel))))) (by decide +kernel)
theorem gm_classLink_RX7_18_RX6 : (.classLink RX7 18 RX6 : Cond) ∈ gw := gw_m (List.mem_append_right _ (List.mem_append_right _ (List.mem_append_left _ (List.mem_of_getElem? (i := 19) (by decide +kernel))))) (by decide +kernel)
theorem gm_instantiable_RX6_3 : (.instantiable RX6 3 : Cond) ∈ gw := gw_m (List.mem_append_right _ (List.mem_append_right _ (List.mem_append_left _ (List.mem_of_getElem? (i := 20) (by decide +kernel))))) (by decide +kernel)
theorem gm_initialized_RX6 : (.initialized RX6 : Cond) ∈ gw := gw_m (List.mem_append_right _ (List.mem_append_left _ (List.mem_of_getElem? (i := 9) (by decide +kernel)))) (by decide +kernel)
theorem gm_code_yX6_init_cX6_init_1_none : (.code yX6_init cX6_init 1 none : Cond) ∈ gw := gw_m (List.mem_append_right _ (List.mem_append_right _ (List.mem_append_left _ (List.mem_of_getElem? (i := 23) rfl)))) (by decide +kernel)
theorem gm_instanceMethod_yX6_init : (.instanceMethod yX6_init : Cond) ∈ gw := gw_m (List.mem_append_right _ (List.mem_append_right _ (List.mem_append_left _ (List.mem_of_getElem? (i := 22) (by decide +kernel))))) (by decide +kernel)
theorem gm_fieldLink_RX7_21_ErrandGuild_Run_memory_LErrandGuild_Memory_ : (.fieldLink RX7 21 "ErrandGuild$Run" "memory" "LErrandGuild$Memory;" : Cond) ∈ gw := gw_m (List.mem_append_right _ (List.mem_append_right _ (List.mem_append_left _ (List.mem_of_getElem? (i := 125) (by decide +kernel))))) (by decide +kernel)
theorem gm_classLink_RX7_25_RX8 : (.classLink RX7 25 RX8 : Cond) ∈ gw := gw_m (List.mem_append_right _ (List.mem_append_right _ (List.mem_append_left _ (List.mem_of_getElem? (i := 35) (by decide +kernel))))) (by decide +kernel)
theorem gm_instantiable_RX8_9 : (.instantiable RX8 9 : Cond) ∈ gw := gw_m (List.mem_append_right _ (List.mem_append_right _ (List.mem_append_left _ (List.mem_of_getElem? (i := 36) (by decide +kernel))))) (by decide +kernel)
theorem gm_code_yX8_init_cX8_init_1_none : (.code yX8_init cX8_init 1 none : Cond) ∈ gw := gw_m (List.mem_append_right _ (List.mem_append_right _ (List.mem_append_left _ (List.mem_of_getElem? (i := 39) rfl)))) (by decide +kernel)
theorem gm_instanceMethod_yX8_init : (.instanceMethod yX8_init : Cond) ∈ gw := gw_m (List.mem_append_right _ (List.mem_append_right _ (List.mem_append_left _ (List.mem_of_getElem? (i := 38) (by decide +kernel))))) (by decide +kernel)
theorem gm_fieldLink_RX7_28_ErrandGuild_Run_scopes_LErrandGuild_Scopes_ : (.fieldLink RX7 28 "ErrandGuild$Run" "scopes" "LErrandGuild$Scopes;" : Cond) ∈ gw := gw_m (List.mem_append_right _ (List.mem_append_right _ (List.mem_append_left _ (List.mem_of_getElem? (i := 127) (by decide +kernel))))) (by decide +kernel)
theorem gm_classLink_RX7_32_RX2 : (.classLink RX7 32 RX2 : Cond) ∈ gw := gw_m (List.mem_append_right _ (List.mem_append_right _ (List.mem_append_left _ (List.mem_of_getElem? (i := 71) (by decide +kernel))))) (by decide +kernel)
theorem gm_instantiable_RX2_5 : (.instantiable RX2 5 : Cond) ∈ gw := gw_m (List.mem_append_right _ (List.mem_append_right _ (List.mem_append_left _ (List.mem_of_getElem? (i := 72) (by decide +kernel))))) (by decide +kernel)
theorem gm_initialized_RX2 : (.initialized RX2 : Cond) ∈ gw := gw_m (List.mem_append_right _ (List.mem_append_left _ (List.mem_of_getElem? (i := 11) (by decide +kernel)))) (by decide +kernel)
theorem gm_code_yX2_init_cX2_init_1_none : (.code yX2_init cX2_init 1 none : Cond) ∈ gw := gw_m (List.mem_append_right _ (List.mem_append_right _ (List.mem_append_left _ (List.mem_of_getElem? (i := 75) rfl)))) (by decide +kernel)
theorem gm_instanceMethod_yX2_init : (.instanceMethod yX2_init : Cond) ∈ gw := gw_m (List.mem_append_right _ (List.mem_append_right _ (List.mem_append_left _ (List.mem_of_getElem? (i := 74) (by decide +kernel))))) (by decide +kernel)
theorem gm_fieldLink_RX7_35_ErrandGuild_Run_fault_LErrandGuild_Fault_ : (.fieldLink RX7 35 "ErrandGuild$Run" "fault" "LErrandGuild$Fault;" : Cond) ∈ gw := gw_m (List.mem_append_right _ (List.mem_append_right _ (List.mem_append_left _ (List.mem_of_getElem? (i := 129) (by decide +kernel))))) (by decide +kernel)
theorem gm_classLink_RX7_39_RX0 : (.classLink RX7 39 RX0 : Cond) ∈ gw := gw_m (List.mem_append_right _ (List.mem_append_right _ (List.mem_append_left _ (List.mem_of_getElem? (i := 98) (by decide +kernel))))) (by decide +kernel)
theorem gm_constant_RX7_41_1048576_ : (.constant RX7 41 (1048576) : Cond) ∈ gw := gw_m (List.mem_append_right _ (List.mem_append_right _ (List.mem_append_left _ (List.mem_of_getElem? (i := 99) (by decide +kernel))))) (by decide +kernel)
theorem gm_methodLink_RX7_42_yX0_init : (.methodLink RX7 42 yX0_init : Cond) ∈ gw := gw_m (List.mem_append_right _ (List.mem_append_right _ (List.mem_append_left _ (List.mem_of_getElem? (i := 100) (by decide +kernel))))) (by decide +kernel)
theorem gm_fieldLink_RX7_45_ErrandGuild_Run_remarks_LErrandGuild_Cells_ : (.fieldLink RX7 45 "ErrandGuild$Run" "remarks" "LErrandGuild$Cells;" : Cond) ∈ gw := gw_m (List.mem_append_right _ (List.mem_append_right _ (List.mem_append_left _ (List.mem_of_getElem? (i := 131) (by decide +kernel))))) (by decide +kernel)
theorem gm_fieldLink_RX7_49_ErrandGuild_Run_number_I_ : (.fieldLink RX7 49 "ErrandGuild$Run" "number" "I" : Cond) ∈ gw := gw_m (List.mem_append_right _ (List.mem_append_right _ (List.mem_append_left _ (List.mem_of_getElem? (i := 101) (by decide +kernel))))) (by decide +kernel)
theorem gm_fieldLink_RX9_31_ErrandGuild_runs_ALErrandGuild_Run_ : (.fieldLink RX9 31 "ErrandGuild" "runs" "[LErrandGuild$Run;" : Cond) ∈ gw := gw_m (List.mem_append_right _ (List.mem_append_left _ (List.mem_of_getElem? (i := 100) (by decide +kernel)))) (by decide +kernel)
theorem gm_methodLink_RX9_134_yX9_runAt : (.methodLink RX9 134 yX9_runAt : Cond) ∈ gw := gw_m (List.mem_append_right _ (List.mem_append_right _ (List.mem_append_left _ (List.mem_of_getElem? (i := 223) (by decide +kernel))))) (by decide +kernel)
theorem gm_instanceMethod_yX9_runAt : (.instanceMethod yX9_runAt : Cond) ∈ gw := gw_m (List.mem_append_right _ (List.mem_append_right _ (List.mem_append_left _ (List.mem_of_getElem? (i := 225) (by decide +kernel))))) (by decide +kernel)
theorem gm_selects_RX9_yX9_runAt_yX9_runAt : (.selects RX9 yX9_runAt yX9_runAt : Cond) ∈ gw := gw_m (List.mem_append_left _ (List.mem_of_getElem? (i := 6) (by decide +kernel))) (by decide +kernel)
theorem gm_code_yX9_runAt_cX9_runAt_2_some_object_ErrandGuild_Run_ : (.code yX9_runAt cX9_runAt 2 (some (.object "ErrandGuild$Run")) : Cond) ∈ gw := gw_m (List.mem_append_right _ (List.mem_append_right _ (List.mem_append_left _ (List.mem_of_getElem? (i := 226) rfl)))) (by decide +kernel)
theorem gm_fieldLink_RX9_145_ErrandGuild_Run_state_I_ : (.fieldLink RX9 145 "ErrandGuild$Run" "state" "I" : Cond) ∈ gw := gw_m (List.mem_append_right _ (List.mem_append_right _ (List.mem_append_left _ (List.mem_of_getElem? (i := 106) (by decide +kernel))))) (by decide +kernel)
theorem gm_fieldLink_RX7_91_ErrandGuild_Kin_root_LErrandGuild_Run_ : (.fieldLink RX7 91 "ErrandGuild$Kin" "root" "LErrandGuild$Run;" : Cond) ∈ gw := gw_m (List.mem_append_right _ (List.mem_append_left _ (List.mem_of_getElem? (i := 226) (by decide +kernel)))) (by decide +kernel)
theorem gm_fieldLink_RX9_151_ErrandGuild_Run_kin_LErrandGuild_Kin_ : (.fieldLink RX9 151 "ErrandGuild$Run" "kin" "LErrandGuild$Kin;" : Cond) ∈ gw := gw_m (List.mem_append_right _ (List.mem_append_right _ (List.mem_append_left _ (List.mem_of_getElem? (i := 124) (by decide +kernel))))) (by decide +kernel)
theorem gm_fieldLink_RX9_225_ErrandGuild_Kin_firstChild_LErrandGuild_Run_ : (.fieldLink RX9 225 "ErrandGuild$Kin" "firstChild" "LErrandGuild$Run;" : Cond) ∈ gw := gw_m (List.mem_append_right _ (List.mem_append_left _ (List.mem_of_getElem? (i := 234) (by decide +kernel)))) (by decide +kernel)
theorem gm_fieldLink_RX9_379_ErrandGuild_Kin_claim_I_ : (.fieldLink RX9 379 "ErrandGuild$Kin" "claim" "I" : Cond) ∈ gw := gw_m (List.mem_append_right _ (List.mem_append_left _ (List.mem_of_getElem? (i := 232) (by decide +kernel)))) (by decide +kernel)
theorem gm_fieldLink_RX9_228_ErrandGuild_Kin_nextSibling_LErrandGuild_Run_ : (.fieldLink RX9 228 "ErrandGuild$Kin" "nextSibling" "LErrandGuild$Run;" : Cond) ∈ gw := gw_m (List.mem_append_right _ (List.mem_append_left _ (List.mem_of_getElem? (i := 237) (by decide +kernel)))) (by decide +kernel)
theorem gm_methodLink_RX9_138_yX7_isOver : (.methodLink RX9 138 yX7_isOver : Cond) ∈ gw := gw_m (List.mem_append_right _ (List.mem_append_right _ (List.mem_append_left _ (List.mem_of_getElem? (i := 227) (by decide +kernel))))) (by decide +kernel)
theorem gm_instanceMethod_yX7_isOver : (.instanceMethod yX7_isOver : Cond) ∈ gw := gw_m (List.mem_append_right _ (List.mem_append_right _ (List.mem_append_left _ (List.mem_of_getElem? (i := 228) (by decide +kernel))))) (by decide +kernel)
theorem gm_selects_RX7_yX7_isOver_yX7_isOver : (.selects RX7 yX7_isOver yX7_isOver : Cond) ∈ gw := gw_m (List.mem_append_right _ (List.mem_append_right _ (List.mem_append_left _ (List.mem_of_getElem? (i := 229) (by decide +kernel))))) (by decide +kernel)
theorem gm_initialized_RX7 : (.initialized RX7 : Cond) ∈ gw := gw_m (List.mem_append_right _ (List.mem_append_left _ (List.mem_of_getElem? (i := 7) (by decide +kernel)))) (by decide +kernel)
theorem gm_code_yX7_isOver_cX7_isOver_1_some_boolean_ : (.code yX7_isOver cX7_isOver 1 (some .boolean) : Cond) ∈ gw := gw_m (List.mem_append_right _ (List.mem_append_right _ (List.mem_append_left _ (List.mem_of_getElem? (i := 230) rfl)))) (by decide +kernel)
theorem gb_4 : ∀ w ∈ u_ws RX4 TX4 9, w ∈ gw := by
  intro w hw
  obtain ⟨j, hj, rfl⟩ := List.mem_map.mp hw
  have hj : j < 9 := List.mem_range.mp hj
  rcases (show j = 0 ∨ j = 1 ∨ j = 2 ∨ j = 3 ∨ j = 4 ∨ j = 5 ∨ j = 6 ∨ j = 7 ∨ j = 8 by omega) with rfl | rfl | rfl | rfl | rfl | rfl | rfl | rfl | rfl
  · exact gw_m (List.mem_append_right _ (List.mem_append_right _ (List.mem_append_left _ (List.mem_of_getElem? (i := 0) (by decide +kernel))))) (by decide +kernel)
  · exact gw_m (List.mem_append_right _ (List.mem_append_right _ (List.mem_append_left _ (List.mem_of_getElem? (i := 2) (by decide +kernel))))) (by decide +kernel)
  · exact gw_m (List.mem_append_right _ (List.mem_append_right _ (List.mem_append_left _ (List.mem_of_getElem? (i := 4) (by decide +kernel))))) (by decide +kernel)
  · exact gw_m (List.mem_append_right _ (List.mem_append_right _ (List.mem_append_left _ (List.mem_of_getElem? (i := 6) (by decide +kernel))))) (by decide +kernel)
  · exact gw_m (List.mem_append_right _ (List.mem_append_right _ (List.mem_append_left _ (List.mem_of_getElem? (i := 8) (by decide +kernel))))) (by decide +kernel)
  · exact gw_m (List.mem_append_right _ (List.mem_append_right _ (List.mem_append_left _ (List.mem_of_getElem? (i := 10) (by decide +kernel))))) (by decide +kernel)
  · exact gw_m (List.mem_append_right _ (List.mem_append_right _ (List.mem_append_left _ (List.mem_of_getElem? (i := 12) (by decide +kernel))))) (by decide +kernel)
  · exact gw_m (List.mem_append_right _ (List.mem_append_right _ (List.mem_append_left _ (List.mem_of_getElem? (i := 14) (by decide +kernel))))) (by decide +kernel)
  · exact gw_m (List.mem_append_right _ (List.mem_append_right _ (List.mem_append_left _ (List.mem_of_getElem? (i := 16) (by decide +kernel))))) (by decide +kernel)
theorem df_X0 : ∀ j, j < 3 → defaultValue (tyX0 j) = vp_V [.int 0, .null, .int 0] j := fun j hj => by rcases (show j = 0 ∨ j = 1 ∨ j = 2 by omega) with rfl | rfl | rfl <;> rfl
theorem df_X2 : ∀ j, j < 5 → defaultValue (tyX2 j) = vp_V [.int 0, .int 0, .int 0, .int 0, .int 0] j := fun j hj => by rcases (show j = 0 ∨ j = 1 ∨ j = 2 ∨ j = 3 ∨ j = 4 by omega) with rfl | rfl | rfl | rfl | rfl <;> rfl
theorem df_X4 : ∀ j, j < 9 → defaultValue (tyX4 j) = vp_V [.null, .null, .int 0, .int 0, .int 0, .null, .null, .null, .int 0] j := fun j hj => by rcases (show j = 0 ∨ j = 1 ∨ j = 2 ∨ j = 3 ∨ j = 4 ∨ j = 5 ∨ j = 6 ∨ j = 7 ∨ j = 8 by omega) with rfl | rfl | rfl | rfl | rfl | rfl | rfl | rfl | rfl <;> rfl
theorem df_X6 : ∀ j, j < 3 → defaultValue (tyX6 j) = vp_V [.null, .null, .null] j := fun j hj => by rcases (show j = 0 ∨ j = 1 ∨ j = 2 by omega) with rfl | rfl | rfl <;> rfl
theorem df_X8 : ∀ j, j < 9 → defaultValue (tyX8 j) = vp_V [.null, .null, .null, .int 0, .null, .null, .null, .int 0, .int 0] j := fun j hj => by rcases (show j = 0 ∨ j = 1 ∨ j = 2 ∨ j = 3 ∨ j = 4 ∨ j = 5 ∨ j = 6 ∨ j = 7 ∨ j = 8 by omega) with rfl | rfl | rfl | rfl | rfl | rfl | rfl | rfl | rfl <;> rfl
