theorem dX0_init_0 : decode cX0_init 0 = .ok (.aload_n 0, 1) := by decide +kernel
theorem dX0_init_1 : decode cX0_init 1 = .ok (.invokespecial 3, 3) := by decide +kernel
theorem dX0_init_4 : decode cX0_init 4 = .ok (.aload_n 0, 1) := by decide +kernel
theorem dX0_init_5 : decode cX0_init 5 = .ok (.iload_n 1, 1) := by decide +kernel
theorem dX0_init_6 : decode cX0_init 6 = .ok (.putfield 9, 3) := by decide +kernel
theorem dX0_init_9 : decode cX0_init 9 = .ok (.return_, 1) := by decide +kernel
theorem dX0_take_0 : decode cX0_take 0 = .ok (.aload_n 0, 1) := by decide +kernel
theorem dX0_take_1 : decode cX0_take 1 = .ok (.aload_n 1, 1) := by decide +kernel
theorem dX0_take_2 : decode cX0_take 2 = .ok (.getfield 15, 3) := by decide +kernel
theorem dX0_take_5 : decode cX0_take 5 = .ok (.putfield 15, 3) := by decide +kernel
theorem dX0_take_8 : decode cX0_take 8 = .ok (.aload_n 0, 1) := by decide +kernel
theorem dX0_take_9 : decode cX0_take 9 = .ok (.aload_n 1, 1) := by decide +kernel
theorem dX0_take_10 : decode cX0_take 10 = .ok (.getfield 18, 3) := by decide +kernel
theorem dX0_take_13 : decode cX0_take 13 = .ok (.putfield 18, 3) := by decide +kernel
theorem dX0_take_16 : decode cX0_take 16 = .ok (.aload_n 0, 1) := by decide +kernel
theorem dX0_take_17 : decode cX0_take 17 = .ok (.aload_n 1, 1) := by decide +kernel
theorem dX0_take_18 : decode cX0_take 18 = .ok (.getfield 21, 3) := by decide +kernel
theorem dX0_take_21 : decode cX0_take 21 = .ok (.putfield 21, 3) := by decide +kernel
theorem dX0_take_24 : decode cX0_take 24 = .ok (.aload_n 0, 1) := by decide +kernel
theorem dX0_take_25 : decode cX0_take 25 = .ok (.iconst 0, 1) := by decide +kernel
theorem dX0_take_26 : decode cX0_take 26 = .ok (.putfield 24, 3) := by decide +kernel
theorem dX0_take_29 : decode cX0_take 29 = .ok (.return_, 1) := by decide +kernel
theorem dX0_isBiting_0 : decode cX0_isBiting 0 = .ok (.aload_n 0, 1) := by decide +kernel
theorem dX0_isBiting_1 : decode cX0_isBiting 1 = .ok (.getfield 21, 3) := by decide +kernel
theorem dX0_isBiting_4 : decode cX0_isBiting 4 = .ok (.ifCond .gt 14, 3) := by decide +kernel
theorem dX0_isBiting_7 : decode cX0_isBiting 7 = .ok (.aload_n 0, 1) := by decide +kernel
theorem dX0_isBiting_8 : decode cX0_isBiting 8 = .ok (.getfield 15, 3) := by decide +kernel
theorem dX0_isBiting_11 : decode cX0_isBiting 11 = .ok (.ifCond .le 7, 3) := by decide +kernel
theorem dX0_isBiting_14 : decode cX0_isBiting 14 = .ok (.iconst 1, 1) := by decide +kernel
theorem dX0_isBiting_15 : decode cX0_isBiting 15 = .ok (.goto 4, 3) := by decide +kernel
theorem dX0_isBiting_18 : decode cX0_isBiting 18 = .ok (.iconst 0, 1) := by decide +kernel
theorem dX0_isBiting_19 : decode cX0_isBiting 19 = .ok (.ireturn, 1) := by decide +kernel
theorem dX0_swallow_0 : decode cX0_swallow 0 = .ok (.aload_n 0, 1) := by decide +kernel
theorem dX0_swallow_1 : decode cX0_swallow 1 = .ok (.iconst 0, 1) := by decide +kernel
theorem dX0_swallow_2 : decode cX0_swallow 2 = .ok (.aload_n 0, 1) := by decide +kernel
theorem dX0_swallow_3 : decode cX0_swallow 3 = .ok (.getfield 15, 3) := by decide +kernel
theorem dX0_swallow_6 : decode cX0_swallow 6 = .ok (.iload_n 1, 1) := by decide +kernel
theorem dX0_swallow_7 : decode cX0_swallow 7 = .ok (.isub, 1) := by decide +kernel
theorem dX0_swallow_8 : decode cX0_swallow 8 = .ok (.invokestatic 27, 3) := by decide +kernel
theorem dX0_swallow_11 : decode cX0_swallow 11 = .ok (.putfield 15, 3) := by decide +kernel
theorem dX0_swallow_14 : decode cX0_swallow 14 = .ok (.aload_n 0, 1) := by decide +kernel
theorem dX0_swallow_15 : decode cX0_swallow 15 = .ok (.dup, 1) := by decide +kernel
theorem dX0_swallow_16 : decode cX0_swallow 16 = .ok (.getfield 24, 3) := by decide +kernel
theorem dX0_swallow_19 : decode cX0_swallow 19 = .ok (.iload_n 1, 1) := by decide +kernel
theorem dX0_swallow_20 : decode cX0_swallow 20 = .ok (.iadd, 1) := by decide +kernel
theorem dX0_swallow_21 : decode cX0_swallow 21 = .ok (.putfield 24, 3) := by decide +kernel
theorem dX0_swallow_24 : decode cX0_swallow 24 = .ok (.return_, 1) := by decide +kernel
theorem dX0_endHour_0 : decode cX0_endHour 0 = .ok (.aload_n 0, 1) := by decide +kernel
theorem dX0_endHour_1 : decode cX0_endHour 1 = .ok (.bipush 99, 2) := by decide +kernel
theorem dX0_endHour_3 : decode cX0_endHour 3 = .ok (.aload_n 0, 1) := by decide +kernel
theorem dX0_endHour_4 : decode cX0_endHour 4 = .ok (.getfield 15, 3) := by decide +kernel
theorem dX0_endHour_7 : decode cX0_endHour 7 = .ok (.iload_n 1, 1) := by decide +kernel
theorem dX0_endHour_8 : decode cX0_endHour 8 = .ok (.iadd, 1) := by decide +kernel
theorem dX0_endHour_9 : decode cX0_endHour 9 = .ok (.invokestatic 33, 3) := by decide +kernel
theorem dX0_endHour_12 : decode cX0_endHour 12 = .ok (.putfield 15, 3) := by decide +kernel
theorem dX0_endHour_15 : decode cX0_endHour 15 = .ok (.aload_n 0, 1) := by decide +kernel
theorem dX0_endHour_16 : decode cX0_endHour 16 = .ok (.iconst 0, 1) := by decide +kernel
theorem dX0_endHour_17 : decode cX0_endHour 17 = .ok (.aload_n 0, 1) := by decide +kernel
theorem dX0_endHour_18 : decode cX0_endHour 18 = .ok (.getfield 21, 3) := by decide +kernel
theorem dX0_endHour_21 : decode cX0_endHour 21 = .ok (.iconst 1, 1) := by decide +kernel
theorem dX0_endHour_22 : decode cX0_endHour 22 = .ok (.isub, 1) := by decide +kernel
theorem dX0_endHour_23 : decode cX0_endHour 23 = .ok (.invokestatic 27, 3) := by decide +kernel
theorem dX0_endHour_26 : decode cX0_endHour 26 = .ok (.putfield 21, 3) := by decide +kernel
theorem dX0_endHour_29 : decode cX0_endHour 29 = .ok (.return_, 1) := by decide +kernel
theorem dX1_init_0 : decode cX1_init 0 = .ok (.aload_n 0, 1) := by decide +kernel
theorem dX1_init_1 : decode cX1_init 1 = .ok (.invokespecial 3, 3) := by decide +kernel
theorem dX1_init_4 : decode cX1_init 4 = .ok (.aload_n 0, 1) := by decide +kernel
theorem dX1_init_5 : decode cX1_init 5 = .ok (.iload_n 1, 1) := by decide +kernel
theorem dX1_init_6 : decode cX1_init 6 = .ok (.putfield 9, 3) := by decide +kernel
theorem dX1_init_9 : decode cX1_init 9 = .ok (.return_, 1) := by decide +kernel
theorem dX1_take_0 : decode cX1_take 0 = .ok (.aload_n 0, 1) := by decide +kernel
theorem dX1_take_1 : decode cX1_take 1 = .ok (.aload_n 1, 1) := by decide +kernel
theorem dX1_take_2 : decode cX1_take 2 = .ok (.getfield 15, 3) := by decide +kernel
theorem dX1_take_5 : decode cX1_take 5 = .ok (.putfield 15, 3) := by decide +kernel
theorem dX1_take_8 : decode cX1_take 8 = .ok (.aload_n 0, 1) := by decide +kernel
theorem dX1_take_9 : decode cX1_take 9 = .ok (.aload_n 1, 1) := by decide +kernel
theorem dX1_take_10 : decode cX1_take 10 = .ok (.getfield 18, 3) := by decide +kernel
theorem dX1_take_13 : decode cX1_take 13 = .ok (.putfield 18, 3) := by decide +kernel
theorem dX1_take_16 : decode cX1_take 16 = .ok (.aload_n 0, 1) := by decide +kernel
theorem dX1_take_17 : decode cX1_take 17 = .ok (.aload_n 1, 1) := by decide +kernel
theorem dX1_take_18 : decode cX1_take 18 = .ok (.getfield 21, 3) := by decide +kernel
theorem dX1_take_21 : decode cX1_take 21 = .ok (.putfield 21, 3) := by decide +kernel
theorem dX1_take_24 : decode cX1_take 24 = .ok (.aload_n 0, 1) := by decide +kernel
theorem dX1_take_25 : decode cX1_take 25 = .ok (.aload_n 1, 1) := by decide +kernel
theorem dX1_take_26 : decode cX1_take 26 = .ok (.getfield 24, 3) := by decide +kernel
theorem dX1_take_29 : decode cX1_take 29 = .ok (.putfield 24, 3) := by decide +kernel
theorem dX1_take_32 : decode cX1_take 32 = .ok (.aload_n 0, 1) := by decide +kernel
theorem dX1_take_33 : decode cX1_take 33 = .ok (.aload_n 1, 1) := by decide +kernel
theorem dX1_take_34 : decode cX1_take 34 = .ok (.getfield 27, 3) := by decide +kernel
theorem dX1_take_37 : decode cX1_take 37 = .ok (.putfield 27, 3) := by decide +kernel
theorem dX1_take_40 : decode cX1_take 40 = .ok (.aload_n 0, 1) := by decide +kernel
theorem dX1_take_41 : decode cX1_take 41 = .ok (.iconst 0, 1) := by decide +kernel
theorem dX1_take_42 : decode cX1_take 42 = .ok (.putfield 30, 3) := by decide +kernel
theorem dX1_take_45 : decode cX1_take 45 = .ok (.return_, 1) := by decide +kernel
theorem dX1_isVoid_0 : decode cX1_isVoid 0 = .ok (.aload_n 0, 1) := by decide +kernel
theorem dX1_isVoid_1 : decode cX1_isVoid 1 = .ok (.getfield 27, 3) := by decide +kernel
theorem dX1_isVoid_4 : decode cX1_isVoid 4 = .ok (.ifCond .gt 7, 3) := by decide +kernel
theorem dX1_isVoid_7 : decode cX1_isVoid 7 = .ok (.iconst 1, 1) := by decide +kernel
theorem dX1_isVoid_8 : decode cX1_isVoid 8 = .ok (.goto 4, 3) := by decide +kernel
theorem dX1_isVoid_11 : decode cX1_isVoid 11 = .ok (.iconst 0, 1) := by decide +kernel
theorem dX1_isVoid_12 : decode cX1_isVoid 12 = .ok (.ireturn, 1) := by decide +kernel
theorem dX1_isInForce_0 : decode cX1_isInForce 0 = .ok (.aload_n 0, 1) := by decide +kernel
theorem dX1_isInForce_1 : decode cX1_isInForce 1 = .ok (.getfield 27, 3) := by decide +kernel
theorem dX1_isInForce_4 : decode cX1_isInForce 4 = .ok (.ifCond .le 20, 3) := by decide +kernel
theorem dX1_isInForce_7 : decode cX1_isInForce 7 = .ok (.iconst 2, 1) := by decide +kernel
theorem dX1_isInForce_8 : decode cX1_isInForce 8 = .ok (.aload_n 0, 1) := by decide +kernel
theorem dX1_isInForce_9 : decode cX1_isInForce 9 = .ok (.getfield 27, 3) := by decide +kernel
theorem dX1_isInForce_12 : decode cX1_isInForce 12 = .ok (.imul, 1) := by decide +kernel
theorem dX1_isInForce_13 : decode cX1_isInForce 13 = .ok (.aload_n 0, 1) := by decide +kernel
theorem dX1_isInForce_14 : decode cX1_isInForce 14 = .ok (.getfield 18, 3) := by decide +kernel
theorem dX1_isInForce_17 : decode cX1_isInForce 17 = .ok (.if_icmp .lt 7, 3) := by decide +kernel
theorem dX1_isInForce_20 : decode cX1_isInForce 20 = .ok (.iconst 1, 1) := by decide +kernel
theorem dX1_isInForce_21 : decode cX1_isInForce 21 = .ok (.goto 4, 3) := by decide +kernel
theorem dX1_isInForce_24 : decode cX1_isInForce 24 = .ok (.iconst 0, 1) := by decide +kernel
theorem dX1_isInForce_25 : decode cX1_isInForce 25 = .ok (.ireturn, 1) := by decide +kernel
theorem dX1_standing_0 : decode cX1_standing 0 = .ok (.aload_n 0, 1) := by decide +kernel
theorem dX1_standing_1 : decode cX1_standing 1 = .ok (.invokevirtual 33, 3) := by decide +kernel
theorem dX1_standing_4 : decode cX1_standing 4 = .ok (.ifCond .eq 7, 3) := by decide +kernel
theorem dX1_standing_7 : decode cX1_standing 7 = .ok (.iconst 0, 1) := by decide +kernel
theorem dX1_standing_8 : decode cX1_standing 8 = .ok (.goto 15, 3) := by decide +kernel
theorem dX1_standing_11 : decode cX1_standing 11 = .ok (.aload_n 0, 1) := by decide +kernel
theorem dX1_standing_12 : decode cX1_standing 12 = .ok (.invokevirtual 37, 3) := by decide +kernel
theorem dX1_standing_15 : decode cX1_standing 15 = .ok (.ifCond .eq 7, 3) := by decide +kernel
theorem dX1_standing_18 : decode cX1_standing 18 = .ok (.iconst 2, 1) := by decide +kernel
theorem dX1_standing_19 : decode cX1_standing 19 = .ok (.goto 4, 3) := by decide +kernel
theorem dX1_standing_22 : decode cX1_standing 22 = .ok (.iconst 1, 1) := by decide +kernel
theorem dX1_standing_23 : decode cX1_standing 23 = .ok (.ireturn, 1) := by decide +kernel
theorem dX1_liking_0 : decode cX1_liking 0 = .ok (.aload_n 0, 1) := by decide +kernel
theorem dX1_liking_1 : decode cX1_liking 1 = .ok (.getfield 27, 3) := by decide +kernel
theorem dX1_liking_4 : decode cX1_liking 4 = .ok (.ifCond .le 17, 3) := by decide +kernel
theorem dX1_liking_7 : decode cX1_liking 7 = .ok (.aload_n 0, 1) := by decide +kernel
theorem dX1_liking_8 : decode cX1_liking 8 = .ok (.getfield 15, 3) := by decide +kernel
theorem dX1_liking_11 : decode cX1_liking 11 = .ok (.iconst 5, 1) := by decide +kernel
theorem dX1_liking_12 : decode cX1_liking 12 = .ok (.if_icmp .ne 12, 3) := by decide +kernel
theorem dX1_liking_15 : decode cX1_liking 15 = .ok (.iload_n 1, 1) := by decide +kernel
theorem dX1_liking_16 : decode cX1_liking 16 = .ok (.iconst 2, 1) := by decide +kernel
theorem dX1_liking_17 : decode cX1_liking 17 = .ok (.irem, 1) := by decide +kernel
theorem dX1_liking_18 : decode cX1_liking 18 = .ok (.ifCond .eq 6, 3) := by decide +kernel
theorem dX1_liking_21 : decode cX1_liking 21 = .ok (.ldc 40, 2) := by decide +kernel
theorem dX1_liking_23 : decode cX1_liking 23 = .ok (.ireturn, 1) := by decide +kernel
theorem dX1_liking_24 : decode cX1_liking 24 = .ok (.aload_n 0, 1) := by decide +kernel
theorem dX1_liking_25 : decode cX1_liking 25 = .ok (.getfield 24, 3) := by decide +kernel
theorem dX1_liking_28 : decode cX1_liking 28 = .ok (.istore_n 3, 1) := by decide +kernel
theorem dX1_liking_29 : decode cX1_liking 29 = .ok (.aload_n 0, 1) := by decide +kernel
theorem dX1_liking_30 : decode cX1_liking 30 = .ok (.getfield 15, 3) := by decide +kernel
theorem dX1_liking_33 : decode cX1_liking 33 = .ok (.iconst 2, 1) := by decide +kernel
theorem dX1_liking_34 : decode cX1_liking 34 = .ok (.if_icmp .ne 10, 3) := by decide +kernel
theorem dX1_liking_37 : decode cX1_liking 37 = .ok (.iload_n 3, 1) := by decide +kernel
theorem dX1_liking_38 : decode cX1_liking 38 = .ok (.iload_n 2, 1) := by decide +kernel
theorem dX1_liking_39 : decode cX1_liking 39 = .ok (.iadd, 1) := by decide +kernel
theorem dX1_liking_40 : decode cX1_liking 40 = .ok (.istore_n 3, 1) := by decide +kernel
theorem dX1_liking_41 : decode cX1_liking 41 = .ok (.goto 22, 3) := by decide +kernel
theorem dX1_liking_44 : decode cX1_liking 44 = .ok (.aload_n 0, 1) := by decide +kernel
theorem dX1_liking_45 : decode cX1_liking 45 = .ok (.getfield 15, 3) := by decide +kernel
theorem dX1_liking_48 : decode cX1_liking 48 = .ok (.iconst 4, 1) := by decide +kernel
theorem dX1_liking_49 : decode cX1_liking 49 = .ok (.if_icmp .eq 11, 3) := by decide +kernel
theorem dX1_liking_52 : decode cX1_liking 52 = .ok (.aload_n 0, 1) := by decide +kernel
theorem dX1_liking_53 : decode cX1_liking 53 = .ok (.getfield 15, 3) := by decide +kernel
theorem dX1_liking_56 : decode cX1_liking 56 = .ok (.iconst 5, 1) := by decide +kernel
theorem dX1_liking_57 : decode cX1_liking 57 = .ok (.if_icmp .ne 6, 3) := by decide +kernel
theorem dX1_liking_60 : decode cX1_liking 60 = .ok (.iinc 3 (-3), 3) := by decide +kernel
theorem dX1_liking_63 : decode cX1_liking 63 = .ok (.iload_n 3, 1) := by decide +kernel
theorem dX1_liking_64 : decode cX1_liking 64 = .ok (.ifCond .ge 8, 3) := by decide +kernel
theorem dX1_liking_67 : decode cX1_liking 67 = .ok (.ldc 40, 2) := by decide +kernel
theorem dX1_liking_69 : decode cX1_liking 69 = .ok (.goto 4, 3) := by decide +kernel
theorem dX1_liking_72 : decode cX1_liking 72 = .ok (.iload_n 3, 1) := by decide +kernel
theorem dX1_liking_73 : decode cX1_liking 73 = .ok (.ireturn, 1) := by decide +kernel
theorem dX1_loseBite_0 : decode cX1_loseBite 0 = .ok (.aload_n 0, 1) := by decide +kernel
theorem dX1_loseBite_1 : decode cX1_loseBite 1 = .ok (.getfield 27, 3) := by decide +kernel
theorem dX1_loseBite_4 : decode cX1_loseBite 4 = .ok (.aload_n 0, 1) := by decide +kernel
theorem dX1_loseBite_5 : decode cX1_loseBite 5 = .ok (.getfield 15, 3) := by decide +kernel
theorem dX1_loseBite_8 : decode cX1_loseBite 8 = .ok (.iconst 1, 1) := by decide +kernel
theorem dX1_loseBite_9 : decode cX1_loseBite 9 = .ok (.if_icmp .eq 11, 3) := by decide +kernel
theorem dX1_loseBite_12 : decode cX1_loseBite 12 = .ok (.aload_n 0, 1) := by decide +kernel
theorem dX1_loseBite_13 : decode cX1_loseBite 13 = .ok (.getfield 15, 3) := by decide +kernel
theorem dX1_loseBite_16 : decode cX1_loseBite 16 = .ok (.iconst 2, 1) := by decide +kernel
theorem dX1_loseBite_17 : decode cX1_loseBite 17 = .ok (.if_icmp .ne 7, 3) := by decide +kernel
theorem dX1_loseBite_20 : decode cX1_loseBite 20 = .ok (.iconst 2, 1) := by decide +kernel
theorem dX1_loseBite_21 : decode cX1_loseBite 21 = .ok (.goto 4, 3) := by decide +kernel
theorem dX1_loseBite_24 : decode cX1_loseBite 24 = .ok (.iconst 1, 1) := by decide +kernel
theorem dX1_loseBite_25 : decode cX1_loseBite 25 = .ok (.invokestatic 41, 3) := by decide +kernel
theorem dX1_loseBite_28 : decode cX1_loseBite 28 = .ok (.istore_n 2, 1) := by decide +kernel
theorem dX1_loseBite_29 : decode cX1_loseBite 29 = .ok (.aload_n 0, 1) := by decide +kernel
theorem dX1_loseBite_30 : decode cX1_loseBite 30 = .ok (.dup, 1) := by decide +kernel
theorem dX1_loseBite_31 : decode cX1_loseBite 31 = .ok (.getfield 27, 3) := by decide +kernel
theorem dX1_loseBite_34 : decode cX1_loseBite 34 = .ok (.iload_n 2, 1) := by decide +kernel
theorem dX1_loseBite_35 : decode cX1_loseBite 35 = .ok (.isub, 1) := by decide +kernel
theorem dX1_loseBite_36 : decode cX1_loseBite 36 = .ok (.putfield 27, 3) := by decide +kernel
theorem dX1_loseBite_39 : decode cX1_loseBite 39 = .ok (.aload_n 0, 1) := by decide +kernel
theorem dX1_loseBite_40 : decode cX1_loseBite 40 = .ok (.dup, 1) := by decide +kernel
theorem dX1_loseBite_41 : decode cX1_loseBite 41 = .ok (.getfield 30, 3) := by decide +kernel
theorem dX1_loseBite_44 : decode cX1_loseBite 44 = .ok (.iconst 1, 1) := by decide +kernel
theorem dX1_loseBite_45 : decode cX1_loseBite 45 = .ok (.iload_n 1, 1) := by decide +kernel
theorem dX1_loseBite_46 : decode cX1_loseBite 46 = .ok (.ishl, 1) := by decide +kernel
theorem dX1_loseBite_47 : decode cX1_loseBite 47 = .ok (.ior, 1) := by decide +kernel
theorem dX1_loseBite_48 : decode cX1_loseBite 48 = .ok (.putfield 30, 3) := by decide +kernel
theorem dX1_loseBite_51 : decode cX1_loseBite 51 = .ok (.iload_n 2, 1) := by decide +kernel
theorem dX1_loseBite_52 : decode cX1_loseBite 52 = .ok (.ireturn, 1) := by decide +kernel
theorem dX1_become_0 : decode cX1_become 0 = .ok (.iload_n 1, 1) := by decide +kernel
theorem dX1_become_1 : decode cX1_become 1 = .ok (.ifCond .ne 11, 3) := by decide +kernel
theorem dX1_become_4 : decode cX1_become 4 = .ok (.aload_n 0, 1) := by decide +kernel
theorem dX1_become_5 : decode cX1_become 5 = .ok (.iload_n 2, 1) := by decide +kernel
theorem dX1_become_6 : decode cX1_become 6 = .ok (.putfield 15, 3) := by decide +kernel
theorem dX1_become_9 : decode cX1_become 9 = .ok (.goto 21, 3) := by decide +kernel
theorem dX1_become_12 : decode cX1_become 12 = .ok (.iload_n 1, 1) := by decide +kernel
theorem dX1_become_13 : decode cX1_become 13 = .ok (.iconst 1, 1) := by decide +kernel
theorem dX1_become_14 : decode cX1_become 14 = .ok (.if_icmp .ne 11, 3) := by decide +kernel
theorem dX1_become_17 : decode cX1_become 17 = .ok (.aload_n 0, 1) := by decide +kernel
theorem dX1_become_18 : decode cX1_become 18 = .ok (.iload_n 2, 1) := by decide +kernel
theorem dX1_become_19 : decode cX1_become 19 = .ok (.putfield 21, 3) := by decide +kernel
theorem dX1_become_22 : decode cX1_become 22 = .ok (.goto 8, 3) := by decide +kernel
theorem dX1_become_25 : decode cX1_become 25 = .ok (.aload_n 0, 1) := by decide +kernel
theorem dX1_become_26 : decode cX1_become 26 = .ok (.iload_n 2, 1) := by decide +kernel
theorem dX1_become_27 : decode cX1_become 27 = .ok (.putfield 24, 3) := by decide +kernel
theorem dX1_become_30 : decode cX1_become 30 = .ok (.return_, 1) := by decide +kernel
theorem dX2_init_0 : decode cX2_init 0 = .ok (.aload_n 0, 1) := by decide +kernel
theorem dX2_init_1 : decode cX2_init 1 = .ok (.invokespecial 3, 3) := by decide +kernel
theorem dX2_init_4 : decode cX2_init 4 = .ok (.aload_n 0, 1) := by decide +kernel
theorem dX2_init_5 : decode cX2_init 5 = .ok (.bipush 16, 2) := by decide +kernel
theorem dX2_init_7 : decode cX2_init 7 = .ok (.newarray .int, 2) := by decide +kernel
theorem dX2_init_9 : decode cX2_init 9 = .ok (.putfield 9, 3) := by decide +kernel
theorem dX2_init_12 : decode cX2_init 12 = .ok (.return_, 1) := by decide +kernel
theorem dX2_add_0 : decode cX2_add 0 = .ok (.aload_n 0, 1) := by decide +kernel
theorem dX2_add_1 : decode cX2_add 1 = .ok (.getfield 15, 3) := by decide +kernel
theorem dX2_add_4 : decode cX2_add 4 = .ok (.ifCond .lt 35, 3) := by decide +kernel
theorem dX2_add_7 : decode cX2_add 7 = .ok (.aload_n 0, 1) := by decide +kernel
theorem dX2_add_8 : decode cX2_add 8 = .ok (.getfield 15, 3) := by decide +kernel
theorem dX2_add_11 : decode cX2_add 11 = .ok (.aload_n 0, 1) := by decide +kernel
theorem dX2_add_12 : decode cX2_add 12 = .ok (.getfield 9, 3) := by decide +kernel
theorem dX2_add_15 : decode cX2_add 15 = .ok (.arraylength, 1) := by decide +kernel
theorem dX2_add_16 : decode cX2_add 16 = .ok (.if_icmp .ge 23, 3) := by decide +kernel
theorem dX2_add_19 : decode cX2_add 19 = .ok (.aload_n 0, 1) := by decide +kernel
theorem dX2_add_20 : decode cX2_add 20 = .ok (.getfield 9, 3) := by decide +kernel
theorem dX2_add_23 : decode cX2_add 23 = .ok (.aload_n 0, 1) := by decide +kernel
theorem dX2_add_24 : decode cX2_add 24 = .ok (.getfield 15, 3) := by decide +kernel
theorem dX2_add_27 : decode cX2_add 27 = .ok (.iload_n 1, 1) := by decide +kernel
theorem dX2_add_28 : decode cX2_add 28 = .ok (.iastore, 1) := by decide +kernel
theorem dX2_add_29 : decode cX2_add 29 = .ok (.aload_n 0, 1) := by decide +kernel
theorem dX2_add_30 : decode cX2_add 30 = .ok (.dup, 1) := by decide +kernel
theorem dX2_add_31 : decode cX2_add 31 = .ok (.getfield 15, 3) := by decide +kernel
theorem dX2_add_34 : decode cX2_add 34 = .ok (.iconst 1, 1) := by decide +kernel
theorem dX2_add_35 : decode cX2_add 35 = .ok (.iadd, 1) := by decide +kernel
theorem dX2_add_36 : decode cX2_add 36 = .ok (.putfield 15, 3) := by decide +kernel
theorem dX2_add_39 : decode cX2_add 39 = .ok (.return_, 1) := by decide +kernel
theorem dX2_at_0 : decode cX2_at 0 = .ok (.iload_n 1, 1) := by decide +kernel
theorem dX2_at_1 : decode cX2_at 1 = .ok (.ifCond .lt 29, 3) := by decide +kernel
theorem dX2_at_4 : decode cX2_at 4 = .ok (.iload_n 1, 1) := by decide +kernel
theorem dX2_at_5 : decode cX2_at 5 = .ok (.aload_n 0, 1) := by decide +kernel
theorem dX2_at_6 : decode cX2_at 6 = .ok (.getfield 15, 3) := by decide +kernel
theorem dX2_at_9 : decode cX2_at 9 = .ok (.if_icmp .ge 21, 3) := by decide +kernel
theorem dX2_at_12 : decode cX2_at 12 = .ok (.iload_n 1, 1) := by decide +kernel
theorem dX2_at_13 : decode cX2_at 13 = .ok (.aload_n 0, 1) := by decide +kernel
theorem dX2_at_14 : decode cX2_at 14 = .ok (.getfield 9, 3) := by decide +kernel
theorem dX2_at_17 : decode cX2_at 17 = .ok (.arraylength, 1) := by decide +kernel
theorem dX2_at_18 : decode cX2_at 18 = .ok (.if_icmp .ge 12, 3) := by decide +kernel
theorem dX2_at_21 : decode cX2_at 21 = .ok (.aload_n 0, 1) := by decide +kernel
theorem dX2_at_22 : decode cX2_at 22 = .ok (.getfield 9, 3) := by decide +kernel
theorem dX2_at_25 : decode cX2_at 25 = .ok (.iload_n 1, 1) := by decide +kernel
theorem dX2_at_26 : decode cX2_at 26 = .ok (.iaload, 1) := by decide +kernel
theorem dX2_at_27 : decode cX2_at 27 = .ok (.goto 5, 3) := by decide +kernel
theorem dX2_at_30 : decode cX2_at 30 = .ok (.ldc 19, 2) := by decide +kernel
theorem dX2_at_32 : decode cX2_at 32 = .ok (.ireturn, 1) := by decide +kernel
theorem dX3_init_0 : decode cX3_init 0 = .ok (.aload_n 0, 1) := by decide +kernel
theorem dX3_init_1 : decode cX3_init 1 = .ok (.invokespecial 3, 3) := by decide +kernel
theorem dX3_init_4 : decode cX3_init 4 = .ok (.aload_n 0, 1) := by decide +kernel
theorem dX3_init_5 : decode cX3_init 5 = .ok (.bipush 24, 2) := by decide +kernel
theorem dX3_init_7 : decode cX3_init 7 = .ok (.anewarray 9, 3) := by decide +kernel
theorem dX3_init_10 : decode cX3_init 10 = .ok (.putfield 11, 3) := by decide +kernel
theorem dX3_init_13 : decode cX3_init 13 = .ok (.iconst 0, 1) := by decide +kernel
theorem dX3_init_14 : decode cX3_init 14 = .ok (.istore_n 1, 1) := by decide +kernel
theorem dX3_init_15 : decode cX3_init 15 = .ok (.iload_n 1, 1) := by decide +kernel
theorem dX3_init_16 : decode cX3_init 16 = .ok (.aload_n 0, 1) := by decide +kernel
theorem dX3_init_17 : decode cX3_init 17 = .ok (.getfield 11, 3) := by decide +kernel
theorem dX3_init_20 : decode cX3_init 20 = .ok (.arraylength, 1) := by decide +kernel
theorem dX3_init_21 : decode cX3_init 21 = .ok (.if_icmp .ge 22, 3) := by decide +kernel
theorem dX3_init_24 : decode cX3_init 24 = .ok (.aload_n 0, 1) := by decide +kernel
theorem dX3_init_25 : decode cX3_init 25 = .ok (.getfield 11, 3) := by decide +kernel
theorem dX3_init_28 : decode cX3_init 28 = .ok (.iload_n 1, 1) := by decide +kernel
theorem dX3_init_29 : decode cX3_init 29 = .ok (.new 9, 3) := by decide +kernel
theorem dX3_init_32 : decode cX3_init 32 = .ok (.dup, 1) := by decide +kernel
theorem dX3_init_33 : decode cX3_init 33 = .ok (.invokespecial 17, 3) := by decide +kernel
theorem dX3_init_36 : decode cX3_init 36 = .ok (.aastore, 1) := by decide +kernel
theorem dX3_init_37 : decode cX3_init 37 = .ok (.iinc 1 1, 3) := by decide +kernel
theorem dX3_init_40 : decode cX3_init 40 = .ok (.goto (-25), 3) := by decide +kernel
theorem dX3_init_43 : decode cX3_init 43 = .ok (.return_, 1) := by decide +kernel
theorem dX3_forget_0 : decode cX3_forget 0 = .ok (.aload_n 0, 1) := by decide +kernel
theorem dX3_forget_1 : decode cX3_forget 1 = .ok (.iconst 0, 1) := by decide +kernel
theorem dX3_forget_2 : decode cX3_forget 2 = .ok (.putfield 18, 3) := by decide +kernel
theorem dX3_forget_5 : decode cX3_forget 5 = .ok (.return_, 1) := by decide +kernel
theorem dX3_keep_0 : decode cX3_keep 0 = .ok (.aload_n 0, 1) := by decide +kernel
theorem dX3_keep_1 : decode cX3_keep 1 = .ok (.getfield 22, 3) := by decide +kernel
theorem dX3_keep_4 : decode cX3_keep 4 = .ok (.ifCond .lt 15, 3) := by decide +kernel
theorem dX3_keep_7 : decode cX3_keep 7 = .ok (.aload_n 0, 1) := by decide +kernel
theorem dX3_keep_8 : decode cX3_keep 8 = .ok (.getfield 22, 3) := by decide +kernel
theorem dX3_keep_11 : decode cX3_keep 11 = .ok (.aload_n 0, 1) := by decide +kernel
theorem dX3_keep_12 : decode cX3_keep 12 = .ok (.getfield 11, 3) := by decide +kernel
theorem dX3_keep_15 : decode cX3_keep 15 = .ok (.arraylength, 1) := by decide +kernel
theorem dX3_keep_16 : decode cX3_keep 16 = .ok (.if_icmp .lt 4, 3) := by decide +kernel
theorem dX3_keep_19 : decode cX3_keep 19 = .ok (.return_, 1) := by decide +kernel
theorem dX3_keep_20 : decode cX3_keep 20 = .ok (.aload_n 0, 1) := by decide +kernel
theorem dX3_keep_21 : decode cX3_keep 21 = .ok (.getfield 11, 3) := by decide +kernel
theorem dX3_keep_24 : decode cX3_keep 24 = .ok (.aload_n 0, 1) := by decide +kernel
theorem dX3_keep_25 : decode cX3_keep 25 = .ok (.getfield 22, 3) := by decide +kernel
theorem dX3_keep_28 : decode cX3_keep 28 = .ok (.aaload, 1) := by decide +kernel
theorem dX3_keep_29 : decode cX3_keep 29 = .ok (.aload_n 1, 1) := by decide +kernel
theorem dX3_keep_30 : decode cX3_keep 30 = .ok (.invokevirtual 25, 3) := by decide +kernel
theorem dX3_keep_33 : decode cX3_keep 33 = .ok (.aload_n 0, 1) := by decide +kernel
theorem dX3_keep_34 : decode cX3_keep 34 = .ok (.aload_n 0, 1) := by decide +kernel
theorem dX3_keep_35 : decode cX3_keep 35 = .ok (.getfield 22, 3) := by decide +kernel
theorem dX3_keep_38 : decode cX3_keep 38 = .ok (.iconst 1, 1) := by decide +kernel
theorem dX3_keep_39 : decode cX3_keep 39 = .ok (.iadd, 1) := by decide +kernel
theorem dX3_keep_40 : decode cX3_keep 40 = .ok (.aload_n 0, 1) := by decide +kernel
theorem dX3_keep_41 : decode cX3_keep 41 = .ok (.getfield 11, 3) := by decide +kernel
theorem dX3_keep_44 : decode cX3_keep 44 = .ok (.arraylength, 1) := by decide +kernel
theorem dX3_keep_45 : decode cX3_keep 45 = .ok (.if_icmp .ge 12, 3) := by decide +kernel
theorem dX3_keep_48 : decode cX3_keep 48 = .ok (.aload_n 0, 1) := by decide +kernel
theorem dX3_keep_49 : decode cX3_keep 49 = .ok (.getfield 22, 3) := by decide +kernel
theorem dX3_keep_52 : decode cX3_keep 52 = .ok (.iconst 1, 1) := by decide +kernel
theorem dX3_keep_53 : decode cX3_keep 53 = .ok (.iadd, 1) := by decide +kernel
theorem dX3_keep_54 : decode cX3_keep 54 = .ok (.goto 4, 3) := by decide +kernel
theorem dX3_keep_57 : decode cX3_keep 57 = .ok (.iconst 0, 1) := by decide +kernel
theorem dX3_keep_58 : decode cX3_keep 58 = .ok (.putfield 22, 3) := by decide +kernel
theorem dX3_keep_61 : decode cX3_keep 61 = .ok (.aload_n 0, 1) := by decide +kernel
theorem dX3_keep_62 : decode cX3_keep 62 = .ok (.aload_n 0, 1) := by decide +kernel
theorem dX3_keep_63 : decode cX3_keep 63 = .ok (.getfield 18, 3) := by decide +kernel
theorem dX3_keep_66 : decode cX3_keep 66 = .ok (.iconst 1, 1) := by decide +kernel
theorem dX3_keep_67 : decode cX3_keep 67 = .ok (.iadd, 1) := by decide +kernel
theorem dX3_keep_68 : decode cX3_keep 68 = .ok (.aload_n 0, 1) := by decide +kernel
theorem dX3_keep_69 : decode cX3_keep 69 = .ok (.getfield 11, 3) := by decide +kernel
theorem dX3_keep_72 : decode cX3_keep 72 = .ok (.arraylength, 1) := by decide +kernel
theorem dX3_keep_73 : decode cX3_keep 73 = .ok (.invokestatic 29, 3) := by decide +kernel
theorem dX3_keep_76 : decode cX3_keep 76 = .ok (.putfield 18, 3) := by decide +kernel
theorem dX3_keep_79 : decode cX3_keep 79 = .ok (.return_, 1) := by decide +kernel
theorem dX3_bringBack_0 : decode cX3_bringBack 0 = .ok (.aload_n 0, 1) := by decide +kernel
theorem dX3_bringBack_1 : decode cX3_bringBack 1 = .ok (.getfield 22, 3) := by decide +kernel
theorem dX3_bringBack_4 : decode cX3_bringBack 4 = .ok (.ifCond .le 12, 3) := by decide +kernel
theorem dX3_bringBack_7 : decode cX3_bringBack 7 = .ok (.aload_n 0, 1) := by decide +kernel
theorem dX3_bringBack_8 : decode cX3_bringBack 8 = .ok (.getfield 22, 3) := by decide +kernel
theorem dX3_bringBack_11 : decode cX3_bringBack 11 = .ok (.iconst 1, 1) := by decide +kernel
theorem dX3_bringBack_12 : decode cX3_bringBack 12 = .ok (.isub, 1) := by decide +kernel
theorem dX3_bringBack_13 : decode cX3_bringBack 13 = .ok (.goto 10, 3) := by decide +kernel
theorem dX3_bringBack_16 : decode cX3_bringBack 16 = .ok (.aload_n 0, 1) := by decide +kernel
theorem dX3_bringBack_17 : decode cX3_bringBack 17 = .ok (.getfield 11, 3) := by decide +kernel
theorem dX3_bringBack_20 : decode cX3_bringBack 20 = .ok (.arraylength, 1) := by decide +kernel
theorem dX3_bringBack_21 : decode cX3_bringBack 21 = .ok (.iconst 1, 1) := by decide +kernel
theorem dX3_bringBack_22 : decode cX3_bringBack 22 = .ok (.isub, 1) := by decide +kernel
theorem dX3_bringBack_23 : decode cX3_bringBack 23 = .ok (.istore_n 2, 1) := by decide +kernel
theorem dX3_bringBack_24 : decode cX3_bringBack 24 = .ok (.aload_n 0, 1) := by decide +kernel
theorem dX3_bringBack_25 : decode cX3_bringBack 25 = .ok (.getfield 18, 3) := by decide +kernel
theorem dX3_bringBack_28 : decode cX3_bringBack 28 = .ok (.ifCond .le 16, 3) := by decide +kernel
theorem dX3_bringBack_31 : decode cX3_bringBack 31 = .ok (.iload_n 2, 1) := by decide +kernel
theorem dX3_bringBack_32 : decode cX3_bringBack 32 = .ok (.ifCond .lt 12, 3) := by decide +kernel
theorem dX3_bringBack_35 : decode cX3_bringBack 35 = .ok (.iload_n 2, 1) := by decide +kernel
theorem dX3_bringBack_36 : decode cX3_bringBack 36 = .ok (.aload_n 0, 1) := by decide +kernel
theorem dX3_bringBack_37 : decode cX3_bringBack 37 = .ok (.getfield 11, 3) := by decide +kernel
theorem dX3_bringBack_40 : decode cX3_bringBack 40 = .ok (.arraylength, 1) := by decide +kernel
theorem dX3_bringBack_41 : decode cX3_bringBack 41 = .ok (.if_icmp .lt 5, 3) := by decide +kernel
theorem dX3_bringBack_44 : decode cX3_bringBack 44 = .ok (.iconst 0, 1) := by decide +kernel
theorem dX3_bringBack_45 : decode cX3_bringBack 45 = .ok (.ireturn, 1) := by decide +kernel
theorem dX3_bringBack_46 : decode cX3_bringBack 46 = .ok (.aload_n 1, 1) := by decide +kernel
theorem dX3_bringBack_47 : decode cX3_bringBack 47 = .ok (.aload_n 0, 1) := by decide +kernel
theorem dX3_bringBack_48 : decode cX3_bringBack 48 = .ok (.getfield 11, 3) := by decide +kernel
theorem dX3_bringBack_51 : decode cX3_bringBack 51 = .ok (.iload_n 2, 1) := by decide +kernel
theorem dX3_bringBack_52 : decode cX3_bringBack 52 = .ok (.aaload, 1) := by decide +kernel
theorem dX3_bringBack_53 : decode cX3_bringBack 53 = .ok (.invokevirtual 25, 3) := by decide +kernel
theorem dX3_bringBack_56 : decode cX3_bringBack 56 = .ok (.aload_n 0, 1) := by decide +kernel
theorem dX3_bringBack_57 : decode cX3_bringBack 57 = .ok (.iload_n 2, 1) := by decide +kernel
theorem dX3_bringBack_58 : decode cX3_bringBack 58 = .ok (.putfield 22, 3) := by decide +kernel
theorem dX3_bringBack_61 : decode cX3_bringBack 61 = .ok (.aload_n 0, 1) := by decide +kernel
theorem dX3_bringBack_62 : decode cX3_bringBack 62 = .ok (.dup, 1) := by decide +kernel
theorem dX3_bringBack_63 : decode cX3_bringBack 63 = .ok (.getfield 18, 3) := by decide +kernel
theorem dX3_bringBack_66 : decode cX3_bringBack 66 = .ok (.iconst 1, 1) := by decide +kernel
theorem dX3_bringBack_67 : decode cX3_bringBack 67 = .ok (.isub, 1) := by decide +kernel
theorem dX3_bringBack_68 : decode cX3_bringBack 68 = .ok (.putfield 18, 3) := by decide +kernel
theorem dX3_bringBack_71 : decode cX3_bringBack 71 = .ok (.iconst 1, 1) := by decide +kernel
theorem dX3_bringBack_72 : decode cX3_bringBack 72 = .ok (.ireturn, 1) := by decide +kernel
theorem dX4_init_0 : decode cX4_init 0 = .ok (.aload_n 0, 1) := by decide +kernel
theorem dX4_init_1 : decode cX4_init 1 = .ok (.invokespecial 3, 3) := by decide +kernel
theorem dX4_init_4 : decode cX4_init 4 = .ok (.aload_n 0, 1) := by decide +kernel
theorem dX4_init_5 : decode cX4_init 5 = .ok (.bipush 40, 2) := by decide +kernel
theorem dX4_init_7 : decode cX4_init 7 = .ok (.newarray .int, 2) := by decide +kernel
theorem dX4_init_9 : decode cX4_init 9 = .ok (.putfield 9, 3) := by decide +kernel
theorem dX4_init_12 : decode cX4_init 12 = .ok (.return_, 1) := by decide +kernel
theorem dX4_begin_0 : decode cX4_begin 0 = .ok (.aload_n 0, 1) := by decide +kernel
theorem dX4_begin_1 : decode cX4_begin 1 = .ok (.iconst 1, 1) := by decide +kernel
theorem dX4_begin_2 : decode cX4_begin 2 = .ok (.putfield 15, 3) := by decide +kernel
theorem dX4_begin_5 : decode cX4_begin 5 = .ok (.aload_n 0, 1) := by decide +kernel
theorem dX4_begin_6 : decode cX4_begin 6 = .ok (.iload_n 1, 1) := by decide +kernel
theorem dX4_begin_7 : decode cX4_begin 7 = .ok (.putfield 19, 3) := by decide +kernel
theorem dX4_begin_10 : decode cX4_begin 10 = .ok (.aload_n 0, 1) := by decide +kernel
theorem dX4_begin_11 : decode cX4_begin 11 = .ok (.iconst 0, 1) := by decide +kernel
theorem dX4_begin_12 : decode cX4_begin 12 = .ok (.iload_n 2, 1) := by decide +kernel
theorem dX4_begin_13 : decode cX4_begin 13 = .ok (.aload_n 0, 1) := by decide +kernel
theorem dX4_begin_14 : decode cX4_begin 14 = .ok (.getfield 9, 3) := by decide +kernel
theorem dX4_begin_17 : decode cX4_begin 17 = .ok (.arraylength, 1) := by decide +kernel
theorem dX4_begin_18 : decode cX4_begin 18 = .ok (.invokestatic 23, 3) := by decide +kernel
theorem dX4_begin_21 : decode cX4_begin 21 = .ok (.invokestatic 29, 3) := by decide +kernel
theorem dX4_begin_24 : decode cX4_begin 24 = .ok (.putfield 32, 3) := by decide +kernel
theorem dX4_begin_27 : decode cX4_begin 27 = .ok (.iconst 0, 1) := by decide +kernel
theorem dX4_begin_28 : decode cX4_begin 28 = .ok (.istore_n 3, 1) := by decide +kernel
theorem dX4_begin_29 : decode cX4_begin 29 = .ok (.iload_n 3, 1) := by decide +kernel
theorem dX4_begin_30 : decode cX4_begin 30 = .ok (.aload_n 0, 1) := by decide +kernel
theorem dX4_begin_31 : decode cX4_begin 31 = .ok (.getfield 9, 3) := by decide +kernel
theorem dX4_begin_34 : decode cX4_begin 34 = .ok (.arraylength, 1) := by decide +kernel
theorem dX4_begin_35 : decode cX4_begin 35 = .ok (.if_icmp .ge 16, 3) := by decide +kernel
theorem dX4_begin_38 : decode cX4_begin 38 = .ok (.aload_n 0, 1) := by decide +kernel
theorem dX4_begin_39 : decode cX4_begin 39 = .ok (.getfield 9, 3) := by decide +kernel
theorem dX4_begin_42 : decode cX4_begin 42 = .ok (.iload_n 3, 1) := by decide +kernel
theorem dX4_begin_43 : decode cX4_begin 43 = .ok (.iconst 0, 1) := by decide +kernel
theorem dX4_begin_44 : decode cX4_begin 44 = .ok (.iastore, 1) := by decide +kernel
theorem dX4_begin_45 : decode cX4_begin 45 = .ok (.iinc 3 1, 3) := by decide +kernel
theorem dX4_begin_48 : decode cX4_begin 48 = .ok (.goto (-19), 3) := by decide +kernel
theorem dX4_begin_51 : decode cX4_begin 51 = .ok (.return_, 1) := by decide +kernel
theorem dX4_hasPlaces_0 : decode cX4_hasPlaces 0 = .ok (.iload_n 1, 1) := by decide +kernel
theorem dX4_hasPlaces_1 : decode cX4_hasPlaces 1 = .ok (.ifCond .lt 29, 3) := by decide +kernel
theorem dX4_hasPlaces_4 : decode cX4_hasPlaces 4 = .ok (.iload_n 2, 1) := by decide +kernel
theorem dX4_hasPlaces_5 : decode cX4_hasPlaces 5 = .ok (.ifCond .lt 25, 3) := by decide +kernel
theorem dX4_hasPlaces_8 : decode cX4_hasPlaces 8 = .ok (.iload_n 1, 1) := by decide +kernel
theorem dX4_hasPlaces_9 : decode cX4_hasPlaces 9 = .ok (.aload_n 0, 1) := by decide +kernel
theorem dX4_hasPlaces_10 : decode cX4_hasPlaces 10 = .ok (.getfield 32, 3) := by decide +kernel
theorem dX4_hasPlaces_13 : decode cX4_hasPlaces 13 = .ok (.if_icmp .gt 17, 3) := by decide +kernel
theorem dX4_hasPlaces_16 : decode cX4_hasPlaces 16 = .ok (.iload_n 2, 1) := by decide +kernel
theorem dX4_hasPlaces_17 : decode cX4_hasPlaces 17 = .ok (.aload_n 0, 1) := by decide +kernel
theorem dX4_hasPlaces_18 : decode cX4_hasPlaces 18 = .ok (.getfield 32, 3) := by decide +kernel
theorem dX4_hasPlaces_21 : decode cX4_hasPlaces 21 = .ok (.iload_n 1, 1) := by decide +kernel
theorem dX4_hasPlaces_22 : decode cX4_hasPlaces 22 = .ok (.isub, 1) := by decide +kernel
theorem dX4_hasPlaces_23 : decode cX4_hasPlaces 23 = .ok (.if_icmp .gt 7, 3) := by decide +kernel
theorem dX4_hasPlaces_26 : decode cX4_hasPlaces 26 = .ok (.iconst 1, 1) := by decide +kernel
theorem dX4_hasPlaces_27 : decode cX4_hasPlaces 27 = .ok (.goto 4, 3) := by decide +kernel
theorem dX4_hasPlaces_30 : decode cX4_hasPlaces 30 = .ok (.iconst 0, 1) := by decide +kernel
theorem dX4_hasPlaces_31 : decode cX4_hasPlaces 31 = .ok (.ireturn, 1) := by decide +kernel
theorem dX4_at_0 : decode cX4_at 0 = .ok (.iload_n 1, 1) := by decide +kernel
theorem dX4_at_1 : decode cX4_at 1 = .ok (.ifCond .lt 21, 3) := by decide +kernel
theorem dX4_at_4 : decode cX4_at 4 = .ok (.iload_n 1, 1) := by decide +kernel
theorem dX4_at_5 : decode cX4_at 5 = .ok (.aload_n 0, 1) := by decide +kernel
theorem dX4_at_6 : decode cX4_at 6 = .ok (.getfield 9, 3) := by decide +kernel
theorem dX4_at_9 : decode cX4_at 9 = .ok (.arraylength, 1) := by decide +kernel
theorem dX4_at_10 : decode cX4_at 10 = .ok (.if_icmp .ge 12, 3) := by decide +kernel
theorem dX4_at_13 : decode cX4_at 13 = .ok (.aload_n 0, 1) := by decide +kernel
theorem dX4_at_14 : decode cX4_at 14 = .ok (.getfield 9, 3) := by decide +kernel
theorem dX4_at_17 : decode cX4_at 17 = .ok (.iload_n 1, 1) := by decide +kernel
theorem dX4_at_18 : decode cX4_at 18 = .ok (.iaload, 1) := by decide +kernel
theorem dX4_at_19 : decode cX4_at 19 = .ok (.goto 4, 3) := by decide +kernel
theorem dX4_at_22 : decode cX4_at 22 = .ok (.iconst 0, 1) := by decide +kernel
theorem dX4_at_23 : decode cX4_at 23 = .ok (.ireturn, 1) := by decide +kernel
theorem dX4_put_0 : decode cX4_put 0 = .ok (.aload_n 0, 1) := by decide +kernel
theorem dX4_put_1 : decode cX4_put 1 = .ok (.getfield 19, 3) := by decide +kernel
theorem dX4_put_4 : decode cX4_put 4 = .ok (.ifCond .ne 8, 3) := by decide +kernel
theorem dX4_put_7 : decode cX4_put 7 = .ok (.iload_n 2, 1) := by decide +kernel
theorem dX4_put_8 : decode cX4_put 8 = .ok (.i2b, 1) := by decide +kernel
theorem dX4_put_9 : decode cX4_put 9 = .ok (.goto 17, 3) := by decide +kernel
theorem dX4_put_12 : decode cX4_put 12 = .ok (.aload_n 0, 1) := by decide +kernel
theorem dX4_put_13 : decode cX4_put 13 = .ok (.getfield 19, 3) := by decide +kernel
theorem dX4_put_16 : decode cX4_put 16 = .ok (.iconst 1, 1) := by decide +kernel
theorem dX4_put_17 : decode cX4_put 17 = .ok (.if_icmp .ne 8, 3) := by decide +kernel
theorem dX4_put_20 : decode cX4_put 20 = .ok (.iload_n 2, 1) := by decide +kernel
theorem dX4_put_21 : decode cX4_put 21 = .ok (.i2s, 1) := by decide +kernel
theorem dX4_put_22 : decode cX4_put 22 = .ok (.goto 4, 3) := by decide +kernel
theorem dX4_put_25 : decode cX4_put 25 = .ok (.iload_n 2, 1) := by decide +kernel
theorem dX4_put_26 : decode cX4_put 26 = .ok (.istore_n 3, 1) := by decide +kernel
theorem dX4_put_27 : decode cX4_put 27 = .ok (.iload_n 1, 1) := by decide +kernel
theorem dX4_put_28 : decode cX4_put 28 = .ok (.ifCond .lt 19, 3) := by decide +kernel
theorem dX4_put_31 : decode cX4_put 31 = .ok (.iload_n 1, 1) := by decide +kernel
theorem dX4_put_32 : decode cX4_put 32 = .ok (.aload_n 0, 1) := by decide +kernel
theorem dX4_put_33 : decode cX4_put 33 = .ok (.getfield 9, 3) := by decide +kernel
theorem dX4_put_36 : decode cX4_put 36 = .ok (.arraylength, 1) := by decide +kernel
theorem dX4_put_37 : decode cX4_put 37 = .ok (.if_icmp .ge 10, 3) := by decide +kernel
theorem dX4_put_40 : decode cX4_put 40 = .ok (.aload_n 0, 1) := by decide +kernel
theorem dX4_put_41 : decode cX4_put 41 = .ok (.getfield 9, 3) := by decide +kernel
theorem dX4_put_44 : decode cX4_put 44 = .ok (.iload_n 1, 1) := by decide +kernel
theorem dX4_put_45 : decode cX4_put 45 = .ok (.iload_n 3, 1) := by decide +kernel
theorem dX4_put_46 : decode cX4_put 46 = .ok (.iastore, 1) := by decide +kernel
theorem dX4_put_47 : decode cX4_put 47 = .ok (.iload_n 3, 1) := by decide +kernel
theorem dX4_put_48 : decode cX4_put 48 = .ok (.ireturn, 1) := by decide +kernel
theorem dX5_init_0 : decode cX5_init 0 = .ok (.aload_n 0, 1) := by decide +kernel
theorem dX5_init_1 : decode cX5_init 1 = .ok (.invokespecial 3, 3) := by decide +kernel
theorem dX5_init_4 : decode cX5_init 4 = .ok (.aload_n 0, 1) := by decide +kernel
theorem dX5_init_5 : decode cX5_init 5 = .ok (.bipush 7, 2) := by decide +kernel
theorem dX5_init_7 : decode cX5_init 7 = .ok (.anewarray 9, 3) := by decide +kernel
theorem dX5_init_10 : decode cX5_init 10 = .ok (.putfield 11, 3) := by decide +kernel
theorem dX5_init_13 : decode cX5_init 13 = .ok (.aload_n 0, 1) := by decide +kernel
theorem dX5_init_14 : decode cX5_init 14 = .ok (.iconst 4, 1) := by decide +kernel
theorem dX5_init_15 : decode cX5_init 15 = .ok (.anewarray 17, 3) := by decide +kernel
theorem dX5_init_18 : decode cX5_init 18 = .ok (.putfield 19, 3) := by decide +kernel
theorem dX5_init_21 : decode cX5_init 21 = .ok (.iconst 0, 1) := by decide +kernel
theorem dX5_init_22 : decode cX5_init 22 = .ok (.istore_n 1, 1) := by decide +kernel
theorem dX5_init_23 : decode cX5_init 23 = .ok (.iload_n 1, 1) := by decide +kernel
theorem dX5_init_24 : decode cX5_init 24 = .ok (.aload_n 0, 1) := by decide +kernel
theorem dX5_init_25 : decode cX5_init 25 = .ok (.getfield 11, 3) := by decide +kernel
theorem dX5_init_28 : decode cX5_init 28 = .ok (.arraylength, 1) := by decide +kernel
theorem dX5_init_29 : decode cX5_init 29 = .ok (.if_icmp .ge 23, 3) := by decide +kernel
theorem dX5_init_32 : decode cX5_init 32 = .ok (.aload_n 0, 1) := by decide +kernel
theorem dX5_init_33 : decode cX5_init 33 = .ok (.getfield 11, 3) := by decide +kernel
theorem dX5_init_36 : decode cX5_init 36 = .ok (.iload_n 1, 1) := by decide +kernel
theorem dX5_init_37 : decode cX5_init 37 = .ok (.new 9, 3) := by decide +kernel
theorem dX5_init_40 : decode cX5_init 40 = .ok (.dup, 1) := by decide +kernel
theorem dX5_init_41 : decode cX5_init 41 = .ok (.iload_n 1, 1) := by decide +kernel
theorem dX5_init_42 : decode cX5_init 42 = .ok (.invokespecial 23, 3) := by decide +kernel
theorem dX5_init_45 : decode cX5_init 45 = .ok (.aastore, 1) := by decide +kernel
theorem dX5_init_46 : decode cX5_init 46 = .ok (.iinc 1 1, 3) := by decide +kernel
theorem dX5_init_49 : decode cX5_init 49 = .ok (.goto (-26), 3) := by decide +kernel
theorem dX5_init_52 : decode cX5_init 52 = .ok (.iconst 0, 1) := by decide +kernel
theorem dX5_init_53 : decode cX5_init 53 = .ok (.istore_n 1, 1) := by decide +kernel
theorem dX5_init_54 : decode cX5_init 54 = .ok (.iload_n 1, 1) := by decide +kernel
theorem dX5_init_55 : decode cX5_init 55 = .ok (.aload_n 0, 1) := by decide +kernel
theorem dX5_init_56 : decode cX5_init 56 = .ok (.getfield 19, 3) := by decide +kernel
theorem dX5_init_59 : decode cX5_init 59 = .ok (.arraylength, 1) := by decide +kernel
theorem dX5_init_60 : decode cX5_init 60 = .ok (.if_icmp .ge 23, 3) := by decide +kernel
theorem dX5_init_63 : decode cX5_init 63 = .ok (.aload_n 0, 1) := by decide +kernel
theorem dX5_init_64 : decode cX5_init 64 = .ok (.getfield 19, 3) := by decide +kernel
theorem dX5_init_67 : decode cX5_init 67 = .ok (.iload_n 1, 1) := by decide +kernel
theorem dX5_init_68 : decode cX5_init 68 = .ok (.new 17, 3) := by decide +kernel
theorem dX5_init_71 : decode cX5_init 71 = .ok (.dup, 1) := by decide +kernel
theorem dX5_init_72 : decode cX5_init 72 = .ok (.iload_n 1, 1) := by decide +kernel
theorem dX5_init_73 : decode cX5_init 73 = .ok (.invokespecial 26, 3) := by decide +kernel
theorem dX5_init_76 : decode cX5_init 76 = .ok (.aastore, 1) := by decide +kernel
theorem dX5_init_77 : decode cX5_init 77 = .ok (.iinc 1 1, 3) := by decide +kernel
theorem dX5_init_80 : decode cX5_init 80 = .ok (.goto (-26), 3) := by decide +kernel
theorem dX5_init_83 : decode cX5_init 83 = .ok (.return_, 1) := by decide +kernel
theorem dX5_take_0 : decode cX5_take 0 = .ok (.aload_n 0, 1) := by decide +kernel
theorem dX5_take_1 : decode cX5_take 1 = .ok (.aload_n 1, 1) := by decide +kernel
theorem dX5_take_2 : decode cX5_take 2 = .ok (.getfield 27, 3) := by decide +kernel
theorem dX5_take_5 : decode cX5_take 5 = .ok (.putfield 27, 3) := by decide +kernel
theorem dX5_take_8 : decode cX5_take 8 = .ok (.aload_n 0, 1) := by decide +kernel
theorem dX5_take_9 : decode cX5_take 9 = .ok (.aload_n 1, 1) := by decide +kernel
theorem dX5_take_10 : decode cX5_take 10 = .ok (.getfield 31, 3) := by decide +kernel
theorem dX5_take_13 : decode cX5_take 13 = .ok (.putfield 31, 3) := by decide +kernel
theorem dX5_take_16 : decode cX5_take 16 = .ok (.aload_n 0, 1) := by decide +kernel
theorem dX5_take_17 : decode cX5_take 17 = .ok (.aload_n 1, 1) := by decide +kernel
theorem dX5_take_18 : decode cX5_take 18 = .ok (.getfield 34, 3) := by decide +kernel
theorem dX5_take_21 : decode cX5_take 21 = .ok (.putfield 34, 3) := by decide +kernel
theorem dX5_take_24 : decode cX5_take 24 = .ok (.aload_n 0, 1) := by decide +kernel
theorem dX5_take_25 : decode cX5_take 25 = .ok (.aload_n 1, 1) := by decide +kernel
theorem dX5_take_26 : decode cX5_take 26 = .ok (.getfield 37, 3) := by decide +kernel
theorem dX5_take_29 : decode cX5_take 29 = .ok (.putfield 37, 3) := by decide +kernel
theorem dX5_take_32 : decode cX5_take 32 = .ok (.aload_n 0, 1) := by decide +kernel
theorem dX5_take_33 : decode cX5_take 33 = .ok (.aload_n 1, 1) := by decide +kernel
theorem dX5_take_34 : decode cX5_take 34 = .ok (.getfield 40, 3) := by decide +kernel
theorem dX5_take_37 : decode cX5_take 37 = .ok (.putfield 40, 3) := by decide +kernel
theorem dX5_take_40 : decode cX5_take 40 = .ok (.aload_n 0, 1) := by decide +kernel
theorem dX5_take_41 : decode cX5_take 41 = .ok (.iconst 0, 1) := by decide +kernel
theorem dX5_take_42 : decode cX5_take 42 = .ok (.putfield 43, 3) := by decide +kernel
theorem dX5_take_45 : decode cX5_take 45 = .ok (.iconst 0, 1) := by decide +kernel
theorem dX5_take_46 : decode cX5_take 46 = .ok (.istore_n 2, 1) := by decide +kernel
theorem dX5_take_47 : decode cX5_take 47 = .ok (.iload_n 2, 1) := by decide +kernel
theorem dX5_take_48 : decode cX5_take 48 = .ok (.aload_n 0, 1) := by decide +kernel
theorem dX5_take_49 : decode cX5_take 49 = .ok (.getfield 11, 3) := by decide +kernel
theorem dX5_take_52 : decode cX5_take 52 = .ok (.arraylength, 1) := by decide +kernel
theorem dX5_take_53 : decode cX5_take 53 = .ok (.if_icmp .ge 33, 3) := by decide +kernel
theorem dX5_take_56 : decode cX5_take 56 = .ok (.iload_n 2, 1) := by decide +kernel
theorem dX5_take_57 : decode cX5_take 57 = .ok (.aload_n 1, 1) := by decide +kernel
theorem dX5_take_58 : decode cX5_take 58 = .ok (.getfield 11, 3) := by decide +kernel
theorem dX5_take_61 : decode cX5_take 61 = .ok (.arraylength, 1) := by decide +kernel
theorem dX5_take_62 : decode cX5_take 62 = .ok (.if_icmp .ge 24, 3) := by decide +kernel
theorem dX5_take_65 : decode cX5_take 65 = .ok (.aload_n 0, 1) := by decide +kernel
theorem dX5_take_66 : decode cX5_take 66 = .ok (.getfield 11, 3) := by decide +kernel
theorem dX5_take_69 : decode cX5_take 69 = .ok (.iload_n 2, 1) := by decide +kernel
theorem dX5_take_70 : decode cX5_take 70 = .ok (.aaload, 1) := by decide +kernel
theorem dX5_take_71 : decode cX5_take 71 = .ok (.aload_n 1, 1) := by decide +kernel
theorem dX5_take_72 : decode cX5_take 72 = .ok (.getfield 11, 3) := by decide +kernel
theorem dX5_take_75 : decode cX5_take 75 = .ok (.iload_n 2, 1) := by decide +kernel
theorem dX5_take_76 : decode cX5_take 76 = .ok (.aaload, 1) := by decide +kernel
theorem dX5_take_77 : decode cX5_take 77 = .ok (.invokevirtual 46, 3) := by decide +kernel
theorem dX5_take_80 : decode cX5_take 80 = .ok (.iinc 2 1, 3) := by decide +kernel
theorem dX5_take_83 : decode cX5_take 83 = .ok (.goto (-36), 3) := by decide +kernel
theorem dX5_take_86 : decode cX5_take 86 = .ok (.iconst 0, 1) := by decide +kernel
theorem dX5_take_87 : decode cX5_take 87 = .ok (.istore_n 2, 1) := by decide +kernel
theorem dX5_take_88 : decode cX5_take 88 = .ok (.iload_n 2, 1) := by decide +kernel
theorem dX5_take_89 : decode cX5_take 89 = .ok (.aload_n 0, 1) := by decide +kernel
theorem dX5_take_90 : decode cX5_take 90 = .ok (.getfield 19, 3) := by decide +kernel
theorem dX5_take_93 : decode cX5_take 93 = .ok (.arraylength, 1) := by decide +kernel
theorem dX5_take_94 : decode cX5_take 94 = .ok (.if_icmp .ge 33, 3) := by decide +kernel
theorem dX5_take_97 : decode cX5_take 97 = .ok (.iload_n 2, 1) := by decide +kernel
theorem dX5_take_98 : decode cX5_take 98 = .ok (.aload_n 1, 1) := by decide +kernel
theorem dX5_take_99 : decode cX5_take 99 = .ok (.getfield 19, 3) := by decide +kernel
theorem dX5_take_102 : decode cX5_take 102 = .ok (.arraylength, 1) := by decide +kernel
theorem dX5_take_103 : decode cX5_take 103 = .ok (.if_icmp .ge 24, 3) := by decide +kernel
theorem dX5_take_106 : decode cX5_take 106 = .ok (.aload_n 0, 1) := by decide +kernel
theorem dX5_take_107 : decode cX5_take 107 = .ok (.getfield 19, 3) := by decide +kernel
theorem dX5_take_110 : decode cX5_take 110 = .ok (.iload_n 2, 1) := by decide +kernel
theorem dX5_take_111 : decode cX5_take 111 = .ok (.aaload, 1) := by decide +kernel
theorem dX5_take_112 : decode cX5_take 112 = .ok (.aload_n 1, 1) := by decide +kernel
theorem dX5_take_113 : decode cX5_take 113 = .ok (.getfield 19, 3) := by decide +kernel
theorem dX5_take_116 : decode cX5_take 116 = .ok (.iload_n 2, 1) := by decide +kernel
theorem dX5_take_117 : decode cX5_take 117 = .ok (.aaload, 1) := by decide +kernel
theorem dX5_take_118 : decode cX5_take 118 = .ok (.invokevirtual 50, 3) := by decide +kernel
theorem dX5_take_121 : decode cX5_take 121 = .ok (.iinc 2 1, 3) := by decide +kernel
theorem dX5_take_124 : decode cX5_take 124 = .ok (.goto (-36), 3) := by decide +kernel
theorem dX5_take_127 : decode cX5_take 127 = .ok (.return_, 1) := by decide +kernel
theorem dX5_clear_0 : decode cX5_clear 0 = .ok (.aload_n 0, 1) := by decide +kernel
theorem dX5_clear_1 : decode cX5_clear 1 = .ok (.iconst 0, 1) := by decide +kernel
theorem dX5_clear_2 : decode cX5_clear 2 = .ok (.putfield 27, 3) := by decide +kernel
theorem dX5_clear_5 : decode cX5_clear 5 = .ok (.aload_n 0, 1) := by decide +kernel
theorem dX5_clear_6 : decode cX5_clear 6 = .ok (.iconst 0, 1) := by decide +kernel
theorem dX5_clear_7 : decode cX5_clear 7 = .ok (.putfield 31, 3) := by decide +kernel
theorem dX5_clear_10 : decode cX5_clear 10 = .ok (.aload_n 0, 1) := by decide +kernel
theorem dX5_clear_11 : decode cX5_clear 11 = .ok (.iconst 0, 1) := by decide +kernel
theorem dX5_clear_12 : decode cX5_clear 12 = .ok (.putfield 40, 3) := by decide +kernel
theorem dX5_clear_15 : decode cX5_clear 15 = .ok (.aload_n 0, 1) := by decide +kernel
theorem dX5_clear_16 : decode cX5_clear 16 = .ok (.getfield 11, 3) := by decide +kernel
theorem dX5_clear_19 : decode cX5_clear 19 = .ok (.astore_n 1, 1) := by decide +kernel
theorem dX5_clear_20 : decode cX5_clear 20 = .ok (.aload_n 1, 1) := by decide +kernel
theorem dX5_clear_21 : decode cX5_clear 21 = .ok (.arraylength, 1) := by decide +kernel
theorem dX5_clear_22 : decode cX5_clear 22 = .ok (.istore_n 2, 1) := by decide +kernel
theorem dX5_clear_23 : decode cX5_clear 23 = .ok (.iconst 0, 1) := by decide +kernel
theorem dX5_clear_24 : decode cX5_clear 24 = .ok (.istore_n 3, 1) := by decide +kernel
theorem dX5_clear_25 : decode cX5_clear 25 = .ok (.iload_n 3, 1) := by decide +kernel
theorem dX5_clear_26 : decode cX5_clear 26 = .ok (.iload_n 2, 1) := by decide +kernel
theorem dX5_clear_27 : decode cX5_clear 27 = .ok (.if_icmp .ge 20, 3) := by decide +kernel
theorem dX5_clear_30 : decode cX5_clear 30 = .ok (.aload_n 1, 1) := by decide +kernel
theorem dX5_clear_31 : decode cX5_clear 31 = .ok (.iload_n 3, 1) := by decide +kernel
theorem dX5_clear_32 : decode cX5_clear 32 = .ok (.aaload, 1) := by decide +kernel
theorem dX5_clear_33 : decode cX5_clear 33 = .ok (.astore 4, 2) := by decide +kernel
theorem dX5_clear_35 : decode cX5_clear 35 = .ok (.aload 4, 2) := by decide +kernel
theorem dX5_clear_37 : decode cX5_clear 37 = .ok (.iconst 0, 1) := by decide +kernel
theorem dX5_clear_38 : decode cX5_clear 38 = .ok (.putfield 53, 3) := by decide +kernel
theorem dX5_clear_41 : decode cX5_clear 41 = .ok (.iinc 3 1, 3) := by decide +kernel
theorem dX5_clear_44 : decode cX5_clear 44 = .ok (.goto (-19), 3) := by decide +kernel
theorem dX5_clear_47 : decode cX5_clear 47 = .ok (.aload_n 0, 1) := by decide +kernel
theorem dX5_clear_48 : decode cX5_clear 48 = .ok (.getfield 19, 3) := by decide +kernel
theorem dX5_clear_51 : decode cX5_clear 51 = .ok (.astore_n 1, 1) := by decide +kernel
theorem dX5_clear_52 : decode cX5_clear 52 = .ok (.aload_n 1, 1) := by decide +kernel
theorem dX5_clear_53 : decode cX5_clear 53 = .ok (.arraylength, 1) := by decide +kernel
theorem dX5_clear_54 : decode cX5_clear 54 = .ok (.istore_n 2, 1) := by decide +kernel
theorem dX5_clear_55 : decode cX5_clear 55 = .ok (.iconst 0, 1) := by decide +kernel
theorem dX5_clear_56 : decode cX5_clear 56 = .ok (.istore_n 3, 1) := by decide +kernel
theorem dX5_clear_57 : decode cX5_clear 57 = .ok (.iload_n 3, 1) := by decide +kernel
theorem dX5_clear_58 : decode cX5_clear 58 = .ok (.iload_n 2, 1) := by decide +kernel
theorem dX5_clear_59 : decode cX5_clear 59 = .ok (.if_icmp .ge 20, 3) := by decide +kernel
theorem dX5_clear_62 : decode cX5_clear 62 = .ok (.aload_n 1, 1) := by decide +kernel
theorem dX5_clear_63 : decode cX5_clear 63 = .ok (.iload_n 3, 1) := by decide +kernel
theorem dX5_clear_64 : decode cX5_clear 64 = .ok (.aaload, 1) := by decide +kernel
theorem dX5_clear_65 : decode cX5_clear 65 = .ok (.astore 4, 2) := by decide +kernel
theorem dX5_clear_67 : decode cX5_clear 67 = .ok (.aload 4, 2) := by decide +kernel
theorem dX5_clear_69 : decode cX5_clear 69 = .ok (.iconst 0, 1) := by decide +kernel
theorem dX5_clear_70 : decode cX5_clear 70 = .ok (.putfield 56, 3) := by decide +kernel
theorem dX5_clear_73 : decode cX5_clear 73 = .ok (.iinc 3 1, 3) := by decide +kernel
theorem dX5_clear_76 : decode cX5_clear 76 = .ok (.goto (-19), 3) := by decide +kernel
theorem dX5_clear_79 : decode cX5_clear 79 = .ok (.return_, 1) := by decide +kernel
theorem dX5_isThere_0 : decode cX5_isThere 0 = .ok (.aload_n 0, 1) := by decide +kernel
theorem dX5_isThere_1 : decode cX5_isThere 1 = .ok (.getfield 27, 3) := by decide +kernel
theorem dX5_isThere_4 : decode cX5_isThere 4 = .ok (.ifCond .le 7, 3) := by decide +kernel
theorem dX5_isThere_7 : decode cX5_isThere 7 = .ok (.iconst 1, 1) := by decide +kernel
theorem dX5_isThere_8 : decode cX5_isThere 8 = .ok (.goto 4, 3) := by decide +kernel
theorem dX5_isThere_11 : decode cX5_isThere 11 = .ok (.iconst 0, 1) := by decide +kernel
theorem dX5_isThere_12 : decode cX5_isThere 12 = .ok (.ireturn, 1) := by decide +kernel
theorem dX5_leafAt_0 : decode cX5_leafAt 0 = .ok (.iload_n 1, 1) := by decide +kernel
theorem dX5_leafAt_1 : decode cX5_leafAt 1 = .ok (.ifCond .lt 29, 3) := by decide +kernel
theorem dX5_leafAt_4 : decode cX5_leafAt 4 = .ok (.iload_n 1, 1) := by decide +kernel
theorem dX5_leafAt_5 : decode cX5_leafAt 5 = .ok (.aload_n 0, 1) := by decide +kernel
theorem dX5_leafAt_6 : decode cX5_leafAt 6 = .ok (.getfield 27, 3) := by decide +kernel
theorem dX5_leafAt_9 : decode cX5_leafAt 9 = .ok (.if_icmp .ge 21, 3) := by decide +kernel
theorem dX5_leafAt_12 : decode cX5_leafAt 12 = .ok (.iload_n 1, 1) := by decide +kernel
theorem dX5_leafAt_13 : decode cX5_leafAt 13 = .ok (.aload_n 0, 1) := by decide +kernel
theorem dX5_leafAt_14 : decode cX5_leafAt 14 = .ok (.getfield 11, 3) := by decide +kernel
theorem dX5_leafAt_17 : decode cX5_leafAt 17 = .ok (.arraylength, 1) := by decide +kernel
theorem dX5_leafAt_18 : decode cX5_leafAt 18 = .ok (.if_icmp .ge 12, 3) := by decide +kernel
theorem dX5_leafAt_21 : decode cX5_leafAt 21 = .ok (.aload_n 0, 1) := by decide +kernel
theorem dX5_leafAt_22 : decode cX5_leafAt 22 = .ok (.getfield 11, 3) := by decide +kernel
theorem dX5_leafAt_25 : decode cX5_leafAt 25 = .ok (.iload_n 1, 1) := by decide +kernel
theorem dX5_leafAt_26 : decode cX5_leafAt 26 = .ok (.aaload, 1) := by decide +kernel
theorem dX5_leafAt_27 : decode cX5_leafAt 27 = .ok (.goto 4, 3) := by decide +kernel
theorem dX5_leafAt_30 : decode cX5_leafAt 30 = .ok (.aconst_null, 1) := by decide +kernel
theorem dX5_leafAt_31 : decode cX5_leafAt 31 = .ok (.areturn, 1) := by decide +kernel
theorem dX5_goatAt_0 : decode cX5_goatAt 0 = .ok (.iload_n 1, 1) := by decide +kernel
theorem dX5_goatAt_1 : decode cX5_goatAt 1 = .ok (.ifCond .lt 29, 3) := by decide +kernel
theorem dX5_goatAt_4 : decode cX5_goatAt 4 = .ok (.iload_n 1, 1) := by decide +kernel
theorem dX5_goatAt_5 : decode cX5_goatAt 5 = .ok (.aload_n 0, 1) := by decide +kernel
theorem dX5_goatAt_6 : decode cX5_goatAt 6 = .ok (.getfield 31, 3) := by decide +kernel
theorem dX5_goatAt_9 : decode cX5_goatAt 9 = .ok (.if_icmp .ge 21, 3) := by decide +kernel
theorem dX5_goatAt_12 : decode cX5_goatAt 12 = .ok (.iload_n 1, 1) := by decide +kernel
theorem dX5_goatAt_13 : decode cX5_goatAt 13 = .ok (.aload_n 0, 1) := by decide +kernel
theorem dX5_goatAt_14 : decode cX5_goatAt 14 = .ok (.getfield 19, 3) := by decide +kernel
theorem dX5_goatAt_17 : decode cX5_goatAt 17 = .ok (.arraylength, 1) := by decide +kernel
theorem dX5_goatAt_18 : decode cX5_goatAt 18 = .ok (.if_icmp .ge 12, 3) := by decide +kernel
theorem dX5_goatAt_21 : decode cX5_goatAt 21 = .ok (.aload_n 0, 1) := by decide +kernel
theorem dX5_goatAt_22 : decode cX5_goatAt 22 = .ok (.getfield 19, 3) := by decide +kernel
theorem dX5_goatAt_25 : decode cX5_goatAt 25 = .ok (.iload_n 1, 1) := by decide +kernel
theorem dX5_goatAt_26 : decode cX5_goatAt 26 = .ok (.aaload, 1) := by decide +kernel
theorem dX5_goatAt_27 : decode cX5_goatAt 27 = .ok (.goto 4, 3) := by decide +kernel
theorem dX5_goatAt_30 : decode cX5_goatAt 30 = .ok (.aconst_null, 1) := by decide +kernel
theorem dX5_goatAt_31 : decode cX5_goatAt 31 = .ok (.areturn, 1) := by decide +kernel
theorem dX5_leafIn_0 : decode cX5_leafIn 0 = .ok (.aload_n 0, 1) := by decide +kernel
theorem dX5_leafIn_1 : decode cX5_leafIn 1 = .ok (.aload_n 1, 1) := by decide +kernel
theorem dX5_leafIn_2 : decode cX5_leafIn 2 = .ok (.invokevirtual 59, 3) := by decide +kernel
theorem dX5_leafIn_5 : decode cX5_leafIn 5 = .ok (.aload_n 0, 1) := by decide +kernel
theorem dX5_leafIn_6 : decode cX5_leafIn 6 = .ok (.iload_n 2, 1) := by decide +kernel
theorem dX5_leafIn_7 : decode cX5_leafIn 7 = .ok (.invokevirtual 62, 3) := by decide +kernel
theorem dX5_leafIn_10 : decode cX5_leafIn 10 = .ok (.areturn, 1) := by decide +kernel
theorem dX5_hasLeaves_0 : decode cX5_hasLeaves 0 = .ok (.iload_n 1, 1) := by decide +kernel
theorem dX5_hasLeaves_1 : decode cX5_hasLeaves 1 = .ok (.ifCond .lt 17, 3) := by decide +kernel
theorem dX5_hasLeaves_4 : decode cX5_hasLeaves 4 = .ok (.iload_n 1, 1) := by decide +kernel
theorem dX5_hasLeaves_5 : decode cX5_hasLeaves 5 = .ok (.iconst 1, 1) := by decide +kernel
theorem dX5_hasLeaves_6 : decode cX5_hasLeaves 6 = .ok (.aload_n 0, 1) := by decide +kernel
theorem dX5_hasLeaves_7 : decode cX5_hasLeaves 7 = .ok (.getfield 27, 3) := by decide +kernel
theorem dX5_hasLeaves_10 : decode cX5_hasLeaves 10 = .ok (.ishl, 1) := by decide +kernel
theorem dX5_hasLeaves_11 : decode cX5_hasLeaves 11 = .ok (.if_icmp .ge 7, 3) := by decide +kernel
theorem dX5_hasLeaves_14 : decode cX5_hasLeaves 14 = .ok (.iconst 1, 1) := by decide +kernel
theorem dX5_hasLeaves_15 : decode cX5_hasLeaves 15 = .ok (.goto 4, 3) := by decide +kernel
theorem dX5_hasLeaves_18 : decode cX5_hasLeaves 18 = .ok (.iconst 0, 1) := by decide +kernel
theorem dX5_hasLeaves_19 : decode cX5_hasLeaves 19 = .ok (.ireturn, 1) := by decide +kernel
theorem dX5_inForce_0 : decode cX5_inForce 0 = .ok (.iconst 0, 1) := by decide +kernel
theorem dX5_inForce_1 : decode cX5_inForce 1 = .ok (.istore_n 1, 1) := by decide +kernel
theorem dX5_inForce_2 : decode cX5_inForce 2 = .ok (.aload_n 0, 1) := by decide +kernel
theorem dX5_inForce_3 : decode cX5_inForce 3 = .ok (.getfield 11, 3) := by decide +kernel
theorem dX5_inForce_6 : decode cX5_inForce 6 = .ok (.astore_n 2, 1) := by decide +kernel
theorem dX5_inForce_7 : decode cX5_inForce 7 = .ok (.aload_n 2, 1) := by decide +kernel
theorem dX5_inForce_8 : decode cX5_inForce 8 = .ok (.arraylength, 1) := by decide +kernel
theorem dX5_inForce_9 : decode cX5_inForce 9 = .ok (.istore_n 3, 1) := by decide +kernel
theorem dX5_inForce_10 : decode cX5_inForce 10 = .ok (.iconst 0, 1) := by decide +kernel
theorem dX5_inForce_11 : decode cX5_inForce 11 = .ok (.istore 4, 2) := by decide +kernel
theorem dX5_inForce_13 : decode cX5_inForce 13 = .ok (.iload 4, 2) := by decide +kernel
theorem dX5_inForce_15 : decode cX5_inForce 15 = .ok (.iload_n 3, 1) := by decide +kernel
theorem dX5_inForce_16 : decode cX5_inForce 16 = .ok (.if_icmp .ge 37, 3) := by decide +kernel
theorem dX5_inForce_19 : decode cX5_inForce 19 = .ok (.aload_n 2, 1) := by decide +kernel
theorem dX5_inForce_20 : decode cX5_inForce 20 = .ok (.iload 4, 2) := by decide +kernel
theorem dX5_inForce_22 : decode cX5_inForce 22 = .ok (.aaload, 1) := by decide +kernel
theorem dX5_inForce_23 : decode cX5_inForce 23 = .ok (.astore 5, 2) := by decide +kernel
theorem dX5_inForce_25 : decode cX5_inForce 25 = .ok (.iload_n 1, 1) := by decide +kernel
theorem dX5_inForce_26 : decode cX5_inForce 26 = .ok (.aload 5, 2) := by decide +kernel
theorem dX5_inForce_28 : decode cX5_inForce 28 = .ok (.invokevirtual 66, 3) := by decide +kernel
theorem dX5_inForce_31 : decode cX5_inForce 31 = .ok (.ifCond .eq 13, 3) := by decide +kernel
theorem dX5_inForce_34 : decode cX5_inForce 34 = .ok (.iconst 1, 1) := by decide +kernel
theorem dX5_inForce_35 : decode cX5_inForce 35 = .ok (.aload 5, 2) := by decide +kernel
theorem dX5_inForce_37 : decode cX5_inForce 37 = .ok (.getfield 70, 3) := by decide +kernel
theorem dX5_inForce_40 : decode cX5_inForce 40 = .ok (.ishl, 1) := by decide +kernel
theorem dX5_inForce_41 : decode cX5_inForce 41 = .ok (.goto 4, 3) := by decide +kernel
theorem dX5_inForce_44 : decode cX5_inForce 44 = .ok (.iconst 0, 1) := by decide +kernel
theorem dX5_inForce_45 : decode cX5_inForce 45 = .ok (.ior, 1) := by decide +kernel
theorem dX5_inForce_46 : decode cX5_inForce 46 = .ok (.istore_n 1, 1) := by decide +kernel
theorem dX5_inForce_47 : decode cX5_inForce 47 = .ok (.iinc 4 1, 3) := by decide +kernel
theorem dX5_inForce_50 : decode cX5_inForce 50 = .ok (.goto (-37), 3) := by decide +kernel
theorem dX5_inForce_53 : decode cX5_inForce 53 = .ok (.iload_n 1, 1) := by decide +kernel
theorem dX5_inForce_54 : decode cX5_inForce 54 = .ok (.ireturn, 1) := by decide +kernel
theorem dX5_notVoid_0 : decode cX5_notVoid 0 = .ok (.iconst 0, 1) := by decide +kernel
theorem dX5_notVoid_1 : decode cX5_notVoid 1 = .ok (.istore_n 1, 1) := by decide +kernel
theorem dX5_notVoid_2 : decode cX5_notVoid 2 = .ok (.aload_n 0, 1) := by decide +kernel
theorem dX5_notVoid_3 : decode cX5_notVoid 3 = .ok (.getfield 11, 3) := by decide +kernel
theorem dX5_notVoid_6 : decode cX5_notVoid 6 = .ok (.astore_n 2, 1) := by decide +kernel
theorem dX5_notVoid_7 : decode cX5_notVoid 7 = .ok (.aload_n 2, 1) := by decide +kernel
theorem dX5_notVoid_8 : decode cX5_notVoid 8 = .ok (.arraylength, 1) := by decide +kernel
theorem dX5_notVoid_9 : decode cX5_notVoid 9 = .ok (.istore_n 3, 1) := by decide +kernel
theorem dX5_notVoid_10 : decode cX5_notVoid 10 = .ok (.iconst 0, 1) := by decide +kernel
theorem dX5_notVoid_11 : decode cX5_notVoid 11 = .ok (.istore 4, 2) := by decide +kernel
theorem dX5_notVoid_13 : decode cX5_notVoid 13 = .ok (.iload 4, 2) := by decide +kernel
theorem dX5_notVoid_15 : decode cX5_notVoid 15 = .ok (.iload_n 3, 1) := by decide +kernel
theorem dX5_notVoid_16 : decode cX5_notVoid 16 = .ok (.if_icmp .ge 37, 3) := by decide +kernel
theorem dX5_notVoid_19 : decode cX5_notVoid 19 = .ok (.aload_n 2, 1) := by decide +kernel
theorem dX5_notVoid_20 : decode cX5_notVoid 20 = .ok (.iload 4, 2) := by decide +kernel
theorem dX5_notVoid_22 : decode cX5_notVoid 22 = .ok (.aaload, 1) := by decide +kernel
theorem dX5_notVoid_23 : decode cX5_notVoid 23 = .ok (.astore 5, 2) := by decide +kernel
theorem dX5_notVoid_25 : decode cX5_notVoid 25 = .ok (.iload_n 1, 1) := by decide +kernel
theorem dX5_notVoid_26 : decode cX5_notVoid 26 = .ok (.aload 5, 2) := by decide +kernel
theorem dX5_notVoid_28 : decode cX5_notVoid 28 = .ok (.invokevirtual 73, 3) := by decide +kernel
theorem dX5_notVoid_31 : decode cX5_notVoid 31 = .ok (.ifCond .eq 7, 3) := by decide +kernel
theorem dX5_notVoid_34 : decode cX5_notVoid 34 = .ok (.iconst 0, 1) := by decide +kernel
theorem dX5_notVoid_35 : decode cX5_notVoid 35 = .ok (.goto 10, 3) := by decide +kernel
theorem dX5_notVoid_38 : decode cX5_notVoid 38 = .ok (.iconst 1, 1) := by decide +kernel
theorem dX5_notVoid_39 : decode cX5_notVoid 39 = .ok (.aload 5, 2) := by decide +kernel
theorem dX5_notVoid_41 : decode cX5_notVoid 41 = .ok (.getfield 70, 3) := by decide +kernel
theorem dX5_notVoid_44 : decode cX5_notVoid 44 = .ok (.ishl, 1) := by decide +kernel
theorem dX5_notVoid_45 : decode cX5_notVoid 45 = .ok (.ior, 1) := by decide +kernel
theorem dX5_notVoid_46 : decode cX5_notVoid 46 = .ok (.istore_n 1, 1) := by decide +kernel
theorem dX5_notVoid_47 : decode cX5_notVoid 47 = .ok (.iinc 4 1, 3) := by decide +kernel
theorem dX5_notVoid_50 : decode cX5_notVoid 50 = .ok (.goto (-37), 3) := by decide +kernel
theorem dX5_notVoid_53 : decode cX5_notVoid 53 = .ok (.iload_n 1, 1) := by decide +kernel
theorem dX5_notVoid_54 : decode cX5_notVoid 54 = .ok (.ireturn, 1) := by decide +kernel
theorem dX5_leftOfAll_0 : decode cX5_leftOfAll 0 = .ok (.iconst 0, 1) := by decide +kernel
theorem dX5_leftOfAll_1 : decode cX5_leftOfAll 1 = .ok (.istore_n 1, 1) := by decide +kernel
theorem dX5_leftOfAll_2 : decode cX5_leftOfAll 2 = .ok (.aload_n 0, 1) := by decide +kernel
theorem dX5_leftOfAll_3 : decode cX5_leftOfAll 3 = .ok (.getfield 11, 3) := by decide +kernel
theorem dX5_leftOfAll_6 : decode cX5_leftOfAll 6 = .ok (.astore_n 2, 1) := by decide +kernel
theorem dX5_leftOfAll_7 : decode cX5_leftOfAll 7 = .ok (.aload_n 2, 1) := by decide +kernel
theorem dX5_leftOfAll_8 : decode cX5_leftOfAll 8 = .ok (.arraylength, 1) := by decide +kernel
theorem dX5_leftOfAll_9 : decode cX5_leftOfAll 9 = .ok (.istore_n 3, 1) := by decide +kernel
theorem dX5_leftOfAll_10 : decode cX5_leftOfAll 10 = .ok (.iconst 0, 1) := by decide +kernel
theorem dX5_leftOfAll_11 : decode cX5_leftOfAll 11 = .ok (.istore 4, 2) := by decide +kernel
theorem dX5_leftOfAll_13 : decode cX5_leftOfAll 13 = .ok (.iload 4, 2) := by decide +kernel
theorem dX5_leftOfAll_15 : decode cX5_leftOfAll 15 = .ok (.iload_n 3, 1) := by decide +kernel
theorem dX5_leftOfAll_16 : decode cX5_leftOfAll 16 = .ok (.if_icmp .ge 23, 3) := by decide +kernel
theorem dX5_leftOfAll_19 : decode cX5_leftOfAll 19 = .ok (.aload_n 2, 1) := by decide +kernel
theorem dX5_leftOfAll_20 : decode cX5_leftOfAll 20 = .ok (.iload 4, 2) := by decide +kernel
theorem dX5_leftOfAll_22 : decode cX5_leftOfAll 22 = .ok (.aaload, 1) := by decide +kernel
theorem dX5_leftOfAll_23 : decode cX5_leftOfAll 23 = .ok (.astore 5, 2) := by decide +kernel
theorem dX5_leftOfAll_25 : decode cX5_leftOfAll 25 = .ok (.iload_n 1, 1) := by decide +kernel
theorem dX5_leftOfAll_26 : decode cX5_leftOfAll 26 = .ok (.aload 5, 2) := by decide +kernel
theorem dX5_leftOfAll_28 : decode cX5_leftOfAll 28 = .ok (.getfield 53, 3) := by decide +kernel
theorem dX5_leftOfAll_31 : decode cX5_leftOfAll 31 = .ok (.iadd, 1) := by decide +kernel
theorem dX5_leftOfAll_32 : decode cX5_leftOfAll 32 = .ok (.istore_n 1, 1) := by decide +kernel
theorem dX5_leftOfAll_33 : decode cX5_leftOfAll 33 = .ok (.iinc 4 1, 3) := by decide +kernel
theorem dX5_leftOfAll_36 : decode cX5_leftOfAll 36 = .ok (.goto (-23), 3) := by decide +kernel
theorem dX5_leftOfAll_39 : decode cX5_leftOfAll 39 = .ok (.iload_n 1, 1) := by decide +kernel
theorem dX5_leftOfAll_40 : decode cX5_leftOfAll 40 = .ok (.ireturn, 1) := by decide +kernel
theorem dX5_likesAlike_0 : decode cX5_likesAlike 0 = .ok (.aload_n 1, 1) := by decide +kernel
theorem dX5_likesAlike_1 : decode cX5_likesAlike 1 = .ok (.aload_n 0, 1) := by decide +kernel
theorem dX5_likesAlike_2 : decode cX5_likesAlike 2 = .ok (.getfield 40, 3) := by decide +kernel
theorem dX5_likesAlike_5 : decode cX5_likesAlike 5 = .ok (.aload_n 0, 1) := by decide +kernel
theorem dX5_likesAlike_6 : decode cX5_likesAlike 6 = .ok (.getfield 37, 3) := by decide +kernel
theorem dX5_likesAlike_9 : decode cX5_likesAlike 9 = .ok (.invokevirtual 76, 3) := by decide +kernel
theorem dX5_likesAlike_12 : decode cX5_likesAlike 12 = .ok (.istore_n 3, 1) := by decide +kernel
theorem dX5_likesAlike_13 : decode cX5_likesAlike 13 = .ok (.iload_n 3, 1) := by decide +kernel
theorem dX5_likesAlike_14 : decode cX5_likesAlike 14 = .ok (.ldc 80, 2) := by decide +kernel
theorem dX5_likesAlike_16 : decode cX5_likesAlike 16 = .ok (.if_icmp .eq 23, 3) := by decide +kernel
theorem dX5_likesAlike_19 : decode cX5_likesAlike 19 = .ok (.iload_n 3, 1) := by decide +kernel
theorem dX5_likesAlike_20 : decode cX5_likesAlike 20 = .ok (.aload_n 2, 1) := by decide +kernel
theorem dX5_likesAlike_21 : decode cX5_likesAlike 21 = .ok (.aload_n 0, 1) := by decide +kernel
theorem dX5_likesAlike_22 : decode cX5_likesAlike 22 = .ok (.getfield 40, 3) := by decide +kernel
theorem dX5_likesAlike_25 : decode cX5_likesAlike 25 = .ok (.aload_n 0, 1) := by decide +kernel
theorem dX5_likesAlike_26 : decode cX5_likesAlike 26 = .ok (.getfield 37, 3) := by decide +kernel
theorem dX5_likesAlike_29 : decode cX5_likesAlike 29 = .ok (.invokevirtual 76, 3) := by decide +kernel
theorem dX5_likesAlike_32 : decode cX5_likesAlike 32 = .ok (.if_icmp .ne 7, 3) := by decide +kernel
theorem dX5_likesAlike_35 : decode cX5_likesAlike 35 = .ok (.iconst 1, 1) := by decide +kernel
theorem dX5_likesAlike_36 : decode cX5_likesAlike 36 = .ok (.goto 4, 3) := by decide +kernel
theorem dX5_likesAlike_39 : decode cX5_likesAlike 39 = .ok (.iconst 0, 1) := by decide +kernel
theorem dX5_likesAlike_40 : decode cX5_likesAlike 40 = .ok (.ireturn, 1) := by decide +kernel
theorem dX5_choiceOf_0 : decode cX5_choiceOf 0 = .ok (.aload_n 1, 1) := by decide +kernel
theorem dX5_choiceOf_1 : decode cX5_choiceOf 1 = .ok (.invokevirtual 81, 3) := by decide +kernel
theorem dX5_choiceOf_4 : decode cX5_choiceOf 4 = .ok (.ifCond .ne 5, 3) := by decide +kernel
theorem dX5_choiceOf_7 : decode cX5_choiceOf 7 = .ok (.aconst_null, 1) := by decide +kernel
theorem dX5_choiceOf_8 : decode cX5_choiceOf 8 = .ok (.areturn, 1) := by decide +kernel
theorem dX5_choiceOf_9 : decode cX5_choiceOf 9 = .ok (.aconst_null, 1) := by decide +kernel
theorem dX5_choiceOf_10 : decode cX5_choiceOf 10 = .ok (.astore_n 2, 1) := by decide +kernel
theorem dX5_choiceOf_11 : decode cX5_choiceOf 11 = .ok (.ldc 80, 2) := by decide +kernel
theorem dX5_choiceOf_13 : decode cX5_choiceOf 13 = .ok (.istore_n 3, 1) := by decide +kernel
theorem dX5_choiceOf_14 : decode cX5_choiceOf 14 = .ok (.aload_n 0, 1) := by decide +kernel
theorem dX5_choiceOf_15 : decode cX5_choiceOf 15 = .ok (.getfield 11, 3) := by decide +kernel
theorem dX5_choiceOf_18 : decode cX5_choiceOf 18 = .ok (.astore 4, 2) := by decide +kernel
theorem dX5_choiceOf_20 : decode cX5_choiceOf 20 = .ok (.aload 4, 2) := by decide +kernel
theorem dX5_choiceOf_22 : decode cX5_choiceOf 22 = .ok (.arraylength, 1) := by decide +kernel
theorem dX5_choiceOf_23 : decode cX5_choiceOf 23 = .ok (.istore 5, 2) := by decide +kernel
theorem dX5_choiceOf_25 : decode cX5_choiceOf 25 = .ok (.iconst 0, 1) := by decide +kernel
theorem dX5_choiceOf_26 : decode cX5_choiceOf 26 = .ok (.istore 6, 2) := by decide +kernel
theorem dX5_choiceOf_28 : decode cX5_choiceOf 28 = .ok (.iload 6, 2) := by decide +kernel
theorem dX5_choiceOf_30 : decode cX5_choiceOf 30 = .ok (.iload 5, 2) := by decide +kernel
theorem dX5_choiceOf_32 : decode cX5_choiceOf 32 = .ok (.if_icmp .ge 60, 3) := by decide +kernel
theorem dX5_choiceOf_35 : decode cX5_choiceOf 35 = .ok (.aload 4, 2) := by decide +kernel
theorem dX5_choiceOf_37 : decode cX5_choiceOf 37 = .ok (.iload 6, 2) := by decide +kernel
theorem dX5_choiceOf_39 : decode cX5_choiceOf 39 = .ok (.aaload, 1) := by decide +kernel
theorem dX5_choiceOf_40 : decode cX5_choiceOf 40 = .ok (.astore 7, 2) := by decide +kernel
theorem dX5_choiceOf_42 : decode cX5_choiceOf 42 = .ok (.aload 7, 2) := by decide +kernel
theorem dX5_choiceOf_44 : decode cX5_choiceOf 44 = .ok (.getfield 84, 3) := by decide +kernel
theorem dX5_choiceOf_47 : decode cX5_choiceOf 47 = .ok (.aload_n 1, 1) := by decide +kernel
theorem dX5_choiceOf_48 : decode cX5_choiceOf 48 = .ok (.getfield 87, 3) := by decide +kernel
theorem dX5_choiceOf_51 : decode cX5_choiceOf 51 = .ok (.if_icmp .gt 19, 3) := by decide +kernel
theorem dX5_choiceOf_54 : decode cX5_choiceOf 54 = .ok (.aload 7, 2) := by decide +kernel
theorem dX5_choiceOf_56 : decode cX5_choiceOf 56 = .ok (.aload_n 0, 1) := by decide +kernel
theorem dX5_choiceOf_57 : decode cX5_choiceOf 57 = .ok (.getfield 40, 3) := by decide +kernel
theorem dX5_choiceOf_60 : decode cX5_choiceOf 60 = .ok (.aload_n 0, 1) := by decide +kernel
theorem dX5_choiceOf_61 : decode cX5_choiceOf 61 = .ok (.getfield 37, 3) := by decide +kernel
theorem dX5_choiceOf_64 : decode cX5_choiceOf 64 = .ok (.invokevirtual 76, 3) := by decide +kernel
theorem dX5_choiceOf_67 : decode cX5_choiceOf 67 = .ok (.goto 5, 3) := by decide +kernel
theorem dX5_choiceOf_70 : decode cX5_choiceOf 70 = .ok (.ldc 80, 2) := by decide +kernel
theorem dX5_choiceOf_72 : decode cX5_choiceOf 72 = .ok (.istore 8, 2) := by decide +kernel
theorem dX5_choiceOf_74 : decode cX5_choiceOf 74 = .ok (.iload 8, 2) := by decide +kernel
theorem dX5_choiceOf_76 : decode cX5_choiceOf 76 = .ok (.iload_n 3, 1) := by decide +kernel
theorem dX5_choiceOf_77 : decode cX5_choiceOf 77 = .ok (.if_icmp .le 9, 3) := by decide +kernel
theorem dX5_choiceOf_80 : decode cX5_choiceOf 80 = .ok (.aload 7, 2) := by decide +kernel
theorem dX5_choiceOf_82 : decode cX5_choiceOf 82 = .ok (.astore_n 2, 1) := by decide +kernel
theorem dX5_choiceOf_83 : decode cX5_choiceOf 83 = .ok (.iload 8, 2) := by decide +kernel
theorem dX5_choiceOf_85 : decode cX5_choiceOf 85 = .ok (.istore_n 3, 1) := by decide +kernel
theorem dX5_choiceOf_86 : decode cX5_choiceOf 86 = .ok (.iinc 6 1, 3) := by decide +kernel
theorem dX5_choiceOf_89 : decode cX5_choiceOf 89 = .ok (.goto (-61), 3) := by decide +kernel
theorem dX5_choiceOf_92 : decode cX5_choiceOf 92 = .ok (.aload_n 2, 1) := by decide +kernel
theorem dX5_choiceOf_93 : decode cX5_choiceOf 93 = .ok (.areturn, 1) := by decide +kernel
theorem dX5_letBite_0 : decode cX5_letBite 0 = .ok (.aload_n 0, 1) := by decide +kernel
theorem dX5_letBite_1 : decode cX5_letBite 1 = .ok (.aload_n 1, 1) := by decide +kernel
theorem dX5_letBite_2 : decode cX5_letBite 2 = .ok (.invokevirtual 90, 3) := by decide +kernel
theorem dX5_letBite_5 : decode cX5_letBite 5 = .ok (.astore_n 2, 1) := by decide +kernel
theorem dX5_letBite_6 : decode cX5_letBite 6 = .ok (.aload_n 2, 1) := by decide +kernel
theorem dX5_letBite_7 : decode cX5_letBite 7 = .ok (.ifnonnull 5, 3) := by decide +kernel
theorem dX5_letBite_10 : decode cX5_letBite 10 = .ok (.iconst 0, 1) := by decide +kernel
theorem dX5_letBite_11 : decode cX5_letBite 11 = .ok (.ireturn, 1) := by decide +kernel
theorem dX5_letBite_12 : decode cX5_letBite 12 = .ok (.aload_n 2, 1) := by decide +kernel
theorem dX5_letBite_13 : decode cX5_letBite 13 = .ok (.aload_n 1, 1) := by decide +kernel
theorem dX5_letBite_14 : decode cX5_letBite 14 = .ok (.getfield 94, 3) := by decide +kernel
theorem dX5_letBite_17 : decode cX5_letBite 17 = .ok (.invokevirtual 95, 3) := by decide +kernel
theorem dX5_letBite_20 : decode cX5_letBite 20 = .ok (.istore_n 3, 1) := by decide +kernel
theorem dX5_letBite_21 : decode cX5_letBite 21 = .ok (.aload_n 1, 1) := by decide +kernel
theorem dX5_letBite_22 : decode cX5_letBite 22 = .ok (.iload_n 3, 1) := by decide +kernel
theorem dX5_letBite_23 : decode cX5_letBite 23 = .ok (.invokevirtual 99, 3) := by decide +kernel
theorem dX5_letBite_26 : decode cX5_letBite 26 = .ok (.aload_n 0, 1) := by decide +kernel
theorem dX5_letBite_27 : decode cX5_letBite 27 = .ok (.dup, 1) := by decide +kernel
theorem dX5_letBite_28 : decode cX5_letBite 28 = .ok (.getfield 43, 3) := by decide +kernel
theorem dX5_letBite_31 : decode cX5_letBite 31 = .ok (.aload_n 2, 1) := by decide +kernel
theorem dX5_letBite_32 : decode cX5_letBite 32 = .ok (.getfield 53, 3) := by decide +kernel
theorem dX5_letBite_35 : decode cX5_letBite 35 = .ok (.ifCond .gt 7, 3) := by decide +kernel
theorem dX5_letBite_38 : decode cX5_letBite 38 = .ok (.iconst 1, 1) := by decide +kernel
theorem dX5_letBite_39 : decode cX5_letBite 39 = .ok (.goto 4, 3) := by decide +kernel
theorem dX5_letBite_42 : decode cX5_letBite 42 = .ok (.iconst 0, 1) := by decide +kernel
theorem dX5_letBite_43 : decode cX5_letBite 43 = .ok (.iadd, 1) := by decide +kernel
theorem dX5_letBite_44 : decode cX5_letBite 44 = .ok (.putfield 43, 3) := by decide +kernel
theorem dX5_letBite_47 : decode cX5_letBite 47 = .ok (.iload_n 3, 1) := by decide +kernel
theorem dX5_letBite_48 : decode cX5_letBite 48 = .ok (.ireturn, 1) := by decide +kernel
theorem dX5_passHour_0 : decode cX5_passHour 0 = .ok (.iconst 0, 1) := by decide +kernel
theorem dX5_passHour_1 : decode cX5_passHour 1 = .ok (.istore_n 1, 1) := by decide +kernel
theorem dX5_passHour_2 : decode cX5_passHour 2 = .ok (.aload_n 0, 1) := by decide +kernel
theorem dX5_passHour_3 : decode cX5_passHour 3 = .ok (.getfield 19, 3) := by decide +kernel
theorem dX5_passHour_6 : decode cX5_passHour 6 = .ok (.astore_n 2, 1) := by decide +kernel
theorem dX5_passHour_7 : decode cX5_passHour 7 = .ok (.aload_n 2, 1) := by decide +kernel
theorem dX5_passHour_8 : decode cX5_passHour 8 = .ok (.arraylength, 1) := by decide +kernel
theorem dX5_passHour_9 : decode cX5_passHour 9 = .ok (.istore_n 3, 1) := by decide +kernel
theorem dX5_passHour_10 : decode cX5_passHour 10 = .ok (.iconst 0, 1) := by decide +kernel
theorem dX5_passHour_11 : decode cX5_passHour 11 = .ok (.istore 4, 2) := by decide +kernel
theorem dX5_passHour_13 : decode cX5_passHour 13 = .ok (.iload 4, 2) := by decide +kernel
theorem dX5_passHour_15 : decode cX5_passHour 15 = .ok (.iload_n 3, 1) := by decide +kernel
theorem dX5_passHour_16 : decode cX5_passHour 16 = .ok (.if_icmp .ge 40, 3) := by decide +kernel
theorem dX5_passHour_19 : decode cX5_passHour 19 = .ok (.aload_n 2, 1) := by decide +kernel
theorem dX5_passHour_20 : decode cX5_passHour 20 = .ok (.iload 4, 2) := by decide +kernel
theorem dX5_passHour_22 : decode cX5_passHour 22 = .ok (.aaload, 1) := by decide +kernel
theorem dX5_passHour_23 : decode cX5_passHour 23 = .ok (.astore 5, 2) := by decide +kernel
theorem dX5_passHour_25 : decode cX5_passHour 25 = .ok (.iload_n 1, 1) := by decide +kernel
theorem dX5_passHour_26 : decode cX5_passHour 26 = .ok (.aload 5, 2) := by decide +kernel
theorem dX5_passHour_28 : decode cX5_passHour 28 = .ok (.getfield 94, 3) := by decide +kernel
theorem dX5_passHour_31 : decode cX5_passHour 31 = .ok (.aload_n 0, 1) := by decide +kernel
theorem dX5_passHour_32 : decode cX5_passHour 32 = .ok (.getfield 31, 3) := by decide +kernel
theorem dX5_passHour_35 : decode cX5_passHour 35 = .ok (.if_icmp .ge 12, 3) := by decide +kernel
theorem dX5_passHour_38 : decode cX5_passHour 38 = .ok (.aload_n 0, 1) := by decide +kernel
theorem dX5_passHour_39 : decode cX5_passHour 39 = .ok (.aload 5, 2) := by decide +kernel
theorem dX5_passHour_41 : decode cX5_passHour 41 = .ok (.invokevirtual 102, 3) := by decide +kernel
theorem dX5_passHour_44 : decode cX5_passHour 44 = .ok (.goto 4, 3) := by decide +kernel
theorem dX5_passHour_47 : decode cX5_passHour 47 = .ok (.iconst 0, 1) := by decide +kernel
theorem dX5_passHour_48 : decode cX5_passHour 48 = .ok (.iadd, 1) := by decide +kernel
theorem dX5_passHour_49 : decode cX5_passHour 49 = .ok (.istore_n 1, 1) := by decide +kernel
theorem dX5_passHour_50 : decode cX5_passHour 50 = .ok (.iinc 4 1, 3) := by decide +kernel
theorem dX5_passHour_53 : decode cX5_passHour 53 = .ok (.goto (-40), 3) := by decide +kernel
theorem dX5_passHour_56 : decode cX5_passHour 56 = .ok (.aload_n 0, 1) := by decide +kernel
theorem dX5_passHour_57 : decode cX5_passHour 57 = .ok (.getfield 19, 3) := by decide +kernel
theorem dX5_passHour_60 : decode cX5_passHour 60 = .ok (.astore_n 2, 1) := by decide +kernel
theorem dX5_passHour_61 : decode cX5_passHour 61 = .ok (.aload_n 2, 1) := by decide +kernel
theorem dX5_passHour_62 : decode cX5_passHour 62 = .ok (.arraylength, 1) := by decide +kernel
theorem dX5_passHour_63 : decode cX5_passHour 63 = .ok (.istore_n 3, 1) := by decide +kernel
theorem dX5_passHour_64 : decode cX5_passHour 64 = .ok (.iconst 0, 1) := by decide +kernel
theorem dX5_passHour_65 : decode cX5_passHour 65 = .ok (.istore 4, 2) := by decide +kernel
theorem dX5_passHour_67 : decode cX5_passHour 67 = .ok (.iload 4, 2) := by decide +kernel
theorem dX5_passHour_69 : decode cX5_passHour 69 = .ok (.iload_n 3, 1) := by decide +kernel
theorem dX5_passHour_70 : decode cX5_passHour 70 = .ok (.if_icmp .ge 24, 3) := by decide +kernel
theorem dX5_passHour_73 : decode cX5_passHour 73 = .ok (.aload_n 2, 1) := by decide +kernel
theorem dX5_passHour_74 : decode cX5_passHour 74 = .ok (.iload 4, 2) := by decide +kernel
theorem dX5_passHour_76 : decode cX5_passHour 76 = .ok (.aaload, 1) := by decide +kernel
theorem dX5_passHour_77 : decode cX5_passHour 77 = .ok (.astore 5, 2) := by decide +kernel
theorem dX5_passHour_79 : decode cX5_passHour 79 = .ok (.aload 5, 2) := by decide +kernel
theorem dX5_passHour_81 : decode cX5_passHour 81 = .ok (.aload_n 0, 1) := by decide +kernel
theorem dX5_passHour_82 : decode cX5_passHour 82 = .ok (.getfield 34, 3) := by decide +kernel
theorem dX5_passHour_85 : decode cX5_passHour 85 = .ok (.invokevirtual 106, 3) := by decide +kernel
theorem dX5_passHour_88 : decode cX5_passHour 88 = .ok (.iinc 4 1, 3) := by decide +kernel
theorem dX5_passHour_91 : decode cX5_passHour 91 = .ok (.goto (-24), 3) := by decide +kernel
theorem dX5_passHour_94 : decode cX5_passHour 94 = .ok (.aload_n 0, 1) := by decide +kernel
theorem dX5_passHour_95 : decode cX5_passHour 95 = .ok (.dup, 1) := by decide +kernel
theorem dX5_passHour_96 : decode cX5_passHour 96 = .ok (.getfield 40, 3) := by decide +kernel
theorem dX5_passHour_99 : decode cX5_passHour 99 = .ok (.iconst 1, 1) := by decide +kernel
theorem dX5_passHour_100 : decode cX5_passHour 100 = .ok (.iadd, 1) := by decide +kernel
theorem dX5_passHour_101 : decode cX5_passHour 101 = .ok (.putfield 40, 3) := by decide +kernel
theorem dX5_passHour_104 : decode cX5_passHour 104 = .ok (.iload_n 1, 1) := by decide +kernel
theorem dX5_passHour_105 : decode cX5_passHour 105 = .ok (.ireturn, 1) := by decide +kernel
theorem dX5_passHours_0 : decode cX5_passHours 0 = .ok (.iconst 0, 1) := by decide +kernel
theorem dX5_passHours_1 : decode cX5_passHours 1 = .ok (.istore_n 2, 1) := by decide +kernel
theorem dX5_passHours_2 : decode cX5_passHours 2 = .ok (.iload_n 2, 1) := by decide +kernel
theorem dX5_passHours_3 : decode cX5_passHours 3 = .ok (.iload_n 1, 1) := by decide +kernel
theorem dX5_passHours_4 : decode cX5_passHours 4 = .ok (.if_icmp .ge 14, 3) := by decide +kernel
theorem dX5_passHours_7 : decode cX5_passHours 7 = .ok (.aload_n 0, 1) := by decide +kernel
theorem dX5_passHours_8 : decode cX5_passHours 8 = .ok (.invokevirtual 109, 3) := by decide +kernel
theorem dX5_passHours_11 : decode cX5_passHours 11 = .ok (.pop, 1) := by decide +kernel
theorem dX5_passHours_12 : decode cX5_passHours 12 = .ok (.iinc 2 1, 3) := by decide +kernel
theorem dX5_passHours_15 : decode cX5_passHours 15 = .ok (.goto (-13), 3) := by decide +kernel
theorem dX5_passHours_18 : decode cX5_passHours 18 = .ok (.return_, 1) := by decide +kernel
theorem dX5_keepsInForce_0 : decode cX5_keepsInForce 0 = .ok (.iconst 0, 1) := by decide +kernel
theorem dX5_keepsInForce_1 : decode cX5_keepsInForce 1 = .ok (.istore_n 3, 1) := by decide +kernel
theorem dX5_keepsInForce_2 : decode cX5_keepsInForce 2 = .ok (.iload_n 3, 1) := by decide +kernel
theorem dX5_keepsInForce_3 : decode cX5_keepsInForce 3 = .ok (.iload_n 2, 1) := by decide +kernel
theorem dX5_keepsInForce_4 : decode cX5_keepsInForce 4 = .ok (.if_icmp .ge 27, 3) := by decide +kernel
theorem dX5_keepsInForce_7 : decode cX5_keepsInForce 7 = .ok (.iload_n 1, 1) := by decide +kernel
theorem dX5_keepsInForce_8 : decode cX5_keepsInForce 8 = .ok (.aload_n 0, 1) := by decide +kernel
theorem dX5_keepsInForce_9 : decode cX5_keepsInForce 9 = .ok (.invokevirtual 113, 3) := by decide +kernel
theorem dX5_keepsInForce_12 : decode cX5_keepsInForce 12 = .ok (.iconst (-1), 1) := by decide +kernel
theorem dX5_keepsInForce_13 : decode cX5_keepsInForce 13 = .ok (.ixor, 1) := by decide +kernel
theorem dX5_keepsInForce_14 : decode cX5_keepsInForce 14 = .ok (.iand, 1) := by decide +kernel
theorem dX5_keepsInForce_15 : decode cX5_keepsInForce 15 = .ok (.ifCond .eq 5, 3) := by decide +kernel
theorem dX5_keepsInForce_18 : decode cX5_keepsInForce 18 = .ok (.iconst 0, 1) := by decide +kernel
theorem dX5_keepsInForce_19 : decode cX5_keepsInForce 19 = .ok (.ireturn, 1) := by decide +kernel
theorem dX5_keepsInForce_20 : decode cX5_keepsInForce 20 = .ok (.aload_n 0, 1) := by decide +kernel
theorem dX5_keepsInForce_21 : decode cX5_keepsInForce 21 = .ok (.invokevirtual 109, 3) := by decide +kernel
theorem dX5_keepsInForce_24 : decode cX5_keepsInForce 24 = .ok (.pop, 1) := by decide +kernel
theorem dX5_keepsInForce_25 : decode cX5_keepsInForce 25 = .ok (.iinc 3 1, 3) := by decide +kernel
theorem dX5_keepsInForce_28 : decode cX5_keepsInForce 28 = .ok (.goto (-26), 3) := by decide +kernel
theorem dX5_keepsInForce_31 : decode cX5_keepsInForce 31 = .ok (.iload_n 1, 1) := by decide +kernel
theorem dX5_keepsInForce_32 : decode cX5_keepsInForce 32 = .ok (.aload_n 0, 1) := by decide +kernel
theorem dX5_keepsInForce_33 : decode cX5_keepsInForce 33 = .ok (.invokevirtual 113, 3) := by decide +kernel
theorem dX5_keepsInForce_36 : decode cX5_keepsInForce 36 = .ok (.iconst (-1), 1) := by decide +kernel
theorem dX5_keepsInForce_37 : decode cX5_keepsInForce 37 = .ok (.ixor, 1) := by decide +kernel
theorem dX5_keepsInForce_38 : decode cX5_keepsInForce 38 = .ok (.iand, 1) := by decide +kernel
theorem dX5_keepsInForce_39 : decode cX5_keepsInForce 39 = .ok (.ifCond .ne 7, 3) := by decide +kernel
theorem dX5_keepsInForce_42 : decode cX5_keepsInForce 42 = .ok (.iconst 1, 1) := by decide +kernel
theorem dX5_keepsInForce_43 : decode cX5_keepsInForce 43 = .ok (.goto 4, 3) := by decide +kernel
theorem dX5_keepsInForce_46 : decode cX5_keepsInForce 46 = .ok (.iconst 0, 1) := by decide +kernel
theorem dX5_keepsInForce_47 : decode cX5_keepsInForce 47 = .ok (.ireturn, 1) := by decide +kernel
theorem dX5_goesAs_0 : decode cX5_goesAs 0 = .ok (.aload_n 0, 1) := by decide +kernel
theorem dX5_goesAs_1 : decode cX5_goesAs 1 = .ok (.iload_n 1, 1) := by decide +kernel
theorem dX5_goesAs_2 : decode cX5_goesAs 2 = .ok (.invokevirtual 62, 3) := by decide +kernel
theorem dX5_goesAs_5 : decode cX5_goesAs 5 = .ok (.astore 5, 2) := by decide +kernel
theorem dX5_goesAs_7 : decode cX5_goesAs 7 = .ok (.aload 5, 2) := by decide +kernel
theorem dX5_goesAs_9 : decode cX5_goesAs 9 = .ok (.ifnonnull 5, 3) := by decide +kernel
theorem dX5_goesAs_12 : decode cX5_goesAs 12 = .ok (.iconst 0, 1) := by decide +kernel
theorem dX5_goesAs_13 : decode cX5_goesAs 13 = .ok (.ireturn, 1) := by decide +kernel
theorem dX5_goesAs_14 : decode cX5_goesAs 14 = .ok (.iconst 0, 1) := by decide +kernel
theorem dX5_goesAs_15 : decode cX5_goesAs 15 = .ok (.istore 6, 2) := by decide +kernel
theorem dX5_goesAs_17 : decode cX5_goesAs 17 = .ok (.iload 6, 2) := by decide +kernel
theorem dX5_goesAs_19 : decode cX5_goesAs 19 = .ok (.iload 4, 2) := by decide +kernel
theorem dX5_goesAs_21 : decode cX5_goesAs 21 = .ok (.if_icmp .ge 32, 3) := by decide +kernel
theorem dX5_goesAs_24 : decode cX5_goesAs 24 = .ok (.aload_n 0, 1) := by decide +kernel
theorem dX5_goesAs_25 : decode cX5_goesAs 25 = .ok (.invokevirtual 109, 3) := by decide +kernel
theorem dX5_goesAs_28 : decode cX5_goesAs 28 = .ok (.pop, 1) := by decide +kernel
theorem dX5_goesAs_29 : decode cX5_goesAs 29 = .ok (.aload 5, 2) := by decide +kernel
theorem dX5_goesAs_31 : decode cX5_goesAs 31 = .ok (.getfield 53, 3) := by decide +kernel
theorem dX5_goesAs_34 : decode cX5_goesAs 34 = .ok (.aload_n 2, 1) := by decide +kernel
theorem dX5_goesAs_35 : decode cX5_goesAs 35 = .ok (.iload_n 3, 1) := by decide +kernel
theorem dX5_goesAs_36 : decode cX5_goesAs 36 = .ok (.iload 6, 2) := by decide +kernel
theorem dX5_goesAs_38 : decode cX5_goesAs 38 = .ok (.iadd, 1) := by decide +kernel
theorem dX5_goesAs_39 : decode cX5_goesAs 39 = .ok (.invokevirtual 116, 3) := by decide +kernel
theorem dX5_goesAs_42 : decode cX5_goesAs 42 = .ok (.if_icmp .eq 5, 3) := by decide +kernel
theorem dX5_goesAs_45 : decode cX5_goesAs 45 = .ok (.iconst 0, 1) := by decide +kernel
theorem dX5_goesAs_46 : decode cX5_goesAs 46 = .ok (.ireturn, 1) := by decide +kernel
theorem dX5_goesAs_47 : decode cX5_goesAs 47 = .ok (.iinc 6 1, 3) := by decide +kernel
theorem dX5_goesAs_50 : decode cX5_goesAs 50 = .ok (.goto (-33), 3) := by decide +kernel
theorem dX5_goesAs_53 : decode cX5_goesAs 53 = .ok (.iconst 1, 1) := by decide +kernel
theorem dX5_goesAs_54 : decode cX5_goesAs 54 = .ok (.ireturn, 1) := by decide +kernel
theorem dX5_driveOff_0 : decode cX5_driveOff 0 = .ok (.aload_n 0, 1) := by decide +kernel
theorem dX5_driveOff_1 : decode cX5_driveOff 1 = .ok (.getfield 19, 3) := by decide +kernel
theorem dX5_driveOff_4 : decode cX5_driveOff 4 = .ok (.astore_n 3, 1) := by decide +kernel
theorem dX5_driveOff_5 : decode cX5_driveOff 5 = .ok (.aload_n 3, 1) := by decide +kernel
theorem dX5_driveOff_6 : decode cX5_driveOff 6 = .ok (.arraylength, 1) := by decide +kernel
theorem dX5_driveOff_7 : decode cX5_driveOff 7 = .ok (.istore 4, 2) := by decide +kernel
theorem dX5_driveOff_9 : decode cX5_driveOff 9 = .ok (.iconst 0, 1) := by decide +kernel
theorem dX5_driveOff_10 : decode cX5_driveOff 10 = .ok (.istore 5, 2) := by decide +kernel
theorem dX5_driveOff_12 : decode cX5_driveOff 12 = .ok (.iload 5, 2) := by decide +kernel
theorem dX5_driveOff_14 : decode cX5_driveOff 14 = .ok (.iload 4, 2) := by decide +kernel
theorem dX5_driveOff_16 : decode cX5_driveOff 16 = .ok (.if_icmp .ge 33, 3) := by decide +kernel
theorem dX5_driveOff_19 : decode cX5_driveOff 19 = .ok (.aload_n 3, 1) := by decide +kernel
theorem dX5_driveOff_20 : decode cX5_driveOff 20 = .ok (.iload 5, 2) := by decide +kernel
theorem dX5_driveOff_22 : decode cX5_driveOff 22 = .ok (.aaload, 1) := by decide +kernel
theorem dX5_driveOff_23 : decode cX5_driveOff 23 = .ok (.astore 6, 2) := by decide +kernel
theorem dX5_driveOff_25 : decode cX5_driveOff 25 = .ok (.iload_n 1, 1) := by decide +kernel
theorem dX5_driveOff_26 : decode cX5_driveOff 26 = .ok (.aload 6, 2) := by decide +kernel
theorem dX5_driveOff_28 : decode cX5_driveOff 28 = .ok (.getfield 94, 3) := by decide +kernel
theorem dX5_driveOff_31 : decode cX5_driveOff 31 = .ok (.ishr, 1) := by decide +kernel
theorem dX5_driveOff_32 : decode cX5_driveOff 32 = .ok (.iconst 1, 1) := by decide +kernel
theorem dX5_driveOff_33 : decode cX5_driveOff 33 = .ok (.iand, 1) := by decide +kernel
theorem dX5_driveOff_34 : decode cX5_driveOff 34 = .ok (.ifCond .eq 9, 3) := by decide +kernel
theorem dX5_driveOff_37 : decode cX5_driveOff 37 = .ok (.aload 6, 2) := by decide +kernel
theorem dX5_driveOff_39 : decode cX5_driveOff 39 = .ok (.iload_n 2, 1) := by decide +kernel
theorem dX5_driveOff_40 : decode cX5_driveOff 40 = .ok (.putfield 56, 3) := by decide +kernel
theorem dX5_driveOff_43 : decode cX5_driveOff 43 = .ok (.iinc 5 1, 3) := by decide +kernel
theorem dX5_driveOff_46 : decode cX5_driveOff 46 = .ok (.goto (-34), 3) := by decide +kernel
theorem dX5_driveOff_49 : decode cX5_driveOff 49 = .ok (.return_, 1) := by decide +kernel
theorem dX5_hangOnTop_0 : decode cX5_hangOnTop 0 = .ok (.aload_n 0, 1) := by decide +kernel
theorem dX5_hangOnTop_1 : decode cX5_hangOnTop 1 = .ok (.getfield 11, 3) := by decide +kernel
theorem dX5_hangOnTop_4 : decode cX5_hangOnTop 4 = .ok (.astore_n 2, 1) := by decide +kernel
theorem dX5_hangOnTop_5 : decode cX5_hangOnTop 5 = .ok (.aload_n 2, 1) := by decide +kernel
theorem dX5_hangOnTop_6 : decode cX5_hangOnTop 6 = .ok (.arraylength, 1) := by decide +kernel
theorem dX5_hangOnTop_7 : decode cX5_hangOnTop 7 = .ok (.istore_n 3, 1) := by decide +kernel
theorem dX5_hangOnTop_8 : decode cX5_hangOnTop 8 = .ok (.iconst 0, 1) := by decide +kernel
theorem dX5_hangOnTop_9 : decode cX5_hangOnTop 9 = .ok (.istore 4, 2) := by decide +kernel
theorem dX5_hangOnTop_11 : decode cX5_hangOnTop 11 = .ok (.iload 4, 2) := by decide +kernel
theorem dX5_hangOnTop_13 : decode cX5_hangOnTop 13 = .ok (.iload_n 3, 1) := by decide +kernel
theorem dX5_hangOnTop_14 : decode cX5_hangOnTop 14 = .ok (.if_icmp .ge 34, 3) := by decide +kernel
theorem dX5_hangOnTop_17 : decode cX5_hangOnTop 17 = .ok (.aload_n 2, 1) := by decide +kernel
theorem dX5_hangOnTop_18 : decode cX5_hangOnTop 18 = .ok (.iload 4, 2) := by decide +kernel
theorem dX5_hangOnTop_20 : decode cX5_hangOnTop 20 = .ok (.aaload, 1) := by decide +kernel
theorem dX5_hangOnTop_21 : decode cX5_hangOnTop 21 = .ok (.astore 5, 2) := by decide +kernel
theorem dX5_hangOnTop_23 : decode cX5_hangOnTop 23 = .ok (.iload_n 1, 1) := by decide +kernel
theorem dX5_hangOnTop_24 : decode cX5_hangOnTop 24 = .ok (.aload 5, 2) := by decide +kernel
theorem dX5_hangOnTop_26 : decode cX5_hangOnTop 26 = .ok (.getfield 70, 3) := by decide +kernel
theorem dX5_hangOnTop_29 : decode cX5_hangOnTop 29 = .ok (.ishr, 1) := by decide +kernel
theorem dX5_hangOnTop_30 : decode cX5_hangOnTop 30 = .ok (.iconst 1, 1) := by decide +kernel
theorem dX5_hangOnTop_31 : decode cX5_hangOnTop 31 = .ok (.iand, 1) := by decide +kernel
theorem dX5_hangOnTop_32 : decode cX5_hangOnTop 32 = .ok (.ifCond .eq 10, 3) := by decide +kernel
theorem dX5_hangOnTop_35 : decode cX5_hangOnTop 35 = .ok (.aload 5, 2) := by decide +kernel
theorem dX5_hangOnTop_37 : decode cX5_hangOnTop 37 = .ok (.bipush 9, 2) := by decide +kernel
theorem dX5_hangOnTop_39 : decode cX5_hangOnTop 39 = .ok (.putfield 84, 3) := by decide +kernel
theorem dX5_hangOnTop_42 : decode cX5_hangOnTop 42 = .ok (.iinc 4 1, 3) := by decide +kernel
theorem dX5_hangOnTop_45 : decode cX5_hangOnTop 45 = .ok (.goto (-34), 3) := by decide +kernel
theorem dX5_hangOnTop_48 : decode cX5_hangOnTop 48 = .ok (.return_, 1) := by decide +kernel
theorem dX5_tear_0 : decode cX5_tear 0 = .ok (.aload_n 0, 1) := by decide +kernel
theorem dX5_tear_1 : decode cX5_tear 1 = .ok (.getfield 11, 3) := by decide +kernel
theorem dX5_tear_4 : decode cX5_tear 4 = .ok (.astore_n 2, 1) := by decide +kernel
theorem dX5_tear_5 : decode cX5_tear 5 = .ok (.aload_n 2, 1) := by decide +kernel
theorem dX5_tear_6 : decode cX5_tear 6 = .ok (.arraylength, 1) := by decide +kernel
theorem dX5_tear_7 : decode cX5_tear 7 = .ok (.istore_n 3, 1) := by decide +kernel
theorem dX5_tear_8 : decode cX5_tear 8 = .ok (.iconst 0, 1) := by decide +kernel
theorem dX5_tear_9 : decode cX5_tear 9 = .ok (.istore 4, 2) := by decide +kernel
theorem dX5_tear_11 : decode cX5_tear 11 = .ok (.iload 4, 2) := by decide +kernel
theorem dX5_tear_13 : decode cX5_tear 13 = .ok (.iload_n 3, 1) := by decide +kernel
theorem dX5_tear_14 : decode cX5_tear 14 = .ok (.if_icmp .ge 38, 3) := by decide +kernel
theorem dX5_tear_17 : decode cX5_tear 17 = .ok (.aload_n 2, 1) := by decide +kernel
theorem dX5_tear_18 : decode cX5_tear 18 = .ok (.iload 4, 2) := by decide +kernel
theorem dX5_tear_20 : decode cX5_tear 20 = .ok (.aaload, 1) := by decide +kernel
theorem dX5_tear_21 : decode cX5_tear 21 = .ok (.astore 5, 2) := by decide +kernel
theorem dX5_tear_23 : decode cX5_tear 23 = .ok (.iload_n 1, 1) := by decide +kernel
theorem dX5_tear_24 : decode cX5_tear 24 = .ok (.aload 5, 2) := by decide +kernel
theorem dX5_tear_26 : decode cX5_tear 26 = .ok (.getfield 70, 3) := by decide +kernel
theorem dX5_tear_29 : decode cX5_tear 29 = .ok (.ishr, 1) := by decide +kernel
theorem dX5_tear_30 : decode cX5_tear 30 = .ok (.iconst 1, 1) := by decide +kernel
theorem dX5_tear_31 : decode cX5_tear 31 = .ok (.iand, 1) := by decide +kernel
theorem dX5_tear_32 : decode cX5_tear 32 = .ok (.ifCond .eq 14, 3) := by decide +kernel
theorem dX5_tear_35 : decode cX5_tear 35 = .ok (.aload 5, 2) := by decide +kernel
theorem dX5_tear_37 : decode cX5_tear 37 = .ok (.dup, 1) := by decide +kernel
theorem dX5_tear_38 : decode cX5_tear 38 = .ok (.getfield 53, 3) := by decide +kernel
theorem dX5_tear_41 : decode cX5_tear 41 = .ok (.iconst 2, 1) := by decide +kernel
theorem dX5_tear_42 : decode cX5_tear 42 = .ok (.idiv, 1) := by decide +kernel
theorem dX5_tear_43 : decode cX5_tear 43 = .ok (.putfield 53, 3) := by decide +kernel
theorem dX5_tear_46 : decode cX5_tear 46 = .ok (.iinc 4 1, 3) := by decide +kernel
theorem dX5_tear_49 : decode cX5_tear 49 = .ok (.goto (-38), 3) := by decide +kernel
theorem dX5_tear_52 : decode cX5_tear 52 = .ok (.return_, 1) := by decide +kernel
theorem dX5_befall_0 : decode cX5_befall 0 = .ok (.iload_n 1, 1) := by decide +kernel
theorem dX5_befall_1 : decode cX5_befall 1 = .ok (.iconst 3, 1) := by decide +kernel
theorem dX5_befall_2 : decode cX5_befall 2 = .ok (.irem, 1) := by decide +kernel
theorem dX5_befall_3 : decode cX5_befall 3 = .ok (.ifCond .ne 23, 3) := by decide +kernel
theorem dX5_befall_6 : decode cX5_befall 6 = .ok (.aload_n 0, 1) := by decide +kernel
theorem dX5_befall_7 : decode cX5_befall 7 = .ok (.getfield 31, 3) := by decide +kernel
theorem dX5_befall_10 : decode cX5_befall 10 = .ok (.ifCond .le 16, 3) := by decide +kernel
theorem dX5_befall_13 : decode cX5_befall 13 = .ok (.aload_n 0, 1) := by decide +kernel
theorem dX5_befall_14 : decode cX5_befall 14 = .ok (.iload_n 1, 1) := by decide +kernel
theorem dX5_befall_15 : decode cX5_befall 15 = .ok (.aload_n 0, 1) := by decide +kernel
theorem dX5_befall_16 : decode cX5_befall 16 = .ok (.getfield 31, 3) := by decide +kernel
theorem dX5_befall_19 : decode cX5_befall 19 = .ok (.irem, 1) := by decide +kernel
theorem dX5_befall_20 : decode cX5_befall 20 = .ok (.invokevirtual 121, 3) := by decide +kernel
theorem dX5_befall_23 : decode cX5_befall 23 = .ok (.goto 4, 3) := by decide +kernel
theorem dX5_befall_26 : decode cX5_befall 26 = .ok (.aconst_null, 1) := by decide +kernel
theorem dX5_befall_27 : decode cX5_befall 27 = .ok (.astore_n 2, 1) := by decide +kernel
theorem dX5_befall_28 : decode cX5_befall 28 = .ok (.aload_n 2, 1) := by decide +kernel
theorem dX5_befall_29 : decode cX5_befall 29 = .ok (.ifnull 8, 3) := by decide +kernel
theorem dX5_befall_32 : decode cX5_befall 32 = .ok (.aload_n 2, 1) := by decide +kernel
theorem dX5_befall_33 : decode cX5_befall 33 = .ok (.iconst 2, 1) := by decide +kernel
theorem dX5_befall_34 : decode cX5_befall 34 = .ok (.putfield 56, 3) := by decide +kernel
theorem dX5_befall_37 : decode cX5_befall 37 = .ok (.iload_n 1, 1) := by decide +kernel
theorem dX5_befall_38 : decode cX5_befall 38 = .ok (.iconst 5, 1) := by decide +kernel
theorem dX5_befall_39 : decode cX5_befall 39 = .ok (.irem, 1) := by decide +kernel
theorem dX5_befall_40 : decode cX5_befall 40 = .ok (.ifCond .ne 23, 3) := by decide +kernel
theorem dX5_befall_43 : decode cX5_befall 43 = .ok (.aload_n 0, 1) := by decide +kernel
theorem dX5_befall_44 : decode cX5_befall 44 = .ok (.getfield 27, 3) := by decide +kernel
theorem dX5_befall_47 : decode cX5_befall 47 = .ok (.ifCond .le 16, 3) := by decide +kernel
theorem dX5_befall_50 : decode cX5_befall 50 = .ok (.aload_n 0, 1) := by decide +kernel
theorem dX5_befall_51 : decode cX5_befall 51 = .ok (.iload_n 1, 1) := by decide +kernel
theorem dX5_befall_52 : decode cX5_befall 52 = .ok (.aload_n 0, 1) := by decide +kernel
theorem dX5_befall_53 : decode cX5_befall 53 = .ok (.getfield 27, 3) := by decide +kernel
theorem dX5_befall_56 : decode cX5_befall 56 = .ok (.irem, 1) := by decide +kernel
theorem dX5_befall_57 : decode cX5_befall 57 = .ok (.invokevirtual 62, 3) := by decide +kernel
theorem dX5_befall_60 : decode cX5_befall 60 = .ok (.goto 4, 3) := by decide +kernel
theorem dX5_befall_63 : decode cX5_befall 63 = .ok (.aconst_null, 1) := by decide +kernel
theorem dX5_befall_64 : decode cX5_befall 64 = .ok (.astore_n 3, 1) := by decide +kernel
theorem dX5_befall_65 : decode cX5_befall 65 = .ok (.aload_n 3, 1) := by decide +kernel
theorem dX5_befall_66 : decode cX5_befall 66 = .ok (.ifnull 11, 3) := by decide +kernel
theorem dX5_befall_69 : decode cX5_befall 69 = .ok (.aload_n 3, 1) := by decide +kernel
theorem dX5_befall_70 : decode cX5_befall 70 = .ok (.aload_n 3, 1) := by decide +kernel
theorem dX5_befall_71 : decode cX5_befall 71 = .ok (.getfield 125, 3) := by decide +kernel
theorem dX5_befall_74 : decode cX5_befall 74 = .ok (.putfield 53, 3) := by decide +kernel
theorem dX5_befall_77 : decode cX5_befall 77 = .ok (.return_, 1) := by decide +kernel
theorem dX6_init_0 : decode cX6_init 0 = .ok (.aload_n 0, 1) := by decide +kernel
theorem dX6_init_1 : decode cX6_init 1 = .ok (.invokespecial 3, 3) := by decide +kernel
theorem dX6_init_4 : decode cX6_init 4 = .ok (.aload_n 0, 1) := by decide +kernel
theorem dX6_init_5 : decode cX6_init 5 = .ok (.bipush 120, 2) := by decide +kernel
theorem dX6_init_7 : decode cX6_init 7 = .ok (.newarray .int, 2) := by decide +kernel
theorem dX6_init_9 : decode cX6_init 9 = .ok (.putfield 9, 3) := by decide +kernel
theorem dX6_init_12 : decode cX6_init 12 = .ok (.return_, 1) := by decide +kernel
theorem dX6_add_0 : decode cX6_add 0 = .ok (.aload_n 0, 1) := by decide +kernel
theorem dX6_add_1 : decode cX6_add 1 = .ok (.getfield 15, 3) := by decide +kernel
theorem dX6_add_4 : decode cX6_add 4 = .ok (.ifCond .lt 15, 3) := by decide +kernel
theorem dX6_add_7 : decode cX6_add 7 = .ok (.aload_n 0, 1) := by decide +kernel
theorem dX6_add_8 : decode cX6_add 8 = .ok (.getfield 15, 3) := by decide +kernel
theorem dX6_add_11 : decode cX6_add 11 = .ok (.aload_n 0, 1) := by decide +kernel
theorem dX6_add_12 : decode cX6_add 12 = .ok (.getfield 9, 3) := by decide +kernel
theorem dX6_add_15 : decode cX6_add 15 = .ok (.arraylength, 1) := by decide +kernel
theorem dX6_add_16 : decode cX6_add 16 = .ok (.if_icmp .lt 5, 3) := by decide +kernel
theorem dX6_add_19 : decode cX6_add 19 = .ok (.iconst 0, 1) := by decide +kernel
theorem dX6_add_20 : decode cX6_add 20 = .ok (.ireturn, 1) := by decide +kernel
theorem dX6_add_21 : decode cX6_add 21 = .ok (.aload_n 0, 1) := by decide +kernel
theorem dX6_add_22 : decode cX6_add 22 = .ok (.getfield 9, 3) := by decide +kernel
theorem dX6_add_25 : decode cX6_add 25 = .ok (.aload_n 0, 1) := by decide +kernel
theorem dX6_add_26 : decode cX6_add 26 = .ok (.getfield 15, 3) := by decide +kernel
theorem dX6_add_29 : decode cX6_add 29 = .ok (.iload_n 1, 1) := by decide +kernel
theorem dX6_add_30 : decode cX6_add 30 = .ok (.iastore, 1) := by decide +kernel
theorem dX6_add_31 : decode cX6_add 31 = .ok (.aload_n 0, 1) := by decide +kernel
theorem dX6_add_32 : decode cX6_add 32 = .ok (.dup, 1) := by decide +kernel
theorem dX6_add_33 : decode cX6_add 33 = .ok (.getfield 15, 3) := by decide +kernel
theorem dX6_add_36 : decode cX6_add 36 = .ok (.iconst 1, 1) := by decide +kernel
theorem dX6_add_37 : decode cX6_add 37 = .ok (.iadd, 1) := by decide +kernel
theorem dX6_add_38 : decode cX6_add 38 = .ok (.putfield 15, 3) := by decide +kernel
theorem dX6_add_41 : decode cX6_add 41 = .ok (.iconst 1, 1) := by decide +kernel
theorem dX6_add_42 : decode cX6_add 42 = .ok (.ireturn, 1) := by decide +kernel
theorem dX6_readInto_0 : decode cX6_readInto 0 = .ok (.aload_n 1, 1) := by decide +kernel
theorem dX6_readInto_1 : decode cX6_readInto 1 = .ok (.invokevirtual 19, 3) := by decide +kernel
theorem dX6_readInto_4 : decode cX6_readInto 4 = .ok (.aload_n 0, 1) := by decide +kernel
theorem dX6_readInto_5 : decode cX6_readInto 5 = .ok (.iconst 0, 1) := by decide +kernel
theorem dX6_readInto_6 : decode cX6_readInto 6 = .ok (.putfield 24, 3) := by decide +kernel
theorem dX6_readInto_9 : decode cX6_readInto 9 = .ok (.aload_n 0, 1) := by decide +kernel
theorem dX6_readInto_10 : decode cX6_readInto 10 = .ok (.iconst 0, 1) := by decide +kernel
theorem dX6_readInto_11 : decode cX6_readInto 11 = .ok (.putfield 27, 3) := by decide +kernel
theorem dX6_readInto_14 : decode cX6_readInto 14 = .ok (.aload_n 0, 1) := by decide +kernel
theorem dX6_readInto_15 : decode cX6_readInto 15 = .ok (.invokevirtual 30, 3) := by decide +kernel
theorem dX6_readInto_18 : decode cX6_readInto 18 = .ok (.aload_n 0, 1) := by decide +kernel
theorem dX6_readInto_19 : decode cX6_readInto 19 = .ok (.bipush 118, 2) := by decide +kernel
theorem dX6_readInto_21 : decode cX6_readInto 21 = .ok (.invokevirtual 33, 3) := by decide +kernel
theorem dX6_readInto_24 : decode cX6_readInto 24 = .ok (.aload_n 1, 1) := by decide +kernel
theorem dX6_readInto_25 : decode cX6_readInto 25 = .ok (.aload_n 0, 1) := by decide +kernel
theorem dX6_readInto_26 : decode cX6_readInto 26 = .ok (.iconst 0, 1) := by decide +kernel
theorem dX6_readInto_27 : decode cX6_readInto 27 = .ok (.bipush 9, 2) := by decide +kernel
theorem dX6_readInto_29 : decode cX6_readInto 29 = .ok (.invokevirtual 37, 3) := by decide +kernel
theorem dX6_readInto_32 : decode cX6_readInto 32 = .ok (.putfield 41, 3) := by decide +kernel
theorem dX6_readInto_35 : decode cX6_readInto 35 = .ok (.aload_n 0, 1) := by decide +kernel
theorem dX6_readInto_36 : decode cX6_readInto 36 = .ok (.bipush 44, 2) := by decide +kernel
theorem dX6_readInto_38 : decode cX6_readInto 38 = .ok (.invokevirtual 33, 3) := by decide +kernel
theorem dX6_readInto_41 : decode cX6_readInto 41 = .ok (.aload_n 1, 1) := by decide +kernel
theorem dX6_readInto_42 : decode cX6_readInto 42 = .ok (.aload_n 0, 1) := by decide +kernel
theorem dX6_readInto_43 : decode cX6_readInto 43 = .ok (.iconst 1, 1) := by decide +kernel
theorem dX6_readInto_44 : decode cX6_readInto 44 = .ok (.bipush 9, 2) := by decide +kernel
theorem dX6_readInto_46 : decode cX6_readInto 46 = .ok (.invokevirtual 37, 3) := by decide +kernel
theorem dX6_readInto_49 : decode cX6_readInto 49 = .ok (.putfield 44, 3) := by decide +kernel
theorem dX6_readInto_52 : decode cX6_readInto 52 = .ok (.aload_n 0, 1) := by decide +kernel
theorem dX6_readInto_53 : decode cX6_readInto 53 = .ok (.bipush 59, 2) := by decide +kernel
theorem dX6_readInto_55 : decode cX6_readInto 55 = .ok (.invokevirtual 33, 3) := by decide +kernel
theorem dX6_readInto_58 : decode cX6_readInto 58 = .ok (.iconst 0, 1) := by decide +kernel
theorem dX6_readInto_59 : decode cX6_readInto 59 = .ok (.istore_n 2, 1) := by decide +kernel
theorem dX6_readInto_60 : decode cX6_readInto 60 = .ok (.iload_n 2, 1) := by decide +kernel
theorem dX6_readInto_61 : decode cX6_readInto 61 = .ok (.bipush 7, 2) := by decide +kernel
theorem dX6_readInto_63 : decode cX6_readInto 63 = .ok (.if_icmp .gt 35, 3) := by decide +kernel
theorem dX6_readInto_66 : decode cX6_readInto 66 = .ok (.aload_n 0, 1) := by decide +kernel
theorem dX6_readInto_67 : decode cX6_readInto 67 = .ok (.getfield 24, 3) := by decide +kernel
theorem dX6_readInto_70 : decode cX6_readInto 70 = .ok (.ifCond .ne 28, 3) := by decide +kernel
theorem dX6_readInto_73 : decode cX6_readInto 73 = .ok (.iload_n 2, 1) := by decide +kernel
theorem dX6_readInto_74 : decode cX6_readInto 74 = .ok (.ifCond .eq 13, 3) := by decide +kernel
theorem dX6_readInto_77 : decode cX6_readInto 77 = .ok (.aload_n 0, 1) := by decide +kernel
theorem dX6_readInto_78 : decode cX6_readInto 78 = .ok (.getfield 47, 3) := by decide +kernel
theorem dX6_readInto_81 : decode cX6_readInto 81 = .ok (.invokestatic 50, 3) := by decide +kernel
theorem dX6_readInto_84 : decode cX6_readInto 84 = .ok (.ifCond .eq 14, 3) := by decide +kernel
theorem dX6_readInto_87 : decode cX6_readInto 87 = .ok (.aload_n 0, 1) := by decide +kernel
theorem dX6_readInto_88 : decode cX6_readInto 88 = .ok (.aload_n 1, 1) := by decide +kernel
theorem dX6_readInto_89 : decode cX6_readInto 89 = .ok (.invokevirtual 54, 3) := by decide +kernel
theorem dX6_readInto_92 : decode cX6_readInto 92 = .ok (.iinc 2 1, 3) := by decide +kernel
theorem dX6_readInto_95 : decode cX6_readInto 95 = .ok (.goto (-35), 3) := by decide +kernel
theorem dX6_readInto_98 : decode cX6_readInto 98 = .ok (.iconst 0, 1) := by decide +kernel
theorem dX6_readInto_99 : decode cX6_readInto 99 = .ok (.istore_n 2, 1) := by decide +kernel
theorem dX6_readInto_100 : decode cX6_readInto 100 = .ok (.iload_n 2, 1) := by decide +kernel
theorem dX6_readInto_101 : decode cX6_readInto 101 = .ok (.iconst 4, 1) := by decide +kernel
theorem dX6_readInto_102 : decode cX6_readInto 102 = .ok (.if_icmp .gt 33, 3) := by decide +kernel
theorem dX6_readInto_105 : decode cX6_readInto 105 = .ok (.aload_n 0, 1) := by decide +kernel
theorem dX6_readInto_106 : decode cX6_readInto 106 = .ok (.getfield 24, 3) := by decide +kernel
theorem dX6_readInto_109 : decode cX6_readInto 109 = .ok (.ifCond .ne 26, 3) := by decide +kernel
theorem dX6_readInto_112 : decode cX6_readInto 112 = .ok (.iload_n 2, 1) := by decide +kernel
theorem dX6_readInto_113 : decode cX6_readInto 113 = .ok (.ifCond .eq 11, 3) := by decide +kernel
theorem dX6_readInto_116 : decode cX6_readInto 116 = .ok (.aload_n 0, 1) := by decide +kernel
theorem dX6_readInto_117 : decode cX6_readInto 117 = .ok (.getfield 47, 3) := by decide +kernel
theorem dX6_readInto_120 : decode cX6_readInto 120 = .ok (.iconst (-1), 1) := by decide +kernel
theorem dX6_readInto_121 : decode cX6_readInto 121 = .ok (.if_icmp .eq 14, 3) := by decide +kernel
theorem dX6_readInto_124 : decode cX6_readInto 124 = .ok (.aload_n 0, 1) := by decide +kernel
theorem dX6_readInto_125 : decode cX6_readInto 125 = .ok (.aload_n 1, 1) := by decide +kernel
theorem dX6_readInto_126 : decode cX6_readInto 126 = .ok (.invokevirtual 58, 3) := by decide +kernel
theorem dX6_readInto_129 : decode cX6_readInto 129 = .ok (.iinc 2 1, 3) := by decide +kernel
theorem dX6_readInto_132 : decode cX6_readInto 132 = .ok (.goto (-32), 3) := by decide +kernel
theorem dX6_readInto_135 : decode cX6_readInto 135 = .ok (.aload_n 0, 1) := by decide +kernel
theorem dX6_readInto_136 : decode cX6_readInto 136 = .ok (.getfield 24, 3) := by decide +kernel
theorem dX6_readInto_139 : decode cX6_readInto 139 = .ok (.ifCond .ne 7, 3) := by decide +kernel
theorem dX6_readInto_142 : decode cX6_readInto 142 = .ok (.iconst 1, 1) := by decide +kernel
theorem dX6_readInto_143 : decode cX6_readInto 143 = .ok (.goto 4, 3) := by decide +kernel
theorem dX6_readInto_146 : decode cX6_readInto 146 = .ok (.iconst 0, 1) := by decide +kernel
theorem dX6_readInto_147 : decode cX6_readInto 147 = .ok (.ireturn, 1) := by decide +kernel
theorem dX6_readLeaf_0 : decode cX6_readLeaf 0 = .ok (.aload_n 0, 1) := by decide +kernel
theorem dX6_readLeaf_1 : decode cX6_readLeaf 1 = .ok (.getfield 47, 3) := by decide +kernel
theorem dX6_readLeaf_4 : decode cX6_readLeaf 4 = .ok (.invokestatic 50, 3) := by decide +kernel
theorem dX6_readLeaf_7 : decode cX6_readLeaf 7 = .ok (.istore_n 2, 1) := by decide +kernel
theorem dX6_readLeaf_8 : decode cX6_readLeaf 8 = .ok (.aload_n 1, 1) := by decide +kernel
theorem dX6_readLeaf_9 : decode cX6_readLeaf 9 = .ok (.getfield 61, 3) := by decide +kernel
theorem dX6_readLeaf_12 : decode cX6_readLeaf 12 = .ok (.istore_n 3, 1) := by decide +kernel
theorem dX6_readLeaf_13 : decode cX6_readLeaf 13 = .ok (.iload_n 2, 1) := by decide +kernel
theorem dX6_readLeaf_14 : decode cX6_readLeaf 14 = .ok (.ifCond .ne 9, 3) := by decide +kernel
theorem dX6_readLeaf_17 : decode cX6_readLeaf 17 = .ok (.aload_n 0, 1) := by decide +kernel
theorem dX6_readLeaf_18 : decode cX6_readLeaf 18 = .ok (.iconst 1, 1) := by decide +kernel
theorem dX6_readLeaf_19 : decode cX6_readLeaf 19 = .ok (.putfield 24, 3) := by decide +kernel
theorem dX6_readLeaf_22 : decode cX6_readLeaf 22 = .ok (.return_, 1) := by decide +kernel
theorem dX6_readLeaf_23 : decode cX6_readLeaf 23 = .ok (.iload_n 3, 1) := by decide +kernel
theorem dX6_readLeaf_24 : decode cX6_readLeaf 24 = .ok (.ifCond .lt 12, 3) := by decide +kernel
theorem dX6_readLeaf_27 : decode cX6_readLeaf 27 = .ok (.iload_n 3, 1) := by decide +kernel
theorem dX6_readLeaf_28 : decode cX6_readLeaf 28 = .ok (.aload_n 1, 1) := by decide +kernel
theorem dX6_readLeaf_29 : decode cX6_readLeaf 29 = .ok (.getfield 64, 3) := by decide +kernel
theorem dX6_readLeaf_32 : decode cX6_readLeaf 32 = .ok (.arraylength, 1) := by decide +kernel
theorem dX6_readLeaf_33 : decode cX6_readLeaf 33 = .ok (.if_icmp .lt 9, 3) := by decide +kernel
theorem dX6_readLeaf_36 : decode cX6_readLeaf 36 = .ok (.aload_n 0, 1) := by decide +kernel
theorem dX6_readLeaf_37 : decode cX6_readLeaf 37 = .ok (.iconst 3, 1) := by decide +kernel
theorem dX6_readLeaf_38 : decode cX6_readLeaf 38 = .ok (.putfield 24, 3) := by decide +kernel
theorem dX6_readLeaf_41 : decode cX6_readLeaf 41 = .ok (.return_, 1) := by decide +kernel
theorem dX6_readLeaf_42 : decode cX6_readLeaf 42 = .ok (.aload_n 1, 1) := by decide +kernel
theorem dX6_readLeaf_43 : decode cX6_readLeaf 43 = .ok (.getfield 64, 3) := by decide +kernel
theorem dX6_readLeaf_46 : decode cX6_readLeaf 46 = .ok (.iload_n 3, 1) := by decide +kernel
theorem dX6_readLeaf_47 : decode cX6_readLeaf 47 = .ok (.aaload, 1) := by decide +kernel
theorem dX6_readLeaf_48 : decode cX6_readLeaf 48 = .ok (.astore 4, 2) := by decide +kernel
theorem dX6_readLeaf_50 : decode cX6_readLeaf 50 = .ok (.aload_n 0, 1) := by decide +kernel
theorem dX6_readLeaf_51 : decode cX6_readLeaf 51 = .ok (.invokevirtual 30, 3) := by decide +kernel
theorem dX6_readLeaf_54 : decode cX6_readLeaf 54 = .ok (.aload 4, 2) := by decide +kernel
theorem dX6_readLeaf_56 : decode cX6_readLeaf 56 = .ok (.iload_n 2, 1) := by decide +kernel
theorem dX6_readLeaf_57 : decode cX6_readLeaf 57 = .ok (.putfield 68, 3) := by decide +kernel
theorem dX6_readLeaf_60 : decode cX6_readLeaf 60 = .ok (.aload 4, 2) := by decide +kernel
theorem dX6_readLeaf_62 : decode cX6_readLeaf 62 = .ok (.aload_n 0, 1) := by decide +kernel
theorem dX6_readLeaf_63 : decode cX6_readLeaf 63 = .ok (.iconst 1, 1) := by decide +kernel
theorem dX6_readLeaf_64 : decode cX6_readLeaf 64 = .ok (.bipush 20, 2) := by decide +kernel
theorem dX6_readLeaf_66 : decode cX6_readLeaf 66 = .ok (.invokevirtual 37, 3) := by decide +kernel
theorem dX6_readLeaf_69 : decode cX6_readLeaf 69 = .ok (.putfield 73, 3) := by decide +kernel
theorem dX6_readLeaf_72 : decode cX6_readLeaf 72 = .ok (.aload 4, 2) := by decide +kernel
theorem dX6_readLeaf_74 : decode cX6_readLeaf 74 = .ok (.aload 4, 2) := by decide +kernel
theorem dX6_readLeaf_76 : decode cX6_readLeaf 76 = .ok (.getfield 73, 3) := by decide +kernel
theorem dX6_readLeaf_79 : decode cX6_readLeaf 79 = .ok (.putfield 76, 3) := by decide +kernel
theorem dX6_readLeaf_82 : decode cX6_readLeaf 82 = .ok (.aload_n 0, 1) := by decide +kernel
theorem dX6_readLeaf_83 : decode cX6_readLeaf 83 = .ok (.bipush 44, 2) := by decide +kernel
theorem dX6_readLeaf_85 : decode cX6_readLeaf 85 = .ok (.invokevirtual 33, 3) := by decide +kernel
theorem dX6_readLeaf_88 : decode cX6_readLeaf 88 = .ok (.aload 4, 2) := by decide +kernel
theorem dX6_readLeaf_90 : decode cX6_readLeaf 90 = .ok (.aload_n 0, 1) := by decide +kernel
theorem dX6_readLeaf_91 : decode cX6_readLeaf 91 = .ok (.iconst 0, 1) := by decide +kernel
theorem dX6_readLeaf_92 : decode cX6_readLeaf 92 = .ok (.bipush 9, 2) := by decide +kernel
theorem dX6_readLeaf_94 : decode cX6_readLeaf 94 = .ok (.invokevirtual 37, 3) := by decide +kernel
theorem dX6_readLeaf_97 : decode cX6_readLeaf 97 = .ok (.putfield 79, 3) := by decide +kernel
theorem dX6_readLeaf_100 : decode cX6_readLeaf 100 = .ok (.aload_n 0, 1) := by decide +kernel
theorem dX6_readLeaf_101 : decode cX6_readLeaf 101 = .ok (.bipush 44, 2) := by decide +kernel
theorem dX6_readLeaf_103 : decode cX6_readLeaf 103 = .ok (.invokevirtual 33, 3) := by decide +kernel
theorem dX6_readLeaf_106 : decode cX6_readLeaf 106 = .ok (.aload 4, 2) := by decide +kernel
theorem dX6_readLeaf_108 : decode cX6_readLeaf 108 = .ok (.aload_n 0, 1) := by decide +kernel
theorem dX6_readLeaf_109 : decode cX6_readLeaf 109 = .ok (.iconst 0, 1) := by decide +kernel
theorem dX6_readLeaf_110 : decode cX6_readLeaf 110 = .ok (.bipush 9, 2) := by decide +kernel
theorem dX6_readLeaf_112 : decode cX6_readLeaf 112 = .ok (.invokevirtual 37, 3) := by decide +kernel
theorem dX6_readLeaf_115 : decode cX6_readLeaf 115 = .ok (.putfield 82, 3) := by decide +kernel
theorem dX6_readLeaf_118 : decode cX6_readLeaf 118 = .ok (.aload_n 0, 1) := by decide +kernel
theorem dX6_readLeaf_119 : decode cX6_readLeaf 119 = .ok (.bipush 59, 2) := by decide +kernel
theorem dX6_readLeaf_121 : decode cX6_readLeaf 121 = .ok (.invokevirtual 33, 3) := by decide +kernel
theorem dX6_readLeaf_124 : decode cX6_readLeaf 124 = .ok (.aload_n 1, 1) := by decide +kernel
theorem dX6_readLeaf_125 : decode cX6_readLeaf 125 = .ok (.dup, 1) := by decide +kernel
theorem dX6_readLeaf_126 : decode cX6_readLeaf 126 = .ok (.getfield 61, 3) := by decide +kernel
theorem dX6_readLeaf_129 : decode cX6_readLeaf 129 = .ok (.iconst 1, 1) := by decide +kernel
theorem dX6_readLeaf_130 : decode cX6_readLeaf 130 = .ok (.iadd, 1) := by decide +kernel
theorem dX6_readLeaf_131 : decode cX6_readLeaf 131 = .ok (.putfield 61, 3) := by decide +kernel
theorem dX6_readLeaf_134 : decode cX6_readLeaf 134 = .ok (.return_, 1) := by decide +kernel
theorem dX6_readGoat_0 : decode cX6_readGoat 0 = .ok (.aload_n 1, 1) := by decide +kernel
theorem dX6_readGoat_1 : decode cX6_readGoat 1 = .ok (.getfield 85, 3) := by decide +kernel
theorem dX6_readGoat_4 : decode cX6_readGoat 4 = .ok (.istore_n 2, 1) := by decide +kernel
theorem dX6_readGoat_5 : decode cX6_readGoat 5 = .ok (.aload_n 0, 1) := by decide +kernel
theorem dX6_readGoat_6 : decode cX6_readGoat 6 = .ok (.getfield 47, 3) := by decide +kernel
theorem dX6_readGoat_9 : decode cX6_readGoat 9 = .ok (.bipush 103, 2) := by decide +kernel
theorem dX6_readGoat_11 : decode cX6_readGoat 11 = .ok (.if_icmp .eq 9, 3) := by decide +kernel
theorem dX6_readGoat_14 : decode cX6_readGoat 14 = .ok (.aload_n 0, 1) := by decide +kernel
theorem dX6_readGoat_15 : decode cX6_readGoat 15 = .ok (.iconst 1, 1) := by decide +kernel
theorem dX6_readGoat_16 : decode cX6_readGoat 16 = .ok (.putfield 24, 3) := by decide +kernel
theorem dX6_readGoat_19 : decode cX6_readGoat 19 = .ok (.return_, 1) := by decide +kernel
theorem dX6_readGoat_20 : decode cX6_readGoat 20 = .ok (.iload_n 2, 1) := by decide +kernel
theorem dX6_readGoat_21 : decode cX6_readGoat 21 = .ok (.ifCond .lt 12, 3) := by decide +kernel
theorem dX6_readGoat_24 : decode cX6_readGoat 24 = .ok (.iload_n 2, 1) := by decide +kernel
theorem dX6_readGoat_25 : decode cX6_readGoat 25 = .ok (.aload_n 1, 1) := by decide +kernel
theorem dX6_readGoat_26 : decode cX6_readGoat 26 = .ok (.getfield 88, 3) := by decide +kernel
theorem dX6_readGoat_29 : decode cX6_readGoat 29 = .ok (.arraylength, 1) := by decide +kernel
theorem dX6_readGoat_30 : decode cX6_readGoat 30 = .ok (.if_icmp .lt 9, 3) := by decide +kernel
theorem dX6_readGoat_33 : decode cX6_readGoat 33 = .ok (.aload_n 0, 1) := by decide +kernel
theorem dX6_readGoat_34 : decode cX6_readGoat 34 = .ok (.iconst 3, 1) := by decide +kernel
theorem dX6_readGoat_35 : decode cX6_readGoat 35 = .ok (.putfield 24, 3) := by decide +kernel
theorem dX6_readGoat_38 : decode cX6_readGoat 38 = .ok (.return_, 1) := by decide +kernel
theorem dX6_readGoat_39 : decode cX6_readGoat 39 = .ok (.aload_n 1, 1) := by decide +kernel
theorem dX6_readGoat_40 : decode cX6_readGoat 40 = .ok (.getfield 88, 3) := by decide +kernel
theorem dX6_readGoat_43 : decode cX6_readGoat 43 = .ok (.iload_n 2, 1) := by decide +kernel
theorem dX6_readGoat_44 : decode cX6_readGoat 44 = .ok (.aaload, 1) := by decide +kernel
theorem dX6_readGoat_45 : decode cX6_readGoat 45 = .ok (.astore_n 3, 1) := by decide +kernel
theorem dX6_readGoat_46 : decode cX6_readGoat 46 = .ok (.aload_n 0, 1) := by decide +kernel
theorem dX6_readGoat_47 : decode cX6_readGoat 47 = .ok (.invokevirtual 30, 3) := by decide +kernel
theorem dX6_readGoat_50 : decode cX6_readGoat 50 = .ok (.aload_n 3, 1) := by decide +kernel
theorem dX6_readGoat_51 : decode cX6_readGoat 51 = .ok (.aload_n 0, 1) := by decide +kernel
theorem dX6_readGoat_52 : decode cX6_readGoat 52 = .ok (.iconst 0, 1) := by decide +kernel
theorem dX6_readGoat_53 : decode cX6_readGoat 53 = .ok (.bipush 40, 2) := by decide +kernel
theorem dX6_readGoat_55 : decode cX6_readGoat 55 = .ok (.invokevirtual 37, 3) := by decide +kernel
theorem dX6_readGoat_58 : decode cX6_readGoat 58 = .ok (.putfield 92, 3) := by decide +kernel
theorem dX6_readGoat_61 : decode cX6_readGoat 61 = .ok (.aload_n 0, 1) := by decide +kernel
theorem dX6_readGoat_62 : decode cX6_readGoat 62 = .ok (.bipush 44, 2) := by decide +kernel
theorem dX6_readGoat_64 : decode cX6_readGoat 64 = .ok (.invokevirtual 33, 3) := by decide +kernel
theorem dX6_readGoat_67 : decode cX6_readGoat 67 = .ok (.aload_n 3, 1) := by decide +kernel
theorem dX6_readGoat_68 : decode cX6_readGoat 68 = .ok (.aload_n 0, 1) := by decide +kernel
theorem dX6_readGoat_69 : decode cX6_readGoat 69 = .ok (.iconst 0, 1) := by decide +kernel
theorem dX6_readGoat_70 : decode cX6_readGoat 70 = .ok (.bipush 9, 2) := by decide +kernel
theorem dX6_readGoat_72 : decode cX6_readGoat 72 = .ok (.invokevirtual 37, 3) := by decide +kernel
theorem dX6_readGoat_75 : decode cX6_readGoat 75 = .ok (.putfield 97, 3) := by decide +kernel
theorem dX6_readGoat_78 : decode cX6_readGoat 78 = .ok (.aload_n 0, 1) := by decide +kernel
theorem dX6_readGoat_79 : decode cX6_readGoat 79 = .ok (.bipush 59, 2) := by decide +kernel
theorem dX6_readGoat_81 : decode cX6_readGoat 81 = .ok (.invokevirtual 33, 3) := by decide +kernel
theorem dX6_readGoat_84 : decode cX6_readGoat 84 = .ok (.aload_n 1, 1) := by decide +kernel
theorem dX6_readGoat_85 : decode cX6_readGoat 85 = .ok (.dup, 1) := by decide +kernel
theorem dX6_readGoat_86 : decode cX6_readGoat 86 = .ok (.getfield 85, 3) := by decide +kernel
theorem dX6_readGoat_89 : decode cX6_readGoat 89 = .ok (.iconst 1, 1) := by decide +kernel
theorem dX6_readGoat_90 : decode cX6_readGoat 90 = .ok (.iadd, 1) := by decide +kernel
theorem dX6_readGoat_91 : decode cX6_readGoat 91 = .ok (.putfield 85, 3) := by decide +kernel
theorem dX6_readGoat_94 : decode cX6_readGoat 94 = .ok (.return_, 1) := by decide +kernel
theorem dX6_sortOf_0 : decode cX6_sortOf 0 = .ok (.iload_n 0, 1) := by decide +kernel
theorem dX6_sortOf_1 : decode cX6_sortOf 1 = .ok (.lookupswitch 61 #[(97, 53), (98, 57), (104, 55), (115, 51), (116, 59)], 51) := by decide +kernel
theorem dX6_sortOf_52 : decode cX6_sortOf 52 = .ok (.iconst 1, 1) := by decide +kernel
theorem dX6_sortOf_53 : decode cX6_sortOf 53 = .ok (.ireturn, 1) := by decide +kernel
theorem dX6_sortOf_54 : decode cX6_sortOf 54 = .ok (.iconst 2, 1) := by decide +kernel
theorem dX6_sortOf_55 : decode cX6_sortOf 55 = .ok (.ireturn, 1) := by decide +kernel
theorem dX6_sortOf_56 : decode cX6_sortOf 56 = .ok (.iconst 3, 1) := by decide +kernel
theorem dX6_sortOf_57 : decode cX6_sortOf 57 = .ok (.ireturn, 1) := by decide +kernel
theorem dX6_sortOf_58 : decode cX6_sortOf 58 = .ok (.iconst 4, 1) := by decide +kernel
theorem dX6_sortOf_59 : decode cX6_sortOf 59 = .ok (.ireturn, 1) := by decide +kernel
