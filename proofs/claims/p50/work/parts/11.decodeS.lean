theorem dX0_init_0 : decode cX0_init 0 = .ok (.aload_n 0, 1) := by decide +kernel
theorem dX0_init_1 : decode cX0_init 1 = .ok (.invokespecial 3, 3) := by decide +kernel
theorem dX0_init_4 : decode cX0_init 4 = .ok (.aload_n 0, 1) := by decide +kernel
theorem dX0_init_5 : decode cX0_init 5 = .ok (.iload_n 1, 1) := by decide +kernel
theorem dX0_init_6 : decode cX0_init 6 = .ok (.ifCond .ge 7, 3) := by decide +kernel
theorem dX0_init_9 : decode cX0_init 9 = .ok (.iconst 0, 1) := by decide +kernel
theorem dX0_init_10 : decode cX0_init 10 = .ok (.goto 4, 3) := by decide +kernel
theorem dX0_init_13 : decode cX0_init 13 = .ok (.iload_n 1, 1) := by decide +kernel
theorem dX0_init_14 : decode cX0_init 14 = .ok (.newarray .int, 2) := by decide +kernel
theorem dX0_init_16 : decode cX0_init 16 = .ok (.putfield 9, 3) := by decide +kernel
theorem dX0_init_19 : decode cX0_init 19 = .ok (.aload_n 0, 1) := by decide +kernel
theorem dX0_init_20 : decode cX0_init 20 = .ok (.iconst 0, 1) := by decide +kernel
theorem dX0_init_21 : decode cX0_init 21 = .ok (.putfield 15, 3) := by decide +kernel
theorem dX0_init_24 : decode cX0_init 24 = .ok (.return_, 1) := by decide +kernel
theorem dX0_size_0 : decode cX0_size 0 = .ok (.aload_n 0, 1) := by decide +kernel
theorem dX0_size_1 : decode cX0_size 1 = .ok (.getfield 15, 3) := by decide +kernel
theorem dX0_size_4 : decode cX0_size 4 = .ok (.ireturn, 1) := by decide +kernel
theorem dX0_hasPlace_0 : decode cX0_hasPlace 0 = .ok (.iload_n 1, 1) := by decide +kernel
theorem dX0_hasPlace_1 : decode cX0_hasPlace 1 = .ok (.ifCond .lt 24, 3) := by decide +kernel
theorem dX0_hasPlace_4 : decode cX0_hasPlace 4 = .ok (.iload_n 1, 1) := by decide +kernel
theorem dX0_hasPlace_5 : decode cX0_hasPlace 5 = .ok (.aload_n 0, 1) := by decide +kernel
theorem dX0_hasPlace_6 : decode cX0_hasPlace 6 = .ok (.getfield 15, 3) := by decide +kernel
theorem dX0_hasPlace_9 : decode cX0_hasPlace 9 = .ok (.if_icmp .ge 16, 3) := by decide +kernel
theorem dX0_hasPlace_12 : decode cX0_hasPlace 12 = .ok (.iload_n 1, 1) := by decide +kernel
theorem dX0_hasPlace_13 : decode cX0_hasPlace 13 = .ok (.aload_n 0, 1) := by decide +kernel
theorem dX0_hasPlace_14 : decode cX0_hasPlace 14 = .ok (.getfield 9, 3) := by decide +kernel
theorem dX0_hasPlace_17 : decode cX0_hasPlace 17 = .ok (.arraylength, 1) := by decide +kernel
theorem dX0_hasPlace_18 : decode cX0_hasPlace 18 = .ok (.if_icmp .ge 7, 3) := by decide +kernel
theorem dX0_hasPlace_21 : decode cX0_hasPlace 21 = .ok (.iconst 1, 1) := by decide +kernel
theorem dX0_hasPlace_22 : decode cX0_hasPlace 22 = .ok (.goto 4, 3) := by decide +kernel
theorem dX0_hasPlace_25 : decode cX0_hasPlace 25 = .ok (.iconst 0, 1) := by decide +kernel
theorem dX0_hasPlace_26 : decode cX0_hasPlace 26 = .ok (.ireturn, 1) := by decide +kernel
theorem dX0_hasRoomFor_0 : decode cX0_hasRoomFor 0 = .ok (.iload_n 1, 1) := by decide +kernel
theorem dX0_hasRoomFor_1 : decode cX0_hasRoomFor 1 = .ok (.aload_n 0, 1) := by decide +kernel
theorem dX0_hasRoomFor_2 : decode cX0_hasRoomFor 2 = .ok (.getfield 9, 3) := by decide +kernel
theorem dX0_hasRoomFor_5 : decode cX0_hasRoomFor 5 = .ok (.arraylength, 1) := by decide +kernel
theorem dX0_hasRoomFor_6 : decode cX0_hasRoomFor 6 = .ok (.aload_n 0, 1) := by decide +kernel
theorem dX0_hasRoomFor_7 : decode cX0_hasRoomFor 7 = .ok (.getfield 15, 3) := by decide +kernel
theorem dX0_hasRoomFor_10 : decode cX0_hasRoomFor 10 = .ok (.isub, 1) := by decide +kernel
theorem dX0_hasRoomFor_11 : decode cX0_hasRoomFor 11 = .ok (.if_icmp .gt 7, 3) := by decide +kernel
theorem dX0_hasRoomFor_14 : decode cX0_hasRoomFor 14 = .ok (.iconst 1, 1) := by decide +kernel
theorem dX0_hasRoomFor_15 : decode cX0_hasRoomFor 15 = .ok (.goto 4, 3) := by decide +kernel
theorem dX0_hasRoomFor_18 : decode cX0_hasRoomFor 18 = .ok (.iconst 0, 1) := by decide +kernel
theorem dX0_hasRoomFor_19 : decode cX0_hasRoomFor 19 = .ok (.ireturn, 1) := by decide +kernel
theorem dX0_get_0 : decode cX0_get 0 = .ok (.aload_n 0, 1) := by decide +kernel
theorem dX0_get_1 : decode cX0_get 1 = .ok (.iload_n 1, 1) := by decide +kernel
theorem dX0_get_2 : decode cX0_get 2 = .ok (.invokevirtual 19, 3) := by decide +kernel
theorem dX0_get_5 : decode cX0_get 5 = .ok (.ifCond .eq 12, 3) := by decide +kernel
theorem dX0_get_8 : decode cX0_get 8 = .ok (.aload_n 0, 1) := by decide +kernel
theorem dX0_get_9 : decode cX0_get 9 = .ok (.getfield 9, 3) := by decide +kernel
theorem dX0_get_12 : decode cX0_get 12 = .ok (.iload_n 1, 1) := by decide +kernel
theorem dX0_get_13 : decode cX0_get 13 = .ok (.iaload, 1) := by decide +kernel
theorem dX0_get_14 : decode cX0_get 14 = .ok (.goto 4, 3) := by decide +kernel
theorem dX0_get_17 : decode cX0_get 17 = .ok (.iconst (-1), 1) := by decide +kernel
theorem dX0_get_18 : decode cX0_get 18 = .ok (.ireturn, 1) := by decide +kernel
theorem dX0_set_0 : decode cX0_set 0 = .ok (.aload_n 0, 1) := by decide +kernel
theorem dX0_set_1 : decode cX0_set 1 = .ok (.iload_n 1, 1) := by decide +kernel
theorem dX0_set_2 : decode cX0_set 2 = .ok (.invokevirtual 19, 3) := by decide +kernel
theorem dX0_set_5 : decode cX0_set 5 = .ok (.ifCond .eq 10, 3) := by decide +kernel
theorem dX0_set_8 : decode cX0_set 8 = .ok (.aload_n 0, 1) := by decide +kernel
theorem dX0_set_9 : decode cX0_set 9 = .ok (.getfield 9, 3) := by decide +kernel
theorem dX0_set_12 : decode cX0_set 12 = .ok (.iload_n 1, 1) := by decide +kernel
theorem dX0_set_13 : decode cX0_set 13 = .ok (.iload_n 2, 1) := by decide +kernel
theorem dX0_set_14 : decode cX0_set 14 = .ok (.iastore, 1) := by decide +kernel
theorem dX0_set_15 : decode cX0_set 15 = .ok (.return_, 1) := by decide +kernel
theorem dX0_add_0 : decode cX0_add 0 = .ok (.aload_n 0, 1) := by decide +kernel
theorem dX0_add_1 : decode cX0_add 1 = .ok (.getfield 15, 3) := by decide +kernel
theorem dX0_add_4 : decode cX0_add 4 = .ok (.ifCond .lt 35, 3) := by decide +kernel
theorem dX0_add_7 : decode cX0_add 7 = .ok (.aload_n 0, 1) := by decide +kernel
theorem dX0_add_8 : decode cX0_add 8 = .ok (.getfield 15, 3) := by decide +kernel
theorem dX0_add_11 : decode cX0_add 11 = .ok (.aload_n 0, 1) := by decide +kernel
theorem dX0_add_12 : decode cX0_add 12 = .ok (.getfield 9, 3) := by decide +kernel
theorem dX0_add_15 : decode cX0_add 15 = .ok (.arraylength, 1) := by decide +kernel
theorem dX0_add_16 : decode cX0_add 16 = .ok (.if_icmp .ge 23, 3) := by decide +kernel
theorem dX0_add_19 : decode cX0_add 19 = .ok (.aload_n 0, 1) := by decide +kernel
theorem dX0_add_20 : decode cX0_add 20 = .ok (.getfield 9, 3) := by decide +kernel
theorem dX0_add_23 : decode cX0_add 23 = .ok (.aload_n 0, 1) := by decide +kernel
theorem dX0_add_24 : decode cX0_add 24 = .ok (.getfield 15, 3) := by decide +kernel
theorem dX0_add_27 : decode cX0_add 27 = .ok (.iload_n 1, 1) := by decide +kernel
theorem dX0_add_28 : decode cX0_add 28 = .ok (.iastore, 1) := by decide +kernel
theorem dX0_add_29 : decode cX0_add 29 = .ok (.aload_n 0, 1) := by decide +kernel
theorem dX0_add_30 : decode cX0_add 30 = .ok (.dup, 1) := by decide +kernel
theorem dX0_add_31 : decode cX0_add 31 = .ok (.getfield 15, 3) := by decide +kernel
theorem dX0_add_34 : decode cX0_add 34 = .ok (.iconst 1, 1) := by decide +kernel
theorem dX0_add_35 : decode cX0_add 35 = .ok (.iadd, 1) := by decide +kernel
theorem dX0_add_36 : decode cX0_add 36 = .ok (.putfield 15, 3) := by decide +kernel
theorem dX0_add_39 : decode cX0_add 39 = .ok (.return_, 1) := by decide +kernel
theorem dX0_clear_0 : decode cX0_clear 0 = .ok (.aload_n 0, 1) := by decide +kernel
theorem dX0_clear_1 : decode cX0_clear 1 = .ok (.iconst 0, 1) := by decide +kernel
theorem dX0_clear_2 : decode cX0_clear 2 = .ok (.putfield 15, 3) := by decide +kernel
theorem dX0_clear_5 : decode cX0_clear 5 = .ok (.return_, 1) := by decide +kernel
theorem dX0_takeAway_0 : decode cX0_takeAway 0 = .ok (.iload_n 1, 1) := by decide +kernel
theorem dX0_takeAway_1 : decode cX0_takeAway 1 = .ok (.ifCond .lt 21, 3) := by decide +kernel
theorem dX0_takeAway_4 : decode cX0_takeAway 4 = .ok (.iload_n 1, 1) := by decide +kernel
theorem dX0_takeAway_5 : decode cX0_takeAway 5 = .ok (.aload_n 0, 1) := by decide +kernel
theorem dX0_takeAway_6 : decode cX0_takeAway 6 = .ok (.getfield 15, 3) := by decide +kernel
theorem dX0_takeAway_9 : decode cX0_takeAway 9 = .ok (.if_icmp .gt 13, 3) := by decide +kernel
theorem dX0_takeAway_12 : decode cX0_takeAway 12 = .ok (.aload_n 0, 1) := by decide +kernel
theorem dX0_takeAway_13 : decode cX0_takeAway 13 = .ok (.dup, 1) := by decide +kernel
theorem dX0_takeAway_14 : decode cX0_takeAway 14 = .ok (.getfield 15, 3) := by decide +kernel
theorem dX0_takeAway_17 : decode cX0_takeAway 17 = .ok (.iload_n 1, 1) := by decide +kernel
theorem dX0_takeAway_18 : decode cX0_takeAway 18 = .ok (.isub, 1) := by decide +kernel
theorem dX0_takeAway_19 : decode cX0_takeAway 19 = .ok (.putfield 15, 3) := by decide +kernel
theorem dX0_takeAway_22 : decode cX0_takeAway 22 = .ok (.return_, 1) := by decide +kernel
theorem dX0_narrow_0 : decode cX0_narrow 0 = .ok (.aload_n 0, 1) := by decide +kernel
theorem dX0_narrow_1 : decode cX0_narrow 1 = .ok (.iconst 0, 1) := by decide +kernel
theorem dX0_narrow_2 : decode cX0_narrow 2 = .ok (.putfield 15, 3) := by decide +kernel
theorem dX0_narrow_5 : decode cX0_narrow 5 = .ok (.iload_n 1, 1) := by decide +kernel
theorem dX0_narrow_6 : decode cX0_narrow 6 = .ok (.istore_n 3, 1) := by decide +kernel
theorem dX0_narrow_7 : decode cX0_narrow 7 = .ok (.iload_n 3, 1) := by decide +kernel
theorem dX0_narrow_8 : decode cX0_narrow 8 = .ok (.ifCond .lt 33, 3) := by decide +kernel
theorem dX0_narrow_11 : decode cX0_narrow 11 = .ok (.iload_n 3, 1) := by decide +kernel
theorem dX0_narrow_12 : decode cX0_narrow 12 = .ok (.iload_n 2, 1) := by decide +kernel
theorem dX0_narrow_13 : decode cX0_narrow 13 = .ok (.if_icmp .ge 28, 3) := by decide +kernel
theorem dX0_narrow_16 : decode cX0_narrow 16 = .ok (.iload_n 3, 1) := by decide +kernel
theorem dX0_narrow_17 : decode cX0_narrow 17 = .ok (.aload_n 0, 1) := by decide +kernel
theorem dX0_narrow_18 : decode cX0_narrow 18 = .ok (.getfield 9, 3) := by decide +kernel
theorem dX0_narrow_21 : decode cX0_narrow 21 = .ok (.arraylength, 1) := by decide +kernel
theorem dX0_narrow_22 : decode cX0_narrow 22 = .ok (.if_icmp .ge 19, 3) := by decide +kernel
theorem dX0_narrow_25 : decode cX0_narrow 25 = .ok (.aload_n 0, 1) := by decide +kernel
theorem dX0_narrow_26 : decode cX0_narrow 26 = .ok (.aload_n 0, 1) := by decide +kernel
theorem dX0_narrow_27 : decode cX0_narrow 27 = .ok (.getfield 9, 3) := by decide +kernel
theorem dX0_narrow_30 : decode cX0_narrow 30 = .ok (.iload_n 3, 1) := by decide +kernel
theorem dX0_narrow_31 : decode cX0_narrow 31 = .ok (.iaload, 1) := by decide +kernel
theorem dX0_narrow_32 : decode cX0_narrow 32 = .ok (.invokevirtual 23, 3) := by decide +kernel
theorem dX0_narrow_35 : decode cX0_narrow 35 = .ok (.iinc 3 1, 3) := by decide +kernel
theorem dX0_narrow_38 : decode cX0_narrow 38 = .ok (.goto (-31), 3) := by decide +kernel
theorem dX0_narrow_41 : decode cX0_narrow 41 = .ok (.return_, 1) := by decide +kernel
theorem dX0_turnRound_0 : decode cX0_turnRound 0 = .ok (.iconst 0, 1) := by decide +kernel
theorem dX0_turnRound_1 : decode cX0_turnRound 1 = .ok (.istore_n 1, 1) := by decide +kernel
theorem dX0_turnRound_2 : decode cX0_turnRound 2 = .ok (.aload_n 0, 1) := by decide +kernel
theorem dX0_turnRound_3 : decode cX0_turnRound 3 = .ok (.getfield 15, 3) := by decide +kernel
theorem dX0_turnRound_6 : decode cX0_turnRound 6 = .ok (.iconst 1, 1) := by decide +kernel
theorem dX0_turnRound_7 : decode cX0_turnRound 7 = .ok (.isub, 1) := by decide +kernel
theorem dX0_turnRound_8 : decode cX0_turnRound 8 = .ok (.istore_n 2, 1) := by decide +kernel
theorem dX0_turnRound_9 : decode cX0_turnRound 9 = .ok (.iload_n 1, 1) := by decide +kernel
theorem dX0_turnRound_10 : decode cX0_turnRound 10 = .ok (.iload_n 2, 1) := by decide +kernel
theorem dX0_turnRound_11 : decode cX0_turnRound 11 = .ok (.if_icmp .ge 34, 3) := by decide +kernel
theorem dX0_turnRound_14 : decode cX0_turnRound 14 = .ok (.aload_n 0, 1) := by decide +kernel
theorem dX0_turnRound_15 : decode cX0_turnRound 15 = .ok (.iload_n 1, 1) := by decide +kernel
theorem dX0_turnRound_16 : decode cX0_turnRound 16 = .ok (.invokevirtual 27, 3) := by decide +kernel
theorem dX0_turnRound_19 : decode cX0_turnRound 19 = .ok (.istore_n 3, 1) := by decide +kernel
theorem dX0_turnRound_20 : decode cX0_turnRound 20 = .ok (.aload_n 0, 1) := by decide +kernel
theorem dX0_turnRound_21 : decode cX0_turnRound 21 = .ok (.iload_n 1, 1) := by decide +kernel
theorem dX0_turnRound_22 : decode cX0_turnRound 22 = .ok (.aload_n 0, 1) := by decide +kernel
theorem dX0_turnRound_23 : decode cX0_turnRound 23 = .ok (.iload_n 2, 1) := by decide +kernel
theorem dX0_turnRound_24 : decode cX0_turnRound 24 = .ok (.invokevirtual 27, 3) := by decide +kernel
theorem dX0_turnRound_27 : decode cX0_turnRound 27 = .ok (.invokevirtual 31, 3) := by decide +kernel
theorem dX0_turnRound_30 : decode cX0_turnRound 30 = .ok (.aload_n 0, 1) := by decide +kernel
theorem dX0_turnRound_31 : decode cX0_turnRound 31 = .ok (.iload_n 2, 1) := by decide +kernel
theorem dX0_turnRound_32 : decode cX0_turnRound 32 = .ok (.iload_n 3, 1) := by decide +kernel
theorem dX0_turnRound_33 : decode cX0_turnRound 33 = .ok (.invokevirtual 31, 3) := by decide +kernel
theorem dX0_turnRound_36 : decode cX0_turnRound 36 = .ok (.iinc 1 1, 3) := by decide +kernel
theorem dX0_turnRound_39 : decode cX0_turnRound 39 = .ok (.iinc 2 (-1), 3) := by decide +kernel
theorem dX0_turnRound_42 : decode cX0_turnRound 42 = .ok (.goto (-33), 3) := by decide +kernel
theorem dX0_turnRound_45 : decode cX0_turnRound 45 = .ok (.return_, 1) := by decide +kernel
theorem dX0_become_0 : decode cX0_become 0 = .ok (.aload_n 0, 1) := by decide +kernel
theorem dX0_become_1 : decode cX0_become 1 = .ok (.iconst 0, 1) := by decide +kernel
theorem dX0_become_2 : decode cX0_become 2 = .ok (.putfield 15, 3) := by decide +kernel
theorem dX0_become_5 : decode cX0_become 5 = .ok (.iconst 0, 1) := by decide +kernel
theorem dX0_become_6 : decode cX0_become 6 = .ok (.istore_n 2, 1) := by decide +kernel
theorem dX0_become_7 : decode cX0_become 7 = .ok (.iload_n 2, 1) := by decide +kernel
theorem dX0_become_8 : decode cX0_become 8 = .ok (.aload_n 1, 1) := by decide +kernel
theorem dX0_become_9 : decode cX0_become 9 = .ok (.getfield 15, 3) := by decide +kernel
theorem dX0_become_12 : decode cX0_become 12 = .ok (.if_icmp .ge 18, 3) := by decide +kernel
theorem dX0_become_15 : decode cX0_become 15 = .ok (.aload_n 0, 1) := by decide +kernel
theorem dX0_become_16 : decode cX0_become 16 = .ok (.aload_n 1, 1) := by decide +kernel
theorem dX0_become_17 : decode cX0_become 17 = .ok (.iload_n 2, 1) := by decide +kernel
theorem dX0_become_18 : decode cX0_become 18 = .ok (.invokevirtual 27, 3) := by decide +kernel
theorem dX0_become_21 : decode cX0_become 21 = .ok (.invokevirtual 23, 3) := by decide +kernel
theorem dX0_become_24 : decode cX0_become 24 = .ok (.iinc 2 1, 3) := by decide +kernel
theorem dX0_become_27 : decode cX0_become 27 = .ok (.goto (-20), 3) := by decide +kernel
theorem dX0_become_30 : decode cX0_become 30 = .ok (.return_, 1) := by decide +kernel
theorem dX1_init_0 : decode cX1_init 0 = .ok (.aload_n 0, 1) := by decide +kernel
theorem dX1_init_1 : decode cX1_init 1 = .ok (.invokespecial 3, 3) := by decide +kernel
theorem dX1_init_4 : decode cX1_init 4 = .ok (.aload_n 0, 1) := by decide +kernel
theorem dX1_init_5 : decode cX1_init 5 = .ok (.bipush 6, 2) := by decide +kernel
theorem dX1_init_7 : decode cX1_init 7 = .ok (.anewarray 9, 3) := by decide +kernel
theorem dX1_init_10 : decode cX1_init 10 = .ok (.putfield 11, 3) := by decide +kernel
theorem dX1_init_13 : decode cX1_init 13 = .ok (.iconst 0, 1) := by decide +kernel
theorem dX1_init_14 : decode cX1_init 14 = .ok (.istore_n 1, 1) := by decide +kernel
theorem dX1_init_15 : decode cX1_init 15 = .ok (.iload_n 1, 1) := by decide +kernel
theorem dX1_init_16 : decode cX1_init 16 = .ok (.bipush 6, 2) := by decide +kernel
theorem dX1_init_18 : decode cX1_init 18 = .ok (.if_icmp .ge 22, 3) := by decide +kernel
theorem dX1_init_21 : decode cX1_init 21 = .ok (.aload_n 0, 1) := by decide +kernel
theorem dX1_init_22 : decode cX1_init 22 = .ok (.getfield 11, 3) := by decide +kernel
theorem dX1_init_25 : decode cX1_init 25 = .ok (.iload_n 1, 1) := by decide +kernel
theorem dX1_init_26 : decode cX1_init 26 = .ok (.new 9, 3) := by decide +kernel
theorem dX1_init_29 : decode cX1_init 29 = .ok (.dup, 1) := by decide +kernel
theorem dX1_init_30 : decode cX1_init 30 = .ok (.invokespecial 17, 3) := by decide +kernel
theorem dX1_init_33 : decode cX1_init 33 = .ok (.aastore, 1) := by decide +kernel
theorem dX1_init_34 : decode cX1_init 34 = .ok (.iinc 1 1, 3) := by decide +kernel
theorem dX1_init_37 : decode cX1_init 37 = .ok (.goto (-22), 3) := by decide +kernel
theorem dX1_init_40 : decode cX1_init 40 = .ok (.aload_n 0, 1) := by decide +kernel
theorem dX1_init_41 : decode cX1_init 41 = .ok (.iconst 0, 1) := by decide +kernel
theorem dX1_init_42 : decode cX1_init 42 = .ok (.putfield 18, 3) := by decide +kernel
theorem dX1_init_45 : decode cX1_init 45 = .ok (.return_, 1) := by decide +kernel
theorem dX1_size_0 : decode cX1_size 0 = .ok (.aload_n 0, 1) := by decide +kernel
theorem dX1_size_1 : decode cX1_size 1 = .ok (.getfield 18, 3) := by decide +kernel
theorem dX1_size_4 : decode cX1_size 4 = .ok (.ireturn, 1) := by decide +kernel
theorem dX1_keep_0 : decode cX1_keep 0 = .ok (.aload_n 0, 1) := by decide +kernel
theorem dX1_keep_1 : decode cX1_keep 1 = .ok (.getfield 11, 3) := by decide +kernel
theorem dX1_keep_4 : decode cX1_keep 4 = .ok (.iconst 5, 1) := by decide +kernel
theorem dX1_keep_5 : decode cX1_keep 5 = .ok (.aaload, 1) := by decide +kernel
theorem dX1_keep_6 : decode cX1_keep 6 = .ok (.astore_n 2, 1) := by decide +kernel
theorem dX1_keep_7 : decode cX1_keep 7 = .ok (.iconst 5, 1) := by decide +kernel
theorem dX1_keep_8 : decode cX1_keep 8 = .ok (.istore_n 3, 1) := by decide +kernel
theorem dX1_keep_9 : decode cX1_keep 9 = .ok (.iload_n 3, 1) := by decide +kernel
theorem dX1_keep_10 : decode cX1_keep 10 = .ok (.ifCond .le 23, 3) := by decide +kernel
theorem dX1_keep_13 : decode cX1_keep 13 = .ok (.aload_n 0, 1) := by decide +kernel
theorem dX1_keep_14 : decode cX1_keep 14 = .ok (.getfield 11, 3) := by decide +kernel
theorem dX1_keep_17 : decode cX1_keep 17 = .ok (.iload_n 3, 1) := by decide +kernel
theorem dX1_keep_18 : decode cX1_keep 18 = .ok (.aload_n 0, 1) := by decide +kernel
theorem dX1_keep_19 : decode cX1_keep 19 = .ok (.getfield 11, 3) := by decide +kernel
theorem dX1_keep_22 : decode cX1_keep 22 = .ok (.iload_n 3, 1) := by decide +kernel
theorem dX1_keep_23 : decode cX1_keep 23 = .ok (.iconst 1, 1) := by decide +kernel
theorem dX1_keep_24 : decode cX1_keep 24 = .ok (.isub, 1) := by decide +kernel
theorem dX1_keep_25 : decode cX1_keep 25 = .ok (.aaload, 1) := by decide +kernel
theorem dX1_keep_26 : decode cX1_keep 26 = .ok (.aastore, 1) := by decide +kernel
theorem dX1_keep_27 : decode cX1_keep 27 = .ok (.iinc 3 (-1), 3) := by decide +kernel
theorem dX1_keep_30 : decode cX1_keep 30 = .ok (.goto (-21), 3) := by decide +kernel
theorem dX1_keep_33 : decode cX1_keep 33 = .ok (.aload_n 0, 1) := by decide +kernel
theorem dX1_keep_34 : decode cX1_keep 34 = .ok (.getfield 11, 3) := by decide +kernel
theorem dX1_keep_37 : decode cX1_keep 37 = .ok (.iconst 0, 1) := by decide +kernel
theorem dX1_keep_38 : decode cX1_keep 38 = .ok (.aload_n 2, 1) := by decide +kernel
theorem dX1_keep_39 : decode cX1_keep 39 = .ok (.aastore, 1) := by decide +kernel
theorem dX1_keep_40 : decode cX1_keep 40 = .ok (.aload_n 2, 1) := by decide +kernel
theorem dX1_keep_41 : decode cX1_keep 41 = .ok (.aload_n 1, 1) := by decide +kernel
theorem dX1_keep_42 : decode cX1_keep 42 = .ok (.invokevirtual 22, 3) := by decide +kernel
theorem dX1_keep_45 : decode cX1_keep 45 = .ok (.aload_n 0, 1) := by decide +kernel
theorem dX1_keep_46 : decode cX1_keep 46 = .ok (.getfield 18, 3) := by decide +kernel
theorem dX1_keep_49 : decode cX1_keep 49 = .ok (.bipush 6, 2) := by decide +kernel
theorem dX1_keep_51 : decode cX1_keep 51 = .ok (.if_icmp .ge 13, 3) := by decide +kernel
theorem dX1_keep_54 : decode cX1_keep 54 = .ok (.aload_n 0, 1) := by decide +kernel
theorem dX1_keep_55 : decode cX1_keep 55 = .ok (.dup, 1) := by decide +kernel
theorem dX1_keep_56 : decode cX1_keep 56 = .ok (.getfield 18, 3) := by decide +kernel
theorem dX1_keep_59 : decode cX1_keep 59 = .ok (.iconst 1, 1) := by decide +kernel
theorem dX1_keep_60 : decode cX1_keep 60 = .ok (.iadd, 1) := by decide +kernel
theorem dX1_keep_61 : decode cX1_keep 61 = .ok (.putfield 18, 3) := by decide +kernel
theorem dX1_keep_64 : decode cX1_keep 64 = .ok (.return_, 1) := by decide +kernel
theorem dX1_bringBack_0 : decode cX1_bringBack 0 = .ok (.aload_n 0, 1) := by decide +kernel
theorem dX1_bringBack_1 : decode cX1_bringBack 1 = .ok (.getfield 18, 3) := by decide +kernel
theorem dX1_bringBack_4 : decode cX1_bringBack 4 = .ok (.ifCond .ne 4, 3) := by decide +kernel
theorem dX1_bringBack_7 : decode cX1_bringBack 7 = .ok (.return_, 1) := by decide +kernel
theorem dX1_bringBack_8 : decode cX1_bringBack 8 = .ok (.aload_n 0, 1) := by decide +kernel
theorem dX1_bringBack_9 : decode cX1_bringBack 9 = .ok (.getfield 11, 3) := by decide +kernel
theorem dX1_bringBack_12 : decode cX1_bringBack 12 = .ok (.iconst 0, 1) := by decide +kernel
theorem dX1_bringBack_13 : decode cX1_bringBack 13 = .ok (.aaload, 1) := by decide +kernel
theorem dX1_bringBack_14 : decode cX1_bringBack 14 = .ok (.astore_n 2, 1) := by decide +kernel
theorem dX1_bringBack_15 : decode cX1_bringBack 15 = .ok (.aload_n 1, 1) := by decide +kernel
theorem dX1_bringBack_16 : decode cX1_bringBack 16 = .ok (.aload_n 2, 1) := by decide +kernel
theorem dX1_bringBack_17 : decode cX1_bringBack 17 = .ok (.invokevirtual 22, 3) := by decide +kernel
theorem dX1_bringBack_20 : decode cX1_bringBack 20 = .ok (.iconst 0, 1) := by decide +kernel
theorem dX1_bringBack_21 : decode cX1_bringBack 21 = .ok (.istore_n 3, 1) := by decide +kernel
theorem dX1_bringBack_22 : decode cX1_bringBack 22 = .ok (.iload_n 3, 1) := by decide +kernel
theorem dX1_bringBack_23 : decode cX1_bringBack 23 = .ok (.iconst 1, 1) := by decide +kernel
theorem dX1_bringBack_24 : decode cX1_bringBack 24 = .ok (.iadd, 1) := by decide +kernel
theorem dX1_bringBack_25 : decode cX1_bringBack 25 = .ok (.bipush 6, 2) := by decide +kernel
theorem dX1_bringBack_27 : decode cX1_bringBack 27 = .ok (.if_icmp .ge 23, 3) := by decide +kernel
theorem dX1_bringBack_30 : decode cX1_bringBack 30 = .ok (.aload_n 0, 1) := by decide +kernel
theorem dX1_bringBack_31 : decode cX1_bringBack 31 = .ok (.getfield 11, 3) := by decide +kernel
theorem dX1_bringBack_34 : decode cX1_bringBack 34 = .ok (.iload_n 3, 1) := by decide +kernel
theorem dX1_bringBack_35 : decode cX1_bringBack 35 = .ok (.aload_n 0, 1) := by decide +kernel
theorem dX1_bringBack_36 : decode cX1_bringBack 36 = .ok (.getfield 11, 3) := by decide +kernel
theorem dX1_bringBack_39 : decode cX1_bringBack 39 = .ok (.iload_n 3, 1) := by decide +kernel
theorem dX1_bringBack_40 : decode cX1_bringBack 40 = .ok (.iconst 1, 1) := by decide +kernel
theorem dX1_bringBack_41 : decode cX1_bringBack 41 = .ok (.iadd, 1) := by decide +kernel
theorem dX1_bringBack_42 : decode cX1_bringBack 42 = .ok (.aaload, 1) := by decide +kernel
theorem dX1_bringBack_43 : decode cX1_bringBack 43 = .ok (.aastore, 1) := by decide +kernel
theorem dX1_bringBack_44 : decode cX1_bringBack 44 = .ok (.iinc 3 1, 3) := by decide +kernel
theorem dX1_bringBack_47 : decode cX1_bringBack 47 = .ok (.goto (-25), 3) := by decide +kernel
theorem dX1_bringBack_50 : decode cX1_bringBack 50 = .ok (.aload_n 0, 1) := by decide +kernel
theorem dX1_bringBack_51 : decode cX1_bringBack 51 = .ok (.getfield 11, 3) := by decide +kernel
theorem dX1_bringBack_54 : decode cX1_bringBack 54 = .ok (.iconst 5, 1) := by decide +kernel
theorem dX1_bringBack_55 : decode cX1_bringBack 55 = .ok (.aload_n 2, 1) := by decide +kernel
theorem dX1_bringBack_56 : decode cX1_bringBack 56 = .ok (.aastore, 1) := by decide +kernel
theorem dX1_bringBack_57 : decode cX1_bringBack 57 = .ok (.aload_n 0, 1) := by decide +kernel
theorem dX1_bringBack_58 : decode cX1_bringBack 58 = .ok (.dup, 1) := by decide +kernel
theorem dX1_bringBack_59 : decode cX1_bringBack 59 = .ok (.getfield 18, 3) := by decide +kernel
theorem dX1_bringBack_62 : decode cX1_bringBack 62 = .ok (.iconst 1, 1) := by decide +kernel
theorem dX1_bringBack_63 : decode cX1_bringBack 63 = .ok (.isub, 1) := by decide +kernel
theorem dX1_bringBack_64 : decode cX1_bringBack 64 = .ok (.putfield 18, 3) := by decide +kernel
theorem dX1_bringBack_67 : decode cX1_bringBack 67 = .ok (.return_, 1) := by decide +kernel
theorem dX2_isSign_0 : decode cX2_isSign 0 = .ok (.iload_n 0, 1) := by decide +kernel
theorem dX2_isSign_1 : decode cX2_isSign 1 = .ok (.iconst 0, 1) := by decide +kernel
theorem dX2_isSign_2 : decode cX2_isSign 2 = .ok (.sipush 255, 3) := by decide +kernel
theorem dX2_isSign_5 : decode cX2_isSign 5 = .ok (.invokestatic 9, 3) := by decide +kernel
theorem dX2_isSign_8 : decode cX2_isSign 8 = .ok (.ireturn, 1) := by decide +kernel
theorem dX2_isRadix_0 : decode cX2_isRadix 0 = .ok (.iload_n 0, 1) := by decide +kernel
theorem dX2_isRadix_1 : decode cX2_isRadix 1 = .ok (.iconst 2, 1) := by decide +kernel
theorem dX2_isRadix_2 : decode cX2_isRadix 2 = .ok (.bipush 36, 2) := by decide +kernel
theorem dX2_isRadix_4 : decode cX2_isRadix 4 = .ok (.invokestatic 9, 3) := by decide +kernel
theorem dX2_isRadix_7 : decode cX2_isRadix 7 = .ok (.ireturn, 1) := by decide +kernel
theorem dX2_isOf_0 : decode cX2_isOf 0 = .ok (.iload_n 1, 1) := by decide +kernel
theorem dX2_isOf_1 : decode cX2_isOf 1 = .ok (.tableswitch 98 0 4 #[35, 40, 45, 65, 93], 35) := by decide +kernel
theorem dX2_isOf_36 : decode cX2_isOf 36 = .ok (.iload_n 0, 1) := by decide +kernel
theorem dX2_isOf_37 : decode cX2_isOf 37 = .ok (.invokestatic 15, 3) := by decide +kernel
theorem dX2_isOf_40 : decode cX2_isOf 40 = .ok (.ireturn, 1) := by decide +kernel
theorem dX2_isOf_41 : decode cX2_isOf 41 = .ok (.iload_n 0, 1) := by decide +kernel
theorem dX2_isOf_42 : decode cX2_isOf 42 = .ok (.invokestatic 19, 3) := by decide +kernel
theorem dX2_isOf_45 : decode cX2_isOf 45 = .ok (.ireturn, 1) := by decide +kernel
theorem dX2_isOf_46 : decode cX2_isOf 46 = .ok (.iload_n 0, 1) := by decide +kernel
theorem dX2_isOf_47 : decode cX2_isOf 47 = .ok (.invokestatic 19, 3) := by decide +kernel
theorem dX2_isOf_50 : decode cX2_isOf 50 = .ok (.ifCond .ne 10, 3) := by decide +kernel
theorem dX2_isOf_53 : decode cX2_isOf 53 = .ok (.iload_n 0, 1) := by decide +kernel
theorem dX2_isOf_54 : decode cX2_isOf 54 = .ok (.invokestatic 15, 3) := by decide +kernel
theorem dX2_isOf_57 : decode cX2_isOf 57 = .ok (.ifCond .eq 7, 3) := by decide +kernel
theorem dX2_isOf_60 : decode cX2_isOf 60 = .ok (.iconst 1, 1) := by decide +kernel
theorem dX2_isOf_61 : decode cX2_isOf 61 = .ok (.goto 4, 3) := by decide +kernel
theorem dX2_isOf_64 : decode cX2_isOf 64 = .ok (.iconst 0, 1) := by decide +kernel
theorem dX2_isOf_65 : decode cX2_isOf 65 = .ok (.ireturn, 1) := by decide +kernel
theorem dX2_isOf_66 : decode cX2_isOf 66 = .ok (.iload_n 0, 1) := by decide +kernel
theorem dX2_isOf_67 : decode cX2_isOf 67 = .ok (.bipush 9, 2) := by decide +kernel
theorem dX2_isOf_69 : decode cX2_isOf 69 = .ok (.bipush 13, 2) := by decide +kernel
theorem dX2_isOf_71 : decode cX2_isOf 71 = .ok (.invokestatic 9, 3) := by decide +kernel
theorem dX2_isOf_74 : decode cX2_isOf 74 = .ok (.ifCond .ne 14, 3) := by decide +kernel
theorem dX2_isOf_77 : decode cX2_isOf 77 = .ok (.iload_n 0, 1) := by decide +kernel
theorem dX2_isOf_78 : decode cX2_isOf 78 = .ok (.bipush 28, 2) := by decide +kernel
theorem dX2_isOf_80 : decode cX2_isOf 80 = .ok (.bipush 32, 2) := by decide +kernel
theorem dX2_isOf_82 : decode cX2_isOf 82 = .ok (.invokestatic 9, 3) := by decide +kernel
theorem dX2_isOf_85 : decode cX2_isOf 85 = .ok (.ifCond .eq 7, 3) := by decide +kernel
theorem dX2_isOf_88 : decode cX2_isOf 88 = .ok (.iconst 1, 1) := by decide +kernel
theorem dX2_isOf_89 : decode cX2_isOf 89 = .ok (.goto 4, 3) := by decide +kernel
theorem dX2_isOf_92 : decode cX2_isOf 92 = .ok (.iconst 0, 1) := by decide +kernel
theorem dX2_isOf_93 : decode cX2_isOf 93 = .ok (.ireturn, 1) := by decide +kernel
theorem dX2_isOf_94 : decode cX2_isOf 94 = .ok (.iload_n 0, 1) := by decide +kernel
theorem dX2_isOf_95 : decode cX2_isOf 95 = .ok (.invokestatic 22, 3) := by decide +kernel
theorem dX2_isOf_98 : decode cX2_isOf 98 = .ok (.ireturn, 1) := by decide +kernel
theorem dX2_isOf_99 : decode cX2_isOf 99 = .ok (.iconst 0, 1) := by decide +kernel
theorem dX2_isOf_100 : decode cX2_isOf 100 = .ok (.ireturn, 1) := by decide +kernel
theorem dX2_kindsOf_0 : decode cX2_kindsOf 0 = .ok (.iconst 0, 1) := by decide +kernel
theorem dX2_kindsOf_1 : decode cX2_kindsOf 1 = .ok (.istore_n 1, 1) := by decide +kernel
theorem dX2_kindsOf_2 : decode cX2_kindsOf 2 = .ok (.iconst 0, 1) := by decide +kernel
theorem dX2_kindsOf_3 : decode cX2_kindsOf 3 = .ok (.istore_n 2, 1) := by decide +kernel
theorem dX2_kindsOf_4 : decode cX2_kindsOf 4 = .ok (.iload_n 2, 1) := by decide +kernel
theorem dX2_kindsOf_5 : decode cX2_kindsOf 5 = .ok (.iconst 5, 1) := by decide +kernel
theorem dX2_kindsOf_6 : decode cX2_kindsOf 6 = .ok (.if_icmp .ge 23, 3) := by decide +kernel
theorem dX2_kindsOf_9 : decode cX2_kindsOf 9 = .ok (.iload_n 0, 1) := by decide +kernel
theorem dX2_kindsOf_10 : decode cX2_kindsOf 10 = .ok (.iload_n 2, 1) := by decide +kernel
theorem dX2_kindsOf_11 : decode cX2_kindsOf 11 = .ok (.invokestatic 25, 3) := by decide +kernel
theorem dX2_kindsOf_14 : decode cX2_kindsOf 14 = .ok (.ifCond .eq 9, 3) := by decide +kernel
theorem dX2_kindsOf_17 : decode cX2_kindsOf 17 = .ok (.iload_n 1, 1) := by decide +kernel
theorem dX2_kindsOf_18 : decode cX2_kindsOf 18 = .ok (.iconst 1, 1) := by decide +kernel
theorem dX2_kindsOf_19 : decode cX2_kindsOf 19 = .ok (.iload_n 2, 1) := by decide +kernel
theorem dX2_kindsOf_20 : decode cX2_kindsOf 20 = .ok (.ishl, 1) := by decide +kernel
theorem dX2_kindsOf_21 : decode cX2_kindsOf 21 = .ok (.iadd, 1) := by decide +kernel
theorem dX2_kindsOf_22 : decode cX2_kindsOf 22 = .ok (.istore_n 1, 1) := by decide +kernel
theorem dX2_kindsOf_23 : decode cX2_kindsOf 23 = .ok (.iinc 2 1, 3) := by decide +kernel
theorem dX2_kindsOf_26 : decode cX2_kindsOf 26 = .ok (.goto (-22), 3) := by decide +kernel
theorem dX2_kindsOf_29 : decode cX2_kindsOf 29 = .ok (.iload_n 1, 1) := by decide +kernel
theorem dX2_kindsOf_30 : decode cX2_kindsOf 30 = .ok (.ireturn, 1) := by decide +kernel
theorem dX2_upperOf_0 : decode cX2_upperOf 0 = .ok (.iload_n 0, 1) := by decide +kernel
theorem dX2_upperOf_1 : decode cX2_upperOf 1 = .ok (.invokestatic 29, 3) := by decide +kernel
theorem dX2_upperOf_4 : decode cX2_upperOf 4 = .ok (.ifCond .ne 29, 3) := by decide +kernel
theorem dX2_upperOf_7 : decode cX2_upperOf 7 = .ok (.iload_n 0, 1) := by decide +kernel
theorem dX2_upperOf_8 : decode cX2_upperOf 8 = .ok (.sipush 224, 3) := by decide +kernel
theorem dX2_upperOf_11 : decode cX2_upperOf 11 = .ok (.sipush 246, 3) := by decide +kernel
theorem dX2_upperOf_14 : decode cX2_upperOf 14 = .ok (.invokestatic 9, 3) := by decide +kernel
theorem dX2_upperOf_17 : decode cX2_upperOf 17 = .ok (.ifCond .ne 16, 3) := by decide +kernel
theorem dX2_upperOf_20 : decode cX2_upperOf 20 = .ok (.iload_n 0, 1) := by decide +kernel
theorem dX2_upperOf_21 : decode cX2_upperOf 21 = .ok (.sipush 248, 3) := by decide +kernel
theorem dX2_upperOf_24 : decode cX2_upperOf 24 = .ok (.sipush 254, 3) := by decide +kernel
theorem dX2_upperOf_27 : decode cX2_upperOf 27 = .ok (.invokestatic 9, 3) := by decide +kernel
theorem dX2_upperOf_30 : decode cX2_upperOf 30 = .ok (.ifCond .eq 8, 3) := by decide +kernel
theorem dX2_upperOf_33 : decode cX2_upperOf 33 = .ok (.iload_n 0, 1) := by decide +kernel
theorem dX2_upperOf_34 : decode cX2_upperOf 34 = .ok (.bipush 32, 2) := by decide +kernel
theorem dX2_upperOf_36 : decode cX2_upperOf 36 = .ok (.isub, 1) := by decide +kernel
theorem dX2_upperOf_37 : decode cX2_upperOf 37 = .ok (.ireturn, 1) := by decide +kernel
theorem dX2_upperOf_38 : decode cX2_upperOf 38 = .ok (.iload_n 0, 1) := by decide +kernel
theorem dX2_upperOf_39 : decode cX2_upperOf 39 = .ok (.sipush 181, 3) := by decide +kernel
theorem dX2_upperOf_42 : decode cX2_upperOf 42 = .ok (.if_icmp .ne 7, 3) := by decide +kernel
theorem dX2_upperOf_45 : decode cX2_upperOf 45 = .ok (.sipush 924, 3) := by decide +kernel
theorem dX2_upperOf_48 : decode cX2_upperOf 48 = .ok (.ireturn, 1) := by decide +kernel
theorem dX2_upperOf_49 : decode cX2_upperOf 49 = .ok (.iload_n 0, 1) := by decide +kernel
theorem dX2_upperOf_50 : decode cX2_upperOf 50 = .ok (.sipush 255, 3) := by decide +kernel
theorem dX2_upperOf_53 : decode cX2_upperOf 53 = .ok (.if_icmp .ne 9, 3) := by decide +kernel
theorem dX2_upperOf_56 : decode cX2_upperOf 56 = .ok (.sipush 376, 3) := by decide +kernel
theorem dX2_upperOf_59 : decode cX2_upperOf 59 = .ok (.goto 4, 3) := by decide +kernel
theorem dX2_upperOf_62 : decode cX2_upperOf 62 = .ok (.iload_n 0, 1) := by decide +kernel
theorem dX2_upperOf_63 : decode cX2_upperOf 63 = .ok (.ireturn, 1) := by decide +kernel
theorem dX2_lowerOf_0 : decode cX2_lowerOf 0 = .ok (.iload_n 0, 1) := by decide +kernel
theorem dX2_lowerOf_1 : decode cX2_lowerOf 1 = .ok (.invokestatic 22, 3) := by decide +kernel
theorem dX2_lowerOf_4 : decode cX2_lowerOf 4 = .ok (.ifCond .eq 10, 3) := by decide +kernel
theorem dX2_lowerOf_7 : decode cX2_lowerOf 7 = .ok (.iload_n 0, 1) := by decide +kernel
theorem dX2_lowerOf_8 : decode cX2_lowerOf 8 = .ok (.bipush 32, 2) := by decide +kernel
theorem dX2_lowerOf_10 : decode cX2_lowerOf 10 = .ok (.iadd, 1) := by decide +kernel
theorem dX2_lowerOf_11 : decode cX2_lowerOf 11 = .ok (.goto 4, 3) := by decide +kernel
theorem dX2_lowerOf_14 : decode cX2_lowerOf 14 = .ok (.iload_n 0, 1) := by decide +kernel
theorem dX2_lowerOf_15 : decode cX2_lowerOf 15 = .ok (.ireturn, 1) := by decide +kernel
theorem dX2_signValue_0 : decode cX2_signValue 0 = .ok (.iload_n 0, 1) := by decide +kernel
theorem dX2_signValue_1 : decode cX2_signValue 1 = .ok (.tableswitch 76 178 190 #[67, 69, 76, 76, 76, 76, 76, 71, 76, 76, 73, 73, 73], 67) := by decide +kernel
theorem dX2_signValue_68 : decode cX2_signValue 68 = .ok (.iconst 2, 1) := by decide +kernel
theorem dX2_signValue_69 : decode cX2_signValue 69 = .ok (.ireturn, 1) := by decide +kernel
theorem dX2_signValue_70 : decode cX2_signValue 70 = .ok (.iconst 3, 1) := by decide +kernel
theorem dX2_signValue_71 : decode cX2_signValue 71 = .ok (.ireturn, 1) := by decide +kernel
theorem dX2_signValue_72 : decode cX2_signValue 72 = .ok (.iconst 1, 1) := by decide +kernel
theorem dX2_signValue_73 : decode cX2_signValue 73 = .ok (.ireturn, 1) := by decide +kernel
theorem dX2_signValue_74 : decode cX2_signValue 74 = .ok (.bipush (-2), 2) := by decide +kernel
theorem dX2_signValue_76 : decode cX2_signValue 76 = .ok (.ireturn, 1) := by decide +kernel
theorem dX2_signValue_77 : decode cX2_signValue 77 = .ok (.iload_n 0, 1) := by decide +kernel
theorem dX2_signValue_78 : decode cX2_signValue 78 = .ok (.invokestatic 32, 3) := by decide +kernel
theorem dX2_signValue_81 : decode cX2_signValue 81 = .ok (.ireturn, 1) := by decide +kernel
theorem dX2_numberOf_0 : decode cX2_numberOf 0 = .ok (.iload_n 0, 1) := by decide +kernel
theorem dX2_numberOf_1 : decode cX2_numberOf 1 = .ok (.invokestatic 32, 3) := by decide +kernel
theorem dX2_numberOf_4 : decode cX2_numberOf 4 = .ok (.istore_n 2, 1) := by decide +kernel
theorem dX2_numberOf_5 : decode cX2_numberOf 5 = .ok (.iload_n 1, 1) := by decide +kernel
theorem dX2_numberOf_6 : decode cX2_numberOf 6 = .ok (.invokestatic 36, 3) := by decide +kernel
theorem dX2_numberOf_9 : decode cX2_numberOf 9 = .ok (.ifCond .eq 12, 3) := by decide +kernel
theorem dX2_numberOf_12 : decode cX2_numberOf 12 = .ok (.iload_n 2, 1) := by decide +kernel
theorem dX2_numberOf_13 : decode cX2_numberOf 13 = .ok (.iload_n 1, 1) := by decide +kernel
theorem dX2_numberOf_14 : decode cX2_numberOf 14 = .ok (.if_icmp .ge 7, 3) := by decide +kernel
theorem dX2_numberOf_17 : decode cX2_numberOf 17 = .ok (.iload_n 2, 1) := by decide +kernel
theorem dX2_numberOf_18 : decode cX2_numberOf 18 = .ok (.goto 4, 3) := by decide +kernel
theorem dX2_numberOf_21 : decode cX2_numberOf 21 = .ok (.iconst (-1), 1) := by decide +kernel
theorem dX2_numberOf_22 : decode cX2_numberOf 22 = .ok (.ireturn, 1) := by decide +kernel
theorem dX2_digitOf_0 : decode cX2_digitOf 0 = .ok (.iload_n 1, 1) := by decide +kernel
theorem dX2_digitOf_1 : decode cX2_digitOf 1 = .ok (.invokestatic 36, 3) := by decide +kernel
theorem dX2_digitOf_4 : decode cX2_digitOf 4 = .ok (.ifCond .eq 12, 3) := by decide +kernel
theorem dX2_digitOf_7 : decode cX2_digitOf 7 = .ok (.iload_n 0, 1) := by decide +kernel
theorem dX2_digitOf_8 : decode cX2_digitOf 8 = .ok (.ifCond .lt 8, 3) := by decide +kernel
theorem dX2_digitOf_11 : decode cX2_digitOf 11 = .ok (.iload_n 0, 1) := by decide +kernel
theorem dX2_digitOf_12 : decode cX2_digitOf 12 = .ok (.iload_n 1, 1) := by decide +kernel
theorem dX2_digitOf_13 : decode cX2_digitOf 13 = .ok (.if_icmp .lt 5, 3) := by decide +kernel
theorem dX2_digitOf_16 : decode cX2_digitOf 16 = .ok (.iconst 0, 1) := by decide +kernel
theorem dX2_digitOf_17 : decode cX2_digitOf 17 = .ok (.ireturn, 1) := by decide +kernel
theorem dX2_digitOf_18 : decode cX2_digitOf 18 = .ok (.iload_n 0, 1) := by decide +kernel
theorem dX2_digitOf_19 : decode cX2_digitOf 19 = .ok (.bipush 10, 2) := by decide +kernel
theorem dX2_digitOf_21 : decode cX2_digitOf 21 = .ok (.if_icmp .ge 10, 3) := by decide +kernel
theorem dX2_digitOf_24 : decode cX2_digitOf 24 = .ok (.iload_n 0, 1) := by decide +kernel
theorem dX2_digitOf_25 : decode cX2_digitOf 25 = .ok (.bipush 48, 2) := by decide +kernel
theorem dX2_digitOf_27 : decode cX2_digitOf 27 = .ok (.iadd, 1) := by decide +kernel
theorem dX2_digitOf_28 : decode cX2_digitOf 28 = .ok (.goto 7, 3) := by decide +kernel
theorem dX2_digitOf_31 : decode cX2_digitOf 31 = .ok (.iload_n 0, 1) := by decide +kernel
theorem dX2_digitOf_32 : decode cX2_digitOf 32 = .ok (.bipush 87, 2) := by decide +kernel
theorem dX2_digitOf_34 : decode cX2_digitOf 34 = .ok (.iadd, 1) := by decide +kernel
theorem dX2_digitOf_35 : decode cX2_digitOf 35 = .ok (.ireturn, 1) := by decide +kernel
theorem dX2_digitsOf_0 : decode cX2_digitsOf 0 = .ok (.iconst 1, 1) := by decide +kernel
theorem dX2_digitsOf_1 : decode cX2_digitsOf 1 = .ok (.istore_n 2, 1) := by decide +kernel
theorem dX2_digitsOf_2 : decode cX2_digitsOf 2 = .ok (.iload_n 2, 1) := by decide +kernel
theorem dX2_digitsOf_3 : decode cX2_digitsOf 3 = .ok (.bipush 20, 2) := by decide +kernel
theorem dX2_digitsOf_5 : decode cX2_digitsOf 5 = .ok (.if_icmp .ge 18, 3) := by decide +kernel
theorem dX2_digitsOf_8 : decode cX2_digitsOf 8 = .ok (.iload_n 0, 1) := by decide +kernel
theorem dX2_digitsOf_9 : decode cX2_digitsOf 9 = .ok (.iload_n 1, 1) := by decide +kernel
theorem dX2_digitsOf_10 : decode cX2_digitsOf 10 = .ok (.iload_n 2, 1) := by decide +kernel
theorem dX2_digitsOf_11 : decode cX2_digitsOf 11 = .ok (.invokestatic 39, 3) := by decide +kernel
theorem dX2_digitsOf_14 : decode cX2_digitsOf 14 = .ok (.ifCond .le 9, 3) := by decide +kernel
theorem dX2_digitsOf_17 : decode cX2_digitsOf 17 = .ok (.iinc 2 1, 3) := by decide +kernel
theorem dX2_digitsOf_20 : decode cX2_digitsOf 20 = .ok (.goto (-18), 3) := by decide +kernel
theorem dX2_digitsOf_23 : decode cX2_digitsOf 23 = .ok (.iload_n 2, 1) := by decide +kernel
theorem dX2_digitsOf_24 : decode cX2_digitsOf 24 = .ok (.ireturn, 1) := by decide +kernel
theorem dX2_digitNumber_0 : decode cX2_digitNumber 0 = .ok (.iload_n 1, 1) := by decide +kernel
theorem dX2_digitNumber_1 : decode cX2_digitNumber 1 = .ok (.invokestatic 36, 3) := by decide +kernel
theorem dX2_digitNumber_4 : decode cX2_digitNumber 4 = .ok (.ifCond .eq 14, 3) := by decide +kernel
theorem dX2_digitNumber_7 : decode cX2_digitNumber 7 = .ok (.iload_n 0, 1) := by decide +kernel
theorem dX2_digitNumber_8 : decode cX2_digitNumber 8 = .ok (.iload_n 1, 1) := by decide +kernel
theorem dX2_digitNumber_9 : decode cX2_digitNumber 9 = .ok (.iload_n 2, 1) := by decide +kernel
theorem dX2_digitNumber_10 : decode cX2_digitNumber 10 = .ok (.invokestatic 39, 3) := by decide +kernel
theorem dX2_digitNumber_13 : decode cX2_digitNumber 13 = .ok (.iload_n 1, 1) := by decide +kernel
theorem dX2_digitNumber_14 : decode cX2_digitNumber 14 = .ok (.irem, 1) := by decide +kernel
theorem dX2_digitNumber_15 : decode cX2_digitNumber 15 = .ok (.goto 4, 3) := by decide +kernel
theorem dX2_digitNumber_18 : decode cX2_digitNumber 18 = .ok (.iconst 0, 1) := by decide +kernel
theorem dX2_digitNumber_19 : decode cX2_digitNumber 19 = .ok (.ireturn, 1) := by decide +kernel
theorem dX2_shifted_0 : decode cX2_shifted 0 = .ok (.iload_n 1, 1) := by decide +kernel
theorem dX2_shifted_1 : decode cX2_shifted 1 = .ok (.invokestatic 36, 3) := by decide +kernel
theorem dX2_shifted_4 : decode cX2_shifted 4 = .ok (.ifCond .ne 5, 3) := by decide +kernel
theorem dX2_shifted_7 : decode cX2_shifted 7 = .ok (.iconst 0, 1) := by decide +kernel
theorem dX2_shifted_8 : decode cX2_shifted 8 = .ok (.ireturn, 1) := by decide +kernel
theorem dX2_shifted_9 : decode cX2_shifted 9 = .ok (.iload_n 0, 1) := by decide +kernel
theorem dX2_shifted_10 : decode cX2_shifted 10 = .ok (.istore_n 3, 1) := by decide +kernel
theorem dX2_shifted_11 : decode cX2_shifted 11 = .ok (.iconst 0, 1) := by decide +kernel
theorem dX2_shifted_12 : decode cX2_shifted 12 = .ok (.istore 4, 2) := by decide +kernel
theorem dX2_shifted_14 : decode cX2_shifted 14 = .ok (.iload 4, 2) := by decide +kernel
theorem dX2_shifted_16 : decode cX2_shifted 16 = .ok (.iload_n 2, 1) := by decide +kernel
theorem dX2_shifted_17 : decode cX2_shifted 17 = .ok (.if_icmp .ge 13, 3) := by decide +kernel
theorem dX2_shifted_20 : decode cX2_shifted 20 = .ok (.iload_n 3, 1) := by decide +kernel
theorem dX2_shifted_21 : decode cX2_shifted 21 = .ok (.iload_n 1, 1) := by decide +kernel
theorem dX2_shifted_22 : decode cX2_shifted 22 = .ok (.idiv, 1) := by decide +kernel
theorem dX2_shifted_23 : decode cX2_shifted 23 = .ok (.istore_n 3, 1) := by decide +kernel
theorem dX2_shifted_24 : decode cX2_shifted 24 = .ok (.iinc 4 1, 3) := by decide +kernel
theorem dX2_shifted_27 : decode cX2_shifted 27 = .ok (.goto (-13), 3) := by decide +kernel
theorem dX2_shifted_30 : decode cX2_shifted 30 = .ok (.iload_n 3, 1) := by decide +kernel
theorem dX2_shifted_31 : decode cX2_shifted 31 = .ok (.ireturn, 1) := by decide +kernel
theorem dX2_firstSpelled_0 : decode cX2_firstSpelled 0 = .ok (.iload_n 0, 1) := by decide +kernel
theorem dX2_firstSpelled_1 : decode cX2_firstSpelled 1 = .ok (.bipush 16, 2) := by decide +kernel
theorem dX2_firstSpelled_3 : decode cX2_firstSpelled 3 = .ok (.idiv, 1) := by decide +kernel
theorem dX2_firstSpelled_4 : decode cX2_firstSpelled 4 = .ok (.bipush 16, 2) := by decide +kernel
theorem dX2_firstSpelled_6 : decode cX2_firstSpelled 6 = .ok (.invokestatic 43, 3) := by decide +kernel
theorem dX2_firstSpelled_9 : decode cX2_firstSpelled 9 = .ok (.ireturn, 1) := by decide +kernel
theorem dX2_secondSpelled_0 : decode cX2_secondSpelled 0 = .ok (.iload_n 0, 1) := by decide +kernel
theorem dX2_secondSpelled_1 : decode cX2_secondSpelled 1 = .ok (.bipush 16, 2) := by decide +kernel
theorem dX2_secondSpelled_3 : decode cX2_secondSpelled 3 = .ok (.irem, 1) := by decide +kernel
theorem dX2_secondSpelled_4 : decode cX2_secondSpelled 4 = .ok (.bipush 16, 2) := by decide +kernel
theorem dX2_secondSpelled_6 : decode cX2_secondSpelled 6 = .ok (.invokestatic 43, 3) := by decide +kernel
theorem dX2_secondSpelled_9 : decode cX2_secondSpelled 9 = .ok (.ireturn, 1) := by decide +kernel
theorem dX2_formOf_0 : decode cX2_formOf 0 = .ok (.iload_n 0, 1) := by decide +kernel
theorem dX2_formOf_1 : decode cX2_formOf 1 = .ok (.iconst 0, 1) := by decide +kernel
theorem dX2_formOf_2 : decode cX2_formOf 2 = .ok (.invokestatic 25, 3) := by decide +kernel
theorem dX2_formOf_5 : decode cX2_formOf 5 = .ok (.ifCond .eq 6, 3) := by decide +kernel
theorem dX2_formOf_8 : decode cX2_formOf 8 = .ok (.bipush 100, 2) := by decide +kernel
theorem dX2_formOf_10 : decode cX2_formOf 10 = .ok (.ireturn, 1) := by decide +kernel
theorem dX2_formOf_11 : decode cX2_formOf 11 = .ok (.iload_n 0, 1) := by decide +kernel
theorem dX2_formOf_12 : decode cX2_formOf 12 = .ok (.iconst 4, 1) := by decide +kernel
theorem dX2_formOf_13 : decode cX2_formOf 13 = .ok (.invokestatic 25, 3) := by decide +kernel
theorem dX2_formOf_16 : decode cX2_formOf 16 = .ok (.ifCond .eq 6, 3) := by decide +kernel
theorem dX2_formOf_19 : decode cX2_formOf 19 = .ok (.bipush 117, 2) := by decide +kernel
theorem dX2_formOf_21 : decode cX2_formOf 21 = .ok (.ireturn, 1) := by decide +kernel
theorem dX2_formOf_22 : decode cX2_formOf 22 = .ok (.iload_n 0, 1) := by decide +kernel
theorem dX2_formOf_23 : decode cX2_formOf 23 = .ok (.iconst 1, 1) := by decide +kernel
theorem dX2_formOf_24 : decode cX2_formOf 24 = .ok (.invokestatic 25, 3) := by decide +kernel
theorem dX2_formOf_27 : decode cX2_formOf 27 = .ok (.ifCond .eq 6, 3) := by decide +kernel
theorem dX2_formOf_30 : decode cX2_formOf 30 = .ok (.bipush 108, 2) := by decide +kernel
theorem dX2_formOf_32 : decode cX2_formOf 32 = .ok (.ireturn, 1) := by decide +kernel
theorem dX2_formOf_33 : decode cX2_formOf 33 = .ok (.iload_n 0, 1) := by decide +kernel
theorem dX2_formOf_34 : decode cX2_formOf 34 = .ok (.iconst 3, 1) := by decide +kernel
theorem dX2_formOf_35 : decode cX2_formOf 35 = .ok (.invokestatic 25, 3) := by decide +kernel
theorem dX2_formOf_38 : decode cX2_formOf 38 = .ok (.ifCond .eq 8, 3) := by decide +kernel
theorem dX2_formOf_41 : decode cX2_formOf 41 = .ok (.bipush 119, 2) := by decide +kernel
theorem dX2_formOf_43 : decode cX2_formOf 43 = .ok (.goto 5, 3) := by decide +kernel
theorem dX2_formOf_46 : decode cX2_formOf 46 = .ok (.bipush 45, 2) := by decide +kernel
theorem dX2_formOf_48 : decode cX2_formOf 48 = .ok (.ireturn, 1) := by decide +kernel
theorem dX2_isSoundSign_0 : decode cX2_isSoundSign 0 = .ok (.iload_n 0, 1) := by decide +kernel
theorem dX2_isSoundSign_1 : decode cX2_isSoundSign 1 = .ok (.iconst 1, 1) := by decide +kernel
theorem dX2_isSoundSign_2 : decode cX2_isSoundSign 2 = .ok (.invokestatic 25, 3) := by decide +kernel
theorem dX2_isSoundSign_5 : decode cX2_isSoundSign 5 = .ok (.ifCond .ne 11, 3) := by decide +kernel
theorem dX2_isSoundSign_8 : decode cX2_isSoundSign 8 = .ok (.iload_n 0, 1) := by decide +kernel
theorem dX2_isSoundSign_9 : decode cX2_isSoundSign 9 = .ok (.iconst 0, 1) := by decide +kernel
theorem dX2_isSoundSign_10 : decode cX2_isSoundSign 10 = .ok (.invokestatic 25, 3) := by decide +kernel
theorem dX2_isSoundSign_13 : decode cX2_isSoundSign 13 = .ok (.ifCond .eq 7, 3) := by decide +kernel
theorem dX2_isSoundSign_16 : decode cX2_isSoundSign 16 = .ok (.iconst 1, 1) := by decide +kernel
theorem dX2_isSoundSign_17 : decode cX2_isSoundSign 17 = .ok (.goto 4, 3) := by decide +kernel
theorem dX2_isSoundSign_20 : decode cX2_isSoundSign 20 = .ok (.iconst 0, 1) := by decide +kernel
theorem dX2_isSoundSign_21 : decode cX2_isSoundSign 21 = .ok (.istore_n 1, 1) := by decide +kernel
theorem dX2_isSoundSign_22 : decode cX2_isSoundSign 22 = .ok (.iload_n 0, 1) := by decide +kernel
theorem dX2_isSoundSign_23 : decode cX2_isSoundSign 23 = .ok (.iconst 2, 1) := by decide +kernel
theorem dX2_isSoundSign_24 : decode cX2_isSoundSign 24 = .ok (.invokestatic 25, 3) := by decide +kernel
theorem dX2_isSoundSign_27 : decode cX2_isSoundSign 27 = .ok (.iload_n 1, 1) := by decide +kernel
theorem dX2_isSoundSign_28 : decode cX2_isSoundSign 28 = .ok (.if_icmp .eq 5, 3) := by decide +kernel
theorem dX2_isSoundSign_31 : decode cX2_isSoundSign 31 = .ok (.iconst 0, 1) := by decide +kernel
theorem dX2_isSoundSign_32 : decode cX2_isSoundSign 32 = .ok (.ireturn, 1) := by decide +kernel
theorem dX2_isSoundSign_33 : decode cX2_isSoundSign 33 = .ok (.iload_n 0, 1) := by decide +kernel
theorem dX2_isSoundSign_34 : decode cX2_isSoundSign 34 = .ok (.invokestatic 47, 3) := by decide +kernel
theorem dX2_isSoundSign_37 : decode cX2_isSoundSign 37 = .ok (.istore_n 2, 1) := by decide +kernel
theorem dX2_isSoundSign_38 : decode cX2_isSoundSign 38 = .ok (.iload_n 0, 1) := by decide +kernel
theorem dX2_isSoundSign_39 : decode cX2_isSoundSign 39 = .ok (.iconst 4, 1) := by decide +kernel
theorem dX2_isSoundSign_40 : decode cX2_isSoundSign 40 = .ok (.invokestatic 25, 3) := by decide +kernel
theorem dX2_isSoundSign_43 : decode cX2_isSoundSign 43 = .ok (.ifCond .eq 18, 3) := by decide +kernel
theorem dX2_isSoundSign_46 : decode cX2_isSoundSign 46 = .ok (.iload_n 2, 1) := by decide +kernel
theorem dX2_isSoundSign_47 : decode cX2_isSoundSign 47 = .ok (.iload_n 0, 1) := by decide +kernel
theorem dX2_isSoundSign_48 : decode cX2_isSoundSign 48 = .ok (.if_icmp .eq 11, 3) := by decide +kernel
theorem dX2_isSoundSign_51 : decode cX2_isSoundSign 51 = .ok (.iload_n 2, 1) := by decide +kernel
theorem dX2_isSoundSign_52 : decode cX2_isSoundSign 52 = .ok (.invokestatic 50, 3) := by decide +kernel
theorem dX2_isSoundSign_55 : decode cX2_isSoundSign 55 = .ok (.iload_n 0, 1) := by decide +kernel
theorem dX2_isSoundSign_56 : decode cX2_isSoundSign 56 = .ok (.if_icmp .eq 5, 3) := by decide +kernel
theorem dX2_isSoundSign_59 : decode cX2_isSoundSign 59 = .ok (.iconst 0, 1) := by decide +kernel
theorem dX2_isSoundSign_60 : decode cX2_isSoundSign 60 = .ok (.ireturn, 1) := by decide +kernel
theorem dX2_isSoundSign_61 : decode cX2_isSoundSign 61 = .ok (.iload_n 0, 1) := by decide +kernel
theorem dX2_isSoundSign_62 : decode cX2_isSoundSign 62 = .ok (.bipush 36, 2) := by decide +kernel
theorem dX2_isSoundSign_64 : decode cX2_isSoundSign 64 = .ok (.invokestatic 53, 3) := by decide +kernel
theorem dX2_isSoundSign_67 : decode cX2_isSoundSign 67 = .ok (.istore_n 3, 1) := by decide +kernel
theorem dX2_isSoundSign_68 : decode cX2_isSoundSign 68 = .ok (.iload_n 3, 1) := by decide +kernel
theorem dX2_isSoundSign_69 : decode cX2_isSoundSign 69 = .ok (.iconst (-1), 1) := by decide +kernel
theorem dX2_isSoundSign_70 : decode cX2_isSoundSign 70 = .ok (.if_icmp .eq 19, 3) := by decide +kernel
theorem dX2_isSoundSign_73 : decode cX2_isSoundSign 73 = .ok (.iload_n 3, 1) := by decide +kernel
theorem dX2_isSoundSign_74 : decode cX2_isSoundSign 74 = .ok (.bipush 36, 2) := by decide +kernel
theorem dX2_isSoundSign_76 : decode cX2_isSoundSign 76 = .ok (.invokestatic 43, 3) := by decide +kernel
theorem dX2_isSoundSign_79 : decode cX2_isSoundSign 79 = .ok (.invokestatic 50, 3) := by decide +kernel
theorem dX2_isSoundSign_82 : decode cX2_isSoundSign 82 = .ok (.iload_n 0, 1) := by decide +kernel
theorem dX2_isSoundSign_83 : decode cX2_isSoundSign 83 = .ok (.invokestatic 50, 3) := by decide +kernel
theorem dX2_isSoundSign_86 : decode cX2_isSoundSign 86 = .ok (.if_icmp .ne 7, 3) := by decide +kernel
theorem dX2_isSoundSign_89 : decode cX2_isSoundSign 89 = .ok (.iconst 1, 1) := by decide +kernel
theorem dX2_isSoundSign_90 : decode cX2_isSoundSign 90 = .ok (.goto 4, 3) := by decide +kernel
theorem dX2_isSoundSign_93 : decode cX2_isSoundSign 93 = .ok (.iconst 0, 1) := by decide +kernel
theorem dX2_isSoundSign_94 : decode cX2_isSoundSign 94 = .ok (.ireturn, 1) := by decide +kernel
theorem dX2_plainValueOf_0 : decode cX2_plainValueOf 0 = .ok (.iload_n 0, 1) := by decide +kernel
theorem dX2_plainValueOf_1 : decode cX2_plainValueOf 1 = .ok (.invokestatic 15, 3) := by decide +kernel
theorem dX2_plainValueOf_4 : decode cX2_plainValueOf 4 = .ok (.ifCond .eq 8, 3) := by decide +kernel
theorem dX2_plainValueOf_7 : decode cX2_plainValueOf 7 = .ok (.iload_n 0, 1) := by decide +kernel
theorem dX2_plainValueOf_8 : decode cX2_plainValueOf 8 = .ok (.bipush 48, 2) := by decide +kernel
theorem dX2_plainValueOf_10 : decode cX2_plainValueOf 10 = .ok (.isub, 1) := by decide +kernel
theorem dX2_plainValueOf_11 : decode cX2_plainValueOf 11 = .ok (.ireturn, 1) := by decide +kernel
theorem dX2_plainValueOf_12 : decode cX2_plainValueOf 12 = .ok (.iload_n 0, 1) := by decide +kernel
theorem dX2_plainValueOf_13 : decode cX2_plainValueOf 13 = .ok (.invokestatic 56, 3) := by decide +kernel
theorem dX2_plainValueOf_16 : decode cX2_plainValueOf 16 = .ok (.ifCond .eq 8, 3) := by decide +kernel
theorem dX2_plainValueOf_19 : decode cX2_plainValueOf 19 = .ok (.iload_n 0, 1) := by decide +kernel
theorem dX2_plainValueOf_20 : decode cX2_plainValueOf 20 = .ok (.bipush 55, 2) := by decide +kernel
theorem dX2_plainValueOf_22 : decode cX2_plainValueOf 22 = .ok (.isub, 1) := by decide +kernel
theorem dX2_plainValueOf_23 : decode cX2_plainValueOf 23 = .ok (.ireturn, 1) := by decide +kernel
theorem dX2_plainValueOf_24 : decode cX2_plainValueOf 24 = .ok (.iload_n 0, 1) := by decide +kernel
theorem dX2_plainValueOf_25 : decode cX2_plainValueOf 25 = .ok (.invokestatic 29, 3) := by decide +kernel
theorem dX2_plainValueOf_28 : decode cX2_plainValueOf 28 = .ok (.ifCond .eq 10, 3) := by decide +kernel
theorem dX2_plainValueOf_31 : decode cX2_plainValueOf 31 = .ok (.iload_n 0, 1) := by decide +kernel
theorem dX2_plainValueOf_32 : decode cX2_plainValueOf 32 = .ok (.bipush 87, 2) := by decide +kernel
theorem dX2_plainValueOf_34 : decode cX2_plainValueOf 34 = .ok (.isub, 1) := by decide +kernel
theorem dX2_plainValueOf_35 : decode cX2_plainValueOf 35 = .ok (.goto 4, 3) := by decide +kernel
theorem dX2_plainValueOf_38 : decode cX2_plainValueOf 38 = .ok (.iconst (-1), 1) := by decide +kernel
theorem dX2_plainValueOf_39 : decode cX2_plainValueOf 39 = .ok (.ireturn, 1) := by decide +kernel
theorem dX2_isPlainDigit_0 : decode cX2_isPlainDigit 0 = .ok (.iload_n 0, 1) := by decide +kernel
theorem dX2_isPlainDigit_1 : decode cX2_isPlainDigit 1 = .ok (.bipush 48, 2) := by decide +kernel
theorem dX2_isPlainDigit_3 : decode cX2_isPlainDigit 3 = .ok (.if_icmp .lt 13, 3) := by decide +kernel
theorem dX2_isPlainDigit_6 : decode cX2_isPlainDigit 6 = .ok (.iload_n 0, 1) := by decide +kernel
theorem dX2_isPlainDigit_7 : decode cX2_isPlainDigit 7 = .ok (.bipush 57, 2) := by decide +kernel
theorem dX2_isPlainDigit_9 : decode cX2_isPlainDigit 9 = .ok (.if_icmp .gt 7, 3) := by decide +kernel
theorem dX2_isPlainDigit_12 : decode cX2_isPlainDigit 12 = .ok (.iconst 1, 1) := by decide +kernel
theorem dX2_isPlainDigit_13 : decode cX2_isPlainDigit 13 = .ok (.goto 4, 3) := by decide +kernel
theorem dX2_isPlainDigit_16 : decode cX2_isPlainDigit 16 = .ok (.iconst 0, 1) := by decide +kernel
theorem dX2_isPlainDigit_17 : decode cX2_isPlainDigit 17 = .ok (.ireturn, 1) := by decide +kernel
theorem dX2_isGreatPlain_0 : decode cX2_isGreatPlain 0 = .ok (.iload_n 0, 1) := by decide +kernel
theorem dX2_isGreatPlain_1 : decode cX2_isGreatPlain 1 = .ok (.bipush 65, 2) := by decide +kernel
theorem dX2_isGreatPlain_3 : decode cX2_isGreatPlain 3 = .ok (.if_icmp .lt 13, 3) := by decide +kernel
theorem dX2_isGreatPlain_6 : decode cX2_isGreatPlain 6 = .ok (.iload_n 0, 1) := by decide +kernel
theorem dX2_isGreatPlain_7 : decode cX2_isGreatPlain 7 = .ok (.bipush 90, 2) := by decide +kernel
theorem dX2_isGreatPlain_9 : decode cX2_isGreatPlain 9 = .ok (.if_icmp .gt 7, 3) := by decide +kernel
theorem dX2_isGreatPlain_12 : decode cX2_isGreatPlain 12 = .ok (.iconst 1, 1) := by decide +kernel
theorem dX2_isGreatPlain_13 : decode cX2_isGreatPlain 13 = .ok (.goto 4, 3) := by decide +kernel
theorem dX2_isGreatPlain_16 : decode cX2_isGreatPlain 16 = .ok (.iconst 0, 1) := by decide +kernel
theorem dX2_isGreatPlain_17 : decode cX2_isGreatPlain 17 = .ok (.ireturn, 1) := by decide +kernel
theorem dX2_isSmallPlain_0 : decode cX2_isSmallPlain 0 = .ok (.iload_n 0, 1) := by decide +kernel
theorem dX2_isSmallPlain_1 : decode cX2_isSmallPlain 1 = .ok (.bipush 97, 2) := by decide +kernel
theorem dX2_isSmallPlain_3 : decode cX2_isSmallPlain 3 = .ok (.if_icmp .lt 13, 3) := by decide +kernel
theorem dX2_isSmallPlain_6 : decode cX2_isSmallPlain 6 = .ok (.iload_n 0, 1) := by decide +kernel
theorem dX2_isSmallPlain_7 : decode cX2_isSmallPlain 7 = .ok (.bipush 122, 2) := by decide +kernel
theorem dX2_isSmallPlain_9 : decode cX2_isSmallPlain 9 = .ok (.if_icmp .gt 7, 3) := by decide +kernel
theorem dX2_isSmallPlain_12 : decode cX2_isSmallPlain 12 = .ok (.iconst 1, 1) := by decide +kernel
theorem dX2_isSmallPlain_13 : decode cX2_isSmallPlain 13 = .ok (.goto 4, 3) := by decide +kernel
theorem dX2_isSmallPlain_16 : decode cX2_isSmallPlain 16 = .ok (.iconst 0, 1) := by decide +kernel
theorem dX2_isSmallPlain_17 : decode cX2_isSmallPlain 17 = .ok (.ireturn, 1) := by decide +kernel
theorem dX2_isAnyGreat_0 : decode cX2_isAnyGreat 0 = .ok (.iload_n 0, 1) := by decide +kernel
theorem dX2_isAnyGreat_1 : decode cX2_isAnyGreat 1 = .ok (.invokestatic 56, 3) := by decide +kernel
theorem dX2_isAnyGreat_4 : decode cX2_isAnyGreat 4 = .ok (.ifCond .ne 29, 3) := by decide +kernel
theorem dX2_isAnyGreat_7 : decode cX2_isAnyGreat 7 = .ok (.iload_n 0, 1) := by decide +kernel
theorem dX2_isAnyGreat_8 : decode cX2_isAnyGreat 8 = .ok (.sipush 192, 3) := by decide +kernel
theorem dX2_isAnyGreat_11 : decode cX2_isAnyGreat 11 = .ok (.sipush 214, 3) := by decide +kernel
theorem dX2_isAnyGreat_14 : decode cX2_isAnyGreat 14 = .ok (.invokestatic 9, 3) := by decide +kernel
theorem dX2_isAnyGreat_17 : decode cX2_isAnyGreat 17 = .ok (.ifCond .ne 16, 3) := by decide +kernel
theorem dX2_isAnyGreat_20 : decode cX2_isAnyGreat 20 = .ok (.iload_n 0, 1) := by decide +kernel
theorem dX2_isAnyGreat_21 : decode cX2_isAnyGreat 21 = .ok (.sipush 216, 3) := by decide +kernel
theorem dX2_isAnyGreat_24 : decode cX2_isAnyGreat 24 = .ok (.sipush 222, 3) := by decide +kernel
theorem dX2_isAnyGreat_27 : decode cX2_isAnyGreat 27 = .ok (.invokestatic 9, 3) := by decide +kernel
theorem dX2_isAnyGreat_30 : decode cX2_isAnyGreat 30 = .ok (.ifCond .eq 7, 3) := by decide +kernel
theorem dX2_isAnyGreat_33 : decode cX2_isAnyGreat 33 = .ok (.iconst 1, 1) := by decide +kernel
theorem dX2_isAnyGreat_34 : decode cX2_isAnyGreat 34 = .ok (.goto 4, 3) := by decide +kernel
theorem dX2_isAnyGreat_37 : decode cX2_isAnyGreat 37 = .ok (.iconst 0, 1) := by decide +kernel
theorem dX2_isAnyGreat_38 : decode cX2_isAnyGreat 38 = .ok (.ireturn, 1) := by decide +kernel
theorem dX2_isAnyLetter_0 : decode cX2_isAnyLetter 0 = .ok (.iload_n 0, 1) := by decide +kernel
theorem dX2_isAnyLetter_1 : decode cX2_isAnyLetter 1 = .ok (.invokestatic 56, 3) := by decide +kernel
theorem dX2_isAnyLetter_4 : decode cX2_isAnyLetter 4 = .ok (.ifCond .ne 10, 3) := by decide +kernel
theorem dX2_isAnyLetter_7 : decode cX2_isAnyLetter 7 = .ok (.iload_n 0, 1) := by decide +kernel
theorem dX2_isAnyLetter_8 : decode cX2_isAnyLetter 8 = .ok (.invokestatic 29, 3) := by decide +kernel
theorem dX2_isAnyLetter_11 : decode cX2_isAnyLetter 11 = .ok (.ifCond .eq 5, 3) := by decide +kernel
theorem dX2_isAnyLetter_14 : decode cX2_isAnyLetter 14 = .ok (.iconst 1, 1) := by decide +kernel
theorem dX2_isAnyLetter_15 : decode cX2_isAnyLetter 15 = .ok (.ireturn, 1) := by decide +kernel
theorem dX2_isAnyLetter_16 : decode cX2_isAnyLetter 16 = .ok (.iload_n 0, 1) := by decide +kernel
theorem dX2_isAnyLetter_17 : decode cX2_isAnyLetter 17 = .ok (.sipush 170, 3) := by decide +kernel
theorem dX2_isAnyLetter_20 : decode cX2_isAnyLetter 20 = .ok (.if_icmp .eq 17, 3) := by decide +kernel
theorem dX2_isAnyLetter_23 : decode cX2_isAnyLetter 23 = .ok (.iload_n 0, 1) := by decide +kernel
theorem dX2_isAnyLetter_24 : decode cX2_isAnyLetter 24 = .ok (.sipush 181, 3) := by decide +kernel
theorem dX2_isAnyLetter_27 : decode cX2_isAnyLetter 27 = .ok (.if_icmp .eq 10, 3) := by decide +kernel
theorem dX2_isAnyLetter_30 : decode cX2_isAnyLetter 30 = .ok (.iload_n 0, 1) := by decide +kernel
theorem dX2_isAnyLetter_31 : decode cX2_isAnyLetter 31 = .ok (.sipush 186, 3) := by decide +kernel
theorem dX2_isAnyLetter_34 : decode cX2_isAnyLetter 34 = .ok (.if_icmp .ne 5, 3) := by decide +kernel
theorem dX2_isAnyLetter_37 : decode cX2_isAnyLetter 37 = .ok (.iconst 1, 1) := by decide +kernel
theorem dX2_isAnyLetter_38 : decode cX2_isAnyLetter 38 = .ok (.ireturn, 1) := by decide +kernel
theorem dX2_isAnyLetter_39 : decode cX2_isAnyLetter 39 = .ok (.iload_n 0, 1) := by decide +kernel
theorem dX2_isAnyLetter_40 : decode cX2_isAnyLetter 40 = .ok (.sipush 192, 3) := by decide +kernel
theorem dX2_isAnyLetter_43 : decode cX2_isAnyLetter 43 = .ok (.sipush 214, 3) := by decide +kernel
theorem dX2_isAnyLetter_46 : decode cX2_isAnyLetter 46 = .ok (.invokestatic 9, 3) := by decide +kernel
theorem dX2_isAnyLetter_49 : decode cX2_isAnyLetter 49 = .ok (.ifCond .ne 29, 3) := by decide +kernel
theorem dX2_isAnyLetter_52 : decode cX2_isAnyLetter 52 = .ok (.iload_n 0, 1) := by decide +kernel
theorem dX2_isAnyLetter_53 : decode cX2_isAnyLetter 53 = .ok (.sipush 216, 3) := by decide +kernel
theorem dX2_isAnyLetter_56 : decode cX2_isAnyLetter 56 = .ok (.sipush 246, 3) := by decide +kernel
theorem dX2_isAnyLetter_59 : decode cX2_isAnyLetter 59 = .ok (.invokestatic 9, 3) := by decide +kernel
theorem dX2_isAnyLetter_62 : decode cX2_isAnyLetter 62 = .ok (.ifCond .ne 16, 3) := by decide +kernel
theorem dX2_isAnyLetter_65 : decode cX2_isAnyLetter 65 = .ok (.iload_n 0, 1) := by decide +kernel
theorem dX2_isAnyLetter_66 : decode cX2_isAnyLetter 66 = .ok (.sipush 248, 3) := by decide +kernel
theorem dX2_isAnyLetter_69 : decode cX2_isAnyLetter 69 = .ok (.sipush 255, 3) := by decide +kernel
theorem dX2_isAnyLetter_72 : decode cX2_isAnyLetter 72 = .ok (.invokestatic 9, 3) := by decide +kernel
theorem dX2_isAnyLetter_75 : decode cX2_isAnyLetter 75 = .ok (.ifCond .eq 7, 3) := by decide +kernel
theorem dX2_isAnyLetter_78 : decode cX2_isAnyLetter 78 = .ok (.iconst 1, 1) := by decide +kernel
theorem dX2_isAnyLetter_79 : decode cX2_isAnyLetter 79 = .ok (.goto 4, 3) := by decide +kernel
theorem dX2_isAnyLetter_82 : decode cX2_isAnyLetter 82 = .ok (.iconst 0, 1) := by decide +kernel
theorem dX2_isAnyLetter_83 : decode cX2_isAnyLetter 83 = .ok (.ireturn, 1) := by decide +kernel
theorem dX2_isBetween_0 : decode cX2_isBetween 0 = .ok (.iload_n 0, 1) := by decide +kernel
theorem dX2_isBetween_1 : decode cX2_isBetween 1 = .ok (.iload_n 1, 1) := by decide +kernel
theorem dX2_isBetween_2 : decode cX2_isBetween 2 = .ok (.if_icmp .lt 12, 3) := by decide +kernel
theorem dX2_isBetween_5 : decode cX2_isBetween 5 = .ok (.iload_n 0, 1) := by decide +kernel
theorem dX2_isBetween_6 : decode cX2_isBetween 6 = .ok (.iload_n 2, 1) := by decide +kernel
theorem dX2_isBetween_7 : decode cX2_isBetween 7 = .ok (.if_icmp .gt 7, 3) := by decide +kernel
theorem dX2_isBetween_10 : decode cX2_isBetween 10 = .ok (.iconst 1, 1) := by decide +kernel
theorem dX2_isBetween_11 : decode cX2_isBetween 11 = .ok (.goto 4, 3) := by decide +kernel
theorem dX2_isBetween_14 : decode cX2_isBetween 14 = .ok (.iconst 0, 1) := by decide +kernel
theorem dX2_isBetween_15 : decode cX2_isBetween 15 = .ok (.ireturn, 1) := by decide +kernel
theorem dX3_init_0 : decode cX3_init 0 = .ok (.aload_n 0, 1) := by decide +kernel
theorem dX3_init_1 : decode cX3_init 1 = .ok (.invokespecial 3, 3) := by decide +kernel
theorem dX3_init_4 : decode cX3_init 4 = .ok (.aload_n 0, 1) := by decide +kernel
theorem dX3_init_5 : decode cX3_init 5 = .ok (.iconst 4, 1) := by decide +kernel
theorem dX3_init_6 : decode cX3_init 6 = .ok (.anewarray 9, 3) := by decide +kernel
theorem dX3_init_9 : decode cX3_init 9 = .ok (.putfield 11, 3) := by decide +kernel
theorem dX3_init_12 : decode cX3_init 12 = .ok (.aload_n 0, 1) := by decide +kernel
theorem dX3_init_13 : decode cX3_init 13 = .ok (.iconst 2, 1) := by decide +kernel
theorem dX3_init_14 : decode cX3_init 14 = .ok (.anewarray 9, 3) := by decide +kernel
theorem dX3_init_17 : decode cX3_init 17 = .ok (.putfield 17, 3) := by decide +kernel
theorem dX3_init_20 : decode cX3_init 20 = .ok (.iconst 0, 1) := by decide +kernel
theorem dX3_init_21 : decode cX3_init 21 = .ok (.istore_n 1, 1) := by decide +kernel
theorem dX3_init_22 : decode cX3_init 22 = .ok (.iload_n 1, 1) := by decide +kernel
theorem dX3_init_23 : decode cX3_init 23 = .ok (.iconst 4, 1) := by decide +kernel
theorem dX3_init_24 : decode cX3_init 24 = .ok (.if_icmp .ge 24, 3) := by decide +kernel
theorem dX3_init_27 : decode cX3_init 27 = .ok (.aload_n 0, 1) := by decide +kernel
theorem dX3_init_28 : decode cX3_init 28 = .ok (.getfield 11, 3) := by decide +kernel
theorem dX3_init_31 : decode cX3_init 31 = .ok (.iload_n 1, 1) := by decide +kernel
theorem dX3_init_32 : decode cX3_init 32 = .ok (.new 9, 3) := by decide +kernel
theorem dX3_init_35 : decode cX3_init 35 = .ok (.dup, 1) := by decide +kernel
theorem dX3_init_36 : decode cX3_init 36 = .ok (.bipush 40, 2) := by decide +kernel
theorem dX3_init_38 : decode cX3_init 38 = .ok (.invokespecial 20, 3) := by decide +kernel
theorem dX3_init_41 : decode cX3_init 41 = .ok (.aastore, 1) := by decide +kernel
theorem dX3_init_42 : decode cX3_init 42 = .ok (.iinc 1 1, 3) := by decide +kernel
theorem dX3_init_45 : decode cX3_init 45 = .ok (.goto (-23), 3) := by decide +kernel
theorem dX3_init_48 : decode cX3_init 48 = .ok (.iconst 0, 1) := by decide +kernel
theorem dX3_init_49 : decode cX3_init 49 = .ok (.istore_n 1, 1) := by decide +kernel
theorem dX3_init_50 : decode cX3_init 50 = .ok (.iload_n 1, 1) := by decide +kernel
theorem dX3_init_51 : decode cX3_init 51 = .ok (.iconst 2, 1) := by decide +kernel
theorem dX3_init_52 : decode cX3_init 52 = .ok (.if_icmp .ge 24, 3) := by decide +kernel
theorem dX3_init_55 : decode cX3_init 55 = .ok (.aload_n 0, 1) := by decide +kernel
theorem dX3_init_56 : decode cX3_init 56 = .ok (.getfield 17, 3) := by decide +kernel
theorem dX3_init_59 : decode cX3_init 59 = .ok (.iload_n 1, 1) := by decide +kernel
theorem dX3_init_60 : decode cX3_init 60 = .ok (.new 9, 3) := by decide +kernel
theorem dX3_init_63 : decode cX3_init 63 = .ok (.dup, 1) := by decide +kernel
theorem dX3_init_64 : decode cX3_init 64 = .ok (.bipush 24, 2) := by decide +kernel
theorem dX3_init_66 : decode cX3_init 66 = .ok (.invokespecial 20, 3) := by decide +kernel
theorem dX3_init_69 : decode cX3_init 69 = .ok (.aastore, 1) := by decide +kernel
theorem dX3_init_70 : decode cX3_init 70 = .ok (.iinc 1 1, 3) := by decide +kernel
theorem dX3_init_73 : decode cX3_init 73 = .ok (.goto (-23), 3) := by decide +kernel
theorem dX3_init_76 : decode cX3_init 76 = .ok (.return_, 1) := by decide +kernel
theorem dX3_howManySigns_0 : decode cX3_howManySigns 0 = .ok (.iconst 0, 1) := by decide +kernel
theorem dX3_howManySigns_1 : decode cX3_howManySigns 1 = .ok (.istore_n 1, 1) := by decide +kernel
theorem dX3_howManySigns_2 : decode cX3_howManySigns 2 = .ok (.iconst 0, 1) := by decide +kernel
theorem dX3_howManySigns_3 : decode cX3_howManySigns 3 = .ok (.istore_n 2, 1) := by decide +kernel
theorem dX3_howManySigns_4 : decode cX3_howManySigns 4 = .ok (.iload_n 2, 1) := by decide +kernel
theorem dX3_howManySigns_5 : decode cX3_howManySigns 5 = .ok (.iconst 4, 1) := by decide +kernel
theorem dX3_howManySigns_6 : decode cX3_howManySigns 6 = .ok (.if_icmp .ge 21, 3) := by decide +kernel
theorem dX3_howManySigns_9 : decode cX3_howManySigns 9 = .ok (.iload_n 1, 1) := by decide +kernel
theorem dX3_howManySigns_10 : decode cX3_howManySigns 10 = .ok (.aload_n 0, 1) := by decide +kernel
theorem dX3_howManySigns_11 : decode cX3_howManySigns 11 = .ok (.getfield 11, 3) := by decide +kernel
theorem dX3_howManySigns_14 : decode cX3_howManySigns 14 = .ok (.iload_n 2, 1) := by decide +kernel
theorem dX3_howManySigns_15 : decode cX3_howManySigns 15 = .ok (.aaload, 1) := by decide +kernel
theorem dX3_howManySigns_16 : decode cX3_howManySigns 16 = .ok (.invokevirtual 23, 3) := by decide +kernel
theorem dX3_howManySigns_19 : decode cX3_howManySigns 19 = .ok (.iadd, 1) := by decide +kernel
theorem dX3_howManySigns_20 : decode cX3_howManySigns 20 = .ok (.istore_n 1, 1) := by decide +kernel
theorem dX3_howManySigns_21 : decode cX3_howManySigns 21 = .ok (.iinc 2 1, 3) := by decide +kernel
theorem dX3_howManySigns_24 : decode cX3_howManySigns 24 = .ok (.goto (-20), 3) := by decide +kernel
theorem dX3_howManySigns_27 : decode cX3_howManySigns 27 = .ok (.iload_n 1, 1) := by decide +kernel
theorem dX3_howManySigns_28 : decode cX3_howManySigns 28 = .ok (.ireturn, 1) := by decide +kernel
theorem dX3_howManyUnits_0 : decode cX3_howManyUnits 0 = .ok (.iconst 0, 1) := by decide +kernel
theorem dX3_howManyUnits_1 : decode cX3_howManyUnits 1 = .ok (.istore_n 1, 1) := by decide +kernel
theorem dX3_howManyUnits_2 : decode cX3_howManyUnits 2 = .ok (.iconst 0, 1) := by decide +kernel
theorem dX3_howManyUnits_3 : decode cX3_howManyUnits 3 = .ok (.istore_n 2, 1) := by decide +kernel
theorem dX3_howManyUnits_4 : decode cX3_howManyUnits 4 = .ok (.iload_n 2, 1) := by decide +kernel
theorem dX3_howManyUnits_5 : decode cX3_howManyUnits 5 = .ok (.iconst 2, 1) := by decide +kernel
theorem dX3_howManyUnits_6 : decode cX3_howManyUnits 6 = .ok (.if_icmp .ge 21, 3) := by decide +kernel
theorem dX3_howManyUnits_9 : decode cX3_howManyUnits 9 = .ok (.iload_n 1, 1) := by decide +kernel
theorem dX3_howManyUnits_10 : decode cX3_howManyUnits 10 = .ok (.aload_n 0, 1) := by decide +kernel
theorem dX3_howManyUnits_11 : decode cX3_howManyUnits 11 = .ok (.getfield 17, 3) := by decide +kernel
theorem dX3_howManyUnits_14 : decode cX3_howManyUnits 14 = .ok (.iload_n 2, 1) := by decide +kernel
theorem dX3_howManyUnits_15 : decode cX3_howManyUnits 15 = .ok (.aaload, 1) := by decide +kernel
theorem dX3_howManyUnits_16 : decode cX3_howManyUnits 16 = .ok (.invokevirtual 23, 3) := by decide +kernel
theorem dX3_howManyUnits_19 : decode cX3_howManyUnits 19 = .ok (.iadd, 1) := by decide +kernel
theorem dX3_howManyUnits_20 : decode cX3_howManyUnits 20 = .ok (.istore_n 1, 1) := by decide +kernel
theorem dX3_howManyUnits_21 : decode cX3_howManyUnits 21 = .ok (.iinc 2 1, 3) := by decide +kernel
theorem dX3_howManyUnits_24 : decode cX3_howManyUnits 24 = .ok (.goto (-20), 3) := by decide +kernel
theorem dX3_howManyUnits_27 : decode cX3_howManyUnits 27 = .ok (.iload_n 1, 1) := by decide +kernel
theorem dX3_howManyUnits_28 : decode cX3_howManyUnits 28 = .ok (.ireturn, 1) := by decide +kernel
theorem dX3_become_0 : decode cX3_become 0 = .ok (.iconst 0, 1) := by decide +kernel
theorem dX3_become_1 : decode cX3_become 1 = .ok (.istore_n 2, 1) := by decide +kernel
theorem dX3_become_2 : decode cX3_become 2 = .ok (.iload_n 2, 1) := by decide +kernel
theorem dX3_become_3 : decode cX3_become 3 = .ok (.iconst 4, 1) := by decide +kernel
theorem dX3_become_4 : decode cX3_become 4 = .ok (.if_icmp .ge 24, 3) := by decide +kernel
theorem dX3_become_7 : decode cX3_become 7 = .ok (.aload_n 0, 1) := by decide +kernel
theorem dX3_become_8 : decode cX3_become 8 = .ok (.getfield 11, 3) := by decide +kernel
theorem dX3_become_11 : decode cX3_become 11 = .ok (.iload_n 2, 1) := by decide +kernel
theorem dX3_become_12 : decode cX3_become 12 = .ok (.aaload, 1) := by decide +kernel
theorem dX3_become_13 : decode cX3_become 13 = .ok (.aload_n 1, 1) := by decide +kernel
theorem dX3_become_14 : decode cX3_become 14 = .ok (.getfield 11, 3) := by decide +kernel
theorem dX3_become_17 : decode cX3_become 17 = .ok (.iload_n 2, 1) := by decide +kernel
theorem dX3_become_18 : decode cX3_become 18 = .ok (.aaload, 1) := by decide +kernel
theorem dX3_become_19 : decode cX3_become 19 = .ok (.invokevirtual 27, 3) := by decide +kernel
theorem dX3_become_22 : decode cX3_become 22 = .ok (.iinc 2 1, 3) := by decide +kernel
theorem dX3_become_25 : decode cX3_become 25 = .ok (.goto (-23), 3) := by decide +kernel
theorem dX3_become_28 : decode cX3_become 28 = .ok (.iconst 0, 1) := by decide +kernel
theorem dX3_become_29 : decode cX3_become 29 = .ok (.istore_n 2, 1) := by decide +kernel
theorem dX3_become_30 : decode cX3_become 30 = .ok (.iload_n 2, 1) := by decide +kernel
theorem dX3_become_31 : decode cX3_become 31 = .ok (.iconst 2, 1) := by decide +kernel
theorem dX3_become_32 : decode cX3_become 32 = .ok (.if_icmp .ge 24, 3) := by decide +kernel
theorem dX3_become_35 : decode cX3_become 35 = .ok (.aload_n 0, 1) := by decide +kernel
theorem dX3_become_36 : decode cX3_become 36 = .ok (.getfield 17, 3) := by decide +kernel
theorem dX3_become_39 : decode cX3_become 39 = .ok (.iload_n 2, 1) := by decide +kernel
theorem dX3_become_40 : decode cX3_become 40 = .ok (.aaload, 1) := by decide +kernel
theorem dX3_become_41 : decode cX3_become 41 = .ok (.aload_n 1, 1) := by decide +kernel
theorem dX3_become_42 : decode cX3_become 42 = .ok (.getfield 17, 3) := by decide +kernel
theorem dX3_become_45 : decode cX3_become 45 = .ok (.iload_n 2, 1) := by decide +kernel
theorem dX3_become_46 : decode cX3_become 46 = .ok (.aaload, 1) := by decide +kernel
theorem dX3_become_47 : decode cX3_become 47 = .ok (.invokevirtual 27, 3) := by decide +kernel
theorem dX3_become_50 : decode cX3_become 50 = .ok (.iinc 2 1, 3) := by decide +kernel
theorem dX3_become_53 : decode cX3_become 53 = .ok (.goto (-23), 3) := by decide +kernel
theorem dX3_become_56 : decode cX3_become 56 = .ok (.return_, 1) := by decide +kernel
theorem dX4_isUnit_0 : decode cX4_isUnit 0 = .ok (.iload_n 0, 1) := by decide +kernel
theorem dX4_isUnit_1 : decode cX4_isUnit 1 = .ok (.ifCond .lt 13, 3) := by decide +kernel
theorem dX4_isUnit_4 : decode cX4_isUnit 4 = .ok (.iload_n 0, 1) := by decide +kernel
theorem dX4_isUnit_5 : decode cX4_isUnit 5 = .ok (.ldc 11, 2) := by decide +kernel
theorem dX4_isUnit_7 : decode cX4_isUnit 7 = .ok (.if_icmp .ge 7, 3) := by decide +kernel
theorem dX4_isUnit_10 : decode cX4_isUnit 10 = .ok (.iconst 1, 1) := by decide +kernel
theorem dX4_isUnit_11 : decode cX4_isUnit 11 = .ok (.goto 4, 3) := by decide +kernel
theorem dX4_isUnit_14 : decode cX4_isUnit 14 = .ok (.iconst 0, 1) := by decide +kernel
theorem dX4_isUnit_15 : decode cX4_isUnit 15 = .ok (.ireturn, 1) := by decide +kernel
theorem dX4_isHigh_0 : decode cX4_isHigh 0 = .ok (.iload_n 0, 1) := by decide +kernel
theorem dX4_isHigh_1 : decode cX4_isHigh 1 = .ok (.ldc 12, 2) := by decide +kernel
theorem dX4_isHigh_3 : decode cX4_isHigh 3 = .ok (.if_icmp .lt 13, 3) := by decide +kernel
theorem dX4_isHigh_6 : decode cX4_isHigh 6 = .ok (.iload_n 0, 1) := by decide +kernel
theorem dX4_isHigh_7 : decode cX4_isHigh 7 = .ok (.ldc 13, 2) := by decide +kernel
theorem dX4_isHigh_9 : decode cX4_isHigh 9 = .ok (.if_icmp .ge 7, 3) := by decide +kernel
theorem dX4_isHigh_12 : decode cX4_isHigh 12 = .ok (.iconst 1, 1) := by decide +kernel
theorem dX4_isHigh_13 : decode cX4_isHigh 13 = .ok (.goto 4, 3) := by decide +kernel
theorem dX4_isHigh_16 : decode cX4_isHigh 16 = .ok (.iconst 0, 1) := by decide +kernel
theorem dX4_isHigh_17 : decode cX4_isHigh 17 = .ok (.ireturn, 1) := by decide +kernel
theorem dX4_isLow_0 : decode cX4_isLow 0 = .ok (.iload_n 0, 1) := by decide +kernel
theorem dX4_isLow_1 : decode cX4_isLow 1 = .ok (.ldc 13, 2) := by decide +kernel
theorem dX4_isLow_3 : decode cX4_isLow 3 = .ok (.if_icmp .lt 13, 3) := by decide +kernel
theorem dX4_isLow_6 : decode cX4_isLow 6 = .ok (.iload_n 0, 1) := by decide +kernel
theorem dX4_isLow_7 : decode cX4_isLow 7 = .ok (.ldc 14, 2) := by decide +kernel
theorem dX4_isLow_9 : decode cX4_isLow 9 = .ok (.if_icmp .ge 7, 3) := by decide +kernel
theorem dX4_isLow_12 : decode cX4_isLow 12 = .ok (.iconst 1, 1) := by decide +kernel
theorem dX4_isLow_13 : decode cX4_isLow 13 = .ok (.goto 4, 3) := by decide +kernel
theorem dX4_isLow_16 : decode cX4_isLow 16 = .ok (.iconst 0, 1) := by decide +kernel
theorem dX4_isLow_17 : decode cX4_isLow 17 = .ok (.ireturn, 1) := by decide +kernel
theorem dX4_isHalf_0 : decode cX4_isHalf 0 = .ok (.iload_n 0, 1) := by decide +kernel
theorem dX4_isHalf_1 : decode cX4_isHalf 1 = .ok (.invokestatic 15, 3) := by decide +kernel
theorem dX4_isHalf_4 : decode cX4_isHalf 4 = .ok (.ifCond .ne 10, 3) := by decide +kernel
theorem dX4_isHalf_7 : decode cX4_isHalf 7 = .ok (.iload_n 0, 1) := by decide +kernel
theorem dX4_isHalf_8 : decode cX4_isHalf 8 = .ok (.invokestatic 19, 3) := by decide +kernel
theorem dX4_isHalf_11 : decode cX4_isHalf 11 = .ok (.ifCond .eq 7, 3) := by decide +kernel
theorem dX4_isHalf_14 : decode cX4_isHalf 14 = .ok (.iconst 1, 1) := by decide +kernel
theorem dX4_isHalf_15 : decode cX4_isHalf 15 = .ok (.goto 4, 3) := by decide +kernel
theorem dX4_isHalf_18 : decode cX4_isHalf 18 = .ok (.iconst 0, 1) := by decide +kernel
theorem dX4_isHalf_19 : decode cX4_isHalf 19 = .ok (.ireturn, 1) := by decide +kernel
theorem dX4_isAnyCode_0 : decode cX4_isAnyCode 0 = .ok (.iload_n 0, 1) := by decide +kernel
theorem dX4_isAnyCode_1 : decode cX4_isAnyCode 1 = .ok (.ifCond .lt 13, 3) := by decide +kernel
theorem dX4_isAnyCode_4 : decode cX4_isAnyCode 4 = .ok (.iload_n 0, 1) := by decide +kernel
theorem dX4_isAnyCode_5 : decode cX4_isAnyCode 5 = .ok (.ldc 22, 2) := by decide +kernel
theorem dX4_isAnyCode_7 : decode cX4_isAnyCode 7 = .ok (.if_icmp .gt 7, 3) := by decide +kernel
theorem dX4_isAnyCode_10 : decode cX4_isAnyCode 10 = .ok (.iconst 1, 1) := by decide +kernel
theorem dX4_isAnyCode_11 : decode cX4_isAnyCode 11 = .ok (.goto 4, 3) := by decide +kernel
theorem dX4_isAnyCode_14 : decode cX4_isAnyCode 14 = .ok (.iconst 0, 1) := by decide +kernel
theorem dX4_isAnyCode_15 : decode cX4_isAnyCode 15 = .ok (.ireturn, 1) := by decide +kernel
theorem dX4_isWideCode_0 : decode cX4_isWideCode 0 = .ok (.iload_n 0, 1) := by decide +kernel
theorem dX4_isWideCode_1 : decode cX4_isWideCode 1 = .ok (.ldc 11, 2) := by decide +kernel
theorem dX4_isWideCode_3 : decode cX4_isWideCode 3 = .ok (.if_icmp .lt 13, 3) := by decide +kernel
theorem dX4_isWideCode_6 : decode cX4_isWideCode 6 = .ok (.iload_n 0, 1) := by decide +kernel
theorem dX4_isWideCode_7 : decode cX4_isWideCode 7 = .ok (.ldc 22, 2) := by decide +kernel
theorem dX4_isWideCode_9 : decode cX4_isWideCode 9 = .ok (.if_icmp .gt 7, 3) := by decide +kernel
theorem dX4_isWideCode_12 : decode cX4_isWideCode 12 = .ok (.iconst 1, 1) := by decide +kernel
theorem dX4_isWideCode_13 : decode cX4_isWideCode 13 = .ok (.goto 4, 3) := by decide +kernel
theorem dX4_isWideCode_16 : decode cX4_isWideCode 16 = .ok (.iconst 0, 1) := by decide +kernel
theorem dX4_isWideCode_17 : decode cX4_isWideCode 17 = .ok (.ireturn, 1) := by decide +kernel
theorem dX4_unitsOf_0 : decode cX4_unitsOf 0 = .ok (.iload_n 0, 1) := by decide +kernel
theorem dX4_unitsOf_1 : decode cX4_unitsOf 1 = .ok (.ldc 11, 2) := by decide +kernel
theorem dX4_unitsOf_3 : decode cX4_unitsOf 3 = .ok (.if_icmp .lt 7, 3) := by decide +kernel
theorem dX4_unitsOf_6 : decode cX4_unitsOf 6 = .ok (.iconst 2, 1) := by decide +kernel
theorem dX4_unitsOf_7 : decode cX4_unitsOf 7 = .ok (.goto 4, 3) := by decide +kernel
theorem dX4_unitsOf_10 : decode cX4_unitsOf 10 = .ok (.iconst 1, 1) := by decide +kernel
theorem dX4_unitsOf_11 : decode cX4_unitsOf 11 = .ok (.ireturn, 1) := by decide +kernel
theorem dX4_highOf_0 : decode cX4_highOf 0 = .ok (.ldc 12, 2) := by decide +kernel
theorem dX4_highOf_2 : decode cX4_highOf 2 = .ok (.iload_n 0, 1) := by decide +kernel
theorem dX4_highOf_3 : decode cX4_highOf 3 = .ok (.ldc 11, 2) := by decide +kernel
theorem dX4_highOf_5 : decode cX4_highOf 5 = .ok (.isub, 1) := by decide +kernel
theorem dX4_highOf_6 : decode cX4_highOf 6 = .ok (.sipush 1024, 3) := by decide +kernel
theorem dX4_highOf_9 : decode cX4_highOf 9 = .ok (.idiv, 1) := by decide +kernel
theorem dX4_highOf_10 : decode cX4_highOf 10 = .ok (.iadd, 1) := by decide +kernel
theorem dX4_highOf_11 : decode cX4_highOf 11 = .ok (.ireturn, 1) := by decide +kernel
theorem dX4_lowOf_0 : decode cX4_lowOf 0 = .ok (.ldc 13, 2) := by decide +kernel
theorem dX4_lowOf_2 : decode cX4_lowOf 2 = .ok (.iload_n 0, 1) := by decide +kernel
theorem dX4_lowOf_3 : decode cX4_lowOf 3 = .ok (.ldc 11, 2) := by decide +kernel
theorem dX4_lowOf_5 : decode cX4_lowOf 5 = .ok (.isub, 1) := by decide +kernel
theorem dX4_lowOf_6 : decode cX4_lowOf 6 = .ok (.sipush 1024, 3) := by decide +kernel
theorem dX4_lowOf_9 : decode cX4_lowOf 9 = .ok (.irem, 1) := by decide +kernel
theorem dX4_lowOf_10 : decode cX4_lowOf 10 = .ok (.iadd, 1) := by decide +kernel
theorem dX4_lowOf_11 : decode cX4_lowOf 11 = .ok (.ireturn, 1) := by decide +kernel
theorem dX4_codeOf_0 : decode cX4_codeOf 0 = .ok (.ldc 11, 2) := by decide +kernel
theorem dX4_codeOf_2 : decode cX4_codeOf 2 = .ok (.iload_n 0, 1) := by decide +kernel
theorem dX4_codeOf_3 : decode cX4_codeOf 3 = .ok (.ldc 12, 2) := by decide +kernel
theorem dX4_codeOf_5 : decode cX4_codeOf 5 = .ok (.isub, 1) := by decide +kernel
theorem dX4_codeOf_6 : decode cX4_codeOf 6 = .ok (.sipush 1024, 3) := by decide +kernel
theorem dX4_codeOf_9 : decode cX4_codeOf 9 = .ok (.imul, 1) := by decide +kernel
theorem dX4_codeOf_10 : decode cX4_codeOf 10 = .ok (.iadd, 1) := by decide +kernel
theorem dX4_codeOf_11 : decode cX4_codeOf 11 = .ok (.iload_n 1, 1) := by decide +kernel
theorem dX4_codeOf_12 : decode cX4_codeOf 12 = .ok (.ldc 13, 2) := by decide +kernel
theorem dX4_codeOf_14 : decode cX4_codeOf 14 = .ok (.isub, 1) := by decide +kernel
theorem dX4_codeOf_15 : decode cX4_codeOf 15 = .ok (.iadd, 1) := by decide +kernel
theorem dX4_codeOf_16 : decode cX4_codeOf 16 = .ok (.ireturn, 1) := by decide +kernel
theorem dX4_turned_0 : decode cX4_turned 0 = .ok (.iload_n 0, 1) := by decide +kernel
theorem dX4_turned_1 : decode cX4_turned 1 = .ok (.sipush 256, 3) := by decide +kernel
theorem dX4_turned_4 : decode cX4_turned 4 = .ok (.irem, 1) := by decide +kernel
theorem dX4_turned_5 : decode cX4_turned 5 = .ok (.sipush 256, 3) := by decide +kernel
theorem dX4_turned_8 : decode cX4_turned 8 = .ok (.imul, 1) := by decide +kernel
theorem dX4_turned_9 : decode cX4_turned 9 = .ok (.iload_n 0, 1) := by decide +kernel
theorem dX4_turned_10 : decode cX4_turned 10 = .ok (.sipush 256, 3) := by decide +kernel
theorem dX4_turned_13 : decode cX4_turned 13 = .ok (.idiv, 1) := by decide +kernel
theorem dX4_turned_14 : decode cX4_turned 14 = .ok (.iadd, 1) := by decide +kernel
theorem dX4_turned_15 : decode cX4_turned 15 = .ok (.ireturn, 1) := by decide +kernel
theorem dX4_addCode_0 : decode cX4_addCode 0 = .ok (.iload_n 1, 1) := by decide +kernel
theorem dX4_addCode_1 : decode cX4_addCode 1 = .ok (.invokestatic 23, 3) := by decide +kernel
theorem dX4_addCode_4 : decode cX4_addCode 4 = .ok (.ifCond .eq 22, 3) := by decide +kernel
theorem dX4_addCode_7 : decode cX4_addCode 7 = .ok (.aload_n 0, 1) := by decide +kernel
theorem dX4_addCode_8 : decode cX4_addCode 8 = .ok (.iload_n 1, 1) := by decide +kernel
theorem dX4_addCode_9 : decode cX4_addCode 9 = .ok (.invokestatic 26, 3) := by decide +kernel
theorem dX4_addCode_12 : decode cX4_addCode 12 = .ok (.invokevirtual 30, 3) := by decide +kernel
theorem dX4_addCode_15 : decode cX4_addCode 15 = .ok (.aload_n 0, 1) := by decide +kernel
theorem dX4_addCode_16 : decode cX4_addCode 16 = .ok (.iload_n 1, 1) := by decide +kernel
theorem dX4_addCode_17 : decode cX4_addCode 17 = .ok (.invokestatic 36, 3) := by decide +kernel
theorem dX4_addCode_20 : decode cX4_addCode 20 = .ok (.invokevirtual 30, 3) := by decide +kernel
theorem dX4_addCode_23 : decode cX4_addCode 23 = .ok (.goto 8, 3) := by decide +kernel
theorem dX4_addCode_26 : decode cX4_addCode 26 = .ok (.aload_n 0, 1) := by decide +kernel
theorem dX4_addCode_27 : decode cX4_addCode 27 = .ok (.iload_n 1, 1) := by decide +kernel
theorem dX4_addCode_28 : decode cX4_addCode 28 = .ok (.invokevirtual 30, 3) := by decide +kernel
theorem dX4_addCode_31 : decode cX4_addCode 31 = .ok (.return_, 1) := by decide +kernel
theorem dX4_codeFrom_0 : decode cX4_codeFrom 0 = .ok (.aload_n 0, 1) := by decide +kernel
theorem dX4_codeFrom_1 : decode cX4_codeFrom 1 = .ok (.iload_n 1, 1) := by decide +kernel
theorem dX4_codeFrom_2 : decode cX4_codeFrom 2 = .ok (.invokevirtual 39, 3) := by decide +kernel
theorem dX4_codeFrom_5 : decode cX4_codeFrom 5 = .ok (.istore_n 2, 1) := by decide +kernel
theorem dX4_codeFrom_6 : decode cX4_codeFrom 6 = .ok (.iload_n 2, 1) := by decide +kernel
theorem dX4_codeFrom_7 : decode cX4_codeFrom 7 = .ok (.invokestatic 15, 3) := by decide +kernel
theorem dX4_codeFrom_10 : decode cX4_codeFrom 10 = .ok (.ifCond .eq 28, 3) := by decide +kernel
theorem dX4_codeFrom_13 : decode cX4_codeFrom 13 = .ok (.aload_n 0, 1) := by decide +kernel
theorem dX4_codeFrom_14 : decode cX4_codeFrom 14 = .ok (.iload_n 1, 1) := by decide +kernel
theorem dX4_codeFrom_15 : decode cX4_codeFrom 15 = .ok (.iconst 1, 1) := by decide +kernel
theorem dX4_codeFrom_16 : decode cX4_codeFrom 16 = .ok (.iadd, 1) := by decide +kernel
theorem dX4_codeFrom_17 : decode cX4_codeFrom 17 = .ok (.invokevirtual 39, 3) := by decide +kernel
theorem dX4_codeFrom_20 : decode cX4_codeFrom 20 = .ok (.invokestatic 19, 3) := by decide +kernel
theorem dX4_codeFrom_23 : decode cX4_codeFrom 23 = .ok (.ifCond .eq 15, 3) := by decide +kernel
theorem dX4_codeFrom_26 : decode cX4_codeFrom 26 = .ok (.iload_n 2, 1) := by decide +kernel
theorem dX4_codeFrom_27 : decode cX4_codeFrom 27 = .ok (.aload_n 0, 1) := by decide +kernel
theorem dX4_codeFrom_28 : decode cX4_codeFrom 28 = .ok (.iload_n 1, 1) := by decide +kernel
theorem dX4_codeFrom_29 : decode cX4_codeFrom 29 = .ok (.iconst 1, 1) := by decide +kernel
theorem dX4_codeFrom_30 : decode cX4_codeFrom 30 = .ok (.iadd, 1) := by decide +kernel
theorem dX4_codeFrom_31 : decode cX4_codeFrom 31 = .ok (.invokevirtual 39, 3) := by decide +kernel
theorem dX4_codeFrom_34 : decode cX4_codeFrom 34 = .ok (.invokestatic 42, 3) := by decide +kernel
theorem dX4_codeFrom_37 : decode cX4_codeFrom 37 = .ok (.ireturn, 1) := by decide +kernel
theorem dX4_codeFrom_38 : decode cX4_codeFrom 38 = .ok (.iload_n 2, 1) := by decide +kernel
theorem dX4_codeFrom_39 : decode cX4_codeFrom 39 = .ok (.ireturn, 1) := by decide +kernel
theorem dX4_isCodeBegin_0 : decode cX4_isCodeBegin 0 = .ok (.iload_n 1, 1) := by decide +kernel
theorem dX4_isCodeBegin_1 : decode cX4_isCodeBegin 1 = .ok (.ifCond .eq 27, 3) := by decide +kernel
theorem dX4_isCodeBegin_4 : decode cX4_isCodeBegin 4 = .ok (.aload_n 0, 1) := by decide +kernel
theorem dX4_isCodeBegin_5 : decode cX4_isCodeBegin 5 = .ok (.iload_n 1, 1) := by decide +kernel
theorem dX4_isCodeBegin_6 : decode cX4_isCodeBegin 6 = .ok (.invokevirtual 39, 3) := by decide +kernel
theorem dX4_isCodeBegin_9 : decode cX4_isCodeBegin 9 = .ok (.invokestatic 19, 3) := by decide +kernel
theorem dX4_isCodeBegin_12 : decode cX4_isCodeBegin 12 = .ok (.ifCond .eq 16, 3) := by decide +kernel
theorem dX4_isCodeBegin_15 : decode cX4_isCodeBegin 15 = .ok (.aload_n 0, 1) := by decide +kernel
theorem dX4_isCodeBegin_16 : decode cX4_isCodeBegin 16 = .ok (.iload_n 1, 1) := by decide +kernel
theorem dX4_isCodeBegin_17 : decode cX4_isCodeBegin 17 = .ok (.iconst 1, 1) := by decide +kernel
theorem dX4_isCodeBegin_18 : decode cX4_isCodeBegin 18 = .ok (.isub, 1) := by decide +kernel
theorem dX4_isCodeBegin_19 : decode cX4_isCodeBegin 19 = .ok (.invokevirtual 39, 3) := by decide +kernel
theorem dX4_isCodeBegin_22 : decode cX4_isCodeBegin 22 = .ok (.invokestatic 15, 3) := by decide +kernel
theorem dX4_isCodeBegin_25 : decode cX4_isCodeBegin 25 = .ok (.ifCond .ne 7, 3) := by decide +kernel
theorem dX4_isCodeBegin_28 : decode cX4_isCodeBegin 28 = .ok (.iconst 1, 1) := by decide +kernel
theorem dX4_isCodeBegin_29 : decode cX4_isCodeBegin 29 = .ok (.goto 4, 3) := by decide +kernel
theorem dX4_isCodeBegin_32 : decode cX4_isCodeBegin 32 = .ok (.iconst 0, 1) := by decide +kernel
theorem dX4_isCodeBegin_33 : decode cX4_isCodeBegin 33 = .ok (.ireturn, 1) := by decide +kernel
theorem dX4_codeBegin_0 : decode cX4_codeBegin 0 = .ok (.iconst 0, 1) := by decide +kernel
theorem dX4_codeBegin_1 : decode cX4_codeBegin 1 = .ok (.istore_n 2, 1) := by decide +kernel
theorem dX4_codeBegin_2 : decode cX4_codeBegin 2 = .ok (.iconst 0, 1) := by decide +kernel
theorem dX4_codeBegin_3 : decode cX4_codeBegin 3 = .ok (.istore_n 3, 1) := by decide +kernel
theorem dX4_codeBegin_4 : decode cX4_codeBegin 4 = .ok (.iload_n 3, 1) := by decide +kernel
theorem dX4_codeBegin_5 : decode cX4_codeBegin 5 = .ok (.aload_n 0, 1) := by decide +kernel
theorem dX4_codeBegin_6 : decode cX4_codeBegin 6 = .ok (.invokevirtual 46, 3) := by decide +kernel
theorem dX4_codeBegin_9 : decode cX4_codeBegin 9 = .ok (.if_icmp .ge 27, 3) := by decide +kernel
theorem dX4_codeBegin_12 : decode cX4_codeBegin 12 = .ok (.aload_n 0, 1) := by decide +kernel
theorem dX4_codeBegin_13 : decode cX4_codeBegin 13 = .ok (.iload_n 3, 1) := by decide +kernel
theorem dX4_codeBegin_14 : decode cX4_codeBegin 14 = .ok (.invokestatic 50, 3) := by decide +kernel
theorem dX4_codeBegin_17 : decode cX4_codeBegin 17 = .ok (.ifCond .eq 13, 3) := by decide +kernel
theorem dX4_codeBegin_20 : decode cX4_codeBegin 20 = .ok (.iload_n 2, 1) := by decide +kernel
theorem dX4_codeBegin_21 : decode cX4_codeBegin 21 = .ok (.iload_n 1, 1) := by decide +kernel
theorem dX4_codeBegin_22 : decode cX4_codeBegin 22 = .ok (.if_icmp .ne 5, 3) := by decide +kernel
theorem dX4_codeBegin_25 : decode cX4_codeBegin 25 = .ok (.iload_n 3, 1) := by decide +kernel
theorem dX4_codeBegin_26 : decode cX4_codeBegin 26 = .ok (.ireturn, 1) := by decide +kernel
theorem dX4_codeBegin_27 : decode cX4_codeBegin 27 = .ok (.iinc 2 1, 3) := by decide +kernel
theorem dX4_codeBegin_30 : decode cX4_codeBegin 30 = .ok (.iinc 3 1, 3) := by decide +kernel
theorem dX4_codeBegin_33 : decode cX4_codeBegin 33 = .ok (.goto (-29), 3) := by decide +kernel
theorem dX4_codeBegin_36 : decode cX4_codeBegin 36 = .ok (.iconst (-1), 1) := by decide +kernel
theorem dX4_codeBegin_37 : decode cX4_codeBegin 37 = .ok (.ireturn, 1) := by decide +kernel
theorem dX4_listCodes_0 : decode cX4_listCodes 0 = .ok (.aload_n 1, 1) := by decide +kernel
theorem dX4_listCodes_1 : decode cX4_listCodes 1 = .ok (.invokevirtual 54, 3) := by decide +kernel
theorem dX4_listCodes_4 : decode cX4_listCodes 4 = .ok (.iconst 0, 1) := by decide +kernel
theorem dX4_listCodes_5 : decode cX4_listCodes 5 = .ok (.istore_n 2, 1) := by decide +kernel
theorem dX4_listCodes_6 : decode cX4_listCodes 6 = .ok (.iload_n 2, 1) := by decide +kernel
theorem dX4_listCodes_7 : decode cX4_listCodes 7 = .ok (.aload_n 0, 1) := by decide +kernel
theorem dX4_listCodes_8 : decode cX4_listCodes 8 = .ok (.invokevirtual 46, 3) := by decide +kernel
theorem dX4_listCodes_11 : decode cX4_listCodes 11 = .ok (.if_icmp .ge 26, 3) := by decide +kernel
theorem dX4_listCodes_14 : decode cX4_listCodes 14 = .ok (.aload_n 0, 1) := by decide +kernel
theorem dX4_listCodes_15 : decode cX4_listCodes 15 = .ok (.iload_n 2, 1) := by decide +kernel
theorem dX4_listCodes_16 : decode cX4_listCodes 16 = .ok (.invokestatic 50, 3) := by decide +kernel
theorem dX4_listCodes_19 : decode cX4_listCodes 19 = .ok (.ifCond .eq 12, 3) := by decide +kernel
theorem dX4_listCodes_22 : decode cX4_listCodes 22 = .ok (.aload_n 1, 1) := by decide +kernel
theorem dX4_listCodes_23 : decode cX4_listCodes 23 = .ok (.aload_n 0, 1) := by decide +kernel
theorem dX4_listCodes_24 : decode cX4_listCodes 24 = .ok (.iload_n 2, 1) := by decide +kernel
theorem dX4_listCodes_25 : decode cX4_listCodes 25 = .ok (.invokestatic 57, 3) := by decide +kernel
theorem dX4_listCodes_28 : decode cX4_listCodes 28 = .ok (.invokevirtual 30, 3) := by decide +kernel
theorem dX4_listCodes_31 : decode cX4_listCodes 31 = .ok (.iinc 2 1, 3) := by decide +kernel
theorem dX4_listCodes_34 : decode cX4_listCodes 34 = .ok (.goto (-28), 3) := by decide +kernel
theorem dX4_listCodes_37 : decode cX4_listCodes 37 = .ok (.return_, 1) := by decide +kernel
theorem dX4_howMany_0 : decode cX4_howMany 0 = .ok (.iload_n 1, 1) := by decide +kernel
theorem dX4_howMany_1 : decode cX4_howMany 1 = .ok (.ifCond .ne 8, 3) := by decide +kernel
theorem dX4_howMany_4 : decode cX4_howMany 4 = .ok (.aload_n 0, 1) := by decide +kernel
theorem dX4_howMany_5 : decode cX4_howMany 5 = .ok (.invokevirtual 46, 3) := by decide +kernel
theorem dX4_howMany_8 : decode cX4_howMany 8 = .ok (.ireturn, 1) := by decide +kernel
theorem dX4_howMany_9 : decode cX4_howMany 9 = .ok (.iconst 0, 1) := by decide +kernel
theorem dX4_howMany_10 : decode cX4_howMany 10 = .ok (.istore_n 2, 1) := by decide +kernel
theorem dX4_howMany_11 : decode cX4_howMany 11 = .ok (.iconst 0, 1) := by decide +kernel
theorem dX4_howMany_12 : decode cX4_howMany 12 = .ok (.istore_n 3, 1) := by decide +kernel
theorem dX4_howMany_13 : decode cX4_howMany 13 = .ok (.iload_n 3, 1) := by decide +kernel
theorem dX4_howMany_14 : decode cX4_howMany 14 = .ok (.aload_n 0, 1) := by decide +kernel
theorem dX4_howMany_15 : decode cX4_howMany 15 = .ok (.invokevirtual 46, 3) := by decide +kernel
theorem dX4_howMany_18 : decode cX4_howMany 18 = .ok (.if_icmp .ge 32, 3) := by decide +kernel
theorem dX4_howMany_21 : decode cX4_howMany 21 = .ok (.aload_n 0, 1) := by decide +kernel
theorem dX4_howMany_22 : decode cX4_howMany 22 = .ok (.iload_n 3, 1) := by decide +kernel
theorem dX4_howMany_23 : decode cX4_howMany 23 = .ok (.invokestatic 50, 3) := by decide +kernel
theorem dX4_howMany_26 : decode cX4_howMany 26 = .ok (.ifCond .eq 18, 3) := by decide +kernel
theorem dX4_howMany_29 : decode cX4_howMany 29 = .ok (.aload_n 0, 1) := by decide +kernel
theorem dX4_howMany_30 : decode cX4_howMany 30 = .ok (.iload_n 3, 1) := by decide +kernel
theorem dX4_howMany_31 : decode cX4_howMany 31 = .ok (.invokestatic 57, 3) := by decide +kernel
theorem dX4_howMany_34 : decode cX4_howMany 34 = .ok (.iload_n 1, 1) := by decide +kernel
theorem dX4_howMany_35 : decode cX4_howMany 35 = .ok (.invokestatic 61, 3) := by decide +kernel
theorem dX4_howMany_38 : decode cX4_howMany 38 = .ok (.ifCond .eq 6, 3) := by decide +kernel
theorem dX4_howMany_41 : decode cX4_howMany 41 = .ok (.iinc 2 1, 3) := by decide +kernel
theorem dX4_howMany_44 : decode cX4_howMany 44 = .ok (.iinc 3 1, 3) := by decide +kernel
theorem dX4_howMany_47 : decode cX4_howMany 47 = .ok (.goto (-34), 3) := by decide +kernel
theorem dX4_howMany_50 : decode cX4_howMany 50 = .ok (.iload_n 2, 1) := by decide +kernel
theorem dX4_howMany_51 : decode cX4_howMany 51 = .ok (.ireturn, 1) := by decide +kernel
theorem dX4_isCounted_0 : decode cX4_isCounted 0 = .ok (.iload_n 1, 1) := by decide +kernel
theorem dX4_isCounted_1 : decode cX4_isCounted 1 = .ok (.tableswitch 39 1 3 #[27, 29, 34], 27) := by decide +kernel
theorem dX4_isCounted_28 : decode cX4_isCounted 28 = .ok (.iconst 1, 1) := by decide +kernel
theorem dX4_isCounted_29 : decode cX4_isCounted 29 = .ok (.ireturn, 1) := by decide +kernel
theorem dX4_isCounted_30 : decode cX4_isCounted 30 = .ok (.iload_n 0, 1) := by decide +kernel
theorem dX4_isCounted_31 : decode cX4_isCounted 31 = .ok (.invokestatic 23, 3) := by decide +kernel
theorem dX4_isCounted_34 : decode cX4_isCounted 34 = .ok (.ireturn, 1) := by decide +kernel
theorem dX4_isCounted_35 : decode cX4_isCounted 35 = .ok (.iload_n 0, 1) := by decide +kernel
theorem dX4_isCounted_36 : decode cX4_isCounted 36 = .ok (.invokestatic 65, 3) := by decide +kernel
theorem dX4_isCounted_39 : decode cX4_isCounted 39 = .ok (.ireturn, 1) := by decide +kernel
theorem dX4_isCounted_40 : decode cX4_isCounted 40 = .ok (.iconst 0, 1) := by decide +kernel
theorem dX4_isCounted_41 : decode cX4_isCounted 41 = .ok (.ireturn, 1) := by decide +kernel
theorem dX4_areSentAgain_0 : decode cX4_areSentAgain 0 = .ok (.iconst 0, 1) := by decide +kernel
theorem dX4_areSentAgain_1 : decode cX4_areSentAgain 1 = .ok (.istore_n 1, 1) := by decide +kernel
theorem dX4_areSentAgain_2 : decode cX4_areSentAgain 2 = .ok (.iconst 0, 1) := by decide +kernel
theorem dX4_areSentAgain_3 : decode cX4_areSentAgain 3 = .ok (.istore_n 2, 1) := by decide +kernel
theorem dX4_areSentAgain_4 : decode cX4_areSentAgain 4 = .ok (.iload_n 2, 1) := by decide +kernel
theorem dX4_areSentAgain_5 : decode cX4_areSentAgain 5 = .ok (.aload_n 0, 1) := by decide +kernel
theorem dX4_areSentAgain_6 : decode cX4_areSentAgain 6 = .ok (.invokevirtual 46, 3) := by decide +kernel
theorem dX4_areSentAgain_9 : decode cX4_areSentAgain 9 = .ok (.if_icmp .ge 41, 3) := by decide +kernel
theorem dX4_areSentAgain_12 : decode cX4_areSentAgain 12 = .ok (.aload_n 0, 1) := by decide +kernel
theorem dX4_areSentAgain_13 : decode cX4_areSentAgain 13 = .ok (.iload_n 2, 1) := by decide +kernel
theorem dX4_areSentAgain_14 : decode cX4_areSentAgain 14 = .ok (.invokestatic 50, 3) := by decide +kernel
theorem dX4_areSentAgain_17 : decode cX4_areSentAgain 17 = .ok (.ifCond .eq 27, 3) := by decide +kernel
theorem dX4_areSentAgain_20 : decode cX4_areSentAgain 20 = .ok (.aload_n 0, 1) := by decide +kernel
theorem dX4_areSentAgain_21 : decode cX4_areSentAgain 21 = .ok (.iload_n 2, 1) := by decide +kernel
theorem dX4_areSentAgain_22 : decode cX4_areSentAgain 22 = .ok (.invokestatic 57, 3) := by decide +kernel
theorem dX4_areSentAgain_25 : decode cX4_areSentAgain 25 = .ok (.istore_n 3, 1) := by decide +kernel
theorem dX4_areSentAgain_26 : decode cX4_areSentAgain 26 = .ok (.aload_n 0, 1) := by decide +kernel
theorem dX4_areSentAgain_27 : decode cX4_areSentAgain 27 = .ok (.iload_n 1, 1) := by decide +kernel
theorem dX4_areSentAgain_28 : decode cX4_areSentAgain 28 = .ok (.iload_n 3, 1) := by decide +kernel
theorem dX4_areSentAgain_29 : decode cX4_areSentAgain 29 = .ok (.invokestatic 68, 3) := by decide +kernel
theorem dX4_areSentAgain_32 : decode cX4_areSentAgain 32 = .ok (.ifCond .ne 5, 3) := by decide +kernel
theorem dX4_areSentAgain_35 : decode cX4_areSentAgain 35 = .ok (.iconst 0, 1) := by decide +kernel
theorem dX4_areSentAgain_36 : decode cX4_areSentAgain 36 = .ok (.ireturn, 1) := by decide +kernel
theorem dX4_areSentAgain_37 : decode cX4_areSentAgain 37 = .ok (.iload_n 1, 1) := by decide +kernel
theorem dX4_areSentAgain_38 : decode cX4_areSentAgain 38 = .ok (.iload_n 3, 1) := by decide +kernel
theorem dX4_areSentAgain_39 : decode cX4_areSentAgain 39 = .ok (.invokestatic 72, 3) := by decide +kernel
theorem dX4_areSentAgain_42 : decode cX4_areSentAgain 42 = .ok (.iadd, 1) := by decide +kernel
theorem dX4_areSentAgain_43 : decode cX4_areSentAgain 43 = .ok (.istore_n 1, 1) := by decide +kernel
theorem dX4_areSentAgain_44 : decode cX4_areSentAgain 44 = .ok (.iinc 2 1, 3) := by decide +kernel
theorem dX4_areSentAgain_47 : decode cX4_areSentAgain 47 = .ok (.goto (-43), 3) := by decide +kernel
theorem dX4_areSentAgain_50 : decode cX4_areSentAgain 50 = .ok (.iload_n 1, 1) := by decide +kernel
theorem dX4_areSentAgain_51 : decode cX4_areSentAgain 51 = .ok (.aload_n 0, 1) := by decide +kernel
theorem dX4_areSentAgain_52 : decode cX4_areSentAgain 52 = .ok (.invokevirtual 46, 3) := by decide +kernel
theorem dX4_areSentAgain_55 : decode cX4_areSentAgain 55 = .ok (.if_icmp .ne 7, 3) := by decide +kernel
theorem dX4_areSentAgain_58 : decode cX4_areSentAgain 58 = .ok (.iconst 1, 1) := by decide +kernel
theorem dX4_areSentAgain_59 : decode cX4_areSentAgain 59 = .ok (.goto 4, 3) := by decide +kernel
theorem dX4_areSentAgain_62 : decode cX4_areSentAgain 62 = .ok (.iconst 0, 1) := by decide +kernel
theorem dX4_areSentAgain_63 : decode cX4_areSentAgain 63 = .ok (.ireturn, 1) := by decide +kernel
theorem dX4_standsAt_0 : decode cX4_standsAt 0 = .ok (.iload_n 2, 1) := by decide +kernel
theorem dX4_standsAt_1 : decode cX4_standsAt 1 = .ok (.invokestatic 23, 3) := by decide +kernel
theorem dX4_standsAt_4 : decode cX4_standsAt 4 = .ok (.ifCond .ne 18, 3) := by decide +kernel
theorem dX4_standsAt_7 : decode cX4_standsAt 7 = .ok (.aload_n 0, 1) := by decide +kernel
theorem dX4_standsAt_8 : decode cX4_standsAt 8 = .ok (.iload_n 1, 1) := by decide +kernel
theorem dX4_standsAt_9 : decode cX4_standsAt 9 = .ok (.invokevirtual 39, 3) := by decide +kernel
theorem dX4_standsAt_12 : decode cX4_standsAt 12 = .ok (.iload_n 2, 1) := by decide +kernel
theorem dX4_standsAt_13 : decode cX4_standsAt 13 = .ok (.if_icmp .ne 7, 3) := by decide +kernel
theorem dX4_standsAt_16 : decode cX4_standsAt 16 = .ok (.iconst 1, 1) := by decide +kernel
theorem dX4_standsAt_17 : decode cX4_standsAt 17 = .ok (.goto 4, 3) := by decide +kernel
theorem dX4_standsAt_20 : decode cX4_standsAt 20 = .ok (.iconst 0, 1) := by decide +kernel
theorem dX4_standsAt_21 : decode cX4_standsAt 21 = .ok (.ireturn, 1) := by decide +kernel
theorem dX4_standsAt_22 : decode cX4_standsAt 22 = .ok (.aload_n 0, 1) := by decide +kernel
theorem dX4_standsAt_23 : decode cX4_standsAt 23 = .ok (.iload_n 1, 1) := by decide +kernel
theorem dX4_standsAt_24 : decode cX4_standsAt 24 = .ok (.invokevirtual 39, 3) := by decide +kernel
theorem dX4_standsAt_27 : decode cX4_standsAt 27 = .ok (.iload_n 2, 1) := by decide +kernel
theorem dX4_standsAt_28 : decode cX4_standsAt 28 = .ok (.invokestatic 26, 3) := by decide +kernel
theorem dX4_standsAt_31 : decode cX4_standsAt 31 = .ok (.if_icmp .ne 21, 3) := by decide +kernel
theorem dX4_standsAt_34 : decode cX4_standsAt 34 = .ok (.aload_n 0, 1) := by decide +kernel
theorem dX4_standsAt_35 : decode cX4_standsAt 35 = .ok (.iload_n 1, 1) := by decide +kernel
theorem dX4_standsAt_36 : decode cX4_standsAt 36 = .ok (.iconst 1, 1) := by decide +kernel
theorem dX4_standsAt_37 : decode cX4_standsAt 37 = .ok (.iadd, 1) := by decide +kernel
theorem dX4_standsAt_38 : decode cX4_standsAt 38 = .ok (.invokevirtual 39, 3) := by decide +kernel
theorem dX4_standsAt_41 : decode cX4_standsAt 41 = .ok (.iload_n 2, 1) := by decide +kernel
theorem dX4_standsAt_42 : decode cX4_standsAt 42 = .ok (.invokestatic 36, 3) := by decide +kernel
theorem dX4_standsAt_45 : decode cX4_standsAt 45 = .ok (.if_icmp .ne 7, 3) := by decide +kernel
theorem dX4_standsAt_48 : decode cX4_standsAt 48 = .ok (.iconst 1, 1) := by decide +kernel
theorem dX4_standsAt_49 : decode cX4_standsAt 49 = .ok (.goto 4, 3) := by decide +kernel
theorem dX4_standsAt_52 : decode cX4_standsAt 52 = .ok (.iconst 0, 1) := by decide +kernel
theorem dX4_standsAt_53 : decode cX4_standsAt 53 = .ok (.ireturn, 1) := by decide +kernel
theorem dX6_init_0 : decode cX6_init 0 = .ok (.aload_n 0, 1) := by decide +kernel
theorem dX6_init_1 : decode cX6_init 1 = .ok (.invokespecial 1, 3) := by decide +kernel
theorem dX6_init_4 : decode cX6_init 4 = .ok (.return_, 1) := by decide +kernel
