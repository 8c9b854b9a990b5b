theorem dX8_init_0 : decode cX8_init 0 = .ok (.aload_n 0, 1) := by decide +kernel
theorem dX8_init_1 : decode cX8_init 1 = .ok (.invokespecial 1, 3) := by decide +kernel
theorem dX8_init_4 : decode cX8_init 4 = .ok (.aload_n 0, 1) := by decide +kernel
theorem dX8_init_5 : decode cX8_init 5 = .ok (.bipush 100, 2) := by decide +kernel
theorem dX8_init_7 : decode cX8_init 7 = .ok (.newarray .int, 2) := by decide +kernel
theorem dX8_init_9 : decode cX8_init 9 = .ok (.putfield 7, 3) := by decide +kernel
theorem dX8_init_12 : decode cX8_init 12 = .ok (.aload_n 0, 1) := by decide +kernel
theorem dX8_init_13 : decode cX8_init 13 = .ok (.bipush 100, 2) := by decide +kernel
theorem dX8_init_15 : decode cX8_init 15 = .ok (.newarray .int, 2) := by decide +kernel
theorem dX8_init_17 : decode cX8_init 17 = .ok (.putfield 13, 3) := by decide +kernel
theorem dX8_init_20 : decode cX8_init 20 = .ok (.aload_n 0, 1) := by decide +kernel
theorem dX8_init_21 : decode cX8_init 21 = .ok (.sipush 800, 3) := by decide +kernel
theorem dX8_init_24 : decode cX8_init 24 = .ok (.newarray .int, 2) := by decide +kernel
theorem dX8_init_26 : decode cX8_init 26 = .ok (.putfield 16, 3) := by decide +kernel
theorem dX8_init_29 : decode cX8_init 29 = .ok (.aload_n 0, 1) := by decide +kernel
theorem dX8_init_30 : decode cX8_init 30 = .ok (.sipush 200, 3) := by decide +kernel
theorem dX8_init_33 : decode cX8_init 33 = .ok (.newarray .int, 2) := by decide +kernel
theorem dX8_init_35 : decode cX8_init 35 = .ok (.putfield 19, 3) := by decide +kernel
theorem dX8_init_38 : decode cX8_init 38 = .ok (.aload_n 0, 1) := by decide +kernel
theorem dX8_init_39 : decode cX8_init 39 = .ok (.iconst 2, 1) := by decide +kernel
theorem dX8_init_40 : decode cX8_init 40 = .ok (.newarray .boolean, 2) := by decide +kernel
theorem dX8_init_42 : decode cX8_init 42 = .ok (.putfield 22, 3) := by decide +kernel
theorem dX8_init_45 : decode cX8_init 45 = .ok (.aload_n 0, 1) := by decide +kernel
theorem dX8_init_46 : decode cX8_init 46 = .ok (.sipush 160, 3) := by decide +kernel
theorem dX8_init_49 : decode cX8_init 49 = .ok (.newarray .int, 2) := by decide +kernel
theorem dX8_init_51 : decode cX8_init 51 = .ok (.putfield 26, 3) := by decide +kernel
theorem dX8_init_54 : decode cX8_init 54 = .ok (.aload_n 0, 1) := by decide +kernel
theorem dX8_init_55 : decode cX8_init 55 = .ok (.bipush 12, 2) := by decide +kernel
theorem dX8_init_57 : decode cX8_init 57 = .ok (.newarray .int, 2) := by decide +kernel
theorem dX8_init_59 : decode cX8_init 59 = .ok (.putfield 29, 3) := by decide +kernel
theorem dX8_init_62 : decode cX8_init 62 = .ok (.aload_n 0, 1) := by decide +kernel
theorem dX8_init_63 : decode cX8_init 63 = .ok (.iconst 5, 1) := by decide +kernel
theorem dX8_init_64 : decode cX8_init 64 = .ok (.newarray .int, 2) := by decide +kernel
theorem dX8_init_66 : decode cX8_init 66 = .ok (.putfield 32, 3) := by decide +kernel
theorem dX8_init_69 : decode cX8_init 69 = .ok (.return_, 1) := by decide +kernel
theorem dX8_in_0 : decode cX8_in 0 = .ok (.iload_n 0, 1) := by decide +kernel
theorem dX8_in_1 : decode cX8_in 1 = .ok (.iload_n 1, 1) := by decide +kernel
theorem dX8_in_2 : decode cX8_in 2 = .ok (.if_icmp .lt 12, 3) := by decide +kernel
theorem dX8_in_5 : decode cX8_in 5 = .ok (.iload_n 0, 1) := by decide +kernel
theorem dX8_in_6 : decode cX8_in 6 = .ok (.iload_n 2, 1) := by decide +kernel
theorem dX8_in_7 : decode cX8_in 7 = .ok (.if_icmp .gt 7, 3) := by decide +kernel
theorem dX8_in_10 : decode cX8_in 10 = .ok (.iconst 1, 1) := by decide +kernel
theorem dX8_in_11 : decode cX8_in 11 = .ok (.goto 4, 3) := by decide +kernel
theorem dX8_in_14 : decode cX8_in 14 = .ok (.iconst 0, 1) := by decide +kernel
theorem dX8_in_15 : decode cX8_in 15 = .ok (.ireturn, 1) := by decide +kernel
theorem dX8_has_0 : decode cX8_has 0 = .ok (.iload_n 0, 1) := by decide +kernel
theorem dX8_has_1 : decode cX8_has 1 = .ok (.iload_n 1, 1) := by decide +kernel
theorem dX8_has_2 : decode cX8_has 2 = .ok (.ishr, 1) := by decide +kernel
theorem dX8_has_3 : decode cX8_has 3 = .ok (.iconst 1, 1) := by decide +kernel
theorem dX8_has_4 : decode cX8_has 4 = .ok (.iand, 1) := by decide +kernel
theorem dX8_has_5 : decode cX8_has 5 = .ok (.iconst 1, 1) := by decide +kernel
theorem dX8_has_6 : decode cX8_has 6 = .ok (.if_icmp .ne 7, 3) := by decide +kernel
theorem dX8_has_9 : decode cX8_has 9 = .ok (.iconst 1, 1) := by decide +kernel
theorem dX8_has_10 : decode cX8_has 10 = .ok (.goto 4, 3) := by decide +kernel
theorem dX8_has_13 : decode cX8_has 13 = .ok (.iconst 0, 1) := by decide +kernel
theorem dX8_has_14 : decode cX8_has 14 = .ok (.ireturn, 1) := by decide +kernel
theorem dX8_most_0 : decode cX8_most 0 = .ok (.iload_n 0, 1) := by decide +kernel
theorem dX8_most_1 : decode cX8_most 1 = .ok (.iload_n 1, 1) := by decide +kernel
theorem dX8_most_2 : decode cX8_most 2 = .ok (.if_icmp .le 7, 3) := by decide +kernel
theorem dX8_most_5 : decode cX8_most 5 = .ok (.iload_n 0, 1) := by decide +kernel
theorem dX8_most_6 : decode cX8_most 6 = .ok (.goto 4, 3) := by decide +kernel
theorem dX8_most_9 : decode cX8_most 9 = .ok (.iload_n 1, 1) := by decide +kernel
theorem dX8_most_10 : decode cX8_most 10 = .ok (.ireturn, 1) := by decide +kernel
theorem dX8_least_0 : decode cX8_least 0 = .ok (.iload_n 0, 1) := by decide +kernel
theorem dX8_least_1 : decode cX8_least 1 = .ok (.iload_n 1, 1) := by decide +kernel
theorem dX8_least_2 : decode cX8_least 2 = .ok (.if_icmp .ge 7, 3) := by decide +kernel
theorem dX8_least_5 : decode cX8_least 5 = .ok (.iload_n 0, 1) := by decide +kernel
theorem dX8_least_6 : decode cX8_least 6 = .ok (.goto 4, 3) := by decide +kernel
theorem dX8_least_9 : decode cX8_least 9 = .ok (.iload_n 1, 1) := by decide +kernel
theorem dX8_least_10 : decode cX8_least 10 = .ok (.ireturn, 1) := by decide +kernel
theorem dX8_copies_0 : decode cX8_copies 0 = .ok (.iconst 0, 1) := by decide +kernel
theorem dX8_copies_1 : decode cX8_copies 1 = .ok (.istore 4, 2) := by decide +kernel
theorem dX8_copies_3 : decode cX8_copies 3 = .ok (.iload 4, 2) := by decide +kernel
theorem dX8_copies_5 : decode cX8_copies 5 = .ok (.bipush 100, 2) := by decide +kernel
theorem dX8_copies_7 : decode cX8_copies 7 = .ok (.if_icmp .ge 21, 3) := by decide +kernel
theorem dX8_copies_10 : decode cX8_copies 10 = .ok (.aload_n 2, 1) := by decide +kernel
theorem dX8_copies_11 : decode cX8_copies 11 = .ok (.iload_n 3, 1) := by decide +kernel
theorem dX8_copies_12 : decode cX8_copies 12 = .ok (.iload 4, 2) := by decide +kernel
theorem dX8_copies_14 : decode cX8_copies 14 = .ok (.iadd, 1) := by decide +kernel
theorem dX8_copies_15 : decode cX8_copies 15 = .ok (.aload_n 0, 1) := by decide +kernel
theorem dX8_copies_16 : decode cX8_copies 16 = .ok (.iload_n 1, 1) := by decide +kernel
theorem dX8_copies_17 : decode cX8_copies 17 = .ok (.iload 4, 2) := by decide +kernel
theorem dX8_copies_19 : decode cX8_copies 19 = .ok (.iadd, 1) := by decide +kernel
theorem dX8_copies_20 : decode cX8_copies 20 = .ok (.iaload, 1) := by decide +kernel
theorem dX8_copies_21 : decode cX8_copies 21 = .ok (.iastore, 1) := by decide +kernel
theorem dX8_copies_22 : decode cX8_copies 22 = .ok (.iinc 4 1, 3) := by decide +kernel
theorem dX8_copies_25 : decode cX8_copies 25 = .ok (.goto (-22), 3) := by decide +kernel
theorem dX8_copies_28 : decode cX8_copies 28 = .ok (.return_, 1) := by decide +kernel
theorem dX8_eveningAt_0 : decode cX8_eveningAt 0 = .ok (.bipush 7, 2) := by decide +kernel
theorem dX8_eveningAt_2 : decode cX8_eveningAt 2 = .ok (.bipush 9, 2) := by decide +kernel
theorem dX8_eveningAt_4 : decode cX8_eveningAt 4 = .ok (.iload_n 0, 1) := by decide +kernel
theorem dX8_eveningAt_5 : decode cX8_eveningAt 5 = .ok (.imul, 1) := by decide +kernel
theorem dX8_eveningAt_6 : decode cX8_eveningAt 6 = .ok (.iadd, 1) := by decide +kernel
theorem dX8_eveningAt_7 : decode cX8_eveningAt 7 = .ok (.ireturn, 1) := by decide +kernel
theorem dX8_bidderAt_0 : decode cX8_bidderAt 0 = .ok (.bipush 70, 2) := by decide +kernel
theorem dX8_bidderAt_2 : decode cX8_bidderAt 2 = .ok (.bipush 6, 2) := by decide +kernel
theorem dX8_bidderAt_4 : decode cX8_bidderAt 4 = .ok (.iload_n 0, 1) := by decide +kernel
theorem dX8_bidderAt_5 : decode cX8_bidderAt 5 = .ok (.imul, 1) := by decide +kernel
theorem dX8_bidderAt_6 : decode cX8_bidderAt 6 = .ok (.iadd, 1) := by decide +kernel
theorem dX8_bidderAt_7 : decode cX8_bidderAt 7 = .ok (.ireturn, 1) := by decide +kernel
theorem dX8_isEvening_0 : decode cX8_isEvening 0 = .ok (.iload_n 1, 1) := by decide +kernel
theorem dX8_isEvening_1 : decode cX8_isEvening 1 = .ok (.iconst 0, 1) := by decide +kernel
theorem dX8_isEvening_2 : decode cX8_isEvening 2 = .ok (.aload_n 0, 1) := by decide +kernel
theorem dX8_isEvening_3 : decode cX8_isEvening 3 = .ok (.getfield 7, 3) := by decide +kernel
theorem dX8_isEvening_6 : decode cX8_isEvening 6 = .ok (.iconst 0, 1) := by decide +kernel
theorem dX8_isEvening_7 : decode cX8_isEvening 7 = .ok (.iaload, 1) := by decide +kernel
theorem dX8_isEvening_8 : decode cX8_isEvening 8 = .ok (.iconst 1, 1) := by decide +kernel
theorem dX8_isEvening_9 : decode cX8_isEvening 9 = .ok (.isub, 1) := by decide +kernel
theorem dX8_isEvening_10 : decode cX8_isEvening 10 = .ok (.invokestatic 35, 3) := by decide +kernel
theorem dX8_isEvening_13 : decode cX8_isEvening 13 = .ok (.ireturn, 1) := by decide +kernel
theorem dX8_isBidder_0 : decode cX8_isBidder 0 = .ok (.iload_n 1, 1) := by decide +kernel
theorem dX8_isBidder_1 : decode cX8_isBidder 1 = .ok (.iconst 0, 1) := by decide +kernel
theorem dX8_isBidder_2 : decode cX8_isBidder 2 = .ok (.aload_n 0, 1) := by decide +kernel
theorem dX8_isBidder_3 : decode cX8_isBidder 3 = .ok (.getfield 7, 3) := by decide +kernel
theorem dX8_isBidder_6 : decode cX8_isBidder 6 = .ok (.iconst 1, 1) := by decide +kernel
theorem dX8_isBidder_7 : decode cX8_isBidder 7 = .ok (.iaload, 1) := by decide +kernel
theorem dX8_isBidder_8 : decode cX8_isBidder 8 = .ok (.iconst 1, 1) := by decide +kernel
theorem dX8_isBidder_9 : decode cX8_isBidder 9 = .ok (.isub, 1) := by decide +kernel
theorem dX8_isBidder_10 : decode cX8_isBidder 10 = .ok (.invokestatic 35, 3) := by decide +kernel
theorem dX8_isBidder_13 : decode cX8_isBidder 13 = .ok (.ireturn, 1) := by decide +kernel
theorem dX8_isTonight_0 : decode cX8_isTonight 0 = .ok (.aload_n 0, 1) := by decide +kernel
theorem dX8_isTonight_1 : decode cX8_isTonight 1 = .ok (.getfield 7, 3) := by decide +kernel
theorem dX8_isTonight_4 : decode cX8_isTonight 4 = .ok (.iconst 2, 1) := by decide +kernel
theorem dX8_isTonight_5 : decode cX8_isTonight 5 = .ok (.iaload, 1) := by decide +kernel
theorem dX8_isTonight_6 : decode cX8_isTonight 6 = .ok (.aload_n 0, 1) := by decide +kernel
theorem dX8_isTonight_7 : decode cX8_isTonight 7 = .ok (.getfield 7, 3) := by decide +kernel
theorem dX8_isTonight_10 : decode cX8_isTonight 10 = .ok (.iconst 0, 1) := by decide +kernel
theorem dX8_isTonight_11 : decode cX8_isTonight 11 = .ok (.iaload, 1) := by decide +kernel
theorem dX8_isTonight_12 : decode cX8_isTonight 12 = .ok (.if_icmp .ge 7, 3) := by decide +kernel
theorem dX8_isTonight_15 : decode cX8_isTonight 15 = .ok (.iconst 1, 1) := by decide +kernel
theorem dX8_isTonight_16 : decode cX8_isTonight 16 = .ok (.goto 4, 3) := by decide +kernel
theorem dX8_isTonight_19 : decode cX8_isTonight 19 = .ok (.iconst 0, 1) := by decide +kernel
theorem dX8_isTonight_20 : decode cX8_isTonight 20 = .ok (.ireturn, 1) := by decide +kernel
theorem dX8_write_0 : decode cX8_write 0 = .ok (.iload_n 1, 1) := by decide +kernel
theorem dX8_write_1 : decode cX8_write 1 = .ok (.iconst 0, 1) := by decide +kernel
theorem dX8_write_2 : decode cX8_write 2 = .ok (.sipush 255, 3) := by decide +kernel
theorem dX8_write_5 : decode cX8_write 5 = .ok (.invokestatic 35, 3) := by decide +kernel
theorem dX8_write_8 : decode cX8_write 8 = .ok (.ifCond .ne 6, 3) := by decide +kernel
theorem dX8_write_11 : decode cX8_write 11 = .ok (.bipush (-3), 2) := by decide +kernel
theorem dX8_write_13 : decode cX8_write 13 = .ok (.ireturn, 1) := by decide +kernel
theorem dX8_write_14 : decode cX8_write 14 = .ok (.aload_n 0, 1) := by decide +kernel
theorem dX8_write_15 : decode cX8_write 15 = .ok (.getfield 39, 3) := by decide +kernel
theorem dX8_write_18 : decode cX8_write 18 = .ok (.sipush 160, 3) := by decide +kernel
theorem dX8_write_21 : decode cX8_write 21 = .ok (.if_icmp .ne 6, 3) := by decide +kernel
theorem dX8_write_24 : decode cX8_write 24 = .ok (.bipush (-5), 2) := by decide +kernel
theorem dX8_write_26 : decode cX8_write 26 = .ok (.ireturn, 1) := by decide +kernel
theorem dX8_write_27 : decode cX8_write 27 = .ok (.aload_n 0, 1) := by decide +kernel
theorem dX8_write_28 : decode cX8_write 28 = .ok (.getfield 26, 3) := by decide +kernel
theorem dX8_write_31 : decode cX8_write 31 = .ok (.aload_n 0, 1) := by decide +kernel
theorem dX8_write_32 : decode cX8_write 32 = .ok (.getfield 39, 3) := by decide +kernel
theorem dX8_write_35 : decode cX8_write 35 = .ok (.iload_n 1, 1) := by decide +kernel
theorem dX8_write_36 : decode cX8_write 36 = .ok (.iastore, 1) := by decide +kernel
theorem dX8_write_37 : decode cX8_write 37 = .ok (.aload_n 0, 1) := by decide +kernel
theorem dX8_write_38 : decode cX8_write 38 = .ok (.dup, 1) := by decide +kernel
theorem dX8_write_39 : decode cX8_write 39 = .ok (.getfield 39, 3) := by decide +kernel
theorem dX8_write_42 : decode cX8_write 42 = .ok (.iconst 1, 1) := by decide +kernel
theorem dX8_write_43 : decode cX8_write 43 = .ok (.iadd, 1) := by decide +kernel
theorem dX8_write_44 : decode cX8_write 44 = .ok (.putfield 39, 3) := by decide +kernel
theorem dX8_write_47 : decode cX8_write 47 = .ok (.aload_n 0, 1) := by decide +kernel
theorem dX8_write_48 : decode cX8_write 48 = .ok (.getfield 39, 3) := by decide +kernel
theorem dX8_write_51 : decode cX8_write 51 = .ok (.ireturn, 1) := by decide +kernel
theorem dX8_erase_0 : decode cX8_erase 0 = .ok (.aload_n 0, 1) := by decide +kernel
theorem dX8_erase_1 : decode cX8_erase 1 = .ok (.getfield 39, 3) := by decide +kernel
theorem dX8_erase_4 : decode cX8_erase 4 = .ok (.istore_n 1, 1) := by decide +kernel
theorem dX8_erase_5 : decode cX8_erase 5 = .ok (.aload_n 0, 1) := by decide +kernel
theorem dX8_erase_6 : decode cX8_erase 6 = .ok (.iconst 0, 1) := by decide +kernel
theorem dX8_erase_7 : decode cX8_erase 7 = .ok (.putfield 39, 3) := by decide +kernel
theorem dX8_erase_10 : decode cX8_erase 10 = .ok (.iload_n 1, 1) := by decide +kernel
theorem dX8_erase_11 : decode cX8_erase 11 = .ok (.ireturn, 1) := by decide +kernel
theorem dX8_letterAt_0 : decode cX8_letterAt 0 = .ok (.iload_n 1, 1) := by decide +kernel
theorem dX8_letterAt_1 : decode cX8_letterAt 1 = .ok (.aload_n 0, 1) := by decide +kernel
theorem dX8_letterAt_2 : decode cX8_letterAt 2 = .ok (.getfield 39, 3) := by decide +kernel
theorem dX8_letterAt_5 : decode cX8_letterAt 5 = .ok (.if_icmp .ge 12, 3) := by decide +kernel
theorem dX8_letterAt_8 : decode cX8_letterAt 8 = .ok (.aload_n 0, 1) := by decide +kernel
theorem dX8_letterAt_9 : decode cX8_letterAt 9 = .ok (.getfield 26, 3) := by decide +kernel
theorem dX8_letterAt_12 : decode cX8_letterAt 12 = .ok (.iload_n 1, 1) := by decide +kernel
theorem dX8_letterAt_13 : decode cX8_letterAt 13 = .ok (.iaload, 1) := by decide +kernel
theorem dX8_letterAt_14 : decode cX8_letterAt 14 = .ok (.goto 4, 3) := by decide +kernel
theorem dX8_letterAt_17 : decode cX8_letterAt 17 = .ok (.iconst (-1), 1) := by decide +kernel
theorem dX8_letterAt_18 : decode cX8_letterAt 18 = .ok (.ireturn, 1) := by decide +kernel
theorem dX8_sortOf_0 : decode cX8_sortOf 0 = .ok (.iload_n 0, 1) := by decide +kernel
theorem dX8_sortOf_1 : decode cX8_sortOf 1 = .ok (.ifCond .ge 7, 3) := by decide +kernel
theorem dX8_sortOf_4 : decode cX8_sortOf 4 = .ok (.iconst 0, 1) := by decide +kernel
theorem dX8_sortOf_5 : decode cX8_sortOf 5 = .ok (.goto 44, 3) := by decide +kernel
theorem dX8_sortOf_8 : decode cX8_sortOf 8 = .ok (.iload_n 0, 1) := by decide +kernel
theorem dX8_sortOf_9 : decode cX8_sortOf 9 = .ok (.bipush 97, 2) := by decide +kernel
theorem dX8_sortOf_11 : decode cX8_sortOf 11 = .ok (.bipush 122, 2) := by decide +kernel
theorem dX8_sortOf_13 : decode cX8_sortOf 13 = .ok (.invokestatic 35, 3) := by decide +kernel
theorem dX8_sortOf_16 : decode cX8_sortOf 16 = .ok (.ifCond .eq 7, 3) := by decide +kernel
theorem dX8_sortOf_19 : decode cX8_sortOf 19 = .ok (.iconst 1, 1) := by decide +kernel
theorem dX8_sortOf_20 : decode cX8_sortOf 20 = .ok (.goto 29, 3) := by decide +kernel
theorem dX8_sortOf_23 : decode cX8_sortOf 23 = .ok (.iload_n 0, 1) := by decide +kernel
theorem dX8_sortOf_24 : decode cX8_sortOf 24 = .ok (.bipush 48, 2) := by decide +kernel
theorem dX8_sortOf_26 : decode cX8_sortOf 26 = .ok (.bipush 57, 2) := by decide +kernel
theorem dX8_sortOf_28 : decode cX8_sortOf 28 = .ok (.invokestatic 35, 3) := by decide +kernel
theorem dX8_sortOf_31 : decode cX8_sortOf 31 = .ok (.ifCond .eq 7, 3) := by decide +kernel
theorem dX8_sortOf_34 : decode cX8_sortOf 34 = .ok (.iconst 2, 1) := by decide +kernel
theorem dX8_sortOf_35 : decode cX8_sortOf 35 = .ok (.goto 14, 3) := by decide +kernel
theorem dX8_sortOf_38 : decode cX8_sortOf 38 = .ok (.iload_n 0, 1) := by decide +kernel
theorem dX8_sortOf_39 : decode cX8_sortOf 39 = .ok (.bipush 59, 2) := by decide +kernel
theorem dX8_sortOf_41 : decode cX8_sortOf 41 = .ok (.if_icmp .ne 7, 3) := by decide +kernel
theorem dX8_sortOf_44 : decode cX8_sortOf 44 = .ok (.iconst 3, 1) := by decide +kernel
theorem dX8_sortOf_45 : decode cX8_sortOf 45 = .ok (.goto 4, 3) := by decide +kernel
theorem dX8_sortOf_48 : decode cX8_sortOf 48 = .ok (.iconst 4, 1) := by decide +kernel
theorem dX8_sortOf_49 : decode cX8_sortOf 49 = .ok (.ireturn, 1) := by decide +kernel
theorem dX8_token_0 : decode cX8_token 0 = .ok (.aload_n 0, 1) := by decide +kernel
theorem dX8_token_1 : decode cX8_token 1 = .ok (.aload_n 0, 1) := by decide +kernel
theorem dX8_token_2 : decode cX8_token 2 = .ok (.getfield 43, 3) := by decide +kernel
theorem dX8_token_5 : decode cX8_token 5 = .ok (.invokevirtual 46, 3) := by decide +kernel
theorem dX8_token_8 : decode cX8_token 8 = .ok (.bipush 32, 2) := by decide +kernel
theorem dX8_token_10 : decode cX8_token 10 = .ok (.if_icmp .ne 16, 3) := by decide +kernel
theorem dX8_token_13 : decode cX8_token 13 = .ok (.aload_n 0, 1) := by decide +kernel
theorem dX8_token_14 : decode cX8_token 14 = .ok (.dup, 1) := by decide +kernel
theorem dX8_token_15 : decode cX8_token 15 = .ok (.getfield 43, 3) := by decide +kernel
theorem dX8_token_18 : decode cX8_token 18 = .ok (.iconst 1, 1) := by decide +kernel
theorem dX8_token_19 : decode cX8_token 19 = .ok (.iadd, 1) := by decide +kernel
theorem dX8_token_20 : decode cX8_token 20 = .ok (.putfield 43, 3) := by decide +kernel
theorem dX8_token_23 : decode cX8_token 23 = .ok (.goto (-23), 3) := by decide +kernel
theorem dX8_token_26 : decode cX8_token 26 = .ok (.aload_n 0, 1) := by decide +kernel
theorem dX8_token_27 : decode cX8_token 27 = .ok (.aload_n 0, 1) := by decide +kernel
theorem dX8_token_28 : decode cX8_token 28 = .ok (.getfield 43, 3) := by decide +kernel
theorem dX8_token_31 : decode cX8_token 31 = .ok (.putfield 50, 3) := by decide +kernel
theorem dX8_token_34 : decode cX8_token 34 = .ok (.aload_n 0, 1) := by decide +kernel
theorem dX8_token_35 : decode cX8_token 35 = .ok (.iconst 0, 1) := by decide +kernel
theorem dX8_token_36 : decode cX8_token 36 = .ok (.putfield 53, 3) := by decide +kernel
theorem dX8_token_39 : decode cX8_token 39 = .ok (.aload_n 0, 1) := by decide +kernel
theorem dX8_token_40 : decode cX8_token 40 = .ok (.aload_n 0, 1) := by decide +kernel
theorem dX8_token_41 : decode cX8_token 41 = .ok (.aload_n 0, 1) := by decide +kernel
theorem dX8_token_42 : decode cX8_token 42 = .ok (.getfield 43, 3) := by decide +kernel
theorem dX8_token_45 : decode cX8_token 45 = .ok (.invokevirtual 46, 3) := by decide +kernel
theorem dX8_token_48 : decode cX8_token 48 = .ok (.invokestatic 56, 3) := by decide +kernel
theorem dX8_token_51 : decode cX8_token 51 = .ok (.putfield 59, 3) := by decide +kernel
theorem dX8_token_54 : decode cX8_token 54 = .ok (.aload_n 0, 1) := by decide +kernel
theorem dX8_token_55 : decode cX8_token 55 = .ok (.getfield 59, 3) := by decide +kernel
theorem dX8_token_58 : decode cX8_token 58 = .ok (.ifCond .eq 7, 3) := by decide +kernel
theorem dX8_token_61 : decode cX8_token 61 = .ok (.iconst 1, 1) := by decide +kernel
theorem dX8_token_62 : decode cX8_token 62 = .ok (.goto 4, 3) := by decide +kernel
theorem dX8_token_65 : decode cX8_token 65 = .ok (.iconst 0, 1) := by decide +kernel
theorem dX8_token_66 : decode cX8_token 66 = .ok (.istore_n 1, 1) := by decide +kernel
theorem dX8_token_67 : decode cX8_token 67 = .ok (.iload_n 1, 1) := by decide +kernel
theorem dX8_token_68 : decode cX8_token 68 = .ok (.ifCond .eq 66, 3) := by decide +kernel
theorem dX8_token_71 : decode cX8_token 71 = .ok (.aload_n 0, 1) := by decide +kernel
theorem dX8_token_72 : decode cX8_token 72 = .ok (.dup, 1) := by decide +kernel
theorem dX8_token_73 : decode cX8_token 73 = .ok (.getfield 43, 3) := by decide +kernel
theorem dX8_token_76 : decode cX8_token 76 = .ok (.iconst 1, 1) := by decide +kernel
theorem dX8_token_77 : decode cX8_token 77 = .ok (.iadd, 1) := by decide +kernel
theorem dX8_token_78 : decode cX8_token 78 = .ok (.putfield 43, 3) := by decide +kernel
theorem dX8_token_81 : decode cX8_token 81 = .ok (.aload_n 0, 1) := by decide +kernel
theorem dX8_token_82 : decode cX8_token 82 = .ok (.dup, 1) := by decide +kernel
theorem dX8_token_83 : decode cX8_token 83 = .ok (.getfield 53, 3) := by decide +kernel
theorem dX8_token_86 : decode cX8_token 86 = .ok (.iconst 1, 1) := by decide +kernel
theorem dX8_token_87 : decode cX8_token 87 = .ok (.iadd, 1) := by decide +kernel
theorem dX8_token_88 : decode cX8_token 88 = .ok (.putfield 53, 3) := by decide +kernel
theorem dX8_token_91 : decode cX8_token 91 = .ok (.aload_n 0, 1) := by decide +kernel
theorem dX8_token_92 : decode cX8_token 92 = .ok (.getfield 59, 3) := by decide +kernel
theorem dX8_token_95 : decode cX8_token 95 = .ok (.iconst 1, 1) := by decide +kernel
theorem dX8_token_96 : decode cX8_token 96 = .ok (.if_icmp .eq 11, 3) := by decide +kernel
theorem dX8_token_99 : decode cX8_token 99 = .ok (.aload_n 0, 1) := by decide +kernel
theorem dX8_token_100 : decode cX8_token 100 = .ok (.getfield 59, 3) := by decide +kernel
theorem dX8_token_103 : decode cX8_token 103 = .ok (.iconst 2, 1) := by decide +kernel
theorem dX8_token_104 : decode cX8_token 104 = .ok (.if_icmp .ne 25, 3) := by decide +kernel
theorem dX8_token_107 : decode cX8_token 107 = .ok (.aload_n 0, 1) := by decide +kernel
theorem dX8_token_108 : decode cX8_token 108 = .ok (.aload_n 0, 1) := by decide +kernel
theorem dX8_token_109 : decode cX8_token 109 = .ok (.getfield 43, 3) := by decide +kernel
theorem dX8_token_112 : decode cX8_token 112 = .ok (.invokevirtual 46, 3) := by decide +kernel
theorem dX8_token_115 : decode cX8_token 115 = .ok (.invokestatic 56, 3) := by decide +kernel
theorem dX8_token_118 : decode cX8_token 118 = .ok (.aload_n 0, 1) := by decide +kernel
theorem dX8_token_119 : decode cX8_token 119 = .ok (.getfield 59, 3) := by decide +kernel
theorem dX8_token_122 : decode cX8_token 122 = .ok (.if_icmp .ne 7, 3) := by decide +kernel
theorem dX8_token_125 : decode cX8_token 125 = .ok (.iconst 1, 1) := by decide +kernel
theorem dX8_token_126 : decode cX8_token 126 = .ok (.goto 4, 3) := by decide +kernel
theorem dX8_token_129 : decode cX8_token 129 = .ok (.iconst 0, 1) := by decide +kernel
theorem dX8_token_130 : decode cX8_token 130 = .ok (.istore_n 1, 1) := by decide +kernel
theorem dX8_token_131 : decode cX8_token 131 = .ok (.goto (-64), 3) := by decide +kernel
theorem dX8_token_134 : decode cX8_token 134 = .ok (.return_, 1) := by decide +kernel
theorem dX8_word_0 : decode cX8_word 0 = .ok (.aload_n 0, 1) := by decide +kernel
theorem dX8_word_1 : decode cX8_word 1 = .ok (.getfield 59, 3) := by decide +kernel
theorem dX8_word_4 : decode cX8_word 4 = .ok (.iconst 1, 1) := by decide +kernel
theorem dX8_word_5 : decode cX8_word 5 = .ok (.if_icmp .ne 12, 3) := by decide +kernel
theorem dX8_word_8 : decode cX8_word 8 = .ok (.aload_n 0, 1) := by decide +kernel
theorem dX8_word_9 : decode cX8_word 9 = .ok (.getfield 53, 3) := by decide +kernel
theorem dX8_word_12 : decode cX8_word 12 = .ok (.bipush 8, 2) := by decide +kernel
theorem dX8_word_14 : decode cX8_word 14 = .ok (.if_icmp .le 7, 3) := by decide +kernel
theorem dX8_word_17 : decode cX8_word 17 = .ok (.ldc2_w 62, 3) := by decide +kernel
theorem dX8_word_20 : decode cX8_word 20 = .ok (.lreturn, 1) := by decide +kernel
theorem dX8_word_21 : decode cX8_word 21 = .ok (.lconst 0, 1) := by decide +kernel
theorem dX8_word_22 : decode cX8_word 22 = .ok (.lstore_n 1, 1) := by decide +kernel
theorem dX8_word_23 : decode cX8_word 23 = .ok (.iconst 0, 1) := by decide +kernel
theorem dX8_word_24 : decode cX8_word 24 = .ok (.istore_n 3, 1) := by decide +kernel
theorem dX8_word_25 : decode cX8_word 25 = .ok (.iload_n 3, 1) := by decide +kernel
theorem dX8_word_26 : decode cX8_word 26 = .ok (.aload_n 0, 1) := by decide +kernel
theorem dX8_word_27 : decode cX8_word 27 = .ok (.getfield 53, 3) := by decide +kernel
theorem dX8_word_30 : decode cX8_word 30 = .ok (.if_icmp .ge 31, 3) := by decide +kernel
theorem dX8_word_33 : decode cX8_word 33 = .ok (.ldc2_w 64, 3) := by decide +kernel
theorem dX8_word_36 : decode cX8_word 36 = .ok (.lload_n 1, 1) := by decide +kernel
theorem dX8_word_37 : decode cX8_word 37 = .ok (.lmul, 1) := by decide +kernel
theorem dX8_word_38 : decode cX8_word 38 = .ok (.aload_n 0, 1) := by decide +kernel
theorem dX8_word_39 : decode cX8_word 39 = .ok (.aload_n 0, 1) := by decide +kernel
theorem dX8_word_40 : decode cX8_word 40 = .ok (.getfield 50, 3) := by decide +kernel
theorem dX8_word_43 : decode cX8_word 43 = .ok (.iload_n 3, 1) := by decide +kernel
theorem dX8_word_44 : decode cX8_word 44 = .ok (.iadd, 1) := by decide +kernel
theorem dX8_word_45 : decode cX8_word 45 = .ok (.invokevirtual 46, 3) := by decide +kernel
theorem dX8_word_48 : decode cX8_word 48 = .ok (.i2l, 1) := by decide +kernel
theorem dX8_word_49 : decode cX8_word 49 = .ok (.ladd, 1) := by decide +kernel
theorem dX8_word_50 : decode cX8_word 50 = .ok (.ldc2_w 66, 3) := by decide +kernel
theorem dX8_word_53 : decode cX8_word 53 = .ok (.lsub, 1) := by decide +kernel
theorem dX8_word_54 : decode cX8_word 54 = .ok (.lstore_n 1, 1) := by decide +kernel
theorem dX8_word_55 : decode cX8_word 55 = .ok (.iinc 3 1, 3) := by decide +kernel
theorem dX8_word_58 : decode cX8_word 58 = .ok (.goto (-33), 3) := by decide +kernel
theorem dX8_word_61 : decode cX8_word 61 = .ok (.lload_n 1, 1) := by decide +kernel
theorem dX8_word_62 : decode cX8_word 62 = .ok (.lreturn, 1) := by decide +kernel
theorem dX8_name_0 : decode cX8_name 0 = .ok (.ldc2_w 64, 3) := by decide +kernel
theorem dX8_name_3 : decode cX8_name 3 = .ok (.ldc2_w 64, 3) := by decide +kernel
theorem dX8_name_6 : decode cX8_name 6 = .ok (.ldc2_w 64, 3) := by decide +kernel
theorem dX8_name_9 : decode cX8_name 9 = .ok (.iload_n 0, 1) := by decide +kernel
theorem dX8_name_10 : decode cX8_name 10 = .ok (.i2l, 1) := by decide +kernel
theorem dX8_name_11 : decode cX8_name 11 = .ok (.lmul, 1) := by decide +kernel
theorem dX8_name_12 : decode cX8_name 12 = .ok (.iload_n 1, 1) := by decide +kernel
theorem dX8_name_13 : decode cX8_name 13 = .ok (.i2l, 1) := by decide +kernel
theorem dX8_name_14 : decode cX8_name 14 = .ok (.ladd, 1) := by decide +kernel
theorem dX8_name_15 : decode cX8_name 15 = .ok (.lmul, 1) := by decide +kernel
theorem dX8_name_16 : decode cX8_name 16 = .ok (.iload_n 2, 1) := by decide +kernel
theorem dX8_name_17 : decode cX8_name 17 = .ok (.i2l, 1) := by decide +kernel
theorem dX8_name_18 : decode cX8_name 18 = .ok (.ladd, 1) := by decide +kernel
theorem dX8_name_19 : decode cX8_name 19 = .ok (.lmul, 1) := by decide +kernel
theorem dX8_name_20 : decode cX8_name 20 = .ok (.iload_n 3, 1) := by decide +kernel
theorem dX8_name_21 : decode cX8_name 21 = .ok (.i2l, 1) := by decide +kernel
theorem dX8_name_22 : decode cX8_name 22 = .ok (.ladd, 1) := by decide +kernel
theorem dX8_name_23 : decode cX8_name 23 = .ok (.lreturn, 1) := by decide +kernel
theorem dX8_longer_0 : decode cX8_longer 0 = .ok (.ldc2_w 64, 3) := by decide +kernel
theorem dX8_longer_3 : decode cX8_longer 3 = .ok (.lload_n 0, 1) := by decide +kernel
theorem dX8_longer_4 : decode cX8_longer 4 = .ok (.lmul, 1) := by decide +kernel
theorem dX8_longer_5 : decode cX8_longer 5 = .ok (.iload_n 2, 1) := by decide +kernel
theorem dX8_longer_6 : decode cX8_longer 6 = .ok (.i2l, 1) := by decide +kernel
theorem dX8_longer_7 : decode cX8_longer 7 = .ok (.ladd, 1) := by decide +kernel
theorem dX8_longer_8 : decode cX8_longer 8 = .ok (.lstore 5, 2) := by decide +kernel
theorem dX8_longer_10 : decode cX8_longer 10 = .ok (.iload_n 3, 1) := by decide +kernel
theorem dX8_longer_11 : decode cX8_longer 11 = .ok (.ifCond .ne 8, 3) := by decide +kernel
theorem dX8_longer_14 : decode cX8_longer 14 = .ok (.lload 5, 2) := by decide +kernel
theorem dX8_longer_16 : decode cX8_longer 16 = .ok (.goto 12, 3) := by decide +kernel
theorem dX8_longer_19 : decode cX8_longer 19 = .ok (.ldc2_w 64, 3) := by decide +kernel
theorem dX8_longer_22 : decode cX8_longer 22 = .ok (.lload 5, 2) := by decide +kernel
theorem dX8_longer_24 : decode cX8_longer 24 = .ok (.lmul, 1) := by decide +kernel
theorem dX8_longer_25 : decode cX8_longer 25 = .ok (.iload_n 3, 1) := by decide +kernel
theorem dX8_longer_26 : decode cX8_longer 26 = .ok (.i2l, 1) := by decide +kernel
theorem dX8_longer_27 : decode cX8_longer 27 = .ok (.ladd, 1) := by decide +kernel
theorem dX8_longer_28 : decode cX8_longer 28 = .ok (.lstore 5, 2) := by decide +kernel
theorem dX8_longer_30 : decode cX8_longer 30 = .ok (.iload 4, 2) := by decide +kernel
theorem dX8_longer_32 : decode cX8_longer 32 = .ok (.ifCond .ne 8, 3) := by decide +kernel
theorem dX8_longer_35 : decode cX8_longer 35 = .ok (.lload 5, 2) := by decide +kernel
theorem dX8_longer_37 : decode cX8_longer 37 = .ok (.goto 13, 3) := by decide +kernel
theorem dX8_longer_40 : decode cX8_longer 40 = .ok (.ldc2_w 64, 3) := by decide +kernel
theorem dX8_longer_43 : decode cX8_longer 43 = .ok (.lload 5, 2) := by decide +kernel
theorem dX8_longer_45 : decode cX8_longer 45 = .ok (.lmul, 1) := by decide +kernel
theorem dX8_longer_46 : decode cX8_longer 46 = .ok (.iload 4, 2) := by decide +kernel
theorem dX8_longer_48 : decode cX8_longer 48 = .ok (.i2l, 1) := by decide +kernel
theorem dX8_longer_49 : decode cX8_longer 49 = .ok (.ladd, 1) := by decide +kernel
theorem dX8_longer_50 : decode cX8_longer 50 = .ok (.lreturn, 1) := by decide +kernel
theorem dX8_clause_0 : decode cX8_clause 0 = .ok (.aload_n 0, 1) := by decide +kernel
theorem dX8_clause_1 : decode cX8_clause 1 = .ok (.invokevirtual 68, 3) := by decide +kernel
theorem dX8_clause_4 : decode cX8_clause 4 = .ok (.lstore_n 1, 1) := by decide +kernel
theorem dX8_clause_5 : decode cX8_clause 5 = .ok (.lload_n 1, 1) := by decide +kernel
theorem dX8_clause_6 : decode cX8_clause 6 = .ok (.bipush 23, 2) := by decide +kernel
theorem dX8_clause_8 : decode cX8_clause 8 = .ok (.iconst 5, 1) := by decide +kernel
theorem dX8_clause_9 : decode cX8_clause 9 = .ok (.bipush 19, 2) := by decide +kernel
theorem dX8_clause_11 : decode cX8_clause 11 = .ok (.bipush 20, 2) := by decide +kernel
theorem dX8_clause_13 : decode cX8_clause 13 = .ok (.invokestatic 72, 3) := by decide +kernel
theorem dX8_clause_16 : decode cX8_clause 16 = .ok (.lcmp, 1) := by decide +kernel
theorem dX8_clause_17 : decode cX8_clause 17 = .ok (.ifCond .ne 5, 3) := by decide +kernel
theorem dX8_clause_20 : decode cX8_clause 20 = .ok (.iconst 0, 1) := by decide +kernel
theorem dX8_clause_21 : decode cX8_clause 21 = .ok (.ireturn, 1) := by decide +kernel
theorem dX8_clause_22 : decode cX8_clause 22 = .ok (.lload_n 1, 1) := by decide +kernel
theorem dX8_clause_23 : decode cX8_clause 23 = .ok (.iconst 3, 1) := by decide +kernel
theorem dX8_clause_24 : decode cX8_clause 24 = .ok (.bipush 12, 2) := by decide +kernel
theorem dX8_clause_26 : decode cX8_clause 26 = .ok (.iconst 5, 1) := by decide +kernel
theorem dX8_clause_27 : decode cX8_clause 27 = .ok (.iconst 1, 1) := by decide +kernel
theorem dX8_clause_28 : decode cX8_clause 28 = .ok (.invokestatic 72, 3) := by decide +kernel
theorem dX8_clause_31 : decode cX8_clause 31 = .ok (.bipush 18, 2) := by decide +kernel
theorem dX8_clause_33 : decode cX8_clause 33 = .ok (.iconst 0, 1) := by decide +kernel
theorem dX8_clause_34 : decode cX8_clause 34 = .ok (.iconst 0, 1) := by decide +kernel
theorem dX8_clause_35 : decode cX8_clause 35 = .ok (.invokestatic 76, 3) := by decide +kernel
theorem dX8_clause_38 : decode cX8_clause 38 = .ok (.lcmp, 1) := by decide +kernel
theorem dX8_clause_39 : decode cX8_clause 39 = .ok (.ifCond .ne 7, 3) := by decide +kernel
theorem dX8_clause_42 : decode cX8_clause 42 = .ok (.iconst 1, 1) := by decide +kernel
theorem dX8_clause_43 : decode cX8_clause 43 = .ok (.goto 57, 3) := by decide +kernel
theorem dX8_clause_46 : decode cX8_clause 46 = .ok (.lload_n 1, 1) := by decide +kernel
theorem dX8_clause_47 : decode cX8_clause 47 = .ok (.iconst 3, 1) := by decide +kernel
theorem dX8_clause_48 : decode cX8_clause 48 = .ok (.bipush 12, 2) := by decide +kernel
theorem dX8_clause_50 : decode cX8_clause 50 = .ok (.bipush 15, 2) := by decide +kernel
theorem dX8_clause_52 : decode cX8_clause 52 = .ok (.bipush 21, 2) := by decide +kernel
theorem dX8_clause_54 : decode cX8_clause 54 = .ok (.invokestatic 72, 3) := by decide +kernel
theorem dX8_clause_57 : decode cX8_clause 57 = .ok (.iconst 4, 1) := by decide +kernel
theorem dX8_clause_58 : decode cX8_clause 58 = .ok (.bipush 25, 2) := by decide +kernel
theorem dX8_clause_60 : decode cX8_clause 60 = .ok (.iconst 0, 1) := by decide +kernel
theorem dX8_clause_61 : decode cX8_clause 61 = .ok (.invokestatic 76, 3) := by decide +kernel
theorem dX8_clause_64 : decode cX8_clause 64 = .ok (.lcmp, 1) := by decide +kernel
theorem dX8_clause_65 : decode cX8_clause 65 = .ok (.ifCond .ne 7, 3) := by decide +kernel
theorem dX8_clause_68 : decode cX8_clause 68 = .ok (.iconst 2, 1) := by decide +kernel
theorem dX8_clause_69 : decode cX8_clause 69 = .ok (.goto 31, 3) := by decide +kernel
theorem dX8_clause_72 : decode cX8_clause 72 = .ok (.lload_n 1, 1) := by decide +kernel
theorem dX8_clause_73 : decode cX8_clause 73 = .ok (.bipush 19, 2) := by decide +kernel
theorem dX8_clause_75 : decode cX8_clause 75 = .ok (.bipush 13, 2) := by decide +kernel
theorem dX8_clause_77 : decode cX8_clause 77 = .ok (.bipush 15, 2) := by decide +kernel
theorem dX8_clause_79 : decode cX8_clause 79 = .ok (.bipush 11, 2) := by decide +kernel
theorem dX8_clause_81 : decode cX8_clause 81 = .ok (.invokestatic 72, 3) := by decide +kernel
theorem dX8_clause_84 : decode cX8_clause 84 = .ok (.bipush 25, 2) := by decide +kernel
theorem dX8_clause_86 : decode cX8_clause 86 = .ok (.iconst 0, 1) := by decide +kernel
theorem dX8_clause_87 : decode cX8_clause 87 = .ok (.iconst 0, 1) := by decide +kernel
theorem dX8_clause_88 : decode cX8_clause 88 = .ok (.invokestatic 76, 3) := by decide +kernel
theorem dX8_clause_91 : decode cX8_clause 91 = .ok (.lcmp, 1) := by decide +kernel
theorem dX8_clause_92 : decode cX8_clause 92 = .ok (.ifCond .ne 7, 3) := by decide +kernel
theorem dX8_clause_95 : decode cX8_clause 95 = .ok (.iconst 3, 1) := by decide +kernel
theorem dX8_clause_96 : decode cX8_clause 96 = .ok (.goto 4, 3) := by decide +kernel
theorem dX8_clause_99 : decode cX8_clause 99 = .ok (.iconst 0, 1) := by decide +kernel
theorem dX8_clause_100 : decode cX8_clause 100 = .ok (.istore_n 3, 1) := by decide +kernel
theorem dX8_clause_101 : decode cX8_clause 101 = .ok (.lload_n 1, 1) := by decide +kernel
theorem dX8_clause_102 : decode cX8_clause 102 = .ok (.bipush 16, 2) := by decide +kernel
theorem dX8_clause_104 : decode cX8_clause 104 = .ok (.bipush 12, 2) := by decide +kernel
theorem dX8_clause_106 : decode cX8_clause 106 = .ok (.iconst 1, 1) := by decide +kernel
theorem dX8_clause_107 : decode cX8_clause 107 = .ok (.bipush 9, 2) := by decide +kernel
theorem dX8_clause_109 : decode cX8_clause 109 = .ok (.invokestatic 72, 3) := by decide +kernel
theorem dX8_clause_112 : decode cX8_clause 112 = .ok (.bipush 14, 2) := by decide +kernel
theorem dX8_clause_114 : decode cX8_clause 114 = .ok (.iconst 0, 1) := by decide +kernel
theorem dX8_clause_115 : decode cX8_clause 115 = .ok (.iconst 0, 1) := by decide +kernel
theorem dX8_clause_116 : decode cX8_clause 116 = .ok (.invokestatic 76, 3) := by decide +kernel
theorem dX8_clause_119 : decode cX8_clause 119 = .ok (.lcmp, 1) := by decide +kernel
theorem dX8_clause_120 : decode cX8_clause 120 = .ok (.ifCond .ne 7, 3) := by decide +kernel
theorem dX8_clause_123 : decode cX8_clause 123 = .ok (.iconst 4, 1) := by decide +kernel
theorem dX8_clause_124 : decode cX8_clause 124 = .ok (.goto 74, 3) := by decide +kernel
theorem dX8_clause_127 : decode cX8_clause 127 = .ok (.lload_n 1, 1) := by decide +kernel
theorem dX8_clause_128 : decode cX8_clause 128 = .ok (.iconst 2, 1) := by decide +kernel
theorem dX8_clause_129 : decode cX8_clause 129 = .ok (.bipush 12, 2) := by decide +kernel
theorem dX8_clause_131 : decode cX8_clause 131 = .ok (.bipush 9, 2) := by decide +kernel
theorem dX8_clause_133 : decode cX8_clause 133 = .ok (.bipush 14, 2) := by decide +kernel
theorem dX8_clause_135 : decode cX8_clause 135 = .ok (.invokestatic 72, 3) := by decide +kernel
theorem dX8_clause_138 : decode cX8_clause 138 = .ok (.iconst 4, 1) := by decide +kernel
theorem dX8_clause_139 : decode cX8_clause 139 = .ok (.iconst 0, 1) := by decide +kernel
theorem dX8_clause_140 : decode cX8_clause 140 = .ok (.iconst 0, 1) := by decide +kernel
theorem dX8_clause_141 : decode cX8_clause 141 = .ok (.invokestatic 76, 3) := by decide +kernel
theorem dX8_clause_144 : decode cX8_clause 144 = .ok (.lcmp, 1) := by decide +kernel
theorem dX8_clause_145 : decode cX8_clause 145 = .ok (.ifCond .ne 7, 3) := by decide +kernel
theorem dX8_clause_148 : decode cX8_clause 148 = .ok (.iconst 5, 1) := by decide +kernel
theorem dX8_clause_149 : decode cX8_clause 149 = .ok (.goto 49, 3) := by decide +kernel
theorem dX8_clause_152 : decode cX8_clause 152 = .ok (.lload_n 1, 1) := by decide +kernel
theorem dX8_clause_153 : decode cX8_clause 153 = .ok (.bipush 19, 2) := by decide +kernel
theorem dX8_clause_155 : decode cX8_clause 155 = .ok (.bipush 9, 2) := by decide +kernel
theorem dX8_clause_157 : decode cX8_clause 157 = .ok (.iconst 3, 1) := by decide +kernel
theorem dX8_clause_158 : decode cX8_clause 158 = .ok (.bipush 11, 2) := by decide +kernel
theorem dX8_clause_160 : decode cX8_clause 160 = .ok (.invokestatic 72, 3) := by decide +kernel
theorem dX8_clause_163 : decode cX8_clause 163 = .ok (.lcmp, 1) := by decide +kernel
theorem dX8_clause_164 : decode cX8_clause 164 = .ok (.ifCond .ne 8, 3) := by decide +kernel
theorem dX8_clause_167 : decode cX8_clause 167 = .ok (.bipush 6, 2) := by decide +kernel
theorem dX8_clause_169 : decode cX8_clause 169 = .ok (.goto 29, 3) := by decide +kernel
theorem dX8_clause_172 : decode cX8_clause 172 = .ok (.lload_n 1, 1) := by decide +kernel
theorem dX8_clause_173 : decode cX8_clause 173 = .ok (.iconst 4, 1) := by decide +kernel
theorem dX8_clause_174 : decode cX8_clause 174 = .ok (.iconst 5, 1) := by decide +kernel
theorem dX8_clause_175 : decode cX8_clause 175 = .ok (.iconst 1, 1) := by decide +kernel
theorem dX8_clause_176 : decode cX8_clause 176 = .ok (.bipush 12, 2) := by decide +kernel
theorem dX8_clause_178 : decode cX8_clause 178 = .ok (.invokestatic 72, 3) := by decide +kernel
theorem dX8_clause_181 : decode cX8_clause 181 = .ok (.iconst 5, 1) := by decide +kernel
theorem dX8_clause_182 : decode cX8_clause 182 = .ok (.bipush 18, 2) := by decide +kernel
theorem dX8_clause_184 : decode cX8_clause 184 = .ok (.iconst 0, 1) := by decide +kernel
theorem dX8_clause_185 : decode cX8_clause 185 = .ok (.invokestatic 76, 3) := by decide +kernel
theorem dX8_clause_188 : decode cX8_clause 188 = .ok (.lcmp, 1) := by decide +kernel
theorem dX8_clause_189 : decode cX8_clause 189 = .ok (.ifCond .ne 8, 3) := by decide +kernel
theorem dX8_clause_192 : decode cX8_clause 192 = .ok (.bipush 7, 2) := by decide +kernel
theorem dX8_clause_194 : decode cX8_clause 194 = .ok (.goto 4, 3) := by decide +kernel
theorem dX8_clause_197 : decode cX8_clause 197 = .ok (.iconst 0, 1) := by decide +kernel
theorem dX8_clause_198 : decode cX8_clause 198 = .ok (.istore 4, 2) := by decide +kernel
theorem dX8_clause_200 : decode cX8_clause 200 = .ok (.lload_n 1, 1) := by decide +kernel
theorem dX8_clause_201 : decode cX8_clause 201 = .ok (.bipush 6, 2) := by decide +kernel
theorem dX8_clause_203 : decode cX8_clause 203 = .ok (.bipush 9, 2) := by decide +kernel
theorem dX8_clause_205 : decode cX8_clause 205 = .ok (.bipush 18, 2) := by decide +kernel
theorem dX8_clause_207 : decode cX8_clause 207 = .ok (.bipush 19, 2) := by decide +kernel
theorem dX8_clause_209 : decode cX8_clause 209 = .ok (.invokestatic 72, 3) := by decide +kernel
theorem dX8_clause_212 : decode cX8_clause 212 = .ok (.bipush 20, 2) := by decide +kernel
theorem dX8_clause_214 : decode cX8_clause 214 = .ok (.iconst 0, 1) := by decide +kernel
theorem dX8_clause_215 : decode cX8_clause 215 = .ok (.iconst 0, 1) := by decide +kernel
theorem dX8_clause_216 : decode cX8_clause 216 = .ok (.invokestatic 76, 3) := by decide +kernel
theorem dX8_clause_219 : decode cX8_clause 219 = .ok (.lcmp, 1) := by decide +kernel
theorem dX8_clause_220 : decode cX8_clause 220 = .ok (.ifCond .ne 8, 3) := by decide +kernel
theorem dX8_clause_223 : decode cX8_clause 223 = .ok (.bipush 8, 2) := by decide +kernel
theorem dX8_clause_225 : decode cX8_clause 225 = .ok (.goto 112, 3) := by decide +kernel
theorem dX8_clause_228 : decode cX8_clause 228 = .ok (.lload_n 1, 1) := by decide +kernel
theorem dX8_clause_229 : decode cX8_clause 229 = .ok (.bipush 19, 2) := by decide +kernel
theorem dX8_clause_231 : decode cX8_clause 231 = .ok (.iconst 5, 1) := by decide +kernel
theorem dX8_clause_232 : decode cX8_clause 232 = .ok (.iconst 3, 1) := by decide +kernel
theorem dX8_clause_233 : decode cX8_clause 233 = .ok (.bipush 15, 2) := by decide +kernel
theorem dX8_clause_235 : decode cX8_clause 235 = .ok (.invokestatic 72, 3) := by decide +kernel
theorem dX8_clause_238 : decode cX8_clause 238 = .ok (.bipush 14, 2) := by decide +kernel
theorem dX8_clause_240 : decode cX8_clause 240 = .ok (.iconst 4, 1) := by decide +kernel
theorem dX8_clause_241 : decode cX8_clause 241 = .ok (.iconst 0, 1) := by decide +kernel
theorem dX8_clause_242 : decode cX8_clause 242 = .ok (.invokestatic 76, 3) := by decide +kernel
theorem dX8_clause_245 : decode cX8_clause 245 = .ok (.lcmp, 1) := by decide +kernel
theorem dX8_clause_246 : decode cX8_clause 246 = .ok (.ifCond .ne 8, 3) := by decide +kernel
theorem dX8_clause_249 : decode cX8_clause 249 = .ok (.bipush 9, 2) := by decide +kernel
theorem dX8_clause_251 : decode cX8_clause 251 = .ok (.goto 86, 3) := by decide +kernel
theorem dX8_clause_254 : decode cX8_clause 254 = .ok (.lload_n 1, 1) := by decide +kernel
theorem dX8_clause_255 : decode cX8_clause 255 = .ok (.bipush 18, 2) := by decide +kernel
theorem dX8_clause_257 : decode cX8_clause 257 = .ok (.iconst 5, 1) := by decide +kernel
theorem dX8_clause_258 : decode cX8_clause 258 = .ok (.bipush 19, 2) := by decide +kernel
theorem dX8_clause_260 : decode cX8_clause 260 = .ok (.iconst 5, 1) := by decide +kernel
theorem dX8_clause_261 : decode cX8_clause 261 = .ok (.invokestatic 72, 3) := by decide +kernel
theorem dX8_clause_264 : decode cX8_clause 264 = .ok (.bipush 18, 2) := by decide +kernel
theorem dX8_clause_266 : decode cX8_clause 266 = .ok (.bipush 22, 2) := by decide +kernel
theorem dX8_clause_268 : decode cX8_clause 268 = .ok (.iconst 5, 1) := by decide +kernel
theorem dX8_clause_269 : decode cX8_clause 269 = .ok (.invokestatic 76, 3) := by decide +kernel
theorem dX8_clause_272 : decode cX8_clause 272 = .ok (.lcmp, 1) := by decide +kernel
theorem dX8_clause_273 : decode cX8_clause 273 = .ok (.ifCond .ne 8, 3) := by decide +kernel
theorem dX8_clause_276 : decode cX8_clause 276 = .ok (.bipush 10, 2) := by decide +kernel
theorem dX8_clause_278 : decode cX8_clause 278 = .ok (.goto 59, 3) := by decide +kernel
theorem dX8_clause_281 : decode cX8_clause 281 = .ok (.lload_n 1, 1) := by decide +kernel
theorem dX8_clause_282 : decode cX8_clause 282 = .ok (.bipush 18, 2) := by decide +kernel
theorem dX8_clause_284 : decode cX8_clause 284 = .ok (.iconst 5, 1) := by decide +kernel
theorem dX8_clause_285 : decode cX8_clause 285 = .ok (.bipush 6, 2) := by decide +kernel
theorem dX8_clause_287 : decode cX8_clause 287 = .ok (.bipush 21, 2) := by decide +kernel
theorem dX8_clause_289 : decode cX8_clause 289 = .ok (.invokestatic 72, 3) := by decide +kernel
theorem dX8_clause_292 : decode cX8_clause 292 = .ok (.bipush 14, 2) := by decide +kernel
theorem dX8_clause_294 : decode cX8_clause 294 = .ok (.iconst 4, 1) := by decide +kernel
theorem dX8_clause_295 : decode cX8_clause 295 = .ok (.iconst 0, 1) := by decide +kernel
theorem dX8_clause_296 : decode cX8_clause 296 = .ok (.invokestatic 76, 3) := by decide +kernel
theorem dX8_clause_299 : decode cX8_clause 299 = .ok (.lcmp, 1) := by decide +kernel
theorem dX8_clause_300 : decode cX8_clause 300 = .ok (.ifCond .ne 8, 3) := by decide +kernel
theorem dX8_clause_303 : decode cX8_clause 303 = .ok (.bipush 11, 2) := by decide +kernel
theorem dX8_clause_305 : decode cX8_clause 305 = .ok (.goto 32, 3) := by decide +kernel
theorem dX8_clause_308 : decode cX8_clause 308 = .ok (.lload_n 1, 1) := by decide +kernel
theorem dX8_clause_309 : decode cX8_clause 309 = .ok (.bipush 14, 2) := by decide +kernel
theorem dX8_clause_311 : decode cX8_clause 311 = .ok (.bipush 9, 2) := by decide +kernel
theorem dX8_clause_313 : decode cX8_clause 313 = .ok (.bipush 7, 2) := by decide +kernel
theorem dX8_clause_315 : decode cX8_clause 315 = .ok (.bipush 8, 2) := by decide +kernel
theorem dX8_clause_317 : decode cX8_clause 317 = .ok (.invokestatic 72, 3) := by decide +kernel
theorem dX8_clause_320 : decode cX8_clause 320 = .ok (.bipush 20, 2) := by decide +kernel
theorem dX8_clause_322 : decode cX8_clause 322 = .ok (.iconst 0, 1) := by decide +kernel
theorem dX8_clause_323 : decode cX8_clause 323 = .ok (.iconst 0, 1) := by decide +kernel
theorem dX8_clause_324 : decode cX8_clause 324 = .ok (.invokestatic 76, 3) := by decide +kernel
theorem dX8_clause_327 : decode cX8_clause 327 = .ok (.lcmp, 1) := by decide +kernel
theorem dX8_clause_328 : decode cX8_clause 328 = .ok (.ifCond .ne 8, 3) := by decide +kernel
theorem dX8_clause_331 : decode cX8_clause 331 = .ok (.bipush 12, 2) := by decide +kernel
theorem dX8_clause_333 : decode cX8_clause 333 = .ok (.goto 4, 3) := by decide +kernel
theorem dX8_clause_336 : decode cX8_clause 336 = .ok (.iconst 0, 1) := by decide +kernel
theorem dX8_clause_337 : decode cX8_clause 337 = .ok (.istore 5, 2) := by decide +kernel
theorem dX8_clause_339 : decode cX8_clause 339 = .ok (.iload_n 3, 1) := by decide +kernel
theorem dX8_clause_340 : decode cX8_clause 340 = .ok (.iload 4, 2) := by decide +kernel
theorem dX8_clause_342 : decode cX8_clause 342 = .ok (.iadd, 1) := by decide +kernel
theorem dX8_clause_343 : decode cX8_clause 343 = .ok (.iload 5, 2) := by decide +kernel
theorem dX8_clause_345 : decode cX8_clause 345 = .ok (.iadd, 1) := by decide +kernel
theorem dX8_clause_346 : decode cX8_clause 346 = .ok (.istore 6, 2) := by decide +kernel
theorem dX8_clause_348 : decode cX8_clause 348 = .ok (.iload 6, 2) := by decide +kernel
theorem dX8_clause_350 : decode cX8_clause 350 = .ok (.ifCond .ne 7, 3) := by decide +kernel
theorem dX8_clause_353 : decode cX8_clause 353 = .ok (.iconst (-1), 1) := by decide +kernel
theorem dX8_clause_354 : decode cX8_clause 354 = .ok (.goto 5, 3) := by decide +kernel
theorem dX8_clause_357 : decode cX8_clause 357 = .ok (.iload 6, 2) := by decide +kernel
theorem dX8_clause_359 : decode cX8_clause 359 = .ok (.ireturn, 1) := by decide +kernel
theorem dX8_isNumber_0 : decode cX8_isNumber 0 = .ok (.aload_n 0, 1) := by decide +kernel
theorem dX8_isNumber_1 : decode cX8_isNumber 1 = .ok (.getfield 59, 3) := by decide +kernel
theorem dX8_isNumber_4 : decode cX8_isNumber 4 = .ok (.iconst 2, 1) := by decide +kernel
theorem dX8_isNumber_5 : decode cX8_isNumber 5 = .ok (.if_icmp .ne 11, 3) := by decide +kernel
theorem dX8_isNumber_8 : decode cX8_isNumber 8 = .ok (.aload_n 0, 1) := by decide +kernel
theorem dX8_isNumber_9 : decode cX8_isNumber 9 = .ok (.getfield 53, 3) := by decide +kernel
theorem dX8_isNumber_12 : decode cX8_isNumber 12 = .ok (.iconst 2, 1) := by decide +kernel
theorem dX8_isNumber_13 : decode cX8_isNumber 13 = .ok (.if_icmp .le 5, 3) := by decide +kernel
theorem dX8_isNumber_16 : decode cX8_isNumber 16 = .ok (.iconst 0, 1) := by decide +kernel
theorem dX8_isNumber_17 : decode cX8_isNumber 17 = .ok (.ireturn, 1) := by decide +kernel
theorem dX8_isNumber_18 : decode cX8_isNumber 18 = .ok (.aload_n 0, 1) := by decide +kernel
theorem dX8_isNumber_19 : decode cX8_isNumber 19 = .ok (.aload_n 0, 1) := by decide +kernel
theorem dX8_isNumber_20 : decode cX8_isNumber 20 = .ok (.getfield 53, 3) := by decide +kernel
theorem dX8_isNumber_23 : decode cX8_isNumber 23 = .ok (.iconst 1, 1) := by decide +kernel
theorem dX8_isNumber_24 : decode cX8_isNumber 24 = .ok (.if_icmp .ne 17, 3) := by decide +kernel
theorem dX8_isNumber_27 : decode cX8_isNumber 27 = .ok (.aload_n 0, 1) := by decide +kernel
theorem dX8_isNumber_28 : decode cX8_isNumber 28 = .ok (.aload_n 0, 1) := by decide +kernel
theorem dX8_isNumber_29 : decode cX8_isNumber 29 = .ok (.getfield 50, 3) := by decide +kernel
theorem dX8_isNumber_32 : decode cX8_isNumber 32 = .ok (.invokevirtual 46, 3) := by decide +kernel
theorem dX8_isNumber_35 : decode cX8_isNumber 35 = .ok (.bipush 48, 2) := by decide +kernel
theorem dX8_isNumber_37 : decode cX8_isNumber 37 = .ok (.isub, 1) := by decide +kernel
theorem dX8_isNumber_38 : decode cX8_isNumber 38 = .ok (.goto 31, 3) := by decide +kernel
theorem dX8_isNumber_41 : decode cX8_isNumber 41 = .ok (.bipush 10, 2) := by decide +kernel
theorem dX8_isNumber_43 : decode cX8_isNumber 43 = .ok (.aload_n 0, 1) := by decide +kernel
theorem dX8_isNumber_44 : decode cX8_isNumber 44 = .ok (.aload_n 0, 1) := by decide +kernel
theorem dX8_isNumber_45 : decode cX8_isNumber 45 = .ok (.getfield 50, 3) := by decide +kernel
theorem dX8_isNumber_48 : decode cX8_isNumber 48 = .ok (.invokevirtual 46, 3) := by decide +kernel
theorem dX8_isNumber_51 : decode cX8_isNumber 51 = .ok (.bipush 48, 2) := by decide +kernel
theorem dX8_isNumber_53 : decode cX8_isNumber 53 = .ok (.isub, 1) := by decide +kernel
theorem dX8_isNumber_54 : decode cX8_isNumber 54 = .ok (.imul, 1) := by decide +kernel
theorem dX8_isNumber_55 : decode cX8_isNumber 55 = .ok (.aload_n 0, 1) := by decide +kernel
theorem dX8_isNumber_56 : decode cX8_isNumber 56 = .ok (.aload_n 0, 1) := by decide +kernel
theorem dX8_isNumber_57 : decode cX8_isNumber 57 = .ok (.getfield 50, 3) := by decide +kernel
theorem dX8_isNumber_60 : decode cX8_isNumber 60 = .ok (.iconst 1, 1) := by decide +kernel
theorem dX8_isNumber_61 : decode cX8_isNumber 61 = .ok (.iadd, 1) := by decide +kernel
theorem dX8_isNumber_62 : decode cX8_isNumber 62 = .ok (.invokevirtual 46, 3) := by decide +kernel
theorem dX8_isNumber_65 : decode cX8_isNumber 65 = .ok (.iadd, 1) := by decide +kernel
theorem dX8_isNumber_66 : decode cX8_isNumber 66 = .ok (.bipush 48, 2) := by decide +kernel
theorem dX8_isNumber_68 : decode cX8_isNumber 68 = .ok (.isub, 1) := by decide +kernel
theorem dX8_isNumber_69 : decode cX8_isNumber 69 = .ok (.putfield 80, 3) := by decide +kernel
theorem dX8_isNumber_72 : decode cX8_isNumber 72 = .ok (.aload_n 0, 1) := by decide +kernel
theorem dX8_isNumber_73 : decode cX8_isNumber 73 = .ok (.getfield 80, 3) := by decide +kernel
theorem dX8_isNumber_76 : decode cX8_isNumber 76 = .ok (.iload_n 1, 1) := by decide +kernel
theorem dX8_isNumber_77 : decode cX8_isNumber 77 = .ok (.if_icmp .gt 7, 3) := by decide +kernel
theorem dX8_isNumber_80 : decode cX8_isNumber 80 = .ok (.iconst 1, 1) := by decide +kernel
theorem dX8_isNumber_81 : decode cX8_isNumber 81 = .ok (.goto 4, 3) := by decide +kernel
theorem dX8_isNumber_84 : decode cX8_isNumber 84 = .ok (.iconst 0, 1) := by decide +kernel
theorem dX8_isNumber_85 : decode cX8_isNumber 85 = .ok (.ireturn, 1) := by decide +kernel
theorem dX8_first_0 : decode cX8_first 0 = .ok (.iconst 0, 1) := by decide +kernel
theorem dX8_first_1 : decode cX8_first 1 = .ok (.istore_n 1, 1) := by decide +kernel
theorem dX8_first_2 : decode cX8_first 2 = .ok (.iload_n 1, 1) := by decide +kernel
theorem dX8_first_3 : decode cX8_first 3 = .ok (.bipush 100, 2) := by decide +kernel
theorem dX8_first_5 : decode cX8_first 5 = .ok (.if_icmp .ge 13, 3) := by decide +kernel
theorem dX8_first_8 : decode cX8_first 8 = .ok (.aload_n 0, 1) := by decide +kernel
theorem dX8_first_9 : decode cX8_first 9 = .ok (.iload_n 1, 1) := by decide +kernel
theorem dX8_first_10 : decode cX8_first 10 = .ok (.iconst 0, 1) := by decide +kernel
theorem dX8_first_11 : decode cX8_first 11 = .ok (.iastore, 1) := by decide +kernel
theorem dX8_first_12 : decode cX8_first 12 = .ok (.iinc 1 1, 3) := by decide +kernel
theorem dX8_first_15 : decode cX8_first 15 = .ok (.goto (-13), 3) := by decide +kernel
theorem dX8_first_18 : decode cX8_first 18 = .ok (.return_, 1) := by decide +kernel
theorem dX8_reads_0 : decode cX8_reads 0 = .ok (.aload_n 0, 1) := by decide +kernel
theorem dX8_reads_1 : decode cX8_reads 1 = .ok (.invokevirtual 83, 3) := by decide +kernel
theorem dX8_reads_4 : decode cX8_reads 4 = .ok (.istore_n 1, 1) := by decide +kernel
theorem dX8_reads_5 : decode cX8_reads 5 = .ok (.iload_n 1, 1) := by decide +kernel
theorem dX8_reads_6 : decode cX8_reads 6 = .ok (.iconst (-1), 1) := by decide +kernel
theorem dX8_reads_7 : decode cX8_reads 7 = .ok (.if_icmp .eq 43, 3) := by decide +kernel
theorem dX8_reads_10 : decode cX8_reads 10 = .ok (.iload_n 1, 1) := by decide +kernel
theorem dX8_reads_11 : decode cX8_reads 11 = .ok (.iconst 1, 1) := by decide +kernel
theorem dX8_reads_12 : decode cX8_reads 12 = .ok (.iconst 3, 1) := by decide +kernel
theorem dX8_reads_13 : decode cX8_reads 13 = .ok (.invokestatic 35, 3) := by decide +kernel
theorem dX8_reads_16 : decode cX8_reads 16 = .ok (.ifCond .eq 14, 3) := by decide +kernel
theorem dX8_reads_19 : decode cX8_reads 19 = .ok (.aload_n 0, 1) := by decide +kernel
theorem dX8_reads_20 : decode cX8_reads 20 = .ok (.getfield 13, 3) := by decide +kernel
theorem dX8_reads_23 : decode cX8_reads 23 = .ok (.iconst 0, 1) := by decide +kernel
theorem dX8_reads_24 : decode cX8_reads 24 = .ok (.iaload, 1) := by decide +kernel
theorem dX8_reads_25 : decode cX8_reads 25 = .ok (.bipush 7, 2) := by decide +kernel
theorem dX8_reads_27 : decode cX8_reads 27 = .ok (.if_icmp .eq 23, 3) := by decide +kernel
theorem dX8_reads_30 : decode cX8_reads 30 = .ok (.iload_n 1, 1) := by decide +kernel
theorem dX8_reads_31 : decode cX8_reads 31 = .ok (.iconst 4, 1) := by decide +kernel
theorem dX8_reads_32 : decode cX8_reads 32 = .ok (.bipush 7, 2) := by decide +kernel
theorem dX8_reads_34 : decode cX8_reads 34 = .ok (.invokestatic 35, 3) := by decide +kernel
theorem dX8_reads_37 : decode cX8_reads 37 = .ok (.ifCond .eq 15, 3) := by decide +kernel
theorem dX8_reads_40 : decode cX8_reads 40 = .ok (.aload_n 0, 1) := by decide +kernel
theorem dX8_reads_41 : decode cX8_reads 41 = .ok (.getfield 13, 3) := by decide +kernel
theorem dX8_reads_44 : decode cX8_reads 44 = .ok (.iconst 1, 1) := by decide +kernel
theorem dX8_reads_45 : decode cX8_reads 45 = .ok (.iaload, 1) := by decide +kernel
theorem dX8_reads_46 : decode cX8_reads 46 = .ok (.iconst 5, 1) := by decide +kernel
theorem dX8_reads_47 : decode cX8_reads 47 = .ok (.if_icmp .ne 5, 3) := by decide +kernel
theorem dX8_reads_50 : decode cX8_reads 50 = .ok (.iconst 0, 1) := by decide +kernel
theorem dX8_reads_51 : decode cX8_reads 51 = .ok (.ireturn, 1) := by decide +kernel
theorem dX8_reads_52 : decode cX8_reads 52 = .ok (.aload_n 0, 1) := by decide +kernel
theorem dX8_reads_53 : decode cX8_reads 53 = .ok (.invokevirtual 87, 3) := by decide +kernel
theorem dX8_reads_56 : decode cX8_reads 56 = .ok (.iload_n 1, 1) := by decide +kernel
theorem dX8_reads_57 : decode cX8_reads 57 = .ok (.ifCond .ne 13, 3) := by decide +kernel
theorem dX8_reads_60 : decode cX8_reads 60 = .ok (.aload_n 0, 1) := by decide +kernel
theorem dX8_reads_61 : decode cX8_reads 61 = .ok (.getfield 13, 3) := by decide +kernel
theorem dX8_reads_64 : decode cX8_reads 64 = .ok (.invokestatic 90, 3) := by decide +kernel
theorem dX8_reads_67 : decode cX8_reads 67 = .ok (.goto 266, 3) := by decide +kernel
theorem dX8_reads_70 : decode cX8_reads 70 = .ok (.iload_n 1, 1) := by decide +kernel
theorem dX8_reads_71 : decode cX8_reads 71 = .ok (.iconst 4, 1) := by decide +kernel
theorem dX8_reads_72 : decode cX8_reads 72 = .ok (.if_icmp .ge 84, 3) := by decide +kernel
theorem dX8_reads_75 : decode cX8_reads 75 = .ok (.aload_n 0, 1) := by decide +kernel
theorem dX8_reads_76 : decode cX8_reads 76 = .ok (.bipush 10, 2) := by decide +kernel
theorem dX8_reads_78 : decode cX8_reads 78 = .ok (.invokevirtual 94, 3) := by decide +kernel
theorem dX8_reads_81 : decode cX8_reads 81 = .ok (.ifCond .ne 5, 3) := by decide +kernel
theorem dX8_reads_84 : decode cX8_reads 84 = .ok (.iconst 0, 1) := by decide +kernel
theorem dX8_reads_85 : decode cX8_reads 85 = .ok (.ireturn, 1) := by decide +kernel
theorem dX8_reads_86 : decode cX8_reads 86 = .ok (.aload_n 0, 1) := by decide +kernel
theorem dX8_reads_87 : decode cX8_reads 87 = .ok (.getfield 13, 3) := by decide +kernel
theorem dX8_reads_90 : decode cX8_reads 90 = .ok (.iconst 0, 1) := by decide +kernel
theorem dX8_reads_91 : decode cX8_reads 91 = .ok (.iaload, 1) := by decide +kernel
theorem dX8_reads_92 : decode cX8_reads 92 = .ok (.invokestatic 98, 3) := by decide +kernel
theorem dX8_reads_95 : decode cX8_reads 95 = .ok (.istore_n 2, 1) := by decide +kernel
theorem dX8_reads_96 : decode cX8_reads 96 = .ok (.aload_n 0, 1) := by decide +kernel
theorem dX8_reads_97 : decode cX8_reads 97 = .ok (.getfield 13, 3) := by decide +kernel
theorem dX8_reads_100 : decode cX8_reads 100 = .ok (.iload_n 2, 1) := by decide +kernel
theorem dX8_reads_101 : decode cX8_reads 101 = .ok (.iconst 0, 1) := by decide +kernel
theorem dX8_reads_102 : decode cX8_reads 102 = .ok (.iadd, 1) := by decide +kernel
theorem dX8_reads_103 : decode cX8_reads 103 = .ok (.iload_n 1, 1) := by decide +kernel
theorem dX8_reads_104 : decode cX8_reads 104 = .ok (.iconst 1, 1) := by decide +kernel
theorem dX8_reads_105 : decode cX8_reads 105 = .ok (.isub, 1) := by decide +kernel
theorem dX8_reads_106 : decode cX8_reads 106 = .ok (.iastore, 1) := by decide +kernel
theorem dX8_reads_107 : decode cX8_reads 107 = .ok (.aload_n 0, 1) := by decide +kernel
theorem dX8_reads_108 : decode cX8_reads 108 = .ok (.getfield 13, 3) := by decide +kernel
theorem dX8_reads_111 : decode cX8_reads 111 = .ok (.iload_n 2, 1) := by decide +kernel
theorem dX8_reads_112 : decode cX8_reads 112 = .ok (.iconst 1, 1) := by decide +kernel
theorem dX8_reads_113 : decode cX8_reads 113 = .ok (.iadd, 1) := by decide +kernel
theorem dX8_reads_114 : decode cX8_reads 114 = .ok (.iload_n 1, 1) := by decide +kernel
theorem dX8_reads_115 : decode cX8_reads 115 = .ok (.iconst 1, 1) := by decide +kernel
theorem dX8_reads_116 : decode cX8_reads 116 = .ok (.isub, 1) := by decide +kernel
theorem dX8_reads_117 : decode cX8_reads 117 = .ok (.iconst 1, 1) := by decide +kernel
theorem dX8_reads_118 : decode cX8_reads 118 = .ok (.if_icmp .ne 16, 3) := by decide +kernel
theorem dX8_reads_121 : decode cX8_reads 121 = .ok (.iconst 0, 1) := by decide +kernel
theorem dX8_reads_122 : decode cX8_reads 122 = .ok (.aload_n 0, 1) := by decide +kernel
theorem dX8_reads_123 : decode cX8_reads 123 = .ok (.getfield 80, 3) := by decide +kernel
theorem dX8_reads_126 : decode cX8_reads 126 = .ok (.iconst 2, 1) := by decide +kernel
theorem dX8_reads_127 : decode cX8_reads 127 = .ok (.isub, 1) := by decide +kernel
theorem dX8_reads_128 : decode cX8_reads 128 = .ok (.invokestatic 101, 3) := by decide +kernel
theorem dX8_reads_131 : decode cX8_reads 131 = .ok (.goto 7, 3) := by decide +kernel
theorem dX8_reads_134 : decode cX8_reads 134 = .ok (.aload_n 0, 1) := by decide +kernel
theorem dX8_reads_135 : decode cX8_reads 135 = .ok (.getfield 80, 3) := by decide +kernel
theorem dX8_reads_138 : decode cX8_reads 138 = .ok (.iastore, 1) := by decide +kernel
theorem dX8_reads_139 : decode cX8_reads 139 = .ok (.aload_n 0, 1) := by decide +kernel
theorem dX8_reads_140 : decode cX8_reads 140 = .ok (.getfield 13, 3) := by decide +kernel
theorem dX8_reads_143 : decode cX8_reads 143 = .ok (.iconst 0, 1) := by decide +kernel
theorem dX8_reads_144 : decode cX8_reads 144 = .ok (.dup2, 1) := by decide +kernel
theorem dX8_reads_145 : decode cX8_reads 145 = .ok (.iaload, 1) := by decide +kernel
theorem dX8_reads_146 : decode cX8_reads 146 = .ok (.iconst 1, 1) := by decide +kernel
theorem dX8_reads_147 : decode cX8_reads 147 = .ok (.iadd, 1) := by decide +kernel
theorem dX8_reads_148 : decode cX8_reads 148 = .ok (.iastore, 1) := by decide +kernel
theorem dX8_reads_149 : decode cX8_reads 149 = .ok (.aload_n 0, 1) := by decide +kernel
theorem dX8_reads_150 : decode cX8_reads 150 = .ok (.invokevirtual 87, 3) := by decide +kernel
theorem dX8_reads_153 : decode cX8_reads 153 = .ok (.goto 180, 3) := by decide +kernel
theorem dX8_reads_156 : decode cX8_reads 156 = .ok (.iload_n 1, 1) := by decide +kernel
theorem dX8_reads_157 : decode cX8_reads 157 = .ok (.bipush 8, 2) := by decide +kernel
theorem dX8_reads_159 : decode cX8_reads 159 = .ok (.if_icmp .ge 93, 3) := by decide +kernel
theorem dX8_reads_162 : decode cX8_reads 162 = .ok (.aload_n 0, 1) := by decide +kernel
theorem dX8_reads_163 : decode cX8_reads 163 = .ok (.bipush 99, 2) := by decide +kernel
theorem dX8_reads_165 : decode cX8_reads 165 = .ok (.invokevirtual 94, 3) := by decide +kernel
theorem dX8_reads_168 : decode cX8_reads 168 = .ok (.ifCond .ne 5, 3) := by decide +kernel
theorem dX8_reads_171 : decode cX8_reads 171 = .ok (.iconst 0, 1) := by decide +kernel
theorem dX8_reads_172 : decode cX8_reads 172 = .ok (.ireturn, 1) := by decide +kernel
theorem dX8_reads_173 : decode cX8_reads 173 = .ok (.aload_n 0, 1) := by decide +kernel
theorem dX8_reads_174 : decode cX8_reads 174 = .ok (.getfield 80, 3) := by decide +kernel
theorem dX8_reads_177 : decode cX8_reads 177 = .ok (.istore_n 2, 1) := by decide +kernel
theorem dX8_reads_178 : decode cX8_reads 178 = .ok (.aload_n 0, 1) := by decide +kernel
theorem dX8_reads_179 : decode cX8_reads 179 = .ok (.invokevirtual 87, 3) := by decide +kernel
theorem dX8_reads_182 : decode cX8_reads 182 = .ok (.aload_n 0, 1) := by decide +kernel
theorem dX8_reads_183 : decode cX8_reads 183 = .ok (.bipush 99, 2) := by decide +kernel
theorem dX8_reads_185 : decode cX8_reads 185 = .ok (.invokevirtual 94, 3) := by decide +kernel
theorem dX8_reads_188 : decode cX8_reads 188 = .ok (.ifCond .ne 5, 3) := by decide +kernel
theorem dX8_reads_191 : decode cX8_reads 191 = .ok (.iconst 0, 1) := by decide +kernel
theorem dX8_reads_192 : decode cX8_reads 192 = .ok (.ireturn, 1) := by decide +kernel
theorem dX8_reads_193 : decode cX8_reads 193 = .ok (.aload_n 0, 1) := by decide +kernel
theorem dX8_reads_194 : decode cX8_reads 194 = .ok (.getfield 13, 3) := by decide +kernel
theorem dX8_reads_197 : decode cX8_reads 197 = .ok (.iconst 1, 1) := by decide +kernel
theorem dX8_reads_198 : decode cX8_reads 198 = .ok (.iaload, 1) := by decide +kernel
theorem dX8_reads_199 : decode cX8_reads 199 = .ok (.invokestatic 105, 3) := by decide +kernel
theorem dX8_reads_202 : decode cX8_reads 202 = .ok (.istore_n 3, 1) := by decide +kernel
theorem dX8_reads_203 : decode cX8_reads 203 = .ok (.aload_n 0, 1) := by decide +kernel
theorem dX8_reads_204 : decode cX8_reads 204 = .ok (.getfield 13, 3) := by decide +kernel
theorem dX8_reads_207 : decode cX8_reads 207 = .ok (.iload_n 3, 1) := by decide +kernel
theorem dX8_reads_208 : decode cX8_reads 208 = .ok (.iconst 0, 1) := by decide +kernel
theorem dX8_reads_209 : decode cX8_reads 209 = .ok (.iadd, 1) := by decide +kernel
theorem dX8_reads_210 : decode cX8_reads 210 = .ok (.iload_n 1, 1) := by decide +kernel
theorem dX8_reads_211 : decode cX8_reads 211 = .ok (.iconst 4, 1) := by decide +kernel
theorem dX8_reads_212 : decode cX8_reads 212 = .ok (.isub, 1) := by decide +kernel
theorem dX8_reads_213 : decode cX8_reads 213 = .ok (.iastore, 1) := by decide +kernel
theorem dX8_reads_214 : decode cX8_reads 214 = .ok (.aload_n 0, 1) := by decide +kernel
theorem dX8_reads_215 : decode cX8_reads 215 = .ok (.getfield 13, 3) := by decide +kernel
theorem dX8_reads_218 : decode cX8_reads 218 = .ok (.iload_n 3, 1) := by decide +kernel
theorem dX8_reads_219 : decode cX8_reads 219 = .ok (.iconst 1, 1) := by decide +kernel
theorem dX8_reads_220 : decode cX8_reads 220 = .ok (.iadd, 1) := by decide +kernel
theorem dX8_reads_221 : decode cX8_reads 221 = .ok (.iload_n 2, 1) := by decide +kernel
theorem dX8_reads_222 : decode cX8_reads 222 = .ok (.iastore, 1) := by decide +kernel
theorem dX8_reads_223 : decode cX8_reads 223 = .ok (.aload_n 0, 1) := by decide +kernel
theorem dX8_reads_224 : decode cX8_reads 224 = .ok (.getfield 13, 3) := by decide +kernel
theorem dX8_reads_227 : decode cX8_reads 227 = .ok (.iload_n 3, 1) := by decide +kernel
theorem dX8_reads_228 : decode cX8_reads 228 = .ok (.iconst 2, 1) := by decide +kernel
theorem dX8_reads_229 : decode cX8_reads 229 = .ok (.iadd, 1) := by decide +kernel
theorem dX8_reads_230 : decode cX8_reads 230 = .ok (.aload_n 0, 1) := by decide +kernel
theorem dX8_reads_231 : decode cX8_reads 231 = .ok (.getfield 80, 3) := by decide +kernel
theorem dX8_reads_234 : decode cX8_reads 234 = .ok (.iastore, 1) := by decide +kernel
theorem dX8_reads_235 : decode cX8_reads 235 = .ok (.aload_n 0, 1) := by decide +kernel
theorem dX8_reads_236 : decode cX8_reads 236 = .ok (.getfield 13, 3) := by decide +kernel
theorem dX8_reads_239 : decode cX8_reads 239 = .ok (.iconst 1, 1) := by decide +kernel
theorem dX8_reads_240 : decode cX8_reads 240 = .ok (.dup2, 1) := by decide +kernel
theorem dX8_reads_241 : decode cX8_reads 241 = .ok (.iaload, 1) := by decide +kernel
theorem dX8_reads_242 : decode cX8_reads 242 = .ok (.iconst 1, 1) := by decide +kernel
theorem dX8_reads_243 : decode cX8_reads 243 = .ok (.iadd, 1) := by decide +kernel
theorem dX8_reads_244 : decode cX8_reads 244 = .ok (.iastore, 1) := by decide +kernel
theorem dX8_reads_245 : decode cX8_reads 245 = .ok (.aload_n 0, 1) := by decide +kernel
theorem dX8_reads_246 : decode cX8_reads 246 = .ok (.invokevirtual 87, 3) := by decide +kernel
theorem dX8_reads_249 : decode cX8_reads 249 = .ok (.goto 84, 3) := by decide +kernel
theorem dX8_reads_252 : decode cX8_reads 252 = .ok (.iload_n 1, 1) := by decide +kernel
theorem dX8_reads_253 : decode cX8_reads 253 = .ok (.bipush 10, 2) := by decide +kernel
theorem dX8_reads_255 : decode cX8_reads 255 = .ok (.if_icmp .ge 16, 3) := by decide +kernel
theorem dX8_reads_258 : decode cX8_reads 258 = .ok (.aload_n 0, 1) := by decide +kernel
theorem dX8_reads_259 : decode cX8_reads 259 = .ok (.getfield 13, 3) := by decide +kernel
theorem dX8_reads_262 : decode cX8_reads 262 = .ok (.iconst 3, 1) := by decide +kernel
theorem dX8_reads_263 : decode cX8_reads 263 = .ok (.iload_n 1, 1) := by decide +kernel
theorem dX8_reads_264 : decode cX8_reads 264 = .ok (.bipush 8, 2) := by decide +kernel
theorem dX8_reads_266 : decode cX8_reads 266 = .ok (.isub, 1) := by decide +kernel
theorem dX8_reads_267 : decode cX8_reads 267 = .ok (.iastore, 1) := by decide +kernel
theorem dX8_reads_268 : decode cX8_reads 268 = .ok (.goto 65, 3) := by decide +kernel
theorem dX8_reads_271 : decode cX8_reads 271 = .ok (.iload_n 1, 1) := by decide +kernel
theorem dX8_reads_272 : decode cX8_reads 272 = .ok (.bipush 12, 2) := by decide +kernel
theorem dX8_reads_274 : decode cX8_reads 274 = .ok (.if_icmp .ge 52, 3) := by decide +kernel
theorem dX8_reads_277 : decode cX8_reads 277 = .ok (.aload_n 0, 1) := by decide +kernel
theorem dX8_reads_278 : decode cX8_reads 278 = .ok (.iload_n 1, 1) := by decide +kernel
theorem dX8_reads_279 : decode cX8_reads 279 = .ok (.bipush 10, 2) := by decide +kernel
theorem dX8_reads_281 : decode cX8_reads 281 = .ok (.if_icmp .ne 8, 3) := by decide +kernel
theorem dX8_reads_284 : decode cX8_reads 284 = .ok (.bipush 99, 2) := by decide +kernel
theorem dX8_reads_286 : decode cX8_reads 286 = .ok (.goto 5, 3) := by decide +kernel
theorem dX8_reads_289 : decode cX8_reads 289 = .ok (.bipush 10, 2) := by decide +kernel
theorem dX8_reads_291 : decode cX8_reads 291 = .ok (.invokevirtual 94, 3) := by decide +kernel
theorem dX8_reads_294 : decode cX8_reads 294 = .ok (.ifCond .ne 5, 3) := by decide +kernel
theorem dX8_reads_297 : decode cX8_reads 297 = .ok (.iconst 0, 1) := by decide +kernel
theorem dX8_reads_298 : decode cX8_reads 298 = .ok (.ireturn, 1) := by decide +kernel
theorem dX8_reads_299 : decode cX8_reads 299 = .ok (.aload_n 0, 1) := by decide +kernel
theorem dX8_reads_300 : decode cX8_reads 300 = .ok (.getfield 13, 3) := by decide +kernel
theorem dX8_reads_303 : decode cX8_reads 303 = .ok (.iload_n 1, 1) := by decide +kernel
theorem dX8_reads_304 : decode cX8_reads 304 = .ok (.bipush 10, 2) := by decide +kernel
theorem dX8_reads_306 : decode cX8_reads 306 = .ok (.if_icmp .ne 7, 3) := by decide +kernel
theorem dX8_reads_309 : decode cX8_reads 309 = .ok (.iconst 4, 1) := by decide +kernel
theorem dX8_reads_310 : decode cX8_reads 310 = .ok (.goto 4, 3) := by decide +kernel
theorem dX8_reads_313 : decode cX8_reads 313 = .ok (.iconst 5, 1) := by decide +kernel
theorem dX8_reads_314 : decode cX8_reads 314 = .ok (.aload_n 0, 1) := by decide +kernel
theorem dX8_reads_315 : decode cX8_reads 315 = .ok (.getfield 80, 3) := by decide +kernel
theorem dX8_reads_318 : decode cX8_reads 318 = .ok (.iastore, 1) := by decide +kernel
theorem dX8_reads_319 : decode cX8_reads 319 = .ok (.aload_n 0, 1) := by decide +kernel
theorem dX8_reads_320 : decode cX8_reads 320 = .ok (.invokevirtual 87, 3) := by decide +kernel
theorem dX8_reads_323 : decode cX8_reads 323 = .ok (.goto 10, 3) := by decide +kernel
theorem dX8_reads_326 : decode cX8_reads 326 = .ok (.aload_n 0, 1) := by decide +kernel
theorem dX8_reads_327 : decode cX8_reads 327 = .ok (.getfield 13, 3) := by decide +kernel
theorem dX8_reads_330 : decode cX8_reads 330 = .ok (.iconst 0, 1) := by decide +kernel
theorem dX8_reads_331 : decode cX8_reads 331 = .ok (.iconst 0, 1) := by decide +kernel
theorem dX8_reads_332 : decode cX8_reads 332 = .ok (.iastore, 1) := by decide +kernel
theorem dX8_reads_333 : decode cX8_reads 333 = .ok (.iconst 1, 1) := by decide +kernel
theorem dX8_reads_334 : decode cX8_reads 334 = .ok (.ireturn, 1) := by decide +kernel
theorem dX8_faultAt_0 : decode cX8_faultAt 0 = .ok (.aload_n 0, 1) := by decide +kernel
theorem dX8_faultAt_1 : decode cX8_faultAt 1 = .ok (.getfield 7, 3) := by decide +kernel
theorem dX8_faultAt_4 : decode cX8_faultAt 4 = .ok (.iconst 0, 1) := by decide +kernel
theorem dX8_faultAt_5 : decode cX8_faultAt 5 = .ok (.aload_n 0, 1) := by decide +kernel
theorem dX8_faultAt_6 : decode cX8_faultAt 6 = .ok (.getfield 13, 3) := by decide +kernel
theorem dX8_faultAt_9 : decode cX8_faultAt 9 = .ok (.iconst 0, 1) := by decide +kernel
theorem dX8_faultAt_10 : decode cX8_faultAt 10 = .ok (.invokestatic 108, 3) := by decide +kernel
theorem dX8_faultAt_13 : decode cX8_faultAt 13 = .ok (.aload_n 0, 1) := by decide +kernel
theorem dX8_faultAt_14 : decode cX8_faultAt 14 = .ok (.iconst 0, 1) := by decide +kernel
theorem dX8_faultAt_15 : decode cX8_faultAt 15 = .ok (.putfield 43, 3) := by decide +kernel
theorem dX8_faultAt_18 : decode cX8_faultAt 18 = .ok (.aload_n 0, 1) := by decide +kernel
theorem dX8_faultAt_19 : decode cX8_faultAt 19 = .ok (.iconst 0, 1) := by decide +kernel
theorem dX8_faultAt_20 : decode cX8_faultAt 20 = .ok (.putfield 112, 3) := by decide +kernel
theorem dX8_faultAt_23 : decode cX8_faultAt 23 = .ok (.iconst 1, 1) := by decide +kernel
theorem dX8_faultAt_24 : decode cX8_faultAt 24 = .ok (.istore_n 1, 1) := by decide +kernel
theorem dX8_faultAt_25 : decode cX8_faultAt 25 = .ok (.iload_n 1, 1) := by decide +kernel
theorem dX8_faultAt_26 : decode cX8_faultAt 26 = .ok (.ifCond .eq 55, 3) := by decide +kernel
theorem dX8_faultAt_29 : decode cX8_faultAt 29 = .ok (.aload_n 0, 1) := by decide +kernel
theorem dX8_faultAt_30 : decode cX8_faultAt 30 = .ok (.invokevirtual 87, 3) := by decide +kernel
theorem dX8_faultAt_33 : decode cX8_faultAt 33 = .ok (.aload_n 0, 1) := by decide +kernel
theorem dX8_faultAt_34 : decode cX8_faultAt 34 = .ok (.invokevirtual 115, 3) := by decide +kernel
theorem dX8_faultAt_37 : decode cX8_faultAt 37 = .ok (.ifCond .ne 8, 3) := by decide +kernel
theorem dX8_faultAt_40 : decode cX8_faultAt 40 = .ok (.aload_n 0, 1) := by decide +kernel
theorem dX8_faultAt_41 : decode cX8_faultAt 41 = .ok (.getfield 50, 3) := by decide +kernel
theorem dX8_faultAt_44 : decode cX8_faultAt 44 = .ok (.ireturn, 1) := by decide +kernel
theorem dX8_faultAt_45 : decode cX8_faultAt 45 = .ok (.aload_n 0, 1) := by decide +kernel
theorem dX8_faultAt_46 : decode cX8_faultAt 46 = .ok (.dup, 1) := by decide +kernel
theorem dX8_faultAt_47 : decode cX8_faultAt 47 = .ok (.getfield 112, 3) := by decide +kernel
theorem dX8_faultAt_50 : decode cX8_faultAt 50 = .ok (.iconst 1, 1) := by decide +kernel
theorem dX8_faultAt_51 : decode cX8_faultAt 51 = .ok (.iadd, 1) := by decide +kernel
theorem dX8_faultAt_52 : decode cX8_faultAt 52 = .ok (.putfield 112, 3) := by decide +kernel
theorem dX8_faultAt_55 : decode cX8_faultAt 55 = .ok (.aload_n 0, 1) := by decide +kernel
theorem dX8_faultAt_56 : decode cX8_faultAt 56 = .ok (.getfield 59, 3) := by decide +kernel
theorem dX8_faultAt_59 : decode cX8_faultAt 59 = .ok (.iconst 3, 1) := by decide +kernel
theorem dX8_faultAt_60 : decode cX8_faultAt 60 = .ok (.if_icmp .ne 16, 3) := by decide +kernel
theorem dX8_faultAt_63 : decode cX8_faultAt 63 = .ok (.aload_n 0, 1) := by decide +kernel
theorem dX8_faultAt_64 : decode cX8_faultAt 64 = .ok (.getfield 112, 3) := by decide +kernel
theorem dX8_faultAt_67 : decode cX8_faultAt 67 = .ok (.bipush 14, 2) := by decide +kernel
theorem dX8_faultAt_69 : decode cX8_faultAt 69 = .ok (.if_icmp .ge 7, 3) := by decide +kernel
theorem dX8_faultAt_72 : decode cX8_faultAt 72 = .ok (.iconst 1, 1) := by decide +kernel
theorem dX8_faultAt_73 : decode cX8_faultAt 73 = .ok (.goto 4, 3) := by decide +kernel
theorem dX8_faultAt_76 : decode cX8_faultAt 76 = .ok (.iconst 0, 1) := by decide +kernel
theorem dX8_faultAt_77 : decode cX8_faultAt 77 = .ok (.istore_n 1, 1) := by decide +kernel
theorem dX8_faultAt_78 : decode cX8_faultAt 78 = .ok (.goto (-53), 3) := by decide +kernel
theorem dX8_faultAt_81 : decode cX8_faultAt 81 = .ok (.aload_n 0, 1) := by decide +kernel
theorem dX8_faultAt_82 : decode cX8_faultAt 82 = .ok (.getfield 59, 3) := by decide +kernel
theorem dX8_faultAt_85 : decode cX8_faultAt 85 = .ok (.ifCond .ne 7, 3) := by decide +kernel
theorem dX8_faultAt_88 : decode cX8_faultAt 88 = .ok (.iconst (-1), 1) := by decide +kernel
theorem dX8_faultAt_89 : decode cX8_faultAt 89 = .ok (.goto 7, 3) := by decide +kernel
theorem dX8_faultAt_92 : decode cX8_faultAt 92 = .ok (.aload_n 0, 1) := by decide +kernel
theorem dX8_faultAt_93 : decode cX8_faultAt 93 = .ok (.getfield 50, 3) := by decide +kernel
theorem dX8_faultAt_96 : decode cX8_faultAt 96 = .ok (.ireturn, 1) := by decide +kernel
theorem dX8_fault_0 : decode cX8_fault 0 = .ok (.aload_n 0, 1) := by decide +kernel
theorem dX8_fault_1 : decode cX8_fault 1 = .ok (.invokevirtual 119, 3) := by decide +kernel
theorem dX8_fault_4 : decode cX8_fault 4 = .ok (.ireturn, 1) := by decide +kernel
theorem dX8_west_0 : decode cX8_west 0 = .ok (.aload_n 0, 1) := by decide +kernel
theorem dX8_west_1 : decode cX8_west 1 = .ok (.invokevirtual 119, 3) := by decide +kernel
theorem dX8_west_4 : decode cX8_west 4 = .ok (.iconst (-1), 1) := by decide +kernel
theorem dX8_west_5 : decode cX8_west 5 = .ok (.if_icmp .eq 6, 3) := by decide +kernel
theorem dX8_west_8 : decode cX8_west 8 = .ok (.bipush (-4), 2) := by decide +kernel
theorem dX8_west_10 : decode cX8_west 10 = .ok (.ireturn, 1) := by decide +kernel
theorem dX8_west_11 : decode cX8_west 11 = .ok (.aload_n 0, 1) := by decide +kernel
theorem dX8_west_12 : decode cX8_west 12 = .ok (.iconst 0, 1) := by decide +kernel
theorem dX8_west_13 : decode cX8_west 13 = .ok (.putfield 39, 3) := by decide +kernel
theorem dX8_west_16 : decode cX8_west 16 = .ok (.aload_n 0, 1) := by decide +kernel
theorem dX8_west_17 : decode cX8_west 17 = .ok (.getfield 13, 3) := by decide +kernel
theorem dX8_west_20 : decode cX8_west 20 = .ok (.iconst 0, 1) := by decide +kernel
theorem dX8_west_21 : decode cX8_west 21 = .ok (.aload_n 0, 1) := by decide +kernel
theorem dX8_west_22 : decode cX8_west 22 = .ok (.getfield 7, 3) := by decide +kernel
theorem dX8_west_25 : decode cX8_west 25 = .ok (.iconst 0, 1) := by decide +kernel
theorem dX8_west_26 : decode cX8_west 26 = .ok (.invokestatic 108, 3) := by decide +kernel
theorem dX8_west_29 : decode cX8_west 29 = .ok (.aload_n 0, 1) := by decide +kernel
theorem dX8_west_30 : decode cX8_west 30 = .ok (.getfield 7, 3) := by decide +kernel
theorem dX8_west_33 : decode cX8_west 33 = .ok (.iconst 2, 1) := by decide +kernel
theorem dX8_west_34 : decode cX8_west 34 = .ok (.iconst 0, 1) := by decide +kernel
theorem dX8_west_35 : decode cX8_west 35 = .ok (.iastore, 1) := by decide +kernel
theorem dX8_west_36 : decode cX8_west 36 = .ok (.aload_n 0, 1) := by decide +kernel
theorem dX8_west_37 : decode cX8_west 37 = .ok (.getfield 7, 3) := by decide +kernel
theorem dX8_west_40 : decode cX8_west 40 = .ok (.bipush 6, 2) := by decide +kernel
theorem dX8_west_42 : decode cX8_west 42 = .ok (.iconst 0, 1) := by decide +kernel
theorem dX8_west_43 : decode cX8_west 43 = .ok (.iastore, 1) := by decide +kernel
theorem dX8_west_44 : decode cX8_west 44 = .ok (.iconst 0, 1) := by decide +kernel
theorem dX8_west_45 : decode cX8_west 45 = .ok (.istore_n 1, 1) := by decide +kernel
theorem dX8_west_46 : decode cX8_west 46 = .ok (.iload_n 1, 1) := by decide +kernel
theorem dX8_west_47 : decode cX8_west 47 = .ok (.bipush 7, 2) := by decide +kernel
theorem dX8_west_49 : decode cX8_west 49 = .ok (.if_icmp .ge 75, 3) := by decide +kernel
theorem dX8_west_52 : decode cX8_west 52 = .ok (.iload_n 1, 1) := by decide +kernel
theorem dX8_west_53 : decode cX8_west 53 = .ok (.invokestatic 98, 3) := by decide +kernel
theorem dX8_west_56 : decode cX8_west 56 = .ok (.istore_n 2, 1) := by decide +kernel
theorem dX8_west_57 : decode cX8_west 57 = .ok (.aload_n 0, 1) := by decide +kernel
theorem dX8_west_58 : decode cX8_west 58 = .ok (.getfield 7, 3) := by decide +kernel
theorem dX8_west_61 : decode cX8_west 61 = .ok (.iload_n 2, 1) := by decide +kernel
theorem dX8_west_62 : decode cX8_west 62 = .ok (.iconst 2, 1) := by decide +kernel
theorem dX8_west_63 : decode cX8_west 63 = .ok (.iadd, 1) := by decide +kernel
theorem dX8_west_64 : decode cX8_west 64 = .ok (.iconst 0, 1) := by decide +kernel
theorem dX8_west_65 : decode cX8_west 65 = .ok (.iastore, 1) := by decide +kernel
theorem dX8_west_66 : decode cX8_west 66 = .ok (.aload_n 0, 1) := by decide +kernel
theorem dX8_west_67 : decode cX8_west 67 = .ok (.getfield 7, 3) := by decide +kernel
theorem dX8_west_70 : decode cX8_west 70 = .ok (.iload_n 2, 1) := by decide +kernel
theorem dX8_west_71 : decode cX8_west 71 = .ok (.iconst 3, 1) := by decide +kernel
theorem dX8_west_72 : decode cX8_west 72 = .ok (.iadd, 1) := by decide +kernel
theorem dX8_west_73 : decode cX8_west 73 = .ok (.iconst (-1), 1) := by decide +kernel
theorem dX8_west_74 : decode cX8_west 74 = .ok (.iastore, 1) := by decide +kernel
theorem dX8_west_75 : decode cX8_west 75 = .ok (.aload_n 0, 1) := by decide +kernel
theorem dX8_west_76 : decode cX8_west 76 = .ok (.getfield 7, 3) := by decide +kernel
theorem dX8_west_79 : decode cX8_west 79 = .ok (.iload_n 2, 1) := by decide +kernel
theorem dX8_west_80 : decode cX8_west 80 = .ok (.iconst 4, 1) := by decide +kernel
theorem dX8_west_81 : decode cX8_west 81 = .ok (.iadd, 1) := by decide +kernel
theorem dX8_west_82 : decode cX8_west 82 = .ok (.iconst 0, 1) := by decide +kernel
theorem dX8_west_83 : decode cX8_west 83 = .ok (.iastore, 1) := by decide +kernel
theorem dX8_west_84 : decode cX8_west 84 = .ok (.aload_n 0, 1) := by decide +kernel
theorem dX8_west_85 : decode cX8_west 85 = .ok (.getfield 7, 3) := by decide +kernel
theorem dX8_west_88 : decode cX8_west 88 = .ok (.iload_n 2, 1) := by decide +kernel
theorem dX8_west_89 : decode cX8_west 89 = .ok (.iconst 5, 1) := by decide +kernel
theorem dX8_west_90 : decode cX8_west 90 = .ok (.iadd, 1) := by decide +kernel
theorem dX8_west_91 : decode cX8_west 91 = .ok (.iconst (-1), 1) := by decide +kernel
theorem dX8_west_92 : decode cX8_west 92 = .ok (.iastore, 1) := by decide +kernel
theorem dX8_west_93 : decode cX8_west 93 = .ok (.iconst 0, 1) := by decide +kernel
theorem dX8_west_94 : decode cX8_west 94 = .ok (.istore_n 3, 1) := by decide +kernel
theorem dX8_west_95 : decode cX8_west 95 = .ok (.iload_n 3, 1) := by decide +kernel
theorem dX8_west_96 : decode cX8_west 96 = .ok (.iconst 3, 1) := by decide +kernel
theorem dX8_west_97 : decode cX8_west 97 = .ok (.if_icmp .ge 21, 3) := by decide +kernel
theorem dX8_west_100 : decode cX8_west 100 = .ok (.aload_n 0, 1) := by decide +kernel
theorem dX8_west_101 : decode cX8_west 101 = .ok (.getfield 7, 3) := by decide +kernel
theorem dX8_west_104 : decode cX8_west 104 = .ok (.iload_n 2, 1) := by decide +kernel
theorem dX8_west_105 : decode cX8_west 105 = .ok (.bipush 6, 2) := by decide +kernel
theorem dX8_west_107 : decode cX8_west 107 = .ok (.iadd, 1) := by decide +kernel
theorem dX8_west_108 : decode cX8_west 108 = .ok (.iload_n 3, 1) := by decide +kernel
theorem dX8_west_109 : decode cX8_west 109 = .ok (.iadd, 1) := by decide +kernel
theorem dX8_west_110 : decode cX8_west 110 = .ok (.iconst 5, 1) := by decide +kernel
theorem dX8_west_111 : decode cX8_west 111 = .ok (.iastore, 1) := by decide +kernel
theorem dX8_west_112 : decode cX8_west 112 = .ok (.iinc 3 1, 3) := by decide +kernel
theorem dX8_west_115 : decode cX8_west 115 = .ok (.goto (-20), 3) := by decide +kernel
theorem dX8_west_118 : decode cX8_west 118 = .ok (.iinc 1 1, 3) := by decide +kernel
theorem dX8_west_121 : decode cX8_west 121 = .ok (.goto (-75), 3) := by decide +kernel
theorem dX8_west_124 : decode cX8_west 124 = .ok (.iconst 0, 1) := by decide +kernel
theorem dX8_west_125 : decode cX8_west 125 = .ok (.istore_n 1, 1) := by decide +kernel
theorem dX8_west_126 : decode cX8_west 126 = .ok (.iload_n 1, 1) := by decide +kernel
theorem dX8_west_127 : decode cX8_west 127 = .ok (.iconst 5, 1) := by decide +kernel
theorem dX8_west_128 : decode cX8_west 128 = .ok (.if_icmp .ge 51, 3) := by decide +kernel
theorem dX8_west_131 : decode cX8_west 131 = .ok (.iload_n 1, 1) := by decide +kernel
theorem dX8_west_132 : decode cX8_west 132 = .ok (.invokestatic 105, 3) := by decide +kernel
theorem dX8_west_135 : decode cX8_west 135 = .ok (.istore_n 2, 1) := by decide +kernel
theorem dX8_west_136 : decode cX8_west 136 = .ok (.aload_n 0, 1) := by decide +kernel
theorem dX8_west_137 : decode cX8_west 137 = .ok (.getfield 7, 3) := by decide +kernel
theorem dX8_west_140 : decode cX8_west 140 = .ok (.iload_n 2, 1) := by decide +kernel
theorem dX8_west_141 : decode cX8_west 141 = .ok (.iconst 3, 1) := by decide +kernel
theorem dX8_west_142 : decode cX8_west 142 = .ok (.iadd, 1) := by decide +kernel
theorem dX8_west_143 : decode cX8_west 143 = .ok (.bipush 10, 2) := by decide +kernel
theorem dX8_west_145 : decode cX8_west 145 = .ok (.aload_n 0, 1) := by decide +kernel
theorem dX8_west_146 : decode cX8_west 146 = .ok (.getfield 7, 3) := by decide +kernel
theorem dX8_west_149 : decode cX8_west 149 = .ok (.iload_n 2, 1) := by decide +kernel
theorem dX8_west_150 : decode cX8_west 150 = .ok (.iconst 2, 1) := by decide +kernel
theorem dX8_west_151 : decode cX8_west 151 = .ok (.iadd, 1) := by decide +kernel
theorem dX8_west_152 : decode cX8_west 152 = .ok (.iaload, 1) := by decide +kernel
theorem dX8_west_153 : decode cX8_west 153 = .ok (.imul, 1) := by decide +kernel
theorem dX8_west_154 : decode cX8_west 154 = .ok (.iastore, 1) := by decide +kernel
theorem dX8_west_155 : decode cX8_west 155 = .ok (.aload_n 0, 1) := by decide +kernel
theorem dX8_west_156 : decode cX8_west 156 = .ok (.getfield 7, 3) := by decide +kernel
theorem dX8_west_159 : decode cX8_west 159 = .ok (.iload_n 2, 1) := by decide +kernel
theorem dX8_west_160 : decode cX8_west 160 = .ok (.iconst 4, 1) := by decide +kernel
theorem dX8_west_161 : decode cX8_west 161 = .ok (.iadd, 1) := by decide +kernel
theorem dX8_west_162 : decode cX8_west 162 = .ok (.iconst 0, 1) := by decide +kernel
theorem dX8_west_163 : decode cX8_west 163 = .ok (.iastore, 1) := by decide +kernel
theorem dX8_west_164 : decode cX8_west 164 = .ok (.aload_n 0, 1) := by decide +kernel
theorem dX8_west_165 : decode cX8_west 165 = .ok (.getfield 7, 3) := by decide +kernel
theorem dX8_west_168 : decode cX8_west 168 = .ok (.iload_n 2, 1) := by decide +kernel
theorem dX8_west_169 : decode cX8_west 169 = .ok (.iconst 5, 1) := by decide +kernel
theorem dX8_west_170 : decode cX8_west 170 = .ok (.iadd, 1) := by decide +kernel
theorem dX8_west_171 : decode cX8_west 171 = .ok (.iconst (-1), 1) := by decide +kernel
theorem dX8_west_172 : decode cX8_west 172 = .ok (.iastore, 1) := by decide +kernel
theorem dX8_west_173 : decode cX8_west 173 = .ok (.iinc 1 1, 3) := by decide +kernel
theorem dX8_west_176 : decode cX8_west 176 = .ok (.goto (-50), 3) := by decide +kernel
theorem dX8_west_179 : decode cX8_west 179 = .ok (.aload_n 0, 1) := by decide +kernel
theorem dX8_west_180 : decode cX8_west 180 = .ok (.iconst 0, 1) := by decide +kernel
theorem dX8_west_181 : decode cX8_west 181 = .ok (.putfield 122, 3) := by decide +kernel
theorem dX8_west_184 : decode cX8_west 184 = .ok (.aload_n 0, 1) := by decide +kernel
theorem dX8_west_185 : decode cX8_west 185 = .ok (.iconst 0, 1) := by decide +kernel
theorem dX8_west_186 : decode cX8_west 186 = .ok (.putfield 125, 3) := by decide +kernel
theorem dX8_west_189 : decode cX8_west 189 = .ok (.aload_n 0, 1) := by decide +kernel
theorem dX8_west_190 : decode cX8_west 190 = .ok (.getfield 22, 3) := by decide +kernel
theorem dX8_west_193 : decode cX8_west 193 = .ok (.iconst 0, 1) := by decide +kernel
theorem dX8_west_194 : decode cX8_west 194 = .ok (.iconst 0, 1) := by decide +kernel
theorem dX8_west_195 : decode cX8_west 195 = .ok (.bastore, 1) := by decide +kernel
theorem dX8_west_196 : decode cX8_west 196 = .ok (.aload_n 0, 1) := by decide +kernel
theorem dX8_west_197 : decode cX8_west 197 = .ok (.getfield 22, 3) := by decide +kernel
theorem dX8_west_200 : decode cX8_west 200 = .ok (.iconst 1, 1) := by decide +kernel
theorem dX8_west_201 : decode cX8_west 201 = .ok (.iconst 0, 1) := by decide +kernel
theorem dX8_west_202 : decode cX8_west 202 = .ok (.bastore, 1) := by decide +kernel
theorem dX8_west_203 : decode cX8_west 203 = .ok (.aload_n 0, 1) := by decide +kernel
theorem dX8_west_204 : decode cX8_west 204 = .ok (.getfield 112, 3) := by decide +kernel
theorem dX8_west_207 : decode cX8_west 207 = .ok (.ireturn, 1) := by decide +kernel
theorem dX8_evening_0 : decode cX8_evening 0 = .ok (.aload_n 0, 1) := by decide +kernel
theorem dX8_evening_1 : decode cX8_evening 1 = .ok (.iload_n 1, 1) := by decide +kernel
theorem dX8_evening_2 : decode cX8_evening 2 = .ok (.invokevirtual 128, 3) := by decide +kernel
theorem dX8_evening_5 : decode cX8_evening 5 = .ok (.ifCond .ne 6, 3) := by decide +kernel
theorem dX8_evening_8 : decode cX8_evening 8 = .ok (.bipush (-2), 2) := by decide +kernel
theorem dX8_evening_10 : decode cX8_evening 10 = .ok (.ireturn, 1) := by decide +kernel
theorem dX8_evening_11 : decode cX8_evening 11 = .ok (.iload_n 2, 1) := by decide +kernel
theorem dX8_evening_12 : decode cX8_evening 12 = .ok (.iconst 0, 1) := by decide +kernel
theorem dX8_evening_13 : decode cX8_evening 13 = .ok (.iconst 5, 1) := by decide +kernel
theorem dX8_evening_14 : decode cX8_evening 14 = .ok (.invokestatic 35, 3) := by decide +kernel
theorem dX8_evening_17 : decode cX8_evening 17 = .ok (.ifCond .eq 17, 3) := by decide +kernel
theorem dX8_evening_20 : decode cX8_evening 20 = .ok (.aload_n 0, 1) := by decide +kernel
theorem dX8_evening_21 : decode cX8_evening 21 = .ok (.getfield 7, 3) := by decide +kernel
theorem dX8_evening_24 : decode cX8_evening 24 = .ok (.iload_n 1, 1) := by decide +kernel
theorem dX8_evening_25 : decode cX8_evening 25 = .ok (.invokestatic 98, 3) := by decide +kernel
theorem dX8_evening_28 : decode cX8_evening 28 = .ok (.iload_n 2, 1) := by decide +kernel
theorem dX8_evening_29 : decode cX8_evening 29 = .ok (.iadd, 1) := by decide +kernel
theorem dX8_evening_30 : decode cX8_evening 30 = .ok (.iaload, 1) := by decide +kernel
theorem dX8_evening_31 : decode cX8_evening 31 = .ok (.goto 5, 3) := by decide +kernel
theorem dX8_evening_34 : decode cX8_evening 34 = .ok (.bipush (-3), 2) := by decide +kernel
theorem dX8_evening_36 : decode cX8_evening 36 = .ok (.ireturn, 1) := by decide +kernel
theorem dX8_bidder_0 : decode cX8_bidder 0 = .ok (.aload_n 0, 1) := by decide +kernel
theorem dX8_bidder_1 : decode cX8_bidder 1 = .ok (.iload_n 1, 1) := by decide +kernel
theorem dX8_bidder_2 : decode cX8_bidder 2 = .ok (.invokevirtual 131, 3) := by decide +kernel
theorem dX8_bidder_5 : decode cX8_bidder 5 = .ok (.ifCond .ne 6, 3) := by decide +kernel
theorem dX8_bidder_8 : decode cX8_bidder 8 = .ok (.bipush (-2), 2) := by decide +kernel
theorem dX8_bidder_10 : decode cX8_bidder 10 = .ok (.ireturn, 1) := by decide +kernel
theorem dX8_bidder_11 : decode cX8_bidder 11 = .ok (.iload_n 2, 1) := by decide +kernel
theorem dX8_bidder_12 : decode cX8_bidder 12 = .ok (.iconst 0, 1) := by decide +kernel
theorem dX8_bidder_13 : decode cX8_bidder 13 = .ok (.iconst 4, 1) := by decide +kernel
theorem dX8_bidder_14 : decode cX8_bidder 14 = .ok (.invokestatic 35, 3) := by decide +kernel
theorem dX8_bidder_17 : decode cX8_bidder 17 = .ok (.ifCond .ne 6, 3) := by decide +kernel
theorem dX8_bidder_20 : decode cX8_bidder 20 = .ok (.bipush (-3), 2) := by decide +kernel
theorem dX8_bidder_22 : decode cX8_bidder 22 = .ok (.ireturn, 1) := by decide +kernel
theorem dX8_bidder_23 : decode cX8_bidder 23 = .ok (.aload_n 0, 1) := by decide +kernel
theorem dX8_bidder_24 : decode cX8_bidder 24 = .ok (.getfield 7, 3) := by decide +kernel
theorem dX8_bidder_27 : decode cX8_bidder 27 = .ok (.iload_n 1, 1) := by decide +kernel
theorem dX8_bidder_28 : decode cX8_bidder 28 = .ok (.invokestatic 105, 3) := by decide +kernel
theorem dX8_bidder_31 : decode cX8_bidder 31 = .ok (.iload_n 2, 1) := by decide +kernel
theorem dX8_bidder_32 : decode cX8_bidder 32 = .ok (.iconst 2, 1) := by decide +kernel
theorem dX8_bidder_33 : decode cX8_bidder 33 = .ok (.if_icmp .ge 7, 3) := by decide +kernel
theorem dX8_bidder_36 : decode cX8_bidder 36 = .ok (.iload_n 2, 1) := by decide +kernel
theorem dX8_bidder_37 : decode cX8_bidder 37 = .ok (.goto 6, 3) := by decide +kernel
theorem dX8_bidder_40 : decode cX8_bidder 40 = .ok (.iload_n 2, 1) := by decide +kernel
theorem dX8_bidder_41 : decode cX8_bidder 41 = .ok (.iconst 1, 1) := by decide +kernel
theorem dX8_bidder_42 : decode cX8_bidder 42 = .ok (.iadd, 1) := by decide +kernel
theorem dX8_bidder_43 : decode cX8_bidder 43 = .ok (.iadd, 1) := by decide +kernel
theorem dX8_bidder_44 : decode cX8_bidder 44 = .ok (.iaload, 1) := by decide +kernel
theorem dX8_bidder_45 : decode cX8_bidder 45 = .ok (.ireturn, 1) := by decide +kernel
theorem dX8_worthOf_0 : decode cX8_worthOf 0 = .ok (.iload_n 1, 1) := by decide +kernel
theorem dX8_worthOf_1 : decode cX8_worthOf 1 = .ok (.invokestatic 105, 3) := by decide +kernel
theorem dX8_worthOf_4 : decode cX8_worthOf 4 = .ok (.istore_n 3, 1) := by decide +kernel
theorem dX8_worthOf_5 : decode cX8_worthOf 5 = .ok (.aload_n 0, 1) := by decide +kernel
theorem dX8_worthOf_6 : decode cX8_worthOf 6 = .ok (.getfield 7, 3) := by decide +kernel
theorem dX8_worthOf_9 : decode cX8_worthOf 9 = .ok (.iload_n 3, 1) := by decide +kernel
theorem dX8_worthOf_10 : decode cX8_worthOf 10 = .ok (.iconst 1, 1) := by decide +kernel
theorem dX8_worthOf_11 : decode cX8_worthOf 11 = .ok (.iadd, 1) := by decide +kernel
theorem dX8_worthOf_12 : decode cX8_worthOf 12 = .ok (.iaload, 1) := by decide +kernel
theorem dX8_worthOf_13 : decode cX8_worthOf 13 = .ok (.istore 4, 2) := by decide +kernel
theorem dX8_worthOf_15 : decode cX8_worthOf 15 = .ok (.aload_n 0, 1) := by decide +kernel
theorem dX8_worthOf_16 : decode cX8_worthOf 16 = .ok (.getfield 7, 3) := by decide +kernel
theorem dX8_worthOf_19 : decode cX8_worthOf 19 = .ok (.iload_n 3, 1) := by decide +kernel
theorem dX8_worthOf_20 : decode cX8_worthOf 20 = .ok (.iconst 0, 1) := by decide +kernel
theorem dX8_worthOf_21 : decode cX8_worthOf 21 = .ok (.iadd, 1) := by decide +kernel
theorem dX8_worthOf_22 : decode cX8_worthOf 22 = .ok (.iaload, 1) := by decide +kernel
theorem dX8_worthOf_23 : decode cX8_worthOf 23 = .ok (.tableswitch 59 1 3 #[25, 30, 41], 25) := by decide +kernel
theorem dX8_worthOf_48 : decode cX8_worthOf 48 = .ok (.iload 4, 2) := by decide +kernel
theorem dX8_worthOf_50 : decode cX8_worthOf 50 = .ok (.iconst 2, 1) := by decide +kernel
theorem dX8_worthOf_51 : decode cX8_worthOf 51 = .ok (.idiv, 1) := by decide +kernel
theorem dX8_worthOf_52 : decode cX8_worthOf 52 = .ok (.ireturn, 1) := by decide +kernel
theorem dX8_worthOf_53 : decode cX8_worthOf 53 = .ok (.iload_n 2, 1) := by decide +kernel
theorem dX8_worthOf_54 : decode cX8_worthOf 54 = .ok (.ifCond .eq 8, 3) := by decide +kernel
theorem dX8_worthOf_57 : decode cX8_worthOf 57 = .ok (.iload 4, 2) := by decide +kernel
theorem dX8_worthOf_59 : decode cX8_worthOf 59 = .ok (.goto 4, 3) := by decide +kernel
theorem dX8_worthOf_62 : decode cX8_worthOf 62 = .ok (.iconst 5, 1) := by decide +kernel
theorem dX8_worthOf_63 : decode cX8_worthOf 63 = .ok (.ireturn, 1) := by decide +kernel
theorem dX8_worthOf_64 : decode cX8_worthOf 64 = .ok (.iload_n 2, 1) := by decide +kernel
theorem dX8_worthOf_65 : decode cX8_worthOf 65 = .ok (.ifCond .eq 15, 3) := by decide +kernel
theorem dX8_worthOf_68 : decode cX8_worthOf 68 = .ok (.iconst 0, 1) := by decide +kernel
theorem dX8_worthOf_69 : decode cX8_worthOf 69 = .ok (.iload 4, 2) := by decide +kernel
theorem dX8_worthOf_71 : decode cX8_worthOf 71 = .ok (.bipush 10, 2) := by decide +kernel
theorem dX8_worthOf_73 : decode cX8_worthOf 73 = .ok (.isub, 1) := by decide +kernel
theorem dX8_worthOf_74 : decode cX8_worthOf 74 = .ok (.invokestatic 101, 3) := by decide +kernel
theorem dX8_worthOf_77 : decode cX8_worthOf 77 = .ok (.goto 4, 3) := by decide +kernel
theorem dX8_worthOf_80 : decode cX8_worthOf 80 = .ok (.iconst 0, 1) := by decide +kernel
theorem dX8_worthOf_81 : decode cX8_worthOf 81 = .ok (.ireturn, 1) := by decide +kernel
theorem dX8_worthOf_82 : decode cX8_worthOf 82 = .ok (.iload_n 2, 1) := by decide +kernel
theorem dX8_worthOf_83 : decode cX8_worthOf 83 = .ok (.ifCond .eq 8, 3) := by decide +kernel
theorem dX8_worthOf_86 : decode cX8_worthOf 86 = .ok (.iload 4, 2) := by decide +kernel
theorem dX8_worthOf_88 : decode cX8_worthOf 88 = .ok (.goto 4, 3) := by decide +kernel
theorem dX8_worthOf_91 : decode cX8_worthOf 91 = .ok (.iconst 0, 1) := by decide +kernel
theorem dX8_worthOf_92 : decode cX8_worthOf 92 = .ok (.ireturn, 1) := by decide +kernel
theorem dX8_backOf_0 : decode cX8_backOf 0 = .ok (.aload_n 0, 1) := by decide +kernel
theorem dX8_backOf_1 : decode cX8_backOf 1 = .ok (.getfield 7, 3) := by decide +kernel
theorem dX8_backOf_4 : decode cX8_backOf 4 = .ok (.iload_n 1, 1) := by decide +kernel
theorem dX8_backOf_5 : decode cX8_backOf 5 = .ok (.invokestatic 98, 3) := by decide +kernel
theorem dX8_backOf_8 : decode cX8_backOf 8 = .ok (.iconst 0, 1) := by decide +kernel
theorem dX8_backOf_9 : decode cX8_backOf 9 = .ok (.iadd, 1) := by decide +kernel
theorem dX8_backOf_10 : decode cX8_backOf 10 = .ok (.iaload, 1) := by decide +kernel
theorem dX8_backOf_11 : decode cX8_backOf 11 = .ok (.iconst 2, 1) := by decide +kernel
theorem dX8_backOf_12 : decode cX8_backOf 12 = .ok (.if_icmp .ne 7, 3) := by decide +kernel
theorem dX8_backOf_15 : decode cX8_backOf 15 = .ok (.iconst 0, 1) := by decide +kernel
theorem dX8_backOf_16 : decode cX8_backOf 16 = .ok (.goto 14, 3) := by decide +kernel
theorem dX8_backOf_19 : decode cX8_backOf 19 = .ok (.aload_n 0, 1) := by decide +kernel
theorem dX8_backOf_20 : decode cX8_backOf 20 = .ok (.getfield 7, 3) := by decide +kernel
theorem dX8_backOf_23 : decode cX8_backOf 23 = .ok (.iconst 5, 1) := by decide +kernel
theorem dX8_backOf_24 : decode cX8_backOf 24 = .ok (.iaload, 1) := by decide +kernel
theorem dX8_backOf_25 : decode cX8_backOf 25 = .ok (.iload_n 2, 1) := by decide +kernel
theorem dX8_backOf_26 : decode cX8_backOf 26 = .ok (.imul, 1) := by decide +kernel
theorem dX8_backOf_27 : decode cX8_backOf 27 = .ok (.bipush 10, 2) := by decide +kernel
theorem dX8_backOf_29 : decode cX8_backOf 29 = .ok (.idiv, 1) := by decide +kernel
theorem dX8_backOf_30 : decode cX8_backOf 30 = .ok (.ireturn, 1) := by decide +kernel
theorem dX8_as_0 : decode cX8_as 0 = .ok (.aload_n 0, 1) := by decide +kernel
theorem dX8_as_1 : decode cX8_as 1 = .ok (.iload_n 1, 1) := by decide +kernel
theorem dX8_as_2 : decode cX8_as 2 = .ok (.invokevirtual 131, 3) := by decide +kernel
theorem dX8_as_5 : decode cX8_as 5 = .ok (.ifCond .ne 6, 3) := by decide +kernel
theorem dX8_as_8 : decode cX8_as 8 = .ok (.bipush (-2), 2) := by decide +kernel
theorem dX8_as_10 : decode cX8_as 10 = .ok (.ireturn, 1) := by decide +kernel
theorem dX8_as_11 : decode cX8_as 11 = .ok (.iload_n 2, 1) := by decide +kernel
theorem dX8_as_12 : decode cX8_as 12 = .ok (.iconst 0, 1) := by decide +kernel
theorem dX8_as_13 : decode cX8_as 13 = .ok (.iconst 4, 1) := by decide +kernel
theorem dX8_as_14 : decode cX8_as 14 = .ok (.invokestatic 35, 3) := by decide +kernel
theorem dX8_as_17 : decode cX8_as 17 = .ok (.ifCond .ne 6, 3) := by decide +kernel
theorem dX8_as_20 : decode cX8_as 20 = .ok (.bipush (-3), 2) := by decide +kernel
theorem dX8_as_22 : decode cX8_as 22 = .ok (.ireturn, 1) := by decide +kernel
theorem dX8_as_23 : decode cX8_as 23 = .ok (.aload_n 0, 1) := by decide +kernel
theorem dX8_as_24 : decode cX8_as 24 = .ok (.getfield 7, 3) := by decide +kernel
theorem dX8_as_27 : decode cX8_as 27 = .ok (.iload_n 1, 1) := by decide +kernel
theorem dX8_as_28 : decode cX8_as 28 = .ok (.invokestatic 105, 3) := by decide +kernel
theorem dX8_as_31 : decode cX8_as 31 = .ok (.iconst 0, 1) := by decide +kernel
theorem dX8_as_32 : decode cX8_as 32 = .ok (.iadd, 1) := by decide +kernel
theorem dX8_as_33 : decode cX8_as 33 = .ok (.iaload, 1) := by decide +kernel
theorem dX8_as_34 : decode cX8_as 34 = .ok (.istore_n 3, 1) := by decide +kernel
theorem dX8_as_35 : decode cX8_as 35 = .ok (.iload_n 2, 1) := by decide +kernel
theorem dX8_as_36 : decode cX8_as 36 = .ok (.ifCond .eq 20, 3) := by decide +kernel
theorem dX8_as_39 : decode cX8_as 39 = .ok (.iload_n 2, 1) := by decide +kernel
theorem dX8_as_40 : decode cX8_as 40 = .ok (.iconst 1, 1) := by decide +kernel
theorem dX8_as_41 : decode cX8_as 41 = .ok (.if_icmp .ne 8, 3) := by decide +kernel
theorem dX8_as_44 : decode cX8_as 44 = .ok (.iload_n 3, 1) := by decide +kernel
theorem dX8_as_45 : decode cX8_as 45 = .ok (.iconst 1, 1) := by decide +kernel
theorem dX8_as_46 : decode cX8_as 46 = .ok (.if_icmp .ne 10, 3) := by decide +kernel
theorem dX8_as_49 : decode cX8_as 49 = .ok (.iload_n 2, 1) := by decide +kernel
theorem dX8_as_50 : decode cX8_as 50 = .ok (.iload_n 3, 1) := by decide +kernel
theorem dX8_as_51 : decode cX8_as 51 = .ok (.iconst 1, 1) := by decide +kernel
theorem dX8_as_52 : decode cX8_as 52 = .ok (.iadd, 1) := by decide +kernel
theorem dX8_as_53 : decode cX8_as 53 = .ok (.if_icmp .ne 7, 3) := by decide +kernel
theorem dX8_as_56 : decode cX8_as 56 = .ok (.iconst 1, 1) := by decide +kernel
theorem dX8_as_57 : decode cX8_as 57 = .ok (.goto 4, 3) := by decide +kernel
theorem dX8_as_60 : decode cX8_as 60 = .ok (.iconst 0, 1) := by decide +kernel
theorem dX8_as_61 : decode cX8_as 61 = .ok (.istore 4, 2) := by decide +kernel
theorem dX8_as_63 : decode cX8_as 63 = .ok (.iload 4, 2) := by decide +kernel
theorem dX8_as_65 : decode cX8_as 65 = .ok (.ifCond .eq 22, 3) := by decide +kernel
theorem dX8_as_68 : decode cX8_as 68 = .ok (.bipush 100, 2) := by decide +kernel
theorem dX8_as_70 : decode cX8_as 70 = .ok (.aload_n 0, 1) := by decide +kernel
theorem dX8_as_71 : decode cX8_as 71 = .ok (.iload_n 1, 1) := by decide +kernel
theorem dX8_as_72 : decode cX8_as 72 = .ok (.iconst 1, 1) := by decide +kernel
theorem dX8_as_73 : decode cX8_as 73 = .ok (.invokevirtual 134, 3) := by decide +kernel
theorem dX8_as_76 : decode cX8_as 76 = .ok (.imul, 1) := by decide +kernel
theorem dX8_as_77 : decode cX8_as 77 = .ok (.aload_n 0, 1) := by decide +kernel
theorem dX8_as_78 : decode cX8_as 78 = .ok (.iload_n 1, 1) := by decide +kernel
theorem dX8_as_79 : decode cX8_as 79 = .ok (.iconst 0, 1) := by decide +kernel
theorem dX8_as_80 : decode cX8_as 80 = .ok (.invokevirtual 134, 3) := by decide +kernel
theorem dX8_as_83 : decode cX8_as 83 = .ok (.iadd, 1) := by decide +kernel
theorem dX8_as_84 : decode cX8_as 84 = .ok (.goto 5, 3) := by decide +kernel
theorem dX8_as_87 : decode cX8_as 87 = .ok (.bipush (-4), 2) := by decide +kernel
theorem dX8_as_89 : decode cX8_as 89 = .ok (.ireturn, 1) := by decide +kernel
theorem dX8_eveningAs_0 : decode cX8_eveningAs 0 = .ok (.aload_n 0, 1) := by decide +kernel
theorem dX8_eveningAs_1 : decode cX8_eveningAs 1 = .ok (.iload_n 1, 1) := by decide +kernel
theorem dX8_eveningAs_2 : decode cX8_eveningAs 2 = .ok (.invokevirtual 128, 3) := by decide +kernel
theorem dX8_eveningAs_5 : decode cX8_eveningAs 5 = .ok (.ifCond .ne 6, 3) := by decide +kernel
theorem dX8_eveningAs_8 : decode cX8_eveningAs 8 = .ok (.bipush (-2), 2) := by decide +kernel
theorem dX8_eveningAs_10 : decode cX8_eveningAs 10 = .ok (.ireturn, 1) := by decide +kernel
theorem dX8_eveningAs_11 : decode cX8_eveningAs 11 = .ok (.iload_n 2, 1) := by decide +kernel
theorem dX8_eveningAs_12 : decode cX8_eveningAs 12 = .ok (.iconst 0, 1) := by decide +kernel
theorem dX8_eveningAs_13 : decode cX8_eveningAs 13 = .ok (.iconst 3, 1) := by decide +kernel
theorem dX8_eveningAs_14 : decode cX8_eveningAs 14 = .ok (.invokestatic 35, 3) := by decide +kernel
theorem dX8_eveningAs_17 : decode cX8_eveningAs 17 = .ok (.ifCond .ne 6, 3) := by decide +kernel
theorem dX8_eveningAs_20 : decode cX8_eveningAs 20 = .ok (.bipush (-3), 2) := by decide +kernel
theorem dX8_eveningAs_22 : decode cX8_eveningAs 22 = .ok (.ireturn, 1) := by decide +kernel
theorem dX8_eveningAs_23 : decode cX8_eveningAs 23 = .ok (.aload_n 0, 1) := by decide +kernel
theorem dX8_eveningAs_24 : decode cX8_eveningAs 24 = .ok (.getfield 7, 3) := by decide +kernel
theorem dX8_eveningAs_27 : decode cX8_eveningAs 27 = .ok (.iload_n 1, 1) := by decide +kernel
theorem dX8_eveningAs_28 : decode cX8_eveningAs 28 = .ok (.invokestatic 98, 3) := by decide +kernel
theorem dX8_eveningAs_31 : decode cX8_eveningAs 31 = .ok (.iconst 0, 1) := by decide +kernel
theorem dX8_eveningAs_32 : decode cX8_eveningAs 32 = .ok (.iadd, 1) := by decide +kernel
theorem dX8_eveningAs_33 : decode cX8_eveningAs 33 = .ok (.iaload, 1) := by decide +kernel
theorem dX8_eveningAs_34 : decode cX8_eveningAs 34 = .ok (.istore_n 3, 1) := by decide +kernel
theorem dX8_eveningAs_35 : decode cX8_eveningAs 35 = .ok (.iload_n 2, 1) := by decide +kernel
theorem dX8_eveningAs_36 : decode cX8_eveningAs 36 = .ok (.ifCond .eq 20, 3) := by decide +kernel
theorem dX8_eveningAs_39 : decode cX8_eveningAs 39 = .ok (.iload_n 2, 1) := by decide +kernel
theorem dX8_eveningAs_40 : decode cX8_eveningAs 40 = .ok (.iconst 1, 1) := by decide +kernel
theorem dX8_eveningAs_41 : decode cX8_eveningAs 41 = .ok (.if_icmp .ne 8, 3) := by decide +kernel
theorem dX8_eveningAs_44 : decode cX8_eveningAs 44 = .ok (.iload_n 3, 1) := by decide +kernel
theorem dX8_eveningAs_45 : decode cX8_eveningAs 45 = .ok (.iconst 2, 1) := by decide +kernel
theorem dX8_eveningAs_46 : decode cX8_eveningAs 46 = .ok (.if_icmp .ne 10, 3) := by decide +kernel
theorem dX8_eveningAs_49 : decode cX8_eveningAs 49 = .ok (.iload_n 2, 1) := by decide +kernel
theorem dX8_eveningAs_50 : decode cX8_eveningAs 50 = .ok (.iload_n 3, 1) := by decide +kernel
theorem dX8_eveningAs_51 : decode cX8_eveningAs 51 = .ok (.iconst 1, 1) := by decide +kernel
theorem dX8_eveningAs_52 : decode cX8_eveningAs 52 = .ok (.iadd, 1) := by decide +kernel
theorem dX8_eveningAs_53 : decode cX8_eveningAs 53 = .ok (.if_icmp .ne 7, 3) := by decide +kernel
theorem dX8_eveningAs_56 : decode cX8_eveningAs 56 = .ok (.iconst 1, 1) := by decide +kernel
theorem dX8_eveningAs_57 : decode cX8_eveningAs 57 = .ok (.goto 4, 3) := by decide +kernel
theorem dX8_eveningAs_60 : decode cX8_eveningAs 60 = .ok (.iconst 0, 1) := by decide +kernel
theorem dX8_eveningAs_61 : decode cX8_eveningAs 61 = .ok (.istore 4, 2) := by decide +kernel
theorem dX8_eveningAs_63 : decode cX8_eveningAs 63 = .ok (.iload 4, 2) := by decide +kernel
theorem dX8_eveningAs_65 : decode cX8_eveningAs 65 = .ok (.ifCond .eq 13, 3) := by decide +kernel
theorem dX8_eveningAs_68 : decode cX8_eveningAs 68 = .ok (.aload_n 0, 1) := by decide +kernel
theorem dX8_eveningAs_69 : decode cX8_eveningAs 69 = .ok (.iload_n 1, 1) := by decide +kernel
theorem dX8_eveningAs_70 : decode cX8_eveningAs 70 = .ok (.bipush 50, 2) := by decide +kernel
theorem dX8_eveningAs_72 : decode cX8_eveningAs 72 = .ok (.invokevirtual 138, 3) := by decide +kernel
theorem dX8_eveningAs_75 : decode cX8_eveningAs 75 = .ok (.goto 5, 3) := by decide +kernel
theorem dX8_eveningAs_78 : decode cX8_eveningAs 78 = .ok (.bipush (-4), 2) := by decide +kernel
theorem dX8_eveningAs_80 : decode cX8_eveningAs 80 = .ok (.ireturn, 1) := by decide +kernel
theorem dX8_gainOf_0 : decode cX8_gainOf 0 = .ok (.aload_n 0, 1) := by decide +kernel
theorem dX8_gainOf_1 : decode cX8_gainOf 1 = .ok (.getfield 7, 3) := by decide +kernel
theorem dX8_gainOf_4 : decode cX8_gainOf 4 = .ok (.iload_n 2, 1) := by decide +kernel
theorem dX8_gainOf_5 : decode cX8_gainOf 5 = .ok (.invokestatic 98, 3) := by decide +kernel
theorem dX8_gainOf_8 : decode cX8_gainOf 8 = .ok (.iconst 1, 1) := by decide +kernel
theorem dX8_gainOf_9 : decode cX8_gainOf 9 = .ok (.iadd, 1) := by decide +kernel
theorem dX8_gainOf_10 : decode cX8_gainOf 10 = .ok (.iaload, 1) := by decide +kernel
theorem dX8_gainOf_11 : decode cX8_gainOf 11 = .ok (.istore 4, 2) := by decide +kernel
theorem dX8_gainOf_13 : decode cX8_gainOf 13 = .ok (.iload 4, 2) := by decide +kernel
theorem dX8_gainOf_15 : decode cX8_gainOf 15 = .ok (.aload_n 0, 1) := by decide +kernel
theorem dX8_gainOf_16 : decode cX8_gainOf 16 = .ok (.iload_n 1, 1) := by decide +kernel
theorem dX8_gainOf_17 : decode cX8_gainOf 17 = .ok (.iconst 1, 1) := by decide +kernel
theorem dX8_gainOf_18 : decode cX8_gainOf 18 = .ok (.invokevirtual 134, 3) := by decide +kernel
theorem dX8_gainOf_21 : decode cX8_gainOf 21 = .ok (.imul, 1) := by decide +kernel
theorem dX8_gainOf_22 : decode cX8_gainOf 22 = .ok (.bipush 10, 2) := by decide +kernel
theorem dX8_gainOf_24 : decode cX8_gainOf 24 = .ok (.iload 4, 2) := by decide +kernel
theorem dX8_gainOf_26 : decode cX8_gainOf 26 = .ok (.isub, 1) := by decide +kernel
theorem dX8_gainOf_27 : decode cX8_gainOf 27 = .ok (.aload_n 0, 1) := by decide +kernel
theorem dX8_gainOf_28 : decode cX8_gainOf 28 = .ok (.iload_n 1, 1) := by decide +kernel
theorem dX8_gainOf_29 : decode cX8_gainOf 29 = .ok (.iconst 0, 1) := by decide +kernel
theorem dX8_gainOf_30 : decode cX8_gainOf 30 = .ok (.invokevirtual 134, 3) := by decide +kernel
theorem dX8_gainOf_33 : decode cX8_gainOf 33 = .ok (.aload_n 0, 1) := by decide +kernel
theorem dX8_gainOf_34 : decode cX8_gainOf 34 = .ok (.iload_n 2, 1) := by decide +kernel
theorem dX8_gainOf_35 : decode cX8_gainOf 35 = .ok (.iload_n 3, 1) := by decide +kernel
theorem dX8_gainOf_36 : decode cX8_gainOf 36 = .ok (.invokevirtual 138, 3) := by decide +kernel
theorem dX8_gainOf_39 : decode cX8_gainOf 39 = .ok (.iadd, 1) := by decide +kernel
theorem dX8_gainOf_40 : decode cX8_gainOf 40 = .ok (.imul, 1) := by decide +kernel
theorem dX8_gainOf_41 : decode cX8_gainOf 41 = .ok (.iadd, 1) := by decide +kernel
theorem dX8_gainOf_42 : decode cX8_gainOf 42 = .ok (.bipush 10, 2) := by decide +kernel
theorem dX8_gainOf_44 : decode cX8_gainOf 44 = .ok (.iload_n 3, 1) := by decide +kernel
theorem dX8_gainOf_45 : decode cX8_gainOf 45 = .ok (.imul, 1) := by decide +kernel
theorem dX8_gainOf_46 : decode cX8_gainOf 46 = .ok (.isub, 1) := by decide +kernel
theorem dX8_gainOf_47 : decode cX8_gainOf 47 = .ok (.ireturn, 1) := by decide +kernel
theorem dX8_takesBids_0 : decode cX8_takesBids 0 = .ok (.iconst 0, 1) := by decide +kernel
theorem dX8_takesBids_1 : decode cX8_takesBids 1 = .ok (.istore_n 1, 1) := by decide +kernel
theorem dX8_takesBids_2 : decode cX8_takesBids 2 = .ok (.iload_n 1, 1) := by decide +kernel
theorem dX8_takesBids_3 : decode cX8_takesBids 3 = .ok (.iconst 5, 1) := by decide +kernel
theorem dX8_takesBids_4 : decode cX8_takesBids 4 = .ok (.if_icmp .ge 40, 3) := by decide +kernel
theorem dX8_takesBids_7 : decode cX8_takesBids 7 = .ok (.aload_n 0, 1) := by decide +kernel
theorem dX8_takesBids_8 : decode cX8_takesBids 8 = .ok (.getfield 32, 3) := by decide +kernel
theorem dX8_takesBids_11 : decode cX8_takesBids 11 = .ok (.iload_n 1, 1) := by decide +kernel
theorem dX8_takesBids_12 : decode cX8_takesBids 12 = .ok (.iload_n 1, 1) := by decide +kernel
theorem dX8_takesBids_13 : decode cX8_takesBids 13 = .ok (.aload_n 0, 1) := by decide +kernel
theorem dX8_takesBids_14 : decode cX8_takesBids 14 = .ok (.getfield 7, 3) := by decide +kernel
theorem dX8_takesBids_17 : decode cX8_takesBids 17 = .ok (.iconst 1, 1) := by decide +kernel
theorem dX8_takesBids_18 : decode cX8_takesBids 18 = .ok (.iaload, 1) := by decide +kernel
theorem dX8_takesBids_19 : decode cX8_takesBids 19 = .ok (.if_icmp .ge 17, 3) := by decide +kernel
theorem dX8_takesBids_22 : decode cX8_takesBids 22 = .ok (.aload_n 0, 1) := by decide +kernel
theorem dX8_takesBids_23 : decode cX8_takesBids 23 = .ok (.getfield 7, 3) := by decide +kernel
theorem dX8_takesBids_26 : decode cX8_takesBids 26 = .ok (.iload_n 1, 1) := by decide +kernel
theorem dX8_takesBids_27 : decode cX8_takesBids 27 = .ok (.invokestatic 105, 3) := by decide +kernel
theorem dX8_takesBids_30 : decode cX8_takesBids 30 = .ok (.iconst 5, 1) := by decide +kernel
theorem dX8_takesBids_31 : decode cX8_takesBids 31 = .ok (.iadd, 1) := by decide +kernel
theorem dX8_takesBids_32 : decode cX8_takesBids 32 = .ok (.iaload, 1) := by decide +kernel
theorem dX8_takesBids_33 : decode cX8_takesBids 33 = .ok (.goto 4, 3) := by decide +kernel
theorem dX8_takesBids_36 : decode cX8_takesBids 36 = .ok (.iconst (-1), 1) := by decide +kernel
theorem dX8_takesBids_37 : decode cX8_takesBids 37 = .ok (.iastore, 1) := by decide +kernel
theorem dX8_takesBids_38 : decode cX8_takesBids 38 = .ok (.iinc 1 1, 3) := by decide +kernel
theorem dX8_takesBids_41 : decode cX8_takesBids 41 = .ok (.goto (-39), 3) := by decide +kernel
theorem dX8_takesBids_44 : decode cX8_takesBids 44 = .ok (.return_, 1) := by decide +kernel
theorem dX8_buyer_0 : decode cX8_buyer 0 = .ok (.iconst (-1), 1) := by decide +kernel
theorem dX8_buyer_1 : decode cX8_buyer 1 = .ok (.istore_n 1, 1) := by decide +kernel
theorem dX8_buyer_2 : decode cX8_buyer 2 = .ok (.iconst 0, 1) := by decide +kernel
theorem dX8_buyer_3 : decode cX8_buyer 3 = .ok (.istore_n 2, 1) := by decide +kernel
theorem dX8_buyer_4 : decode cX8_buyer 4 = .ok (.iload_n 2, 1) := by decide +kernel
theorem dX8_buyer_5 : decode cX8_buyer 5 = .ok (.iconst 5, 1) := by decide +kernel
theorem dX8_buyer_6 : decode cX8_buyer 6 = .ok (.if_icmp .ge 56, 3) := by decide +kernel
theorem dX8_buyer_9 : decode cX8_buyer 9 = .ok (.aload_n 0, 1) := by decide +kernel
theorem dX8_buyer_10 : decode cX8_buyer 10 = .ok (.getfield 32, 3) := by decide +kernel
theorem dX8_buyer_13 : decode cX8_buyer 13 = .ok (.iload_n 2, 1) := by decide +kernel
theorem dX8_buyer_14 : decode cX8_buyer 14 = .ok (.iaload, 1) := by decide +kernel
theorem dX8_buyer_15 : decode cX8_buyer 15 = .ok (.iconst (-1), 1) := by decide +kernel
theorem dX8_buyer_16 : decode cX8_buyer 16 = .ok (.if_icmp .eq 40, 3) := by decide +kernel
theorem dX8_buyer_19 : decode cX8_buyer 19 = .ok (.aload_n 0, 1) := by decide +kernel
theorem dX8_buyer_20 : decode cX8_buyer 20 = .ok (.getfield 32, 3) := by decide +kernel
theorem dX8_buyer_23 : decode cX8_buyer 23 = .ok (.iload_n 2, 1) := by decide +kernel
theorem dX8_buyer_24 : decode cX8_buyer 24 = .ok (.iaload, 1) := by decide +kernel
theorem dX8_buyer_25 : decode cX8_buyer 25 = .ok (.aload_n 0, 1) := by decide +kernel
theorem dX8_buyer_26 : decode cX8_buyer 26 = .ok (.getfield 7, 3) := by decide +kernel
theorem dX8_buyer_29 : decode cX8_buyer 29 = .ok (.iconst 4, 1) := by decide +kernel
theorem dX8_buyer_30 : decode cX8_buyer 30 = .ok (.iaload, 1) := by decide +kernel
theorem dX8_buyer_31 : decode cX8_buyer 31 = .ok (.if_icmp .lt 25, 3) := by decide +kernel
theorem dX8_buyer_34 : decode cX8_buyer 34 = .ok (.iload_n 1, 1) := by decide +kernel
theorem dX8_buyer_35 : decode cX8_buyer 35 = .ok (.iconst (-1), 1) := by decide +kernel
theorem dX8_buyer_36 : decode cX8_buyer 36 = .ok (.if_icmp .eq 18, 3) := by decide +kernel
theorem dX8_buyer_39 : decode cX8_buyer 39 = .ok (.aload_n 0, 1) := by decide +kernel
theorem dX8_buyer_40 : decode cX8_buyer 40 = .ok (.getfield 32, 3) := by decide +kernel
theorem dX8_buyer_43 : decode cX8_buyer 43 = .ok (.iload_n 2, 1) := by decide +kernel
theorem dX8_buyer_44 : decode cX8_buyer 44 = .ok (.iaload, 1) := by decide +kernel
theorem dX8_buyer_45 : decode cX8_buyer 45 = .ok (.aload_n 0, 1) := by decide +kernel
theorem dX8_buyer_46 : decode cX8_buyer 46 = .ok (.getfield 32, 3) := by decide +kernel
theorem dX8_buyer_49 : decode cX8_buyer 49 = .ok (.iload_n 1, 1) := by decide +kernel
theorem dX8_buyer_50 : decode cX8_buyer 50 = .ok (.iaload, 1) := by decide +kernel
theorem dX8_buyer_51 : decode cX8_buyer 51 = .ok (.if_icmp .le 5, 3) := by decide +kernel
theorem dX8_buyer_54 : decode cX8_buyer 54 = .ok (.iload_n 2, 1) := by decide +kernel
theorem dX8_buyer_55 : decode cX8_buyer 55 = .ok (.istore_n 1, 1) := by decide +kernel
theorem dX8_buyer_56 : decode cX8_buyer 56 = .ok (.iinc 2 1, 3) := by decide +kernel
theorem dX8_buyer_59 : decode cX8_buyer 59 = .ok (.goto (-55), 3) := by decide +kernel
theorem dX8_buyer_62 : decode cX8_buyer 62 = .ok (.iload_n 1, 1) := by decide +kernel
theorem dX8_buyer_63 : decode cX8_buyer 63 = .ok (.ireturn, 1) := by decide +kernel
theorem dX8_costOf_0 : decode cX8_costOf 0 = .ok (.aload_n 0, 1) := by decide +kernel
theorem dX8_costOf_1 : decode cX8_costOf 1 = .ok (.getfield 7, 3) := by decide +kernel
theorem dX8_costOf_4 : decode cX8_costOf 4 = .ok (.iconst 4, 1) := by decide +kernel
theorem dX8_costOf_5 : decode cX8_costOf 5 = .ok (.iaload, 1) := by decide +kernel
theorem dX8_costOf_6 : decode cX8_costOf 6 = .ok (.istore_n 3, 1) := by decide +kernel
theorem dX8_costOf_7 : decode cX8_costOf 7 = .ok (.iconst 0, 1) := by decide +kernel
theorem dX8_costOf_8 : decode cX8_costOf 8 = .ok (.istore 4, 2) := by decide +kernel
theorem dX8_costOf_10 : decode cX8_costOf 10 = .ok (.iload 4, 2) := by decide +kernel
theorem dX8_costOf_12 : decode cX8_costOf 12 = .ok (.iconst 5, 1) := by decide +kernel
theorem dX8_costOf_13 : decode cX8_costOf 13 = .ok (.if_icmp .ge 38, 3) := by decide +kernel
theorem dX8_costOf_16 : decode cX8_costOf 16 = .ok (.iload 4, 2) := by decide +kernel
theorem dX8_costOf_18 : decode cX8_costOf 18 = .ok (.iload_n 1, 1) := by decide +kernel
theorem dX8_costOf_19 : decode cX8_costOf 19 = .ok (.if_icmp .eq 24, 3) := by decide +kernel
theorem dX8_costOf_22 : decode cX8_costOf 22 = .ok (.aload_n 0, 1) := by decide +kernel
theorem dX8_costOf_23 : decode cX8_costOf 23 = .ok (.getfield 32, 3) := by decide +kernel
theorem dX8_costOf_26 : decode cX8_costOf 26 = .ok (.iload 4, 2) := by decide +kernel
theorem dX8_costOf_28 : decode cX8_costOf 28 = .ok (.iaload, 1) := by decide +kernel
theorem dX8_costOf_29 : decode cX8_costOf 29 = .ok (.iload_n 3, 1) := by decide +kernel
theorem dX8_costOf_30 : decode cX8_costOf 30 = .ok (.if_icmp .le 13, 3) := by decide +kernel
theorem dX8_costOf_33 : decode cX8_costOf 33 = .ok (.aload_n 0, 1) := by decide +kernel
theorem dX8_costOf_34 : decode cX8_costOf 34 = .ok (.getfield 32, 3) := by decide +kernel
theorem dX8_costOf_37 : decode cX8_costOf 37 = .ok (.iload 4, 2) := by decide +kernel
theorem dX8_costOf_39 : decode cX8_costOf 39 = .ok (.iaload, 1) := by decide +kernel
theorem dX8_costOf_40 : decode cX8_costOf 40 = .ok (.goto 4, 3) := by decide +kernel
theorem dX8_costOf_43 : decode cX8_costOf 43 = .ok (.iload_n 3, 1) := by decide +kernel
theorem dX8_costOf_44 : decode cX8_costOf 44 = .ok (.istore_n 3, 1) := by decide +kernel
theorem dX8_costOf_45 : decode cX8_costOf 45 = .ok (.iinc 4 1, 3) := by decide +kernel
theorem dX8_costOf_48 : decode cX8_costOf 48 = .ok (.goto (-38), 3) := by decide +kernel
theorem dX8_costOf_51 : decode cX8_costOf 51 = .ok (.iload_n 2, 1) := by decide +kernel
theorem dX8_costOf_52 : decode cX8_costOf 52 = .ok (.ifCond .ne 12, 3) := by decide +kernel
theorem dX8_costOf_55 : decode cX8_costOf 55 = .ok (.aload_n 0, 1) := by decide +kernel
theorem dX8_costOf_56 : decode cX8_costOf 56 = .ok (.getfield 32, 3) := by decide +kernel
theorem dX8_costOf_59 : decode cX8_costOf 59 = .ok (.iload_n 1, 1) := by decide +kernel
theorem dX8_costOf_60 : decode cX8_costOf 60 = .ok (.iaload, 1) := by decide +kernel
theorem dX8_costOf_61 : decode cX8_costOf 61 = .ok (.goto 4, 3) := by decide +kernel
theorem dX8_costOf_64 : decode cX8_costOf 64 = .ok (.iload_n 3, 1) := by decide +kernel
theorem dX8_costOf_65 : decode cX8_costOf 65 = .ok (.ireturn, 1) := by decide +kernel
theorem dX8_notes_0 : decode cX8_notes 0 = .ok (.aload_n 0, 1) := by decide +kernel
theorem dX8_notes_1 : decode cX8_notes 1 = .ok (.getfield 125, 3) := by decide +kernel
theorem dX8_notes_4 : decode cX8_notes 4 = .ok (.bipush 8, 2) := by decide +kernel
theorem dX8_notes_6 : decode cX8_notes 6 = .ok (.if_icmp .ne 43, 3) := by decide +kernel
theorem dX8_notes_9 : decode cX8_notes 9 = .ok (.iconst 0, 1) := by decide +kernel
theorem dX8_notes_10 : decode cX8_notes 10 = .ok (.istore_n 1, 1) := by decide +kernel
theorem dX8_notes_11 : decode cX8_notes 11 = .ok (.iload_n 1, 1) := by decide +kernel
theorem dX8_notes_12 : decode cX8_notes 12 = .ok (.sipush 700, 3) := by decide +kernel
theorem dX8_notes_15 : decode cX8_notes 15 = .ok (.if_icmp .ge 24, 3) := by decide +kernel
theorem dX8_notes_18 : decode cX8_notes 18 = .ok (.aload_n 0, 1) := by decide +kernel
theorem dX8_notes_19 : decode cX8_notes 19 = .ok (.getfield 16, 3) := by decide +kernel
theorem dX8_notes_22 : decode cX8_notes 22 = .ok (.iload_n 1, 1) := by decide +kernel
theorem dX8_notes_23 : decode cX8_notes 23 = .ok (.aload_n 0, 1) := by decide +kernel
theorem dX8_notes_24 : decode cX8_notes 24 = .ok (.getfield 16, 3) := by decide +kernel
theorem dX8_notes_27 : decode cX8_notes 27 = .ok (.iload_n 1, 1) := by decide +kernel
theorem dX8_notes_28 : decode cX8_notes 28 = .ok (.bipush 100, 2) := by decide +kernel
theorem dX8_notes_30 : decode cX8_notes 30 = .ok (.iadd, 1) := by decide +kernel
theorem dX8_notes_31 : decode cX8_notes 31 = .ok (.iaload, 1) := by decide +kernel
theorem dX8_notes_32 : decode cX8_notes 32 = .ok (.iastore, 1) := by decide +kernel
theorem dX8_notes_33 : decode cX8_notes 33 = .ok (.iinc 1 1, 3) := by decide +kernel
theorem dX8_notes_36 : decode cX8_notes 36 = .ok (.goto (-25), 3) := by decide +kernel
theorem dX8_notes_39 : decode cX8_notes 39 = .ok (.aload_n 0, 1) := by decide +kernel
theorem dX8_notes_40 : decode cX8_notes 40 = .ok (.dup, 1) := by decide +kernel
theorem dX8_notes_41 : decode cX8_notes 41 = .ok (.getfield 125, 3) := by decide +kernel
theorem dX8_notes_44 : decode cX8_notes 44 = .ok (.iconst 1, 1) := by decide +kernel
theorem dX8_notes_45 : decode cX8_notes 45 = .ok (.isub, 1) := by decide +kernel
theorem dX8_notes_46 : decode cX8_notes 46 = .ok (.putfield 125, 3) := by decide +kernel
theorem dX8_notes_49 : decode cX8_notes 49 = .ok (.aload_n 0, 1) := by decide +kernel
theorem dX8_notes_50 : decode cX8_notes 50 = .ok (.getfield 7, 3) := by decide +kernel
theorem dX8_notes_53 : decode cX8_notes 53 = .ok (.iconst 0, 1) := by decide +kernel
theorem dX8_notes_54 : decode cX8_notes 54 = .ok (.aload_n 0, 1) := by decide +kernel
theorem dX8_notes_55 : decode cX8_notes 55 = .ok (.getfield 16, 3) := by decide +kernel
theorem dX8_notes_58 : decode cX8_notes 58 = .ok (.bipush 100, 2) := by decide +kernel
theorem dX8_notes_60 : decode cX8_notes 60 = .ok (.aload_n 0, 1) := by decide +kernel
theorem dX8_notes_61 : decode cX8_notes 61 = .ok (.getfield 125, 3) := by decide +kernel
theorem dX8_notes_64 : decode cX8_notes 64 = .ok (.imul, 1) := by decide +kernel
theorem dX8_notes_65 : decode cX8_notes 65 = .ok (.invokestatic 108, 3) := by decide +kernel
theorem dX8_notes_68 : decode cX8_notes 68 = .ok (.aload_n 0, 1) := by decide +kernel
theorem dX8_notes_69 : decode cX8_notes 69 = .ok (.dup, 1) := by decide +kernel
theorem dX8_notes_70 : decode cX8_notes 70 = .ok (.getfield 125, 3) := by decide +kernel
theorem dX8_notes_73 : decode cX8_notes 73 = .ok (.iconst 1, 1) := by decide +kernel
theorem dX8_notes_74 : decode cX8_notes 74 = .ok (.iadd, 1) := by decide +kernel
theorem dX8_notes_75 : decode cX8_notes 75 = .ok (.putfield 125, 3) := by decide +kernel
theorem dX8_notes_78 : decode cX8_notes 78 = .ok (.return_, 1) := by decide +kernel
theorem dX8_manyBid_0 : decode cX8_manyBid 0 = .ok (.iconst 0, 1) := by decide +kernel
theorem dX8_manyBid_1 : decode cX8_manyBid 1 = .ok (.istore_n 1, 1) := by decide +kernel
theorem dX8_manyBid_2 : decode cX8_manyBid 2 = .ok (.iconst 0, 1) := by decide +kernel
theorem dX8_manyBid_3 : decode cX8_manyBid 3 = .ok (.istore_n 2, 1) := by decide +kernel
theorem dX8_manyBid_4 : decode cX8_manyBid 4 = .ok (.iload_n 2, 1) := by decide +kernel
theorem dX8_manyBid_5 : decode cX8_manyBid 5 = .ok (.aload_n 0, 1) := by decide +kernel
theorem dX8_manyBid_6 : decode cX8_manyBid 6 = .ok (.getfield 7, 3) := by decide +kernel
theorem dX8_manyBid_9 : decode cX8_manyBid 9 = .ok (.iconst 1, 1) := by decide +kernel
theorem dX8_manyBid_10 : decode cX8_manyBid 10 = .ok (.iaload, 1) := by decide +kernel
theorem dX8_manyBid_11 : decode cX8_manyBid 11 = .ok (.if_icmp .ge 32, 3) := by decide +kernel
theorem dX8_manyBid_14 : decode cX8_manyBid 14 = .ok (.iload_n 1, 1) := by decide +kernel
theorem dX8_manyBid_15 : decode cX8_manyBid 15 = .ok (.aload_n 0, 1) := by decide +kernel
theorem dX8_manyBid_16 : decode cX8_manyBid 16 = .ok (.getfield 7, 3) := by decide +kernel
theorem dX8_manyBid_19 : decode cX8_manyBid 19 = .ok (.iload_n 2, 1) := by decide +kernel
theorem dX8_manyBid_20 : decode cX8_manyBid 20 = .ok (.invokestatic 105, 3) := by decide +kernel
theorem dX8_manyBid_23 : decode cX8_manyBid 23 = .ok (.iconst 5, 1) := by decide +kernel
theorem dX8_manyBid_24 : decode cX8_manyBid 24 = .ok (.iadd, 1) := by decide +kernel
theorem dX8_manyBid_25 : decode cX8_manyBid 25 = .ok (.iaload, 1) := by decide +kernel
theorem dX8_manyBid_26 : decode cX8_manyBid 26 = .ok (.iconst (-1), 1) := by decide +kernel
theorem dX8_manyBid_27 : decode cX8_manyBid 27 = .ok (.if_icmp .ne 7, 3) := by decide +kernel
theorem dX8_manyBid_30 : decode cX8_manyBid 30 = .ok (.iconst 0, 1) := by decide +kernel
theorem dX8_manyBid_31 : decode cX8_manyBid 31 = .ok (.goto 4, 3) := by decide +kernel
theorem dX8_manyBid_34 : decode cX8_manyBid 34 = .ok (.iconst 1, 1) := by decide +kernel
theorem dX8_manyBid_35 : decode cX8_manyBid 35 = .ok (.iadd, 1) := by decide +kernel
theorem dX8_manyBid_36 : decode cX8_manyBid 36 = .ok (.istore_n 1, 1) := by decide +kernel
theorem dX8_manyBid_37 : decode cX8_manyBid 37 = .ok (.iinc 2 1, 3) := by decide +kernel
theorem dX8_manyBid_40 : decode cX8_manyBid 40 = .ok (.goto (-36), 3) := by decide +kernel
theorem dX8_manyBid_43 : decode cX8_manyBid 43 = .ok (.iload_n 1, 1) := by decide +kernel
theorem dX8_manyBid_44 : decode cX8_manyBid 44 = .ok (.ireturn, 1) := by decide +kernel
theorem dX8_bid_0 : decode cX8_bid 0 = .ok (.aload_n 0, 1) := by decide +kernel
theorem dX8_bid_1 : decode cX8_bid 1 = .ok (.iload_n 1, 1) := by decide +kernel
theorem dX8_bid_2 : decode cX8_bid 2 = .ok (.invokevirtual 131, 3) := by decide +kernel
theorem dX8_bid_5 : decode cX8_bid 5 = .ok (.ifCond .ne 6, 3) := by decide +kernel
theorem dX8_bid_8 : decode cX8_bid 8 = .ok (.bipush (-2), 2) := by decide +kernel
theorem dX8_bid_10 : decode cX8_bid 10 = .ok (.ireturn, 1) := by decide +kernel
theorem dX8_bid_11 : decode cX8_bid 11 = .ok (.iload_n 2, 1) := by decide +kernel
theorem dX8_bid_12 : decode cX8_bid 12 = .ok (.iconst (-1), 1) := by decide +kernel
theorem dX8_bid_13 : decode cX8_bid 13 = .ok (.bipush 99, 2) := by decide +kernel
theorem dX8_bid_15 : decode cX8_bid 15 = .ok (.invokestatic 35, 3) := by decide +kernel
theorem dX8_bid_18 : decode cX8_bid 18 = .ok (.ifCond .ne 6, 3) := by decide +kernel
theorem dX8_bid_21 : decode cX8_bid 21 = .ok (.bipush (-3), 2) := by decide +kernel
theorem dX8_bid_23 : decode cX8_bid 23 = .ok (.ireturn, 1) := by decide +kernel
theorem dX8_bid_24 : decode cX8_bid 24 = .ok (.iload_n 2, 1) := by decide +kernel
theorem dX8_bid_25 : decode cX8_bid 25 = .ok (.aload_n 0, 1) := by decide +kernel
theorem dX8_bid_26 : decode cX8_bid 26 = .ok (.getfield 7, 3) := by decide +kernel
theorem dX8_bid_29 : decode cX8_bid 29 = .ok (.iload_n 1, 1) := by decide +kernel
theorem dX8_bid_30 : decode cX8_bid 30 = .ok (.invokestatic 105, 3) := by decide +kernel
theorem dX8_bid_33 : decode cX8_bid 33 = .ok (.iconst 3, 1) := by decide +kernel
theorem dX8_bid_34 : decode cX8_bid 34 = .ok (.iadd, 1) := by decide +kernel
theorem dX8_bid_35 : decode cX8_bid 35 = .ok (.iaload, 1) := by decide +kernel
theorem dX8_bid_36 : decode cX8_bid 36 = .ok (.if_icmp .gt 10, 3) := by decide +kernel
theorem dX8_bid_39 : decode cX8_bid 39 = .ok (.aload_n 0, 1) := by decide +kernel
theorem dX8_bid_40 : decode cX8_bid 40 = .ok (.invokevirtual 141, 3) := by decide +kernel
theorem dX8_bid_43 : decode cX8_bid 43 = .ok (.ifCond .ne 6, 3) := by decide +kernel
theorem dX8_bid_46 : decode cX8_bid 46 = .ok (.bipush (-4), 2) := by decide +kernel
theorem dX8_bid_48 : decode cX8_bid 48 = .ok (.ireturn, 1) := by decide +kernel
theorem dX8_bid_49 : decode cX8_bid 49 = .ok (.aload_n 0, 1) := by decide +kernel
theorem dX8_bid_50 : decode cX8_bid 50 = .ok (.invokevirtual 144, 3) := by decide +kernel
theorem dX8_bid_53 : decode cX8_bid 53 = .ok (.aload_n 0, 1) := by decide +kernel
theorem dX8_bid_54 : decode cX8_bid 54 = .ok (.getfield 7, 3) := by decide +kernel
theorem dX8_bid_57 : decode cX8_bid 57 = .ok (.iload_n 1, 1) := by decide +kernel
theorem dX8_bid_58 : decode cX8_bid 58 = .ok (.invokestatic 105, 3) := by decide +kernel
theorem dX8_bid_61 : decode cX8_bid 61 = .ok (.iconst 5, 1) := by decide +kernel
theorem dX8_bid_62 : decode cX8_bid 62 = .ok (.iadd, 1) := by decide +kernel
theorem dX8_bid_63 : decode cX8_bid 63 = .ok (.iload_n 2, 1) := by decide +kernel
theorem dX8_bid_64 : decode cX8_bid 64 = .ok (.iastore, 1) := by decide +kernel
theorem dX8_bid_65 : decode cX8_bid 65 = .ok (.aload_n 0, 1) := by decide +kernel
theorem dX8_bid_66 : decode cX8_bid 66 = .ok (.invokevirtual 147, 3) := by decide +kernel
theorem dX8_bid_69 : decode cX8_bid 69 = .ok (.ireturn, 1) := by decide +kernel
theorem dX8_isBright_0 : decode cX8_isBright 0 = .ok (.aload_n 0, 1) := by decide +kernel
theorem dX8_isBright_1 : decode cX8_isBright 1 = .ok (.getfield 7, 3) := by decide +kernel
theorem dX8_isBright_4 : decode cX8_isBright 4 = .ok (.iconst 2, 1) := by decide +kernel
theorem dX8_isBright_5 : decode cX8_isBright 5 = .ok (.iaload, 1) := by decide +kernel
theorem dX8_isBright_6 : decode cX8_isBright 6 = .ok (.istore_n 2, 1) := by decide +kernel
theorem dX8_isBright_7 : decode cX8_isBright 7 = .ok (.ldc2_w 150, 3) := by decide +kernel
theorem dX8_isBright_10 : decode cX8_isBright 10 = .ok (.iload_n 1, 1) := by decide +kernel
theorem dX8_isBright_11 : decode cX8_isBright 11 = .ok (.i2l, 1) := by decide +kernel
theorem dX8_isBright_12 : decode cX8_isBright 12 = .ok (.lmul, 1) := by decide +kernel
theorem dX8_isBright_13 : decode cX8_isBright 13 = .ok (.ldc2_w 152, 3) := by decide +kernel
theorem dX8_isBright_16 : decode cX8_isBright 16 = .ok (.iload_n 2, 1) := by decide +kernel
theorem dX8_isBright_17 : decode cX8_isBright 17 = .ok (.i2l, 1) := by decide +kernel
theorem dX8_isBright_18 : decode cX8_isBright 18 = .ok (.lmul, 1) := by decide +kernel
theorem dX8_isBright_19 : decode cX8_isBright 19 = .ok (.ladd, 1) := by decide +kernel
theorem dX8_isBright_20 : decode cX8_isBright 20 = .ok (.lconst 1, 1) := by decide +kernel
theorem dX8_isBright_21 : decode cX8_isBright 21 = .ok (.ladd, 1) := by decide +kernel
theorem dX8_isBright_22 : decode cX8_isBright 22 = .ok (.lstore_n 3, 1) := by decide +kernel
theorem dX8_isBright_23 : decode cX8_isBright 23 = .ok (.lload_n 3, 1) := by decide +kernel
theorem dX8_isBright_24 : decode cX8_isBright 24 = .ok (.lload_n 3, 1) := by decide +kernel
theorem dX8_isBright_25 : decode cX8_isBright 25 = .ok (.lmul, 1) := by decide +kernel
theorem dX8_isBright_26 : decode cX8_isBright 26 = .ok (.ldc2_w 154, 3) := by decide +kernel
theorem dX8_isBright_29 : decode cX8_isBright 29 = .ok (.lrem, 1) := by decide +kernel
theorem dX8_isBright_30 : decode cX8_isBright 30 = .ok (.ldc2_w 156, 3) := by decide +kernel
theorem dX8_isBright_33 : decode cX8_isBright 33 = .ok (.lrem, 1) := by decide +kernel
theorem dX8_isBright_34 : decode cX8_isBright 34 = .ok (.aload_n 0, 1) := by decide +kernel
theorem dX8_isBright_35 : decode cX8_isBright 35 = .ok (.getfield 7, 3) := by decide +kernel
theorem dX8_isBright_38 : decode cX8_isBright 38 = .ok (.iload_n 2, 1) := by decide +kernel
theorem dX8_isBright_39 : decode cX8_isBright 39 = .ok (.invokestatic 98, 3) := by decide +kernel
theorem dX8_isBright_42 : decode cX8_isBright 42 = .ok (.iconst 1, 1) := by decide +kernel
theorem dX8_isBright_43 : decode cX8_isBright 43 = .ok (.iadd, 1) := by decide +kernel
theorem dX8_isBright_44 : decode cX8_isBright 44 = .ok (.iaload, 1) := by decide +kernel
theorem dX8_isBright_45 : decode cX8_isBright 45 = .ok (.i2l, 1) := by decide +kernel
theorem dX8_isBright_46 : decode cX8_isBright 46 = .ok (.lcmp, 1) := by decide +kernel
theorem dX8_isBright_47 : decode cX8_isBright 47 = .ok (.ifCond .ge 7, 3) := by decide +kernel
theorem dX8_isBright_50 : decode cX8_isBright 50 = .ok (.iconst 1, 1) := by decide +kernel
theorem dX8_isBright_51 : decode cX8_isBright 51 = .ok (.goto 4, 3) := by decide +kernel
theorem dX8_isBright_54 : decode cX8_isBright 54 = .ok (.iconst 0, 1) := by decide +kernel
theorem dX8_isBright_55 : decode cX8_isBright 55 = .ok (.ireturn, 1) := by decide +kernel
theorem dX8_sale_0 : decode cX8_sale 0 = .ok (.iload_n 1, 1) := by decide +kernel
theorem dX8_sale_1 : decode cX8_sale 1 = .ok (.iconst 0, 1) := by decide +kernel
theorem dX8_sale_2 : decode cX8_sale 2 = .ok (.sipush 9999, 3) := by decide +kernel
theorem dX8_sale_5 : decode cX8_sale 5 = .ok (.invokestatic 35, 3) := by decide +kernel
theorem dX8_sale_8 : decode cX8_sale 8 = .ok (.ifCond .ne 6, 3) := by decide +kernel
theorem dX8_sale_11 : decode cX8_sale 11 = .ok (.bipush (-3), 2) := by decide +kernel
theorem dX8_sale_13 : decode cX8_sale 13 = .ok (.ireturn, 1) := by decide +kernel
theorem dX8_sale_14 : decode cX8_sale 14 = .ok (.aload_n 0, 1) := by decide +kernel
theorem dX8_sale_15 : decode cX8_sale 15 = .ok (.invokevirtual 141, 3) := by decide +kernel
theorem dX8_sale_18 : decode cX8_sale 18 = .ok (.ifCond .ne 6, 3) := by decide +kernel
theorem dX8_sale_21 : decode cX8_sale 21 = .ok (.bipush (-4), 2) := by decide +kernel
theorem dX8_sale_23 : decode cX8_sale 23 = .ok (.ireturn, 1) := by decide +kernel
theorem dX8_sale_24 : decode cX8_sale 24 = .ok (.aload_n 0, 1) := by decide +kernel
theorem dX8_sale_25 : decode cX8_sale 25 = .ok (.invokevirtual 144, 3) := by decide +kernel
theorem dX8_sale_28 : decode cX8_sale 28 = .ok (.aload_n 0, 1) := by decide +kernel
theorem dX8_sale_29 : decode cX8_sale 29 = .ok (.invokevirtual 158, 3) := by decide +kernel
theorem dX8_sale_32 : decode cX8_sale 32 = .ok (.aload_n 0, 1) := by decide +kernel
theorem dX8_sale_33 : decode cX8_sale 33 = .ok (.invokevirtual 161, 3) := by decide +kernel
theorem dX8_sale_36 : decode cX8_sale 36 = .ok (.istore_n 2, 1) := by decide +kernel
theorem dX8_sale_37 : decode cX8_sale 37 = .ok (.aload_n 0, 1) := by decide +kernel
theorem dX8_sale_38 : decode cX8_sale 38 = .ok (.getfield 7, 3) := by decide +kernel
theorem dX8_sale_41 : decode cX8_sale 41 = .ok (.iconst 2, 1) := by decide +kernel
theorem dX8_sale_42 : decode cX8_sale 42 = .ok (.iaload, 1) := by decide +kernel
theorem dX8_sale_43 : decode cX8_sale 43 = .ok (.invokestatic 98, 3) := by decide +kernel
theorem dX8_sale_46 : decode cX8_sale 46 = .ok (.istore_n 3, 1) := by decide +kernel
theorem dX8_sale_47 : decode cX8_sale 47 = .ok (.aload_n 0, 1) := by decide +kernel
theorem dX8_sale_48 : decode cX8_sale 48 = .ok (.iload_n 1, 1) := by decide +kernel
theorem dX8_sale_49 : decode cX8_sale 49 = .ok (.invokevirtual 164, 3) := by decide +kernel
theorem dX8_sale_52 : decode cX8_sale 52 = .ok (.istore 4, 2) := by decide +kernel
theorem dX8_sale_54 : decode cX8_sale 54 = .ok (.iconst 0, 1) := by decide +kernel
theorem dX8_sale_55 : decode cX8_sale 55 = .ok (.istore 5, 2) := by decide +kernel
theorem dX8_sale_57 : decode cX8_sale 57 = .ok (.aload_n 0, 1) := by decide +kernel
theorem dX8_sale_58 : decode cX8_sale 58 = .ok (.getfield 7, 3) := by decide +kernel
theorem dX8_sale_61 : decode cX8_sale 61 = .ok (.iload_n 3, 1) := by decide +kernel
theorem dX8_sale_62 : decode cX8_sale 62 = .ok (.iconst 5, 1) := by decide +kernel
theorem dX8_sale_63 : decode cX8_sale 63 = .ok (.iadd, 1) := by decide +kernel
theorem dX8_sale_64 : decode cX8_sale 64 = .ok (.iload 4, 2) := by decide +kernel
theorem dX8_sale_66 : decode cX8_sale 66 = .ok (.ifCond .eq 7, 3) := by decide +kernel
theorem dX8_sale_69 : decode cX8_sale 69 = .ok (.iconst 1, 1) := by decide +kernel
theorem dX8_sale_70 : decode cX8_sale 70 = .ok (.goto 4, 3) := by decide +kernel
theorem dX8_sale_73 : decode cX8_sale 73 = .ok (.iconst 0, 1) := by decide +kernel
theorem dX8_sale_74 : decode cX8_sale 74 = .ok (.iastore, 1) := by decide +kernel
theorem dX8_sale_75 : decode cX8_sale 75 = .ok (.aload_n 0, 1) := by decide +kernel
theorem dX8_sale_76 : decode cX8_sale 76 = .ok (.getfield 7, 3) := by decide +kernel
theorem dX8_sale_79 : decode cX8_sale 79 = .ok (.iload_n 3, 1) := by decide +kernel
theorem dX8_sale_80 : decode cX8_sale 80 = .ok (.iconst 3, 1) := by decide +kernel
theorem dX8_sale_81 : decode cX8_sale 81 = .ok (.iadd, 1) := by decide +kernel
theorem dX8_sale_82 : decode cX8_sale 82 = .ok (.iload_n 2, 1) := by decide +kernel
theorem dX8_sale_83 : decode cX8_sale 83 = .ok (.iastore, 1) := by decide +kernel
theorem dX8_sale_84 : decode cX8_sale 84 = .ok (.iload_n 2, 1) := by decide +kernel
theorem dX8_sale_85 : decode cX8_sale 85 = .ok (.iconst (-1), 1) := by decide +kernel
theorem dX8_sale_86 : decode cX8_sale 86 = .ok (.if_icmp .eq 101, 3) := by decide +kernel
theorem dX8_sale_89 : decode cX8_sale 89 = .ok (.aload_n 0, 1) := by decide +kernel
theorem dX8_sale_90 : decode cX8_sale 90 = .ok (.iload_n 2, 1) := by decide +kernel
theorem dX8_sale_91 : decode cX8_sale 91 = .ok (.aload_n 0, 1) := by decide +kernel
theorem dX8_sale_92 : decode cX8_sale 92 = .ok (.getfield 7, 3) := by decide +kernel
theorem dX8_sale_95 : decode cX8_sale 95 = .ok (.iconst 3, 1) := by decide +kernel
theorem dX8_sale_96 : decode cX8_sale 96 = .ok (.iaload, 1) := by decide +kernel
theorem dX8_sale_97 : decode cX8_sale 97 = .ok (.invokevirtual 167, 3) := by decide +kernel
theorem dX8_sale_100 : decode cX8_sale 100 = .ok (.istore 5, 2) := by decide +kernel
theorem dX8_sale_102 : decode cX8_sale 102 = .ok (.iload 5, 2) := by decide +kernel
theorem dX8_sale_104 : decode cX8_sale 104 = .ok (.iload 4, 2) := by decide +kernel
theorem dX8_sale_106 : decode cX8_sale 106 = .ok (.ifCond .eq 7, 3) := by decide +kernel
theorem dX8_sale_109 : decode cX8_sale 109 = .ok (.iconst 0, 1) := by decide +kernel
theorem dX8_sale_110 : decode cX8_sale 110 = .ok (.goto 15, 3) := by decide +kernel
theorem dX8_sale_113 : decode cX8_sale 113 = .ok (.aload_n 0, 1) := by decide +kernel
theorem dX8_sale_114 : decode cX8_sale 114 = .ok (.aload_n 0, 1) := by decide +kernel
theorem dX8_sale_115 : decode cX8_sale 115 = .ok (.getfield 7, 3) := by decide +kernel
theorem dX8_sale_118 : decode cX8_sale 118 = .ok (.iconst 2, 1) := by decide +kernel
theorem dX8_sale_119 : decode cX8_sale 119 = .ok (.iaload, 1) := by decide +kernel
theorem dX8_sale_120 : decode cX8_sale 120 = .ok (.iload 5, 2) := by decide +kernel
theorem dX8_sale_122 : decode cX8_sale 122 = .ok (.invokevirtual 138, 3) := by decide +kernel
theorem dX8_sale_125 : decode cX8_sale 125 = .ok (.isub, 1) := by decide +kernel
theorem dX8_sale_126 : decode cX8_sale 126 = .ok (.istore 6, 2) := by decide +kernel
theorem dX8_sale_128 : decode cX8_sale 128 = .ok (.aload_n 0, 1) := by decide +kernel
theorem dX8_sale_129 : decode cX8_sale 129 = .ok (.getfield 7, 3) := by decide +kernel
theorem dX8_sale_132 : decode cX8_sale 132 = .ok (.iload_n 3, 1) := by decide +kernel
theorem dX8_sale_133 : decode cX8_sale 133 = .ok (.iconst 4, 1) := by decide +kernel
theorem dX8_sale_134 : decode cX8_sale 134 = .ok (.iadd, 1) := by decide +kernel
theorem dX8_sale_135 : decode cX8_sale 135 = .ok (.iload 5, 2) := by decide +kernel
theorem dX8_sale_137 : decode cX8_sale 137 = .ok (.iastore, 1) := by decide +kernel
theorem dX8_sale_138 : decode cX8_sale 138 = .ok (.aload_n 0, 1) := by decide +kernel
theorem dX8_sale_139 : decode cX8_sale 139 = .ok (.getfield 7, 3) := by decide +kernel
theorem dX8_sale_142 : decode cX8_sale 142 = .ok (.iload_n 2, 1) := by decide +kernel
theorem dX8_sale_143 : decode cX8_sale 143 = .ok (.invokestatic 105, 3) := by decide +kernel
theorem dX8_sale_146 : decode cX8_sale 146 = .ok (.iconst 3, 1) := by decide +kernel
theorem dX8_sale_147 : decode cX8_sale 147 = .ok (.iadd, 1) := by decide +kernel
theorem dX8_sale_148 : decode cX8_sale 148 = .ok (.dup2, 1) := by decide +kernel
theorem dX8_sale_149 : decode cX8_sale 149 = .ok (.iaload, 1) := by decide +kernel
theorem dX8_sale_150 : decode cX8_sale 150 = .ok (.iload 6, 2) := by decide +kernel
theorem dX8_sale_152 : decode cX8_sale 152 = .ok (.isub, 1) := by decide +kernel
theorem dX8_sale_153 : decode cX8_sale 153 = .ok (.iastore, 1) := by decide +kernel
theorem dX8_sale_154 : decode cX8_sale 154 = .ok (.aload_n 0, 1) := by decide +kernel
theorem dX8_sale_155 : decode cX8_sale 155 = .ok (.getfield 7, 3) := by decide +kernel
theorem dX8_sale_158 : decode cX8_sale 158 = .ok (.iload_n 2, 1) := by decide +kernel
theorem dX8_sale_159 : decode cX8_sale 159 = .ok (.invokestatic 105, 3) := by decide +kernel
theorem dX8_sale_162 : decode cX8_sale 162 = .ok (.iconst 4, 1) := by decide +kernel
theorem dX8_sale_163 : decode cX8_sale 163 = .ok (.iadd, 1) := by decide +kernel
theorem dX8_sale_164 : decode cX8_sale 164 = .ok (.dup2, 1) := by decide +kernel
theorem dX8_sale_165 : decode cX8_sale 165 = .ok (.iaload, 1) := by decide +kernel
theorem dX8_sale_166 : decode cX8_sale 166 = .ok (.aload_n 0, 1) := by decide +kernel
theorem dX8_sale_167 : decode cX8_sale 167 = .ok (.iload_n 2, 1) := by decide +kernel
theorem dX8_sale_168 : decode cX8_sale 168 = .ok (.iload 4, 2) := by decide +kernel
theorem dX8_sale_170 : decode cX8_sale 170 = .ok (.invokevirtual 134, 3) := by decide +kernel
theorem dX8_sale_173 : decode cX8_sale 173 = .ok (.iadd, 1) := by decide +kernel
theorem dX8_sale_174 : decode cX8_sale 174 = .ok (.iastore, 1) := by decide +kernel
theorem dX8_sale_175 : decode cX8_sale 175 = .ok (.aload_n 0, 1) := by decide +kernel
theorem dX8_sale_176 : decode cX8_sale 176 = .ok (.getfield 7, 3) := by decide +kernel
theorem dX8_sale_179 : decode cX8_sale 179 = .ok (.bipush 6, 2) := by decide +kernel
theorem dX8_sale_181 : decode cX8_sale 181 = .ok (.dup2, 1) := by decide +kernel
theorem dX8_sale_182 : decode cX8_sale 182 = .ok (.iaload, 1) := by decide +kernel
theorem dX8_sale_183 : decode cX8_sale 183 = .ok (.iload 6, 2) := by decide +kernel
theorem dX8_sale_185 : decode cX8_sale 185 = .ok (.iadd, 1) := by decide +kernel
theorem dX8_sale_186 : decode cX8_sale 186 = .ok (.iastore, 1) := by decide +kernel
theorem dX8_sale_187 : decode cX8_sale 187 = .ok (.iconst 0, 1) := by decide +kernel
theorem dX8_sale_188 : decode cX8_sale 188 = .ok (.istore 6, 2) := by decide +kernel
theorem dX8_sale_190 : decode cX8_sale 190 = .ok (.iload 6, 2) := by decide +kernel
theorem dX8_sale_192 : decode cX8_sale 192 = .ok (.iconst 5, 1) := by decide +kernel
theorem dX8_sale_193 : decode cX8_sale 193 = .ok (.if_icmp .ge 22, 3) := by decide +kernel
theorem dX8_sale_196 : decode cX8_sale 196 = .ok (.aload_n 0, 1) := by decide +kernel
theorem dX8_sale_197 : decode cX8_sale 197 = .ok (.getfield 7, 3) := by decide +kernel
theorem dX8_sale_200 : decode cX8_sale 200 = .ok (.iload 6, 2) := by decide +kernel
theorem dX8_sale_202 : decode cX8_sale 202 = .ok (.invokestatic 105, 3) := by decide +kernel
theorem dX8_sale_205 : decode cX8_sale 205 = .ok (.iconst 5, 1) := by decide +kernel
theorem dX8_sale_206 : decode cX8_sale 206 = .ok (.iadd, 1) := by decide +kernel
theorem dX8_sale_207 : decode cX8_sale 207 = .ok (.iconst (-1), 1) := by decide +kernel
theorem dX8_sale_208 : decode cX8_sale 208 = .ok (.iastore, 1) := by decide +kernel
theorem dX8_sale_209 : decode cX8_sale 209 = .ok (.iinc 6 1, 3) := by decide +kernel
theorem dX8_sale_212 : decode cX8_sale 212 = .ok (.goto (-22), 3) := by decide +kernel
theorem dX8_sale_215 : decode cX8_sale 215 = .ok (.aload_n 0, 1) := by decide +kernel
theorem dX8_sale_216 : decode cX8_sale 216 = .ok (.getfield 7, 3) := by decide +kernel
theorem dX8_sale_219 : decode cX8_sale 219 = .ok (.iconst 2, 1) := by decide +kernel
theorem dX8_sale_220 : decode cX8_sale 220 = .ok (.dup2, 1) := by decide +kernel
theorem dX8_sale_221 : decode cX8_sale 221 = .ok (.iaload, 1) := by decide +kernel
theorem dX8_sale_222 : decode cX8_sale 222 = .ok (.iconst 1, 1) := by decide +kernel
theorem dX8_sale_223 : decode cX8_sale 223 = .ok (.iadd, 1) := by decide +kernel
theorem dX8_sale_224 : decode cX8_sale 224 = .ok (.iastore, 1) := by decide +kernel
theorem dX8_sale_225 : decode cX8_sale 225 = .ok (.iload_n 2, 1) := by decide +kernel
theorem dX8_sale_226 : decode cX8_sale 226 = .ok (.iconst (-1), 1) := by decide +kernel
theorem dX8_sale_227 : decode cX8_sale 227 = .ok (.if_icmp .ne 7, 3) := by decide +kernel
theorem dX8_sale_230 : decode cX8_sale 230 = .ok (.iconst (-1), 1) := by decide +kernel
theorem dX8_sale_231 : decode cX8_sale 231 = .ok (.goto 5, 3) := by decide +kernel
theorem dX8_sale_234 : decode cX8_sale 234 = .ok (.iload 5, 2) := by decide +kernel
theorem dX8_sale_236 : decode cX8_sale 236 = .ok (.ireturn, 1) := by decide +kernel
theorem dX8_price_0 : decode cX8_price 0 = .ok (.aload_n 0, 1) := by decide +kernel
theorem dX8_price_1 : decode cX8_price 1 = .ok (.iload_n 1, 1) := by decide +kernel
theorem dX8_price_2 : decode cX8_price 2 = .ok (.invokevirtual 128, 3) := by decide +kernel
theorem dX8_price_5 : decode cX8_price 5 = .ok (.ifCond .ne 6, 3) := by decide +kernel
theorem dX8_price_8 : decode cX8_price 8 = .ok (.bipush (-2), 2) := by decide +kernel
theorem dX8_price_10 : decode cX8_price 10 = .ok (.ireturn, 1) := by decide +kernel
theorem dX8_price_11 : decode cX8_price 11 = .ok (.iload_n 2, 1) := by decide +kernel
theorem dX8_price_12 : decode cX8_price 12 = .ok (.iconst 0, 1) := by decide +kernel
theorem dX8_price_13 : decode cX8_price 13 = .ok (.bipush 99, 2) := by decide +kernel
theorem dX8_price_15 : decode cX8_price 15 = .ok (.invokestatic 35, 3) := by decide +kernel
theorem dX8_price_18 : decode cX8_price 18 = .ok (.ifCond .ne 6, 3) := by decide +kernel
theorem dX8_price_21 : decode cX8_price 21 = .ok (.bipush (-3), 2) := by decide +kernel
theorem dX8_price_23 : decode cX8_price 23 = .ok (.ireturn, 1) := by decide +kernel
theorem dX8_price_24 : decode cX8_price 24 = .ok (.aload_n 0, 1) := by decide +kernel
theorem dX8_price_25 : decode cX8_price 25 = .ok (.invokevirtual 144, 3) := by decide +kernel
theorem dX8_price_28 : decode cX8_price 28 = .ok (.aload_n 0, 1) := by decide +kernel
theorem dX8_price_29 : decode cX8_price 29 = .ok (.getfield 7, 3) := by decide +kernel
theorem dX8_price_32 : decode cX8_price 32 = .ok (.iload_n 1, 1) := by decide +kernel
theorem dX8_price_33 : decode cX8_price 33 = .ok (.invokestatic 98, 3) := by decide +kernel
theorem dX8_price_36 : decode cX8_price 36 = .ok (.iconst 2, 1) := by decide +kernel
theorem dX8_price_37 : decode cX8_price 37 = .ok (.iadd, 1) := by decide +kernel
theorem dX8_price_38 : decode cX8_price 38 = .ok (.iaload, 1) := by decide +kernel
theorem dX8_price_39 : decode cX8_price 39 = .ok (.istore_n 3, 1) := by decide +kernel
theorem dX8_price_40 : decode cX8_price 40 = .ok (.aload_n 0, 1) := by decide +kernel
theorem dX8_price_41 : decode cX8_price 41 = .ok (.getfield 7, 3) := by decide +kernel
theorem dX8_price_44 : decode cX8_price 44 = .ok (.iload_n 1, 1) := by decide +kernel
theorem dX8_price_45 : decode cX8_price 45 = .ok (.invokestatic 98, 3) := by decide +kernel
theorem dX8_price_48 : decode cX8_price 48 = .ok (.iconst 2, 1) := by decide +kernel
theorem dX8_price_49 : decode cX8_price 49 = .ok (.iadd, 1) := by decide +kernel
theorem dX8_price_50 : decode cX8_price 50 = .ok (.iload_n 2, 1) := by decide +kernel
theorem dX8_price_51 : decode cX8_price 51 = .ok (.iastore, 1) := by decide +kernel
theorem dX8_price_52 : decode cX8_price 52 = .ok (.iload_n 3, 1) := by decide +kernel
theorem dX8_price_53 : decode cX8_price 53 = .ok (.ireturn, 1) := by decide +kernel
theorem dX8_isTeller_0 : decode cX8_isTeller 0 = .ok (.iload_n 0, 1) := by decide +kernel
theorem dX8_isTeller_1 : decode cX8_isTeller 1 = .ok (.iconst 0, 1) := by decide +kernel
theorem dX8_isTeller_2 : decode cX8_isTeller 2 = .ok (.iconst 2, 1) := by decide +kernel
theorem dX8_isTeller_3 : decode cX8_isTeller 3 = .ok (.invokestatic 35, 3) := by decide +kernel
theorem dX8_isTeller_6 : decode cX8_isTeller 6 = .ok (.ireturn, 1) := by decide +kernel
theorem dX8_says_0 : decode cX8_says 0 = .ok (.iload_n 1, 1) := by decide +kernel
theorem dX8_says_1 : decode cX8_says 1 = .ok (.invokestatic 170, 3) := by decide +kernel
theorem dX8_says_4 : decode cX8_says 4 = .ok (.ifCond .eq 11, 3) := by decide +kernel
theorem dX8_says_7 : decode cX8_says 7 = .ok (.aload_n 0, 1) := by decide +kernel
theorem dX8_says_8 : decode cX8_says 8 = .ok (.iload_n 2, 1) := by decide +kernel
theorem dX8_says_9 : decode cX8_says 9 = .ok (.invokevirtual 128, 3) := by decide +kernel
theorem dX8_says_12 : decode cX8_says 12 = .ok (.ifCond .ne 6, 3) := by decide +kernel
theorem dX8_says_15 : decode cX8_says 15 = .ok (.bipush (-2), 2) := by decide +kernel
theorem dX8_says_17 : decode cX8_says 17 = .ok (.ireturn, 1) := by decide +kernel
theorem dX8_says_18 : decode cX8_says 18 = .ok (.iload_n 3, 1) := by decide +kernel
theorem dX8_says_19 : decode cX8_says 19 = .ok (.iconst 0, 1) := by decide +kernel
theorem dX8_says_20 : decode cX8_says 20 = .ok (.bipush 10, 2) := by decide +kernel
theorem dX8_says_22 : decode cX8_says 22 = .ok (.invokestatic 35, 3) := by decide +kernel
theorem dX8_says_25 : decode cX8_says 25 = .ok (.ifCond .ne 6, 3) := by decide +kernel
theorem dX8_says_28 : decode cX8_says 28 = .ok (.bipush (-3), 2) := by decide +kernel
theorem dX8_says_30 : decode cX8_says 30 = .ok (.ireturn, 1) := by decide +kernel
theorem dX8_says_31 : decode cX8_says 31 = .ok (.iload_n 2, 1) := by decide +kernel
theorem dX8_says_32 : decode cX8_says 32 = .ok (.aload_n 0, 1) := by decide +kernel
theorem dX8_says_33 : decode cX8_says 33 = .ok (.getfield 7, 3) := by decide +kernel
theorem dX8_says_36 : decode cX8_says 36 = .ok (.iconst 2, 1) := by decide +kernel
theorem dX8_says_37 : decode cX8_says 37 = .ok (.iaload, 1) := by decide +kernel
theorem dX8_says_38 : decode cX8_says 38 = .ok (.if_icmp .ge 6, 3) := by decide +kernel
theorem dX8_says_41 : decode cX8_says 41 = .ok (.bipush (-4), 2) := by decide +kernel
theorem dX8_says_43 : decode cX8_says 43 = .ok (.ireturn, 1) := by decide +kernel
theorem dX8_says_44 : decode cX8_says 44 = .ok (.aload_n 0, 1) := by decide +kernel
theorem dX8_says_45 : decode cX8_says 45 = .ok (.invokevirtual 144, 3) := by decide +kernel
theorem dX8_says_48 : decode cX8_says 48 = .ok (.iload_n 2, 1) := by decide +kernel
theorem dX8_says_49 : decode cX8_says 49 = .ok (.invokestatic 98, 3) := by decide +kernel
theorem dX8_says_52 : decode cX8_says 52 = .ok (.bipush 6, 2) := by decide +kernel
theorem dX8_says_54 : decode cX8_says 54 = .ok (.iadd, 1) := by decide +kernel
theorem dX8_says_55 : decode cX8_says 55 = .ok (.iload_n 1, 1) := by decide +kernel
theorem dX8_says_56 : decode cX8_says 56 = .ok (.iadd, 1) := by decide +kernel
theorem dX8_says_57 : decode cX8_says 57 = .ok (.istore 4, 2) := by decide +kernel
theorem dX8_says_59 : decode cX8_says 59 = .ok (.aload_n 0, 1) := by decide +kernel
theorem dX8_says_60 : decode cX8_says 60 = .ok (.getfield 7, 3) := by decide +kernel
theorem dX8_says_63 : decode cX8_says 63 = .ok (.iload 4, 2) := by decide +kernel
theorem dX8_says_65 : decode cX8_says 65 = .ok (.iaload, 1) := by decide +kernel
theorem dX8_says_66 : decode cX8_says 66 = .ok (.istore 5, 2) := by decide +kernel
theorem dX8_says_68 : decode cX8_says 68 = .ok (.aload_n 0, 1) := by decide +kernel
theorem dX8_says_69 : decode cX8_says 69 = .ok (.getfield 7, 3) := by decide +kernel
theorem dX8_says_72 : decode cX8_says 72 = .ok (.iload 4, 2) := by decide +kernel
theorem dX8_says_74 : decode cX8_says 74 = .ok (.iload_n 3, 1) := by decide +kernel
theorem dX8_says_75 : decode cX8_says 75 = .ok (.iastore, 1) := by decide +kernel
theorem dX8_says_76 : decode cX8_says 76 = .ok (.iload 5, 2) := by decide +kernel
theorem dX8_says_78 : decode cX8_says 78 = .ok (.ireturn, 1) := by decide +kernel
theorem dX8_undo_0 : decode cX8_undo 0 = .ok (.aload_n 0, 1) := by decide +kernel
theorem dX8_undo_1 : decode cX8_undo 1 = .ok (.getfield 125, 3) := by decide +kernel
theorem dX8_undo_4 : decode cX8_undo 4 = .ok (.ifCond .ne 6, 3) := by decide +kernel
theorem dX8_undo_7 : decode cX8_undo 7 = .ok (.bipush (-4), 2) := by decide +kernel
theorem dX8_undo_9 : decode cX8_undo 9 = .ok (.ireturn, 1) := by decide +kernel
theorem dX8_undo_10 : decode cX8_undo 10 = .ok (.aload_n 0, 1) := by decide +kernel
theorem dX8_undo_11 : decode cX8_undo 11 = .ok (.dup, 1) := by decide +kernel
theorem dX8_undo_12 : decode cX8_undo 12 = .ok (.getfield 125, 3) := by decide +kernel
theorem dX8_undo_15 : decode cX8_undo 15 = .ok (.iconst 1, 1) := by decide +kernel
theorem dX8_undo_16 : decode cX8_undo 16 = .ok (.isub, 1) := by decide +kernel
theorem dX8_undo_17 : decode cX8_undo 17 = .ok (.putfield 125, 3) := by decide +kernel
theorem dX8_undo_20 : decode cX8_undo 20 = .ok (.aload_n 0, 1) := by decide +kernel
theorem dX8_undo_21 : decode cX8_undo 21 = .ok (.getfield 16, 3) := by decide +kernel
theorem dX8_undo_24 : decode cX8_undo 24 = .ok (.bipush 100, 2) := by decide +kernel
theorem dX8_undo_26 : decode cX8_undo 26 = .ok (.aload_n 0, 1) := by decide +kernel
theorem dX8_undo_27 : decode cX8_undo 27 = .ok (.getfield 125, 3) := by decide +kernel
theorem dX8_undo_30 : decode cX8_undo 30 = .ok (.imul, 1) := by decide +kernel
theorem dX8_undo_31 : decode cX8_undo 31 = .ok (.aload_n 0, 1) := by decide +kernel
theorem dX8_undo_32 : decode cX8_undo 32 = .ok (.getfield 7, 3) := by decide +kernel
theorem dX8_undo_35 : decode cX8_undo 35 = .ok (.iconst 0, 1) := by decide +kernel
theorem dX8_undo_36 : decode cX8_undo 36 = .ok (.invokestatic 108, 3) := by decide +kernel
theorem dX8_undo_39 : decode cX8_undo 39 = .ok (.aload_n 0, 1) := by decide +kernel
theorem dX8_undo_40 : decode cX8_undo 40 = .ok (.getfield 125, 3) := by decide +kernel
theorem dX8_undo_43 : decode cX8_undo 43 = .ok (.ireturn, 1) := by decide +kernel
theorem dX8_keep_0 : decode cX8_keep 0 = .ok (.iload_n 1, 1) := by decide +kernel
theorem dX8_keep_1 : decode cX8_keep 1 = .ok (.iconst 0, 1) := by decide +kernel
theorem dX8_keep_2 : decode cX8_keep 2 = .ok (.iconst 1, 1) := by decide +kernel
theorem dX8_keep_3 : decode cX8_keep 3 = .ok (.invokestatic 35, 3) := by decide +kernel
theorem dX8_keep_6 : decode cX8_keep 6 = .ok (.ifCond .ne 6, 3) := by decide +kernel
theorem dX8_keep_9 : decode cX8_keep 9 = .ok (.bipush (-2), 2) := by decide +kernel
theorem dX8_keep_11 : decode cX8_keep 11 = .ok (.ireturn, 1) := by decide +kernel
theorem dX8_keep_12 : decode cX8_keep 12 = .ok (.aload_n 0, 1) := by decide +kernel
theorem dX8_keep_13 : decode cX8_keep 13 = .ok (.getfield 7, 3) := by decide +kernel
theorem dX8_keep_16 : decode cX8_keep 16 = .ok (.iconst 0, 1) := by decide +kernel
theorem dX8_keep_17 : decode cX8_keep 17 = .ok (.aload_n 0, 1) := by decide +kernel
theorem dX8_keep_18 : decode cX8_keep 18 = .ok (.getfield 19, 3) := by decide +kernel
theorem dX8_keep_21 : decode cX8_keep 21 = .ok (.bipush 100, 2) := by decide +kernel
theorem dX8_keep_23 : decode cX8_keep 23 = .ok (.iload_n 1, 1) := by decide +kernel
theorem dX8_keep_24 : decode cX8_keep 24 = .ok (.imul, 1) := by decide +kernel
theorem dX8_keep_25 : decode cX8_keep 25 = .ok (.invokestatic 108, 3) := by decide +kernel
theorem dX8_keep_28 : decode cX8_keep 28 = .ok (.aload_n 0, 1) := by decide +kernel
theorem dX8_keep_29 : decode cX8_keep 29 = .ok (.getfield 22, 3) := by decide +kernel
theorem dX8_keep_32 : decode cX8_keep 32 = .ok (.iload_n 1, 1) := by decide +kernel
theorem dX8_keep_33 : decode cX8_keep 33 = .ok (.iconst 1, 1) := by decide +kernel
theorem dX8_keep_34 : decode cX8_keep 34 = .ok (.bastore, 1) := by decide +kernel
theorem dX8_keep_35 : decode cX8_keep 35 = .ok (.aload_n 0, 1) := by decide +kernel
theorem dX8_keep_36 : decode cX8_keep 36 = .ok (.getfield 7, 3) := by decide +kernel
theorem dX8_keep_39 : decode cX8_keep 39 = .ok (.iconst 2, 1) := by decide +kernel
theorem dX8_keep_40 : decode cX8_keep 40 = .ok (.iaload, 1) := by decide +kernel
theorem dX8_keep_41 : decode cX8_keep 41 = .ok (.ireturn, 1) := by decide +kernel
theorem dX8_back_0 : decode cX8_back 0 = .ok (.iload_n 1, 1) := by decide +kernel
theorem dX8_back_1 : decode cX8_back 1 = .ok (.iconst 0, 1) := by decide +kernel
theorem dX8_back_2 : decode cX8_back 2 = .ok (.iconst 1, 1) := by decide +kernel
theorem dX8_back_3 : decode cX8_back 3 = .ok (.invokestatic 35, 3) := by decide +kernel
theorem dX8_back_6 : decode cX8_back 6 = .ok (.ifCond .ne 6, 3) := by decide +kernel
theorem dX8_back_9 : decode cX8_back 9 = .ok (.bipush (-2), 2) := by decide +kernel
theorem dX8_back_11 : decode cX8_back 11 = .ok (.ireturn, 1) := by decide +kernel
theorem dX8_back_12 : decode cX8_back 12 = .ok (.aload_n 0, 1) := by decide +kernel
theorem dX8_back_13 : decode cX8_back 13 = .ok (.getfield 22, 3) := by decide +kernel
theorem dX8_back_16 : decode cX8_back 16 = .ok (.iload_n 1, 1) := by decide +kernel
theorem dX8_back_17 : decode cX8_back 17 = .ok (.baload, 1) := by decide +kernel
theorem dX8_back_18 : decode cX8_back 18 = .ok (.ifCond .ne 6, 3) := by decide +kernel
theorem dX8_back_21 : decode cX8_back 21 = .ok (.bipush (-4), 2) := by decide +kernel
theorem dX8_back_23 : decode cX8_back 23 = .ok (.ireturn, 1) := by decide +kernel
theorem dX8_back_24 : decode cX8_back 24 = .ok (.aload_n 0, 1) := by decide +kernel
theorem dX8_back_25 : decode cX8_back 25 = .ok (.getfield 19, 3) := by decide +kernel
theorem dX8_back_28 : decode cX8_back 28 = .ok (.bipush 100, 2) := by decide +kernel
theorem dX8_back_30 : decode cX8_back 30 = .ok (.iload_n 1, 1) := by decide +kernel
theorem dX8_back_31 : decode cX8_back 31 = .ok (.imul, 1) := by decide +kernel
theorem dX8_back_32 : decode cX8_back 32 = .ok (.aload_n 0, 1) := by decide +kernel
theorem dX8_back_33 : decode cX8_back 33 = .ok (.getfield 7, 3) := by decide +kernel
theorem dX8_back_36 : decode cX8_back 36 = .ok (.iconst 0, 1) := by decide +kernel
theorem dX8_back_37 : decode cX8_back 37 = .ok (.invokestatic 108, 3) := by decide +kernel
theorem dX8_back_40 : decode cX8_back 40 = .ok (.aload_n 0, 1) := by decide +kernel
theorem dX8_back_41 : decode cX8_back 41 = .ok (.iconst 0, 1) := by decide +kernel
theorem dX8_back_42 : decode cX8_back 42 = .ok (.putfield 125, 3) := by decide +kernel
theorem dX8_back_45 : decode cX8_back 45 = .ok (.aload_n 0, 1) := by decide +kernel
theorem dX8_back_46 : decode cX8_back 46 = .ok (.getfield 7, 3) := by decide +kernel
theorem dX8_back_49 : decode cX8_back 49 = .ok (.iconst 2, 1) := by decide +kernel
theorem dX8_back_50 : decode cX8_back 50 = .ok (.iaload, 1) := by decide +kernel
theorem dX8_back_51 : decode cX8_back 51 = .ok (.ireturn, 1) := by decide +kernel
theorem dX8_gain_0 : decode cX8_gain 0 = .ok (.aload_n 0, 1) := by decide +kernel
theorem dX8_gain_1 : decode cX8_gain 1 = .ok (.iload_n 1, 1) := by decide +kernel
theorem dX8_gain_2 : decode cX8_gain 2 = .ok (.invokevirtual 131, 3) := by decide +kernel
theorem dX8_gain_5 : decode cX8_gain 5 = .ok (.ifCond .eq 11, 3) := by decide +kernel
theorem dX8_gain_8 : decode cX8_gain 8 = .ok (.aload_n 0, 1) := by decide +kernel
theorem dX8_gain_9 : decode cX8_gain 9 = .ok (.iload_n 2, 1) := by decide +kernel
theorem dX8_gain_10 : decode cX8_gain 10 = .ok (.invokevirtual 128, 3) := by decide +kernel
theorem dX8_gain_13 : decode cX8_gain 13 = .ok (.ifCond .ne 6, 3) := by decide +kernel
theorem dX8_gain_16 : decode cX8_gain 16 = .ok (.bipush (-2), 2) := by decide +kernel
theorem dX8_gain_18 : decode cX8_gain 18 = .ok (.ireturn, 1) := by decide +kernel
theorem dX8_gain_19 : decode cX8_gain 19 = .ok (.iload_n 3, 1) := by decide +kernel
theorem dX8_gain_20 : decode cX8_gain 20 = .ok (.iconst 0, 1) := by decide +kernel
theorem dX8_gain_21 : decode cX8_gain 21 = .ok (.bipush 99, 2) := by decide +kernel
theorem dX8_gain_23 : decode cX8_gain 23 = .ok (.invokestatic 35, 3) := by decide +kernel
theorem dX8_gain_26 : decode cX8_gain 26 = .ok (.ifCond .eq 16, 3) := by decide +kernel
theorem dX8_gain_29 : decode cX8_gain 29 = .ok (.ldc 173, 2) := by decide +kernel
theorem dX8_gain_31 : decode cX8_gain 31 = .ok (.aload_n 0, 1) := by decide +kernel
theorem dX8_gain_32 : decode cX8_gain 32 = .ok (.iload_n 1, 1) := by decide +kernel
theorem dX8_gain_33 : decode cX8_gain 33 = .ok (.iload_n 2, 1) := by decide +kernel
theorem dX8_gain_34 : decode cX8_gain 34 = .ok (.iload_n 3, 1) := by decide +kernel
theorem dX8_gain_35 : decode cX8_gain 35 = .ok (.invokevirtual 174, 3) := by decide +kernel
theorem dX8_gain_38 : decode cX8_gain 38 = .ok (.iadd, 1) := by decide +kernel
theorem dX8_gain_39 : decode cX8_gain 39 = .ok (.goto 5, 3) := by decide +kernel
theorem dX8_gain_42 : decode cX8_gain 42 = .ok (.bipush (-3), 2) := by decide +kernel
theorem dX8_gain_44 : decode cX8_gain 44 = .ok (.ireturn, 1) := by decide +kernel
theorem dX8_purse_0 : decode cX8_purse 0 = .ok (.bipush 99, 2) := by decide +kernel
theorem dX8_purse_2 : decode cX8_purse 2 = .ok (.aload_n 0, 1) := by decide +kernel
theorem dX8_purse_3 : decode cX8_purse 3 = .ok (.getfield 7, 3) := by decide +kernel
theorem dX8_purse_6 : decode cX8_purse 6 = .ok (.iload_n 1, 1) := by decide +kernel
theorem dX8_purse_7 : decode cX8_purse 7 = .ok (.invokestatic 105, 3) := by decide +kernel
theorem dX8_purse_10 : decode cX8_purse 10 = .ok (.iconst 3, 1) := by decide +kernel
theorem dX8_purse_11 : decode cX8_purse 11 = .ok (.iadd, 1) := by decide +kernel
theorem dX8_purse_12 : decode cX8_purse 12 = .ok (.iaload, 1) := by decide +kernel
theorem dX8_purse_13 : decode cX8_purse 13 = .ok (.invokestatic 178, 3) := by decide +kernel
theorem dX8_purse_16 : decode cX8_purse 16 = .ok (.ireturn, 1) := by decide +kernel
theorem dX8_limit_0 : decode cX8_limit 0 = .ok (.aload_n 0, 1) := by decide +kernel
theorem dX8_limit_1 : decode cX8_limit 1 = .ok (.iload_n 1, 1) := by decide +kernel
theorem dX8_limit_2 : decode cX8_limit 2 = .ok (.invokevirtual 131, 3) := by decide +kernel
theorem dX8_limit_5 : decode cX8_limit 5 = .ok (.ifCond .ne 6, 3) := by decide +kernel
theorem dX8_limit_8 : decode cX8_limit 8 = .ok (.bipush (-2), 2) := by decide +kernel
theorem dX8_limit_10 : decode cX8_limit 10 = .ok (.ireturn, 1) := by decide +kernel
theorem dX8_limit_11 : decode cX8_limit 11 = .ok (.aload_n 0, 1) := by decide +kernel
theorem dX8_limit_12 : decode cX8_limit 12 = .ok (.invokevirtual 141, 3) := by decide +kernel
theorem dX8_limit_15 : decode cX8_limit 15 = .ok (.ifCond .ne 6, 3) := by decide +kernel
theorem dX8_limit_18 : decode cX8_limit 18 = .ok (.bipush (-4), 2) := by decide +kernel
theorem dX8_limit_20 : decode cX8_limit 20 = .ok (.ireturn, 1) := by decide +kernel
theorem dX8_limit_21 : decode cX8_limit 21 = .ok (.iconst 0, 1) := by decide +kernel
theorem dX8_limit_22 : decode cX8_limit 22 = .ok (.istore_n 2, 1) := by decide +kernel
theorem dX8_limit_23 : decode cX8_limit 23 = .ok (.iconst 0, 1) := by decide +kernel
theorem dX8_limit_24 : decode cX8_limit 24 = .ok (.istore_n 3, 1) := by decide +kernel
theorem dX8_limit_25 : decode cX8_limit 25 = .ok (.iload_n 3, 1) := by decide +kernel
theorem dX8_limit_26 : decode cX8_limit 26 = .ok (.aload_n 0, 1) := by decide +kernel
theorem dX8_limit_27 : decode cX8_limit 27 = .ok (.iload_n 1, 1) := by decide +kernel
theorem dX8_limit_28 : decode cX8_limit 28 = .ok (.invokevirtual 181, 3) := by decide +kernel
theorem dX8_limit_31 : decode cX8_limit 31 = .ok (.if_icmp .gt 30, 3) := by decide +kernel
theorem dX8_limit_34 : decode cX8_limit 34 = .ok (.aload_n 0, 1) := by decide +kernel
theorem dX8_limit_35 : decode cX8_limit 35 = .ok (.iload_n 1, 1) := by decide +kernel
theorem dX8_limit_36 : decode cX8_limit 36 = .ok (.aload_n 0, 1) := by decide +kernel
theorem dX8_limit_37 : decode cX8_limit 37 = .ok (.getfield 7, 3) := by decide +kernel
theorem dX8_limit_40 : decode cX8_limit 40 = .ok (.iconst 2, 1) := by decide +kernel
theorem dX8_limit_41 : decode cX8_limit 41 = .ok (.iaload, 1) := by decide +kernel
theorem dX8_limit_42 : decode cX8_limit 42 = .ok (.iload_n 3, 1) := by decide +kernel
theorem dX8_limit_43 : decode cX8_limit 43 = .ok (.invokevirtual 174, 3) := by decide +kernel
theorem dX8_limit_46 : decode cX8_limit 46 = .ok (.ifCond .lt 7, 3) := by decide +kernel
theorem dX8_limit_49 : decode cX8_limit 49 = .ok (.iload_n 3, 1) := by decide +kernel
theorem dX8_limit_50 : decode cX8_limit 50 = .ok (.goto 4, 3) := by decide +kernel
theorem dX8_limit_53 : decode cX8_limit 53 = .ok (.iload_n 2, 1) := by decide +kernel
theorem dX8_limit_54 : decode cX8_limit 54 = .ok (.istore_n 2, 1) := by decide +kernel
theorem dX8_limit_55 : decode cX8_limit 55 = .ok (.iinc 3 1, 3) := by decide +kernel
theorem dX8_limit_58 : decode cX8_limit 58 = .ok (.goto (-33), 3) := by decide +kernel
theorem dX8_limit_61 : decode cX8_limit 61 = .ok (.iload_n 2, 1) := by decide +kernel
theorem dX8_limit_62 : decode cX8_limit 62 = .ok (.ireturn, 1) := by decide +kernel
theorem dX8_hasBy_0 : decode cX8_hasBy 0 = .ok (.aload_n 0, 1) := by decide +kernel
theorem dX8_hasBy_1 : decode cX8_hasBy 1 = .ok (.invokevirtual 161, 3) := by decide +kernel
theorem dX8_hasBy_4 : decode cX8_hasBy 4 = .ok (.iload_n 1, 1) := by decide +kernel
theorem dX8_hasBy_5 : decode cX8_hasBy 5 = .ok (.if_icmp .ne 28, 3) := by decide +kernel
theorem dX8_hasBy_8 : decode cX8_hasBy 8 = .ok (.aload_n 0, 1) := by decide +kernel
theorem dX8_hasBy_9 : decode cX8_hasBy 9 = .ok (.iload_n 1, 1) := by decide +kernel
theorem dX8_hasBy_10 : decode cX8_hasBy 10 = .ok (.aload_n 0, 1) := by decide +kernel
theorem dX8_hasBy_11 : decode cX8_hasBy 11 = .ok (.getfield 7, 3) := by decide +kernel
theorem dX8_hasBy_14 : decode cX8_hasBy 14 = .ok (.iconst 2, 1) := by decide +kernel
theorem dX8_hasBy_15 : decode cX8_hasBy 15 = .ok (.iaload, 1) := by decide +kernel
theorem dX8_hasBy_16 : decode cX8_hasBy 16 = .ok (.aload_n 0, 1) := by decide +kernel
theorem dX8_hasBy_17 : decode cX8_hasBy 17 = .ok (.iload_n 1, 1) := by decide +kernel
theorem dX8_hasBy_18 : decode cX8_hasBy 18 = .ok (.aload_n 0, 1) := by decide +kernel
theorem dX8_hasBy_19 : decode cX8_hasBy 19 = .ok (.getfield 7, 3) := by decide +kernel
theorem dX8_hasBy_22 : decode cX8_hasBy 22 = .ok (.iconst 3, 1) := by decide +kernel
theorem dX8_hasBy_23 : decode cX8_hasBy 23 = .ok (.iaload, 1) := by decide +kernel
theorem dX8_hasBy_24 : decode cX8_hasBy 24 = .ok (.invokevirtual 167, 3) := by decide +kernel
theorem dX8_hasBy_27 : decode cX8_hasBy 27 = .ok (.invokevirtual 174, 3) := by decide +kernel
theorem dX8_hasBy_30 : decode cX8_hasBy 30 = .ok (.goto 4, 3) := by decide +kernel
theorem dX8_hasBy_33 : decode cX8_hasBy 33 = .ok (.iconst 0, 1) := by decide +kernel
theorem dX8_hasBy_34 : decode cX8_hasBy 34 = .ok (.ireturn, 1) := by decide +kernel
theorem dX8_has__0 : decode cX8_has_ 0 = .ok (.aload_n 0, 1) := by decide +kernel
theorem dX8_has__1 : decode cX8_has_ 1 = .ok (.iload_n 1, 1) := by decide +kernel
theorem dX8_has__2 : decode cX8_has_ 2 = .ok (.invokevirtual 131, 3) := by decide +kernel
theorem dX8_has__5 : decode cX8_has_ 5 = .ok (.ifCond .ne 6, 3) := by decide +kernel
theorem dX8_has__8 : decode cX8_has_ 8 = .ok (.bipush (-2), 2) := by decide +kernel
theorem dX8_has__10 : decode cX8_has_ 10 = .ok (.ireturn, 1) := by decide +kernel
theorem dX8_has__11 : decode cX8_has_ 11 = .ok (.aload_n 0, 1) := by decide +kernel
theorem dX8_has__12 : decode cX8_has_ 12 = .ok (.invokevirtual 141, 3) := by decide +kernel
theorem dX8_has__15 : decode cX8_has_ 15 = .ok (.ifCond .ne 6, 3) := by decide +kernel
theorem dX8_has__18 : decode cX8_has_ 18 = .ok (.bipush (-4), 2) := by decide +kernel
theorem dX8_has__20 : decode cX8_has_ 20 = .ok (.ireturn, 1) := by decide +kernel
theorem dX8_has__21 : decode cX8_has_ 21 = .ok (.aload_n 0, 1) := by decide +kernel
theorem dX8_has__22 : decode cX8_has_ 22 = .ok (.invokevirtual 158, 3) := by decide +kernel
theorem dX8_has__25 : decode cX8_has_ 25 = .ok (.ldc 173, 2) := by decide +kernel
theorem dX8_has__27 : decode cX8_has_ 27 = .ok (.aload_n 0, 1) := by decide +kernel
theorem dX8_has__28 : decode cX8_has_ 28 = .ok (.iload_n 1, 1) := by decide +kernel
theorem dX8_has__29 : decode cX8_has_ 29 = .ok (.invokevirtual 184, 3) := by decide +kernel
theorem dX8_has__32 : decode cX8_has_ 32 = .ok (.iadd, 1) := by decide +kernel
theorem dX8_has__33 : decode cX8_has_ 33 = .ok (.ireturn, 1) := by decide +kernel
theorem dX8_replyOf_0 : decode cX8_replyOf 0 = .ok (.aload_n 0, 1) := by decide +kernel
theorem dX8_replyOf_1 : decode cX8_replyOf 1 = .ok (.invokevirtual 158, 3) := by decide +kernel
theorem dX8_replyOf_4 : decode cX8_replyOf 4 = .ok (.iconst (-1), 1) := by decide +kernel
theorem dX8_replyOf_5 : decode cX8_replyOf 5 = .ok (.istore_n 2, 1) := by decide +kernel
theorem dX8_replyOf_6 : decode cX8_replyOf 6 = .ok (.iconst (-1), 1) := by decide +kernel
theorem dX8_replyOf_7 : decode cX8_replyOf 7 = .ok (.istore_n 3, 1) := by decide +kernel
theorem dX8_replyOf_8 : decode cX8_replyOf 8 = .ok (.iload_n 3, 1) := by decide +kernel
theorem dX8_replyOf_9 : decode cX8_replyOf 9 = .ok (.aload_n 0, 1) := by decide +kernel
theorem dX8_replyOf_10 : decode cX8_replyOf 10 = .ok (.iload_n 1, 1) := by decide +kernel
theorem dX8_replyOf_11 : decode cX8_replyOf 11 = .ok (.invokevirtual 181, 3) := by decide +kernel
theorem dX8_replyOf_14 : decode cX8_replyOf 14 = .ok (.if_icmp .gt 70, 3) := by decide +kernel
theorem dX8_replyOf_17 : decode cX8_replyOf 17 = .ok (.aload_n 0, 1) := by decide +kernel
theorem dX8_replyOf_18 : decode cX8_replyOf 18 = .ok (.getfield 32, 3) := by decide +kernel
theorem dX8_replyOf_21 : decode cX8_replyOf 21 = .ok (.iload_n 1, 1) := by decide +kernel
theorem dX8_replyOf_22 : decode cX8_replyOf 22 = .ok (.iload_n 3, 1) := by decide +kernel
theorem dX8_replyOf_23 : decode cX8_replyOf 23 = .ok (.iastore, 1) := by decide +kernel
theorem dX8_replyOf_24 : decode cX8_replyOf 24 = .ok (.aload_n 0, 1) := by decide +kernel
theorem dX8_replyOf_25 : decode cX8_replyOf 25 = .ok (.iload_n 1, 1) := by decide +kernel
theorem dX8_replyOf_26 : decode cX8_replyOf 26 = .ok (.invokevirtual 184, 3) := by decide +kernel
theorem dX8_replyOf_29 : decode cX8_replyOf 29 = .ok (.istore 4, 2) := by decide +kernel
theorem dX8_replyOf_31 : decode cX8_replyOf 31 = .ok (.iload_n 3, 1) := by decide +kernel
theorem dX8_replyOf_32 : decode cX8_replyOf 32 = .ok (.iconst (-1), 1) := by decide +kernel
theorem dX8_replyOf_33 : decode cX8_replyOf 33 = .ok (.if_icmp .eq 12, 3) := by decide +kernel
theorem dX8_replyOf_36 : decode cX8_replyOf 36 = .ok (.iload 4, 2) := by decide +kernel
theorem dX8_replyOf_38 : decode cX8_replyOf 38 = .ok (.aload_n 0, 1) := by decide +kernel
theorem dX8_replyOf_39 : decode cX8_replyOf 39 = .ok (.getfield 187, 3) := by decide +kernel
theorem dX8_replyOf_42 : decode cX8_replyOf 42 = .ok (.if_icmp .le 7, 3) := by decide +kernel
theorem dX8_replyOf_45 : decode cX8_replyOf 45 = .ok (.iload_n 3, 1) := by decide +kernel
theorem dX8_replyOf_46 : decode cX8_replyOf 46 = .ok (.goto 4, 3) := by decide +kernel
theorem dX8_replyOf_49 : decode cX8_replyOf 49 = .ok (.iload_n 2, 1) := by decide +kernel
theorem dX8_replyOf_50 : decode cX8_replyOf 50 = .ok (.istore_n 2, 1) := by decide +kernel
theorem dX8_replyOf_51 : decode cX8_replyOf 51 = .ok (.aload_n 0, 1) := by decide +kernel
theorem dX8_replyOf_52 : decode cX8_replyOf 52 = .ok (.iload_n 3, 1) := by decide +kernel
theorem dX8_replyOf_53 : decode cX8_replyOf 53 = .ok (.iconst (-1), 1) := by decide +kernel
theorem dX8_replyOf_54 : decode cX8_replyOf 54 = .ok (.if_icmp .eq 12, 3) := by decide +kernel
theorem dX8_replyOf_57 : decode cX8_replyOf 57 = .ok (.iload 4, 2) := by decide +kernel
theorem dX8_replyOf_59 : decode cX8_replyOf 59 = .ok (.aload_n 0, 1) := by decide +kernel
theorem dX8_replyOf_60 : decode cX8_replyOf 60 = .ok (.getfield 187, 3) := by decide +kernel
theorem dX8_replyOf_63 : decode cX8_replyOf 63 = .ok (.if_icmp .le 8, 3) := by decide +kernel
theorem dX8_replyOf_66 : decode cX8_replyOf 66 = .ok (.iload 4, 2) := by decide +kernel
theorem dX8_replyOf_68 : decode cX8_replyOf 68 = .ok (.goto 7, 3) := by decide +kernel
theorem dX8_replyOf_71 : decode cX8_replyOf 71 = .ok (.aload_n 0, 1) := by decide +kernel
theorem dX8_replyOf_72 : decode cX8_replyOf 72 = .ok (.getfield 187, 3) := by decide +kernel
theorem dX8_replyOf_75 : decode cX8_replyOf 75 = .ok (.putfield 187, 3) := by decide +kernel
theorem dX8_replyOf_78 : decode cX8_replyOf 78 = .ok (.iinc 3 1, 3) := by decide +kernel
theorem dX8_replyOf_81 : decode cX8_replyOf 81 = .ok (.goto (-73), 3) := by decide +kernel
theorem dX8_replyOf_84 : decode cX8_replyOf 84 = .ok (.iload_n 2, 1) := by decide +kernel
theorem dX8_replyOf_85 : decode cX8_replyOf 85 = .ok (.ireturn, 1) := by decide +kernel
theorem dX8_reply_0 : decode cX8_reply 0 = .ok (.aload_n 0, 1) := by decide +kernel
theorem dX8_reply_1 : decode cX8_reply 1 = .ok (.iload_n 1, 1) := by decide +kernel
theorem dX8_reply_2 : decode cX8_reply 2 = .ok (.invokevirtual 131, 3) := by decide +kernel
theorem dX8_reply_5 : decode cX8_reply 5 = .ok (.ifCond .ne 6, 3) := by decide +kernel
theorem dX8_reply_8 : decode cX8_reply 8 = .ok (.bipush (-2), 2) := by decide +kernel
theorem dX8_reply_10 : decode cX8_reply 10 = .ok (.ireturn, 1) := by decide +kernel
theorem dX8_reply_11 : decode cX8_reply 11 = .ok (.iload_n 2, 1) := by decide +kernel
theorem dX8_reply_12 : decode cX8_reply 12 = .ok (.iconst 0, 1) := by decide +kernel
theorem dX8_reply_13 : decode cX8_reply 13 = .ok (.iconst 1, 1) := by decide +kernel
theorem dX8_reply_14 : decode cX8_reply 14 = .ok (.invokestatic 35, 3) := by decide +kernel
theorem dX8_reply_17 : decode cX8_reply 17 = .ok (.ifCond .ne 6, 3) := by decide +kernel
theorem dX8_reply_20 : decode cX8_reply 20 = .ok (.bipush (-3), 2) := by decide +kernel
theorem dX8_reply_22 : decode cX8_reply 22 = .ok (.ireturn, 1) := by decide +kernel
theorem dX8_reply_23 : decode cX8_reply 23 = .ok (.aload_n 0, 1) := by decide +kernel
theorem dX8_reply_24 : decode cX8_reply 24 = .ok (.invokevirtual 141, 3) := by decide +kernel
theorem dX8_reply_27 : decode cX8_reply 27 = .ok (.ifCond .ne 6, 3) := by decide +kernel
theorem dX8_reply_30 : decode cX8_reply 30 = .ok (.bipush (-4), 2) := by decide +kernel
theorem dX8_reply_32 : decode cX8_reply 32 = .ok (.ireturn, 1) := by decide +kernel
theorem dX8_reply_33 : decode cX8_reply 33 = .ok (.aload_n 0, 1) := by decide +kernel
theorem dX8_reply_34 : decode cX8_reply 34 = .ok (.iload_n 1, 1) := by decide +kernel
theorem dX8_reply_35 : decode cX8_reply 35 = .ok (.invokevirtual 190, 3) := by decide +kernel
theorem dX8_reply_38 : decode cX8_reply 38 = .ok (.istore_n 3, 1) := by decide +kernel
theorem dX8_reply_39 : decode cX8_reply 39 = .ok (.iload_n 2, 1) := by decide +kernel
theorem dX8_reply_40 : decode cX8_reply 40 = .ok (.ifCond .ne 7, 3) := by decide +kernel
theorem dX8_reply_43 : decode cX8_reply 43 = .ok (.iload_n 3, 1) := by decide +kernel
theorem dX8_reply_44 : decode cX8_reply 44 = .ok (.goto 10, 3) := by decide +kernel
theorem dX8_reply_47 : decode cX8_reply 47 = .ok (.ldc 173, 2) := by decide +kernel
theorem dX8_reply_49 : decode cX8_reply 49 = .ok (.aload_n 0, 1) := by decide +kernel
theorem dX8_reply_50 : decode cX8_reply 50 = .ok (.getfield 187, 3) := by decide +kernel
theorem dX8_reply_53 : decode cX8_reply 53 = .ok (.iadd, 1) := by decide +kernel
theorem dX8_reply_54 : decode cX8_reply 54 = .ok (.ireturn, 1) := by decide +kernel
theorem dX8_tempted_0 : decode cX8_tempted 0 = .ok (.aload_n 0, 1) := by decide +kernel
theorem dX8_tempted_1 : decode cX8_tempted 1 = .ok (.invokevirtual 141, 3) := by decide +kernel
theorem dX8_tempted_4 : decode cX8_tempted 4 = .ok (.ifCond .ne 6, 3) := by decide +kernel
theorem dX8_tempted_7 : decode cX8_tempted 7 = .ok (.bipush (-4), 2) := by decide +kernel
theorem dX8_tempted_9 : decode cX8_tempted 9 = .ok (.ireturn, 1) := by decide +kernel
theorem dX8_tempted_10 : decode cX8_tempted 10 = .ok (.iconst 0, 1) := by decide +kernel
theorem dX8_tempted_11 : decode cX8_tempted 11 = .ok (.istore_n 1, 1) := by decide +kernel
theorem dX8_tempted_12 : decode cX8_tempted 12 = .ok (.iconst 0, 1) := by decide +kernel
theorem dX8_tempted_13 : decode cX8_tempted 13 = .ok (.istore_n 2, 1) := by decide +kernel
theorem dX8_tempted_14 : decode cX8_tempted 14 = .ok (.iload_n 2, 1) := by decide +kernel
theorem dX8_tempted_15 : decode cX8_tempted 15 = .ok (.aload_n 0, 1) := by decide +kernel
theorem dX8_tempted_16 : decode cX8_tempted 16 = .ok (.getfield 7, 3) := by decide +kernel
theorem dX8_tempted_19 : decode cX8_tempted 19 = .ok (.iconst 1, 1) := by decide +kernel
theorem dX8_tempted_20 : decode cX8_tempted 20 = .ok (.iaload, 1) := by decide +kernel
theorem dX8_tempted_21 : decode cX8_tempted 21 = .ok (.if_icmp .ge 43, 3) := by decide +kernel
theorem dX8_tempted_24 : decode cX8_tempted 24 = .ok (.aload_n 0, 1) := by decide +kernel
theorem dX8_tempted_25 : decode cX8_tempted 25 = .ok (.invokevirtual 158, 3) := by decide +kernel
theorem dX8_tempted_28 : decode cX8_tempted 28 = .ok (.aload_n 0, 1) := by decide +kernel
theorem dX8_tempted_29 : decode cX8_tempted 29 = .ok (.iload_n 2, 1) := by decide +kernel
theorem dX8_tempted_30 : decode cX8_tempted 30 = .ok (.invokevirtual 184, 3) := by decide +kernel
theorem dX8_tempted_33 : decode cX8_tempted 33 = .ok (.istore_n 3, 1) := by decide +kernel
theorem dX8_tempted_34 : decode cX8_tempted 34 = .ok (.aload_n 0, 1) := by decide +kernel
theorem dX8_tempted_35 : decode cX8_tempted 35 = .ok (.iload_n 2, 1) := by decide +kernel
theorem dX8_tempted_36 : decode cX8_tempted 36 = .ok (.invokevirtual 190, 3) := by decide +kernel
theorem dX8_tempted_39 : decode cX8_tempted 39 = .ok (.pop, 1) := by decide +kernel
theorem dX8_tempted_40 : decode cX8_tempted 40 = .ok (.iload_n 1, 1) := by decide +kernel
theorem dX8_tempted_41 : decode cX8_tempted 41 = .ok (.aload_n 0, 1) := by decide +kernel
theorem dX8_tempted_42 : decode cX8_tempted 42 = .ok (.getfield 187, 3) := by decide +kernel
theorem dX8_tempted_45 : decode cX8_tempted 45 = .ok (.iload_n 3, 1) := by decide +kernel
theorem dX8_tempted_46 : decode cX8_tempted 46 = .ok (.if_icmp .le 9, 3) := by decide +kernel
theorem dX8_tempted_49 : decode cX8_tempted 49 = .ok (.iconst 1, 1) := by decide +kernel
theorem dX8_tempted_50 : decode cX8_tempted 50 = .ok (.iload_n 2, 1) := by decide +kernel
theorem dX8_tempted_51 : decode cX8_tempted 51 = .ok (.ishl, 1) := by decide +kernel
theorem dX8_tempted_52 : decode cX8_tempted 52 = .ok (.goto 4, 3) := by decide +kernel
theorem dX8_tempted_55 : decode cX8_tempted 55 = .ok (.iconst 0, 1) := by decide +kernel
theorem dX8_tempted_56 : decode cX8_tempted 56 = .ok (.ior, 1) := by decide +kernel
theorem dX8_tempted_57 : decode cX8_tempted 57 = .ok (.istore_n 1, 1) := by decide +kernel
theorem dX8_tempted_58 : decode cX8_tempted 58 = .ok (.iinc 2 1, 3) := by decide +kernel
theorem dX8_tempted_61 : decode cX8_tempted 61 = .ok (.goto (-47), 3) := by decide +kernel
theorem dX8_tempted_64 : decode cX8_tempted 64 = .ok (.iload_n 1, 1) := by decide +kernel
theorem dX8_tempted_65 : decode cX8_tempted 65 = .ok (.ireturn, 1) := by decide +kernel
theorem dX8_cartel_0 : decode cX8_cartel 0 = .ok (.iload_n 1, 1) := by decide +kernel
theorem dX8_cartel_1 : decode cX8_cartel 1 = .ok (.iconst 0, 1) := by decide +kernel
theorem dX8_cartel_2 : decode cX8_cartel 2 = .ok (.iconst 1, 1) := by decide +kernel
theorem dX8_cartel_3 : decode cX8_cartel 3 = .ok (.invokestatic 35, 3) := by decide +kernel
theorem dX8_cartel_6 : decode cX8_cartel 6 = .ok (.ifCond .ne 6, 3) := by decide +kernel
theorem dX8_cartel_9 : decode cX8_cartel 9 = .ok (.bipush (-3), 2) := by decide +kernel
theorem dX8_cartel_11 : decode cX8_cartel 11 = .ok (.ireturn, 1) := by decide +kernel
theorem dX8_cartel_12 : decode cX8_cartel 12 = .ok (.aload_n 0, 1) := by decide +kernel
theorem dX8_cartel_13 : decode cX8_cartel 13 = .ok (.invokevirtual 141, 3) := by decide +kernel
theorem dX8_cartel_16 : decode cX8_cartel 16 = .ok (.ifCond .ne 6, 3) := by decide +kernel
theorem dX8_cartel_19 : decode cX8_cartel 19 = .ok (.bipush (-4), 2) := by decide +kernel
theorem dX8_cartel_21 : decode cX8_cartel 21 = .ok (.ireturn, 1) := by decide +kernel
theorem dX8_cartel_22 : decode cX8_cartel 22 = .ok (.aload_n 0, 1) := by decide +kernel
theorem dX8_cartel_23 : decode cX8_cartel 23 = .ok (.invokevirtual 158, 3) := by decide +kernel
theorem dX8_cartel_26 : decode cX8_cartel 26 = .ok (.aload_n 0, 1) := by decide +kernel
theorem dX8_cartel_27 : decode cX8_cartel 27 = .ok (.invokevirtual 161, 3) := by decide +kernel
theorem dX8_cartel_30 : decode cX8_cartel 30 = .ok (.istore_n 2, 1) := by decide +kernel
theorem dX8_cartel_31 : decode cX8_cartel 31 = .ok (.iload_n 2, 1) := by decide +kernel
theorem dX8_cartel_32 : decode cX8_cartel 32 = .ok (.iconst (-1), 1) := by decide +kernel
theorem dX8_cartel_33 : decode cX8_cartel 33 = .ok (.if_icmp .eq 13, 3) := by decide +kernel
theorem dX8_cartel_36 : decode cX8_cartel 36 = .ok (.aload_n 0, 1) := by decide +kernel
theorem dX8_cartel_37 : decode cX8_cartel 37 = .ok (.getfield 7, 3) := by decide +kernel
theorem dX8_cartel_40 : decode cX8_cartel 40 = .ok (.iconst 1, 1) := by decide +kernel
theorem dX8_cartel_41 : decode cX8_cartel 41 = .ok (.iaload, 1) := by decide +kernel
theorem dX8_cartel_42 : decode cX8_cartel 42 = .ok (.iconst 2, 1) := by decide +kernel
theorem dX8_cartel_43 : decode cX8_cartel 43 = .ok (.if_icmp .ge 5, 3) := by decide +kernel
theorem dX8_cartel_46 : decode cX8_cartel 46 = .ok (.iconst (-1), 1) := by decide +kernel
theorem dX8_cartel_47 : decode cX8_cartel 47 = .ok (.ireturn, 1) := by decide +kernel
theorem dX8_cartel_48 : decode cX8_cartel 48 = .ok (.aload_n 0, 1) := by decide +kernel
theorem dX8_cartel_49 : decode cX8_cartel 49 = .ok (.iload_n 2, 1) := by decide +kernel
theorem dX8_cartel_50 : decode cX8_cartel 50 = .ok (.aload_n 0, 1) := by decide +kernel
theorem dX8_cartel_51 : decode cX8_cartel 51 = .ok (.getfield 7, 3) := by decide +kernel
theorem dX8_cartel_54 : decode cX8_cartel 54 = .ok (.iconst 3, 1) := by decide +kernel
theorem dX8_cartel_55 : decode cX8_cartel 55 = .ok (.iaload, 1) := by decide +kernel
theorem dX8_cartel_56 : decode cX8_cartel 56 = .ok (.invokevirtual 167, 3) := by decide +kernel
theorem dX8_cartel_59 : decode cX8_cartel 59 = .ok (.istore_n 3, 1) := by decide +kernel
theorem dX8_cartel_60 : decode cX8_cartel 60 = .ok (.iconst (-1), 1) := by decide +kernel
theorem dX8_cartel_61 : decode cX8_cartel 61 = .ok (.istore 4, 2) := by decide +kernel
theorem dX8_cartel_63 : decode cX8_cartel 63 = .ok (.iconst 0, 1) := by decide +kernel
theorem dX8_cartel_64 : decode cX8_cartel 64 = .ok (.istore 5, 2) := by decide +kernel
theorem dX8_cartel_66 : decode cX8_cartel 66 = .ok (.iconst 0, 1) := by decide +kernel
theorem dX8_cartel_67 : decode cX8_cartel 67 = .ok (.istore 6, 2) := by decide +kernel
theorem dX8_cartel_69 : decode cX8_cartel 69 = .ok (.iload 6, 2) := by decide +kernel
theorem dX8_cartel_71 : decode cX8_cartel 71 = .ok (.iconst 1, 1) := by decide +kernel
theorem dX8_cartel_72 : decode cX8_cartel 72 = .ok (.aload_n 0, 1) := by decide +kernel
theorem dX8_cartel_73 : decode cX8_cartel 73 = .ok (.getfield 7, 3) := by decide +kernel
theorem dX8_cartel_76 : decode cX8_cartel 76 = .ok (.iconst 1, 1) := by decide +kernel
theorem dX8_cartel_77 : decode cX8_cartel 77 = .ok (.iaload, 1) := by decide +kernel
theorem dX8_cartel_78 : decode cX8_cartel 78 = .ok (.ishl, 1) := by decide +kernel
theorem dX8_cartel_79 : decode cX8_cartel 79 = .ok (.if_icmp .ge 132, 3) := by decide +kernel
theorem dX8_cartel_82 : decode cX8_cartel 82 = .ok (.iload 6, 2) := by decide +kernel
theorem dX8_cartel_84 : decode cX8_cartel 84 = .ok (.iload_n 2, 1) := by decide +kernel
theorem dX8_cartel_85 : decode cX8_cartel 85 = .ok (.invokestatic 193, 3) := by decide +kernel
theorem dX8_cartel_88 : decode cX8_cartel 88 = .ok (.ifCond .eq 117, 3) := by decide +kernel
theorem dX8_cartel_91 : decode cX8_cartel 91 = .ok (.iload 6, 2) := by decide +kernel
theorem dX8_cartel_93 : decode cX8_cartel 93 = .ok (.iload 6, 2) := by decide +kernel
theorem dX8_cartel_95 : decode cX8_cartel 95 = .ok (.iconst 1, 1) := by decide +kernel
theorem dX8_cartel_96 : decode cX8_cartel 96 = .ok (.isub, 1) := by decide +kernel
theorem dX8_cartel_97 : decode cX8_cartel 97 = .ok (.iand, 1) := by decide +kernel
theorem dX8_cartel_98 : decode cX8_cartel 98 = .ok (.ifCond .eq 107, 3) := by decide +kernel
theorem dX8_cartel_101 : decode cX8_cartel 101 = .ok (.aload_n 0, 1) := by decide +kernel
theorem dX8_cartel_102 : decode cX8_cartel 102 = .ok (.invokevirtual 158, 3) := by decide +kernel
theorem dX8_cartel_105 : decode cX8_cartel 105 = .ok (.iconst 0, 1) := by decide +kernel
theorem dX8_cartel_106 : decode cX8_cartel 106 = .ok (.istore 7, 2) := by decide +kernel
theorem dX8_cartel_108 : decode cX8_cartel 108 = .ok (.iload 7, 2) := by decide +kernel
theorem dX8_cartel_110 : decode cX8_cartel 110 = .ok (.iconst 5, 1) := by decide +kernel
theorem dX8_cartel_111 : decode cX8_cartel 111 = .ok (.if_icmp .ge 43, 3) := by decide +kernel
theorem dX8_cartel_114 : decode cX8_cartel 114 = .ok (.aload_n 0, 1) := by decide +kernel
theorem dX8_cartel_115 : decode cX8_cartel 115 = .ok (.getfield 32, 3) := by decide +kernel
theorem dX8_cartel_118 : decode cX8_cartel 118 = .ok (.iload 7, 2) := by decide +kernel
theorem dX8_cartel_120 : decode cX8_cartel 120 = .ok (.iload 7, 2) := by decide +kernel
theorem dX8_cartel_122 : decode cX8_cartel 122 = .ok (.iload_n 2, 1) := by decide +kernel
theorem dX8_cartel_123 : decode cX8_cartel 123 = .ok (.if_icmp .eq 17, 3) := by decide +kernel
theorem dX8_cartel_126 : decode cX8_cartel 126 = .ok (.iload 6, 2) := by decide +kernel
theorem dX8_cartel_128 : decode cX8_cartel 128 = .ok (.iload 7, 2) := by decide +kernel
theorem dX8_cartel_130 : decode cX8_cartel 130 = .ok (.invokestatic 193, 3) := by decide +kernel
theorem dX8_cartel_133 : decode cX8_cartel 133 = .ok (.ifCond .eq 7, 3) := by decide +kernel
theorem dX8_cartel_136 : decode cX8_cartel 136 = .ok (.iconst (-1), 1) := by decide +kernel
theorem dX8_cartel_137 : decode cX8_cartel 137 = .ok (.goto 10, 3) := by decide +kernel
theorem dX8_cartel_140 : decode cX8_cartel 140 = .ok (.aload_n 0, 1) := by decide +kernel
theorem dX8_cartel_141 : decode cX8_cartel 141 = .ok (.getfield 32, 3) := by decide +kernel
theorem dX8_cartel_144 : decode cX8_cartel 144 = .ok (.iload 7, 2) := by decide +kernel
theorem dX8_cartel_146 : decode cX8_cartel 146 = .ok (.iaload, 1) := by decide +kernel
theorem dX8_cartel_147 : decode cX8_cartel 147 = .ok (.iastore, 1) := by decide +kernel
theorem dX8_cartel_148 : decode cX8_cartel 148 = .ok (.iinc 7 1, 3) := by decide +kernel
theorem dX8_cartel_151 : decode cX8_cartel 151 = .ok (.goto (-43), 3) := by decide +kernel
theorem dX8_cartel_154 : decode cX8_cartel 154 = .ok (.aload_n 0, 1) := by decide +kernel
theorem dX8_cartel_155 : decode cX8_cartel 155 = .ok (.iload_n 2, 1) := by decide +kernel
theorem dX8_cartel_156 : decode cX8_cartel 156 = .ok (.aload_n 0, 1) := by decide +kernel
theorem dX8_cartel_157 : decode cX8_cartel 157 = .ok (.getfield 7, 3) := by decide +kernel
theorem dX8_cartel_160 : decode cX8_cartel 160 = .ok (.iconst 3, 1) := by decide +kernel
theorem dX8_cartel_161 : decode cX8_cartel 161 = .ok (.iaload, 1) := by decide +kernel
theorem dX8_cartel_162 : decode cX8_cartel 162 = .ok (.invokevirtual 167, 3) := by decide +kernel
theorem dX8_cartel_165 : decode cX8_cartel 165 = .ok (.istore 7, 2) := by decide +kernel
theorem dX8_cartel_167 : decode cX8_cartel 167 = .ok (.iload 4, 2) := by decide +kernel
theorem dX8_cartel_169 : decode cX8_cartel 169 = .ok (.iconst (-1), 1) := by decide +kernel
theorem dX8_cartel_170 : decode cX8_cartel 170 = .ok (.if_icmp .eq 10, 3) := by decide +kernel
theorem dX8_cartel_173 : decode cX8_cartel 173 = .ok (.iload 7, 2) := by decide +kernel
theorem dX8_cartel_175 : decode cX8_cartel 175 = .ok (.iload 5, 2) := by decide +kernel
theorem dX8_cartel_177 : decode cX8_cartel 177 = .ok (.if_icmp .ge 8, 3) := by decide +kernel
theorem dX8_cartel_180 : decode cX8_cartel 180 = .ok (.iload 6, 2) := by decide +kernel
theorem dX8_cartel_182 : decode cX8_cartel 182 = .ok (.goto 5, 3) := by decide +kernel
theorem dX8_cartel_185 : decode cX8_cartel 185 = .ok (.iload 4, 2) := by decide +kernel
theorem dX8_cartel_187 : decode cX8_cartel 187 = .ok (.istore 4, 2) := by decide +kernel
theorem dX8_cartel_189 : decode cX8_cartel 189 = .ok (.iload 4, 2) := by decide +kernel
theorem dX8_cartel_191 : decode cX8_cartel 191 = .ok (.iload 6, 2) := by decide +kernel
theorem dX8_cartel_193 : decode cX8_cartel 193 = .ok (.if_icmp .ne 8, 3) := by decide +kernel
theorem dX8_cartel_196 : decode cX8_cartel 196 = .ok (.iload 7, 2) := by decide +kernel
theorem dX8_cartel_198 : decode cX8_cartel 198 = .ok (.goto 5, 3) := by decide +kernel
theorem dX8_cartel_201 : decode cX8_cartel 201 = .ok (.iload 5, 2) := by decide +kernel
theorem dX8_cartel_203 : decode cX8_cartel 203 = .ok (.istore 5, 2) := by decide +kernel
theorem dX8_cartel_205 : decode cX8_cartel 205 = .ok (.iinc 6 1, 3) := by decide +kernel
theorem dX8_cartel_208 : decode cX8_cartel 208 = .ok (.goto (-139), 3) := by decide +kernel
theorem dX8_cartel_211 : decode cX8_cartel 211 = .ok (.iload_n 1, 1) := by decide +kernel
theorem dX8_cartel_212 : decode cX8_cartel 212 = .ok (.ifCond .ne 10, 3) := by decide +kernel
theorem dX8_cartel_215 : decode cX8_cartel 215 = .ok (.iload_n 3, 1) := by decide +kernel
theorem dX8_cartel_216 : decode cX8_cartel 216 = .ok (.iload 5, 2) := by decide +kernel
theorem dX8_cartel_218 : decode cX8_cartel 218 = .ok (.isub, 1) := by decide +kernel
theorem dX8_cartel_219 : decode cX8_cartel 219 = .ok (.goto 5, 3) := by decide +kernel
theorem dX8_cartel_222 : decode cX8_cartel 222 = .ok (.iload 4, 2) := by decide +kernel
theorem dX8_cartel_224 : decode cX8_cartel 224 = .ok (.ireturn, 1) := by decide +kernel
theorem dX8_otherwise_0 : decode cX8_otherwise 0 = .ok (.aload_n 0, 1) := by decide +kernel
theorem dX8_otherwise_1 : decode cX8_otherwise 1 = .ok (.invokevirtual 141, 3) := by decide +kernel
theorem dX8_otherwise_4 : decode cX8_otherwise 4 = .ok (.ifCond .ne 6, 3) := by decide +kernel
theorem dX8_otherwise_7 : decode cX8_otherwise 7 = .ok (.bipush (-4), 2) := by decide +kernel
theorem dX8_otherwise_9 : decode cX8_otherwise 9 = .ok (.ireturn, 1) := by decide +kernel
theorem dX8_otherwise_10 : decode cX8_otherwise 10 = .ok (.aload_n 0, 1) := by decide +kernel
theorem dX8_otherwise_11 : decode cX8_otherwise 11 = .ok (.invokevirtual 158, 3) := by decide +kernel
theorem dX8_otherwise_14 : decode cX8_otherwise 14 = .ok (.aload_n 0, 1) := by decide +kernel
theorem dX8_otherwise_15 : decode cX8_otherwise 15 = .ok (.invokevirtual 161, 3) := by decide +kernel
theorem dX8_otherwise_18 : decode cX8_otherwise 18 = .ok (.istore_n 1, 1) := by decide +kernel
theorem dX8_otherwise_19 : decode cX8_otherwise 19 = .ok (.iload_n 1, 1) := by decide +kernel
theorem dX8_otherwise_20 : decode cX8_otherwise 20 = .ok (.iconst (-1), 1) := by decide +kernel
theorem dX8_otherwise_21 : decode cX8_otherwise 21 = .ok (.if_icmp .ne 7, 3) := by decide +kernel
theorem dX8_otherwise_24 : decode cX8_otherwise 24 = .ok (.iconst (-1), 1) := by decide +kernel
theorem dX8_otherwise_25 : decode cX8_otherwise 25 = .ok (.goto 16, 3) := by decide +kernel
theorem dX8_otherwise_28 : decode cX8_otherwise 28 = .ok (.aload_n 0, 1) := by decide +kernel
theorem dX8_otherwise_29 : decode cX8_otherwise 29 = .ok (.iload_n 1, 1) := by decide +kernel
theorem dX8_otherwise_30 : decode cX8_otherwise 30 = .ok (.iconst 1, 1) := by decide +kernel
theorem dX8_otherwise_31 : decode cX8_otherwise 31 = .ok (.aload_n 0, 1) := by decide +kernel
theorem dX8_otherwise_32 : decode cX8_otherwise 32 = .ok (.getfield 7, 3) := by decide +kernel
theorem dX8_otherwise_35 : decode cX8_otherwise 35 = .ok (.iconst 3, 1) := by decide +kernel
theorem dX8_otherwise_36 : decode cX8_otherwise 36 = .ok (.iaload, 1) := by decide +kernel
theorem dX8_otherwise_37 : decode cX8_otherwise 37 = .ok (.isub, 1) := by decide +kernel
theorem dX8_otherwise_38 : decode cX8_otherwise 38 = .ok (.invokevirtual 167, 3) := by decide +kernel
theorem dX8_otherwise_41 : decode cX8_otherwise 41 = .ok (.ireturn, 1) := by decide +kernel
theorem dX8_season_0 : decode cX8_season 0 = .ok (.aload_n 0, 1) := by decide +kernel
theorem dX8_season_1 : decode cX8_season 1 = .ok (.iload_n 1, 1) := by decide +kernel
theorem dX8_season_2 : decode cX8_season 2 = .ok (.invokevirtual 131, 3) := by decide +kernel
theorem dX8_season_5 : decode cX8_season 5 = .ok (.ifCond .ne 6, 3) := by decide +kernel
theorem dX8_season_8 : decode cX8_season 8 = .ok (.bipush (-2), 2) := by decide +kernel
theorem dX8_season_10 : decode cX8_season 10 = .ok (.ireturn, 1) := by decide +kernel
theorem dX8_season_11 : decode cX8_season 11 = .ok (.iload_n 2, 1) := by decide +kernel
theorem dX8_season_12 : decode cX8_season 12 = .ok (.iconst 0, 1) := by decide +kernel
theorem dX8_season_13 : decode cX8_season 13 = .ok (.iconst 1, 1) := by decide +kernel
theorem dX8_season_14 : decode cX8_season 14 = .ok (.invokestatic 35, 3) := by decide +kernel
theorem dX8_season_17 : decode cX8_season 17 = .ok (.ifCond .ne 6, 3) := by decide +kernel
theorem dX8_season_20 : decode cX8_season 20 = .ok (.bipush (-3), 2) := by decide +kernel
theorem dX8_season_22 : decode cX8_season 22 = .ok (.ireturn, 1) := by decide +kernel
theorem dX8_season_23 : decode cX8_season 23 = .ok (.iconst 0, 1) := by decide +kernel
theorem dX8_season_24 : decode cX8_season 24 = .ok (.istore_n 3, 1) := by decide +kernel
theorem dX8_season_25 : decode cX8_season 25 = .ok (.iconst 0, 1) := by decide +kernel
theorem dX8_season_26 : decode cX8_season 26 = .ok (.istore 4, 2) := by decide +kernel
theorem dX8_season_28 : decode cX8_season 28 = .ok (.iconst 0, 1) := by decide +kernel
theorem dX8_season_29 : decode cX8_season 29 = .ok (.istore 5, 2) := by decide +kernel
theorem dX8_season_31 : decode cX8_season 31 = .ok (.iload 5, 2) := by decide +kernel
theorem dX8_season_33 : decode cX8_season 33 = .ok (.iconst 1, 1) := by decide +kernel
theorem dX8_season_34 : decode cX8_season 34 = .ok (.aload_n 0, 1) := by decide +kernel
theorem dX8_season_35 : decode cX8_season 35 = .ok (.getfield 7, 3) := by decide +kernel
theorem dX8_season_38 : decode cX8_season 38 = .ok (.iconst 0, 1) := by decide +kernel
theorem dX8_season_39 : decode cX8_season 39 = .ok (.iaload, 1) := by decide +kernel
theorem dX8_season_40 : decode cX8_season 40 = .ok (.ishl, 1) := by decide +kernel
theorem dX8_season_41 : decode cX8_season 41 = .ok (.if_icmp .ge 177, 3) := by decide +kernel
theorem dX8_season_44 : decode cX8_season 44 = .ok (.iconst 0, 1) := by decide +kernel
theorem dX8_season_45 : decode cX8_season 45 = .ok (.istore 6, 2) := by decide +kernel
theorem dX8_season_47 : decode cX8_season 47 = .ok (.iconst 0, 1) := by decide +kernel
theorem dX8_season_48 : decode cX8_season 48 = .ok (.istore 7, 2) := by decide +kernel
theorem dX8_season_50 : decode cX8_season 50 = .ok (.iconst 0, 1) := by decide +kernel
theorem dX8_season_51 : decode cX8_season 51 = .ok (.istore 8, 2) := by decide +kernel
theorem dX8_season_53 : decode cX8_season 53 = .ok (.iload 8, 2) := by decide +kernel
theorem dX8_season_55 : decode cX8_season 55 = .ok (.aload_n 0, 1) := by decide +kernel
theorem dX8_season_56 : decode cX8_season 56 = .ok (.getfield 7, 3) := by decide +kernel
theorem dX8_season_59 : decode cX8_season 59 = .ok (.iconst 0, 1) := by decide +kernel
theorem dX8_season_60 : decode cX8_season 60 = .ok (.iaload, 1) := by decide +kernel
theorem dX8_season_61 : decode cX8_season 61 = .ok (.if_icmp .ge 72, 3) := by decide +kernel
theorem dX8_season_64 : decode cX8_season 64 = .ok (.aload_n 0, 1) := by decide +kernel
theorem dX8_season_65 : decode cX8_season 65 = .ok (.getfield 7, 3) := by decide +kernel
theorem dX8_season_68 : decode cX8_season 68 = .ok (.iload 8, 2) := by decide +kernel
theorem dX8_season_70 : decode cX8_season 70 = .ok (.invokestatic 98, 3) := by decide +kernel
theorem dX8_season_73 : decode cX8_season 73 = .ok (.iconst 2, 1) := by decide +kernel
theorem dX8_season_74 : decode cX8_season 74 = .ok (.iadd, 1) := by decide +kernel
theorem dX8_season_75 : decode cX8_season 75 = .ok (.iaload, 1) := by decide +kernel
theorem dX8_season_76 : decode cX8_season 76 = .ok (.istore 9, 2) := by decide +kernel
theorem dX8_season_78 : decode cX8_season 78 = .ok (.iload 6, 2) := by decide +kernel
theorem dX8_season_80 : decode cX8_season 80 = .ok (.iload 5, 2) := by decide +kernel
theorem dX8_season_82 : decode cX8_season 82 = .ok (.iload 8, 2) := by decide +kernel
theorem dX8_season_84 : decode cX8_season 84 = .ok (.invokestatic 193, 3) := by decide +kernel
theorem dX8_season_87 : decode cX8_season 87 = .ok (.ifCond .eq 8, 3) := by decide +kernel
theorem dX8_season_90 : decode cX8_season 90 = .ok (.iload 9, 2) := by decide +kernel
theorem dX8_season_92 : decode cX8_season 92 = .ok (.goto 4, 3) := by decide +kernel
theorem dX8_season_95 : decode cX8_season 95 = .ok (.iconst 0, 1) := by decide +kernel
theorem dX8_season_96 : decode cX8_season 96 = .ok (.iadd, 1) := by decide +kernel
theorem dX8_season_97 : decode cX8_season 97 = .ok (.istore 6, 2) := by decide +kernel
theorem dX8_season_99 : decode cX8_season 99 = .ok (.iload 7, 2) := by decide +kernel
theorem dX8_season_101 : decode cX8_season 101 = .ok (.iload 5, 2) := by decide +kernel
theorem dX8_season_103 : decode cX8_season 103 = .ok (.iload 8, 2) := by decide +kernel
theorem dX8_season_105 : decode cX8_season 105 = .ok (.invokestatic 193, 3) := by decide +kernel
theorem dX8_season_108 : decode cX8_season 108 = .ok (.ifCond .eq 15, 3) := by decide +kernel
theorem dX8_season_111 : decode cX8_season 111 = .ok (.aload_n 0, 1) := by decide +kernel
theorem dX8_season_112 : decode cX8_season 112 = .ok (.iload_n 1, 1) := by decide +kernel
theorem dX8_season_113 : decode cX8_season 113 = .ok (.iload 8, 2) := by decide +kernel
theorem dX8_season_115 : decode cX8_season 115 = .ok (.iload 9, 2) := by decide +kernel
theorem dX8_season_117 : decode cX8_season 117 = .ok (.invokevirtual 174, 3) := by decide +kernel
theorem dX8_season_120 : decode cX8_season 120 = .ok (.goto 4, 3) := by decide +kernel
theorem dX8_season_123 : decode cX8_season 123 = .ok (.iconst 0, 1) := by decide +kernel
theorem dX8_season_124 : decode cX8_season 124 = .ok (.iadd, 1) := by decide +kernel
theorem dX8_season_125 : decode cX8_season 125 = .ok (.istore 7, 2) := by decide +kernel
theorem dX8_season_127 : decode cX8_season 127 = .ok (.iinc 8 1, 3) := by decide +kernel
theorem dX8_season_130 : decode cX8_season 130 = .ok (.goto (-77), 3) := by decide +kernel
theorem dX8_season_133 : decode cX8_season 133 = .ok (.iload 5, 2) := by decide +kernel
theorem dX8_season_135 : decode cX8_season 135 = .ok (.iconst 1, 1) := by decide +kernel
theorem dX8_season_136 : decode cX8_season 136 = .ok (.aload_n 0, 1) := by decide +kernel
theorem dX8_season_137 : decode cX8_season 137 = .ok (.getfield 7, 3) := by decide +kernel
theorem dX8_season_140 : decode cX8_season 140 = .ok (.iconst 2, 1) := by decide +kernel
theorem dX8_season_141 : decode cX8_season 141 = .ok (.iaload, 1) := by decide +kernel
theorem dX8_season_142 : decode cX8_season 142 = .ok (.ishl, 1) := by decide +kernel
theorem dX8_season_143 : decode cX8_season 143 = .ok (.iconst 1, 1) := by decide +kernel
theorem dX8_season_144 : decode cX8_season 144 = .ok (.isub, 1) := by decide +kernel
theorem dX8_season_145 : decode cX8_season 145 = .ok (.iand, 1) := by decide +kernel
theorem dX8_season_146 : decode cX8_season 146 = .ok (.ifCond .ne 23, 3) := by decide +kernel
theorem dX8_season_149 : decode cX8_season 149 = .ok (.iload 6, 2) := by decide +kernel
theorem dX8_season_151 : decode cX8_season 151 = .ok (.aload_n 0, 1) := by decide +kernel
theorem dX8_season_152 : decode cX8_season 152 = .ok (.getfield 7, 3) := by decide +kernel
theorem dX8_season_155 : decode cX8_season 155 = .ok (.iload_n 1, 1) := by decide +kernel
theorem dX8_season_156 : decode cX8_season 156 = .ok (.invokestatic 105, 3) := by decide +kernel
theorem dX8_season_159 : decode cX8_season 159 = .ok (.iconst 3, 1) := by decide +kernel
theorem dX8_season_160 : decode cX8_season 160 = .ok (.iadd, 1) := by decide +kernel
theorem dX8_season_161 : decode cX8_season 161 = .ok (.iaload, 1) := by decide +kernel
theorem dX8_season_162 : decode cX8_season 162 = .ok (.if_icmp .gt 7, 3) := by decide +kernel
theorem dX8_season_165 : decode cX8_season 165 = .ok (.iconst 1, 1) := by decide +kernel
theorem dX8_season_166 : decode cX8_season 166 = .ok (.goto 4, 3) := by decide +kernel
theorem dX8_season_169 : decode cX8_season 169 = .ok (.iconst 0, 1) := by decide +kernel
theorem dX8_season_170 : decode cX8_season 170 = .ok (.istore 8, 2) := by decide +kernel
theorem dX8_season_172 : decode cX8_season 172 = .ok (.iload 8, 2) := by decide +kernel
theorem dX8_season_174 : decode cX8_season 174 = .ok (.ifCond .eq 15, 3) := by decide +kernel
theorem dX8_season_177 : decode cX8_season 177 = .ok (.iload 7, 2) := by decide +kernel
theorem dX8_season_179 : decode cX8_season 179 = .ok (.iload 4, 2) := by decide +kernel
theorem dX8_season_181 : decode cX8_season 181 = .ok (.if_icmp .le 8, 3) := by decide +kernel
theorem dX8_season_184 : decode cX8_season 184 = .ok (.iload 5, 2) := by decide +kernel
theorem dX8_season_186 : decode cX8_season 186 = .ok (.goto 4, 3) := by decide +kernel
theorem dX8_season_189 : decode cX8_season 189 = .ok (.iload_n 3, 1) := by decide +kernel
theorem dX8_season_190 : decode cX8_season 190 = .ok (.istore_n 3, 1) := by decide +kernel
theorem dX8_season_191 : decode cX8_season 191 = .ok (.iload 8, 2) := by decide +kernel
theorem dX8_season_193 : decode cX8_season 193 = .ok (.ifCond .eq 15, 3) := by decide +kernel
theorem dX8_season_196 : decode cX8_season 196 = .ok (.iload 7, 2) := by decide +kernel
theorem dX8_season_198 : decode cX8_season 198 = .ok (.iload 4, 2) := by decide +kernel
theorem dX8_season_200 : decode cX8_season 200 = .ok (.if_icmp .le 8, 3) := by decide +kernel
theorem dX8_season_203 : decode cX8_season 203 = .ok (.iload 7, 2) := by decide +kernel
theorem dX8_season_205 : decode cX8_season 205 = .ok (.goto 5, 3) := by decide +kernel
theorem dX8_season_208 : decode cX8_season 208 = .ok (.iload 4, 2) := by decide +kernel
theorem dX8_season_210 : decode cX8_season 210 = .ok (.istore 4, 2) := by decide +kernel
theorem dX8_season_212 : decode cX8_season 212 = .ok (.iinc 5 1, 3) := by decide +kernel
theorem dX8_season_215 : decode cX8_season 215 = .ok (.goto (-184), 3) := by decide +kernel
theorem dX8_season_218 : decode cX8_season 218 = .ok (.iload_n 2, 1) := by decide +kernel
theorem dX8_season_219 : decode cX8_season 219 = .ok (.ifCond .ne 8, 3) := by decide +kernel
theorem dX8_season_222 : decode cX8_season 222 = .ok (.iload 4, 2) := by decide +kernel
theorem dX8_season_224 : decode cX8_season 224 = .ok (.goto 4, 3) := by decide +kernel
theorem dX8_season_227 : decode cX8_season 227 = .ok (.iload_n 3, 1) := by decide +kernel
theorem dX8_season_228 : decode cX8_season 228 = .ok (.ireturn, 1) := by decide +kernel
theorem dX8_bright_0 : decode cX8_bright 0 = .ok (.iload_n 1, 1) := by decide +kernel
theorem dX8_bright_1 : decode cX8_bright 1 = .ok (.iconst 0, 1) := by decide +kernel
theorem dX8_bright_2 : decode cX8_bright 2 = .ok (.bipush 7, 2) := by decide +kernel
theorem dX8_bright_4 : decode cX8_bright 4 = .ok (.invokestatic 35, 3) := by decide +kernel
theorem dX8_bright_7 : decode cX8_bright 7 = .ok (.ifCond .eq 12, 3) := by decide +kernel
theorem dX8_bright_10 : decode cX8_bright 10 = .ok (.iload_n 2, 1) := by decide +kernel
theorem dX8_bright_11 : decode cX8_bright 11 = .ok (.iconst 0, 1) := by decide +kernel
theorem dX8_bright_12 : decode cX8_bright 12 = .ok (.iconst 1, 1) := by decide +kernel
theorem dX8_bright_13 : decode cX8_bright 13 = .ok (.invokestatic 35, 3) := by decide +kernel
theorem dX8_bright_16 : decode cX8_bright 16 = .ok (.ifCond .ne 6, 3) := by decide +kernel
theorem dX8_bright_19 : decode cX8_bright 19 = .ok (.bipush (-3), 2) := by decide +kernel
theorem dX8_bright_21 : decode cX8_bright 21 = .ok (.ireturn, 1) := by decide +kernel
theorem dX8_bright_22 : decode cX8_bright 22 = .ok (.iconst 0, 1) := by decide +kernel
theorem dX8_bright_23 : decode cX8_bright 23 = .ok (.istore_n 3, 1) := by decide +kernel
theorem dX8_bright_24 : decode cX8_bright 24 = .ok (.iconst 1, 1) := by decide +kernel
theorem dX8_bright_25 : decode cX8_bright 25 = .ok (.istore 4, 2) := by decide +kernel
theorem dX8_bright_27 : decode cX8_bright 27 = .ok (.aload_n 0, 1) := by decide +kernel
theorem dX8_bright_28 : decode cX8_bright 28 = .ok (.getfield 7, 3) := by decide +kernel
theorem dX8_bright_31 : decode cX8_bright 31 = .ok (.iconst 2, 1) := by decide +kernel
theorem dX8_bright_32 : decode cX8_bright 32 = .ok (.iaload, 1) := by decide +kernel
theorem dX8_bright_33 : decode cX8_bright 33 = .ok (.istore 5, 2) := by decide +kernel
theorem dX8_bright_35 : decode cX8_bright 35 = .ok (.iload 5, 2) := by decide +kernel
theorem dX8_bright_37 : decode cX8_bright 37 = .ok (.aload_n 0, 1) := by decide +kernel
theorem dX8_bright_38 : decode cX8_bright 38 = .ok (.getfield 7, 3) := by decide +kernel
theorem dX8_bright_41 : decode cX8_bright 41 = .ok (.iconst 0, 1) := by decide +kernel
theorem dX8_bright_42 : decode cX8_bright 42 = .ok (.iaload, 1) := by decide +kernel
theorem dX8_bright_43 : decode cX8_bright 43 = .ok (.if_icmp .ge 16, 3) := by decide +kernel
theorem dX8_bright_46 : decode cX8_bright 46 = .ok (.iload 4, 2) := by decide +kernel
theorem dX8_bright_48 : decode cX8_bright 48 = .ok (.bipush 10, 2) := by decide +kernel
theorem dX8_bright_50 : decode cX8_bright 50 = .ok (.imul, 1) := by decide +kernel
theorem dX8_bright_51 : decode cX8_bright 51 = .ok (.istore 4, 2) := by decide +kernel
theorem dX8_bright_53 : decode cX8_bright 53 = .ok (.iinc 5 1, 3) := by decide +kernel
theorem dX8_bright_56 : decode cX8_bright 56 = .ok (.goto (-21), 3) := by decide +kernel
theorem dX8_bright_59 : decode cX8_bright 59 = .ok (.iconst 0, 1) := by decide +kernel
theorem dX8_bright_60 : decode cX8_bright 60 = .ok (.istore 5, 2) := by decide +kernel
theorem dX8_bright_62 : decode cX8_bright 62 = .ok (.iload 5, 2) := by decide +kernel
theorem dX8_bright_64 : decode cX8_bright 64 = .ok (.sipush 128, 3) := by decide +kernel
theorem dX8_bright_67 : decode cX8_bright 67 = .ok (.if_icmp .ge 149, 3) := by decide +kernel
theorem dX8_bright_70 : decode cX8_bright 70 = .ok (.iconst 1, 1) := by decide +kernel
theorem dX8_bright_71 : decode cX8_bright 71 = .ok (.istore 6, 2) := by decide +kernel
theorem dX8_bright_73 : decode cX8_bright 73 = .ok (.iconst 0, 1) := by decide +kernel
theorem dX8_bright_74 : decode cX8_bright 74 = .ok (.istore 7, 2) := by decide +kernel
theorem dX8_bright_76 : decode cX8_bright 76 = .ok (.iconst 0, 1) := by decide +kernel
theorem dX8_bright_77 : decode cX8_bright 77 = .ok (.istore 8, 2) := by decide +kernel
theorem dX8_bright_79 : decode cX8_bright 79 = .ok (.iload 8, 2) := by decide +kernel
theorem dX8_bright_81 : decode cX8_bright 81 = .ok (.bipush 7, 2) := by decide +kernel
theorem dX8_bright_83 : decode cX8_bright 83 = .ok (.if_icmp .ge 112, 3) := by decide +kernel
theorem dX8_bright_86 : decode cX8_bright 86 = .ok (.iload 8, 2) := by decide +kernel
theorem dX8_bright_88 : decode cX8_bright 88 = .ok (.aload_n 0, 1) := by decide +kernel
theorem dX8_bright_89 : decode cX8_bright 89 = .ok (.getfield 7, 3) := by decide +kernel
theorem dX8_bright_92 : decode cX8_bright 92 = .ok (.iconst 2, 1) := by decide +kernel
theorem dX8_bright_93 : decode cX8_bright 93 = .ok (.iaload, 1) := by decide +kernel
theorem dX8_bright_94 : decode cX8_bright 94 = .ok (.aload_n 0, 1) := by decide +kernel
theorem dX8_bright_95 : decode cX8_bright 95 = .ok (.getfield 7, 3) := by decide +kernel
theorem dX8_bright_98 : decode cX8_bright 98 = .ok (.iconst 0, 1) := by decide +kernel
theorem dX8_bright_99 : decode cX8_bright 99 = .ok (.iaload, 1) := by decide +kernel
theorem dX8_bright_100 : decode cX8_bright 100 = .ok (.iconst 1, 1) := by decide +kernel
theorem dX8_bright_101 : decode cX8_bright 101 = .ok (.isub, 1) := by decide +kernel
theorem dX8_bright_102 : decode cX8_bright 102 = .ok (.invokestatic 35, 3) := by decide +kernel
theorem dX8_bright_105 : decode cX8_bright 105 = .ok (.istore 9, 2) := by decide +kernel
theorem dX8_bright_107 : decode cX8_bright 107 = .ok (.aload_n 0, 1) := by decide +kernel
theorem dX8_bright_108 : decode cX8_bright 108 = .ok (.getfield 7, 3) := by decide +kernel
theorem dX8_bright_111 : decode cX8_bright 111 = .ok (.iload 8, 2) := by decide +kernel
theorem dX8_bright_113 : decode cX8_bright 113 = .ok (.invokestatic 98, 3) := by decide +kernel
theorem dX8_bright_116 : decode cX8_bright 116 = .ok (.iconst 1, 1) := by decide +kernel
theorem dX8_bright_117 : decode cX8_bright 117 = .ok (.iadd, 1) := by decide +kernel
theorem dX8_bright_118 : decode cX8_bright 118 = .ok (.iaload, 1) := by decide +kernel
theorem dX8_bright_119 : decode cX8_bright 119 = .ok (.istore 10, 2) := by decide +kernel
theorem dX8_bright_121 : decode cX8_bright 121 = .ok (.iload 7, 2) := by decide +kernel
theorem dX8_bright_123 : decode cX8_bright 123 = .ok (.iload 5, 2) := by decide +kernel
theorem dX8_bright_125 : decode cX8_bright 125 = .ok (.iload 8, 2) := by decide +kernel
theorem dX8_bright_127 : decode cX8_bright 127 = .ok (.invokestatic 193, 3) := by decide +kernel
theorem dX8_bright_130 : decode cX8_bright 130 = .ok (.ifCond .eq 7, 3) := by decide +kernel
theorem dX8_bright_133 : decode cX8_bright 133 = .ok (.iconst 1, 1) := by decide +kernel
theorem dX8_bright_134 : decode cX8_bright 134 = .ok (.goto 4, 3) := by decide +kernel
theorem dX8_bright_137 : decode cX8_bright 137 = .ok (.iconst 0, 1) := by decide +kernel
theorem dX8_bright_138 : decode cX8_bright 138 = .ok (.iadd, 1) := by decide +kernel
theorem dX8_bright_139 : decode cX8_bright 139 = .ok (.istore 7, 2) := by decide +kernel
theorem dX8_bright_141 : decode cX8_bright 141 = .ok (.iload 6, 2) := by decide +kernel
theorem dX8_bright_143 : decode cX8_bright 143 = .ok (.iload 9, 2) := by decide +kernel
theorem dX8_bright_145 : decode cX8_bright 145 = .ok (.ifCond .eq 26, 3) := by decide +kernel
theorem dX8_bright_148 : decode cX8_bright 148 = .ok (.iload 5, 2) := by decide +kernel
theorem dX8_bright_150 : decode cX8_bright 150 = .ok (.iload 8, 2) := by decide +kernel
theorem dX8_bright_152 : decode cX8_bright 152 = .ok (.invokestatic 193, 3) := by decide +kernel
theorem dX8_bright_155 : decode cX8_bright 155 = .ok (.ifCond .eq 8, 3) := by decide +kernel
theorem dX8_bright_158 : decode cX8_bright 158 = .ok (.iload 10, 2) := by decide +kernel
theorem dX8_bright_160 : decode cX8_bright 160 = .ok (.goto 26, 3) := by decide +kernel
theorem dX8_bright_163 : decode cX8_bright 163 = .ok (.bipush 10, 2) := by decide +kernel
theorem dX8_bright_165 : decode cX8_bright 165 = .ok (.iload 10, 2) := by decide +kernel
theorem dX8_bright_167 : decode cX8_bright 167 = .ok (.isub, 1) := by decide +kernel
theorem dX8_bright_168 : decode cX8_bright 168 = .ok (.goto 18, 3) := by decide +kernel
theorem dX8_bright_171 : decode cX8_bright 171 = .ok (.iload 5, 2) := by decide +kernel
theorem dX8_bright_173 : decode cX8_bright 173 = .ok (.iload 8, 2) := by decide +kernel
theorem dX8_bright_175 : decode cX8_bright 175 = .ok (.invokestatic 193, 3) := by decide +kernel
theorem dX8_bright_178 : decode cX8_bright 178 = .ok (.ifCond .eq 7, 3) := by decide +kernel
theorem dX8_bright_181 : decode cX8_bright 181 = .ok (.iconst 0, 1) := by decide +kernel
theorem dX8_bright_182 : decode cX8_bright 182 = .ok (.goto 4, 3) := by decide +kernel
theorem dX8_bright_185 : decode cX8_bright 185 = .ok (.iconst 1, 1) := by decide +kernel
theorem dX8_bright_186 : decode cX8_bright 186 = .ok (.imul, 1) := by decide +kernel
theorem dX8_bright_187 : decode cX8_bright 187 = .ok (.istore 6, 2) := by decide +kernel
theorem dX8_bright_189 : decode cX8_bright 189 = .ok (.iinc 8 1, 3) := by decide +kernel
theorem dX8_bright_192 : decode cX8_bright 192 = .ok (.goto (-113), 3) := by decide +kernel
theorem dX8_bright_195 : decode cX8_bright 195 = .ok (.iload_n 3, 1) := by decide +kernel
theorem dX8_bright_196 : decode cX8_bright 196 = .ok (.iload 7, 2) := by decide +kernel
theorem dX8_bright_198 : decode cX8_bright 198 = .ok (.iload_n 1, 1) := by decide +kernel
theorem dX8_bright_199 : decode cX8_bright 199 = .ok (.if_icmp .lt 8, 3) := by decide +kernel
theorem dX8_bright_202 : decode cX8_bright 202 = .ok (.iload 6, 2) := by decide +kernel
theorem dX8_bright_204 : decode cX8_bright 204 = .ok (.goto 4, 3) := by decide +kernel
theorem dX8_bright_207 : decode cX8_bright 207 = .ok (.iconst 0, 1) := by decide +kernel
theorem dX8_bright_208 : decode cX8_bright 208 = .ok (.iadd, 1) := by decide +kernel
theorem dX8_bright_209 : decode cX8_bright 209 = .ok (.istore_n 3, 1) := by decide +kernel
theorem dX8_bright_210 : decode cX8_bright 210 = .ok (.iinc 5 1, 3) := by decide +kernel
theorem dX8_bright_213 : decode cX8_bright 213 = .ok (.goto (-151), 3) := by decide +kernel
theorem dX8_bright_216 : decode cX8_bright 216 = .ok (.iload_n 3, 1) := by decide +kernel
theorem dX8_bright_217 : decode cX8_bright 217 = .ok (.istore 5, 2) := by decide +kernel
theorem dX8_bright_219 : decode cX8_bright 219 = .ok (.iload 4, 2) := by decide +kernel
theorem dX8_bright_221 : decode cX8_bright 221 = .ok (.istore 6, 2) := by decide +kernel
theorem dX8_bright_223 : decode cX8_bright 223 = .ok (.iload 6, 2) := by decide +kernel
theorem dX8_bright_225 : decode cX8_bright 225 = .ok (.ifCond .eq 21, 3) := by decide +kernel
theorem dX8_bright_228 : decode cX8_bright 228 = .ok (.iload 5, 2) := by decide +kernel
theorem dX8_bright_230 : decode cX8_bright 230 = .ok (.iload 6, 2) := by decide +kernel
theorem dX8_bright_232 : decode cX8_bright 232 = .ok (.irem, 1) := by decide +kernel
theorem dX8_bright_233 : decode cX8_bright 233 = .ok (.istore 7, 2) := by decide +kernel
theorem dX8_bright_235 : decode cX8_bright 235 = .ok (.iload 6, 2) := by decide +kernel
theorem dX8_bright_237 : decode cX8_bright 237 = .ok (.istore 5, 2) := by decide +kernel
theorem dX8_bright_239 : decode cX8_bright 239 = .ok (.iload 7, 2) := by decide +kernel
theorem dX8_bright_241 : decode cX8_bright 241 = .ok (.istore 6, 2) := by decide +kernel
theorem dX8_bright_243 : decode cX8_bright 243 = .ok (.goto (-20), 3) := by decide +kernel
theorem dX8_bright_246 : decode cX8_bright 246 = .ok (.iload_n 2, 1) := by decide +kernel
theorem dX8_bright_247 : decode cX8_bright 247 = .ok (.ifCond .ne 7, 3) := by decide +kernel
theorem dX8_bright_250 : decode cX8_bright 250 = .ok (.iload_n 3, 1) := by decide +kernel
theorem dX8_bright_251 : decode cX8_bright 251 = .ok (.goto 5, 3) := by decide +kernel
theorem dX8_bright_254 : decode cX8_bright 254 = .ok (.iload 4, 2) := by decide +kernel
theorem dX8_bright_256 : decode cX8_bright 256 = .ok (.iload 5, 2) := by decide +kernel
theorem dX8_bright_258 : decode cX8_bright 258 = .ok (.idiv, 1) := by decide +kernel
theorem dX8_bright_259 : decode cX8_bright 259 = .ok (.ireturn, 1) := by decide +kernel
theorem dX8_scoreOf_0 : decode cX8_scoreOf 0 = .ok (.iconst 0, 1) := by decide +kernel
theorem dX8_scoreOf_1 : decode cX8_scoreOf 1 = .ok (.istore_n 2, 1) := by decide +kernel
theorem dX8_scoreOf_2 : decode cX8_scoreOf 2 = .ok (.iconst 0, 1) := by decide +kernel
theorem dX8_scoreOf_3 : decode cX8_scoreOf 3 = .ok (.istore_n 3, 1) := by decide +kernel
theorem dX8_scoreOf_4 : decode cX8_scoreOf 4 = .ok (.iload_n 3, 1) := by decide +kernel
theorem dX8_scoreOf_5 : decode cX8_scoreOf 5 = .ok (.aload_n 0, 1) := by decide +kernel
theorem dX8_scoreOf_6 : decode cX8_scoreOf 6 = .ok (.getfield 7, 3) := by decide +kernel
theorem dX8_scoreOf_9 : decode cX8_scoreOf 9 = .ok (.iconst 2, 1) := by decide +kernel
theorem dX8_scoreOf_10 : decode cX8_scoreOf 10 = .ok (.iaload, 1) := by decide +kernel
theorem dX8_scoreOf_11 : decode cX8_scoreOf 11 = .ok (.if_icmp .ge 48, 3) := by decide +kernel
theorem dX8_scoreOf_14 : decode cX8_scoreOf 14 = .ok (.aload_n 0, 1) := by decide +kernel
theorem dX8_scoreOf_15 : decode cX8_scoreOf 15 = .ok (.getfield 7, 3) := by decide +kernel
theorem dX8_scoreOf_18 : decode cX8_scoreOf 18 = .ok (.iload_n 3, 1) := by decide +kernel
theorem dX8_scoreOf_19 : decode cX8_scoreOf 19 = .ok (.invokestatic 98, 3) := by decide +kernel
theorem dX8_scoreOf_22 : decode cX8_scoreOf 22 = .ok (.bipush 6, 2) := by decide +kernel
theorem dX8_scoreOf_24 : decode cX8_scoreOf 24 = .ok (.iadd, 1) := by decide +kernel
theorem dX8_scoreOf_25 : decode cX8_scoreOf 25 = .ok (.iload_n 1, 1) := by decide +kernel
theorem dX8_scoreOf_26 : decode cX8_scoreOf 26 = .ok (.iadd, 1) := by decide +kernel
theorem dX8_scoreOf_27 : decode cX8_scoreOf 27 = .ok (.iaload, 1) := by decide +kernel
theorem dX8_scoreOf_28 : decode cX8_scoreOf 28 = .ok (.bipush 10, 2) := by decide +kernel
theorem dX8_scoreOf_30 : decode cX8_scoreOf 30 = .ok (.aload_n 0, 1) := by decide +kernel
theorem dX8_scoreOf_31 : decode cX8_scoreOf 31 = .ok (.getfield 7, 3) := by decide +kernel
theorem dX8_scoreOf_34 : decode cX8_scoreOf 34 = .ok (.iload_n 3, 1) := by decide +kernel
theorem dX8_scoreOf_35 : decode cX8_scoreOf 35 = .ok (.invokestatic 98, 3) := by decide +kernel
theorem dX8_scoreOf_38 : decode cX8_scoreOf 38 = .ok (.iconst 5, 1) := by decide +kernel
theorem dX8_scoreOf_39 : decode cX8_scoreOf 39 = .ok (.iadd, 1) := by decide +kernel
theorem dX8_scoreOf_40 : decode cX8_scoreOf 40 = .ok (.iaload, 1) := by decide +kernel
theorem dX8_scoreOf_41 : decode cX8_scoreOf 41 = .ok (.imul, 1) := by decide +kernel
theorem dX8_scoreOf_42 : decode cX8_scoreOf 42 = .ok (.isub, 1) := by decide +kernel
theorem dX8_scoreOf_43 : decode cX8_scoreOf 43 = .ok (.istore 4, 2) := by decide +kernel
theorem dX8_scoreOf_45 : decode cX8_scoreOf 45 = .ok (.iload_n 2, 1) := by decide +kernel
theorem dX8_scoreOf_46 : decode cX8_scoreOf 46 = .ok (.iload 4, 2) := by decide +kernel
theorem dX8_scoreOf_48 : decode cX8_scoreOf 48 = .ok (.iload 4, 2) := by decide +kernel
theorem dX8_scoreOf_50 : decode cX8_scoreOf 50 = .ok (.imul, 1) := by decide +kernel
theorem dX8_scoreOf_51 : decode cX8_scoreOf 51 = .ok (.iadd, 1) := by decide +kernel
theorem dX8_scoreOf_52 : decode cX8_scoreOf 52 = .ok (.istore_n 2, 1) := by decide +kernel
theorem dX8_scoreOf_53 : decode cX8_scoreOf 53 = .ok (.iinc 3 1, 3) := by decide +kernel
theorem dX8_scoreOf_56 : decode cX8_scoreOf 56 = .ok (.goto (-52), 3) := by decide +kernel
theorem dX8_scoreOf_59 : decode cX8_scoreOf 59 = .ok (.iload_n 2, 1) := by decide +kernel
theorem dX8_scoreOf_60 : decode cX8_scoreOf 60 = .ok (.ireturn, 1) := by decide +kernel
theorem dX8_score_0 : decode cX8_score 0 = .ok (.iload_n 1, 1) := by decide +kernel
theorem dX8_score_1 : decode cX8_score 1 = .ok (.invokestatic 170, 3) := by decide +kernel
theorem dX8_score_4 : decode cX8_score 4 = .ok (.ifCond .eq 11, 3) := by decide +kernel
theorem dX8_score_7 : decode cX8_score 7 = .ok (.aload_n 0, 1) := by decide +kernel
theorem dX8_score_8 : decode cX8_score 8 = .ok (.iload_n 1, 1) := by decide +kernel
theorem dX8_score_9 : decode cX8_score 9 = .ok (.invokevirtual 197, 3) := by decide +kernel
theorem dX8_score_12 : decode cX8_score 12 = .ok (.goto 5, 3) := by decide +kernel
theorem dX8_score_15 : decode cX8_score 15 = .ok (.bipush (-2), 2) := by decide +kernel
theorem dX8_score_17 : decode cX8_score 17 = .ok (.ireturn, 1) := by decide +kernel
theorem dX8_best_0 : decode cX8_best 0 = .ok (.iconst 0, 1) := by decide +kernel
theorem dX8_best_1 : decode cX8_best 1 = .ok (.istore_n 1, 1) := by decide +kernel
theorem dX8_best_2 : decode cX8_best 2 = .ok (.iconst 1, 1) := by decide +kernel
theorem dX8_best_3 : decode cX8_best 3 = .ok (.istore_n 2, 1) := by decide +kernel
theorem dX8_best_4 : decode cX8_best 4 = .ok (.iload_n 2, 1) := by decide +kernel
theorem dX8_best_5 : decode cX8_best 5 = .ok (.iconst 3, 1) := by decide +kernel
theorem dX8_best_6 : decode cX8_best 6 = .ok (.if_icmp .ge 28, 3) := by decide +kernel
theorem dX8_best_9 : decode cX8_best 9 = .ok (.aload_n 0, 1) := by decide +kernel
theorem dX8_best_10 : decode cX8_best 10 = .ok (.iload_n 2, 1) := by decide +kernel
theorem dX8_best_11 : decode cX8_best 11 = .ok (.invokevirtual 197, 3) := by decide +kernel
theorem dX8_best_14 : decode cX8_best 14 = .ok (.aload_n 0, 1) := by decide +kernel
theorem dX8_best_15 : decode cX8_best 15 = .ok (.iload_n 1, 1) := by decide +kernel
theorem dX8_best_16 : decode cX8_best 16 = .ok (.invokevirtual 197, 3) := by decide +kernel
theorem dX8_best_19 : decode cX8_best 19 = .ok (.if_icmp .ge 7, 3) := by decide +kernel
theorem dX8_best_22 : decode cX8_best 22 = .ok (.iload_n 2, 1) := by decide +kernel
theorem dX8_best_23 : decode cX8_best 23 = .ok (.goto 4, 3) := by decide +kernel
theorem dX8_best_26 : decode cX8_best 26 = .ok (.iload_n 1, 1) := by decide +kernel
theorem dX8_best_27 : decode cX8_best 27 = .ok (.istore_n 1, 1) := by decide +kernel
theorem dX8_best_28 : decode cX8_best 28 = .ok (.iinc 2 1, 3) := by decide +kernel
theorem dX8_best_31 : decode cX8_best 31 = .ok (.goto (-27), 3) := by decide +kernel
theorem dX8_best_34 : decode cX8_best 34 = .ok (.aload_n 0, 1) := by decide +kernel
theorem dX8_best_35 : decode cX8_best 35 = .ok (.getfield 7, 3) := by decide +kernel
theorem dX8_best_38 : decode cX8_best 38 = .ok (.iconst 2, 1) := by decide +kernel
theorem dX8_best_39 : decode cX8_best 39 = .ok (.iaload, 1) := by decide +kernel
theorem dX8_best_40 : decode cX8_best 40 = .ok (.ifCond .ne 7, 3) := by decide +kernel
theorem dX8_best_43 : decode cX8_best 43 = .ok (.iconst (-1), 1) := by decide +kernel
theorem dX8_best_44 : decode cX8_best 44 = .ok (.goto 4, 3) := by decide +kernel
theorem dX8_best_47 : decode cX8_best 47 = .ok (.iload_n 1, 1) := by decide +kernel
theorem dX8_best_48 : decode cX8_best 48 = .ok (.ireturn, 1) := by decide +kernel
theorem dX8_seen_0 : decode cX8_seen 0 = .ok (.aload_n 0, 1) := by decide +kernel
theorem dX8_seen_1 : decode cX8_seen 1 = .ok (.iload_n 1, 1) := by decide +kernel
theorem dX8_seen_2 : decode cX8_seen 2 = .ok (.invokevirtual 131, 3) := by decide +kernel
theorem dX8_seen_5 : decode cX8_seen 5 = .ok (.ifCond .ne 6, 3) := by decide +kernel
theorem dX8_seen_8 : decode cX8_seen 8 = .ok (.bipush (-2), 2) := by decide +kernel
theorem dX8_seen_10 : decode cX8_seen 10 = .ok (.ireturn, 1) := by decide +kernel
theorem dX8_seen_11 : decode cX8_seen 11 = .ok (.iload_n 2, 1) := by decide +kernel
theorem dX8_seen_12 : decode cX8_seen 12 = .ok (.iconst 0, 1) := by decide +kernel
theorem dX8_seen_13 : decode cX8_seen 13 = .ok (.iconst 1, 1) := by decide +kernel
theorem dX8_seen_14 : decode cX8_seen 14 = .ok (.invokestatic 35, 3) := by decide +kernel
theorem dX8_seen_17 : decode cX8_seen 17 = .ok (.ifCond .ne 6, 3) := by decide +kernel
theorem dX8_seen_20 : decode cX8_seen 20 = .ok (.bipush (-3), 2) := by decide +kernel
theorem dX8_seen_22 : decode cX8_seen 22 = .ok (.ireturn, 1) := by decide +kernel
theorem dX8_seen_23 : decode cX8_seen 23 = .ok (.aload_n 0, 1) := by decide +kernel
theorem dX8_seen_24 : decode cX8_seen 24 = .ok (.getfield 122, 3) := by decide +kernel
theorem dX8_seen_27 : decode cX8_seen 27 = .ok (.bipush 6, 2) := by decide +kernel
theorem dX8_seen_29 : decode cX8_seen 29 = .ok (.if_icmp .ne 6, 3) := by decide +kernel
theorem dX8_seen_32 : decode cX8_seen 32 = .ok (.bipush (-5), 2) := by decide +kernel
theorem dX8_seen_34 : decode cX8_seen 34 = .ok (.ireturn, 1) := by decide +kernel
theorem dX8_seen_35 : decode cX8_seen 35 = .ok (.aload_n 0, 1) := by decide +kernel
theorem dX8_seen_36 : decode cX8_seen 36 = .ok (.getfield 29, 3) := by decide +kernel
theorem dX8_seen_39 : decode cX8_seen 39 = .ok (.iconst 2, 1) := by decide +kernel
theorem dX8_seen_40 : decode cX8_seen 40 = .ok (.aload_n 0, 1) := by decide +kernel
theorem dX8_seen_41 : decode cX8_seen 41 = .ok (.getfield 122, 3) := by decide +kernel
theorem dX8_seen_44 : decode cX8_seen 44 = .ok (.imul, 1) := by decide +kernel
theorem dX8_seen_45 : decode cX8_seen 45 = .ok (.iload_n 1, 1) := by decide +kernel
theorem dX8_seen_46 : decode cX8_seen 46 = .ok (.iastore, 1) := by decide +kernel
theorem dX8_seen_47 : decode cX8_seen 47 = .ok (.aload_n 0, 1) := by decide +kernel
theorem dX8_seen_48 : decode cX8_seen 48 = .ok (.getfield 29, 3) := by decide +kernel
theorem dX8_seen_51 : decode cX8_seen 51 = .ok (.iconst 2, 1) := by decide +kernel
theorem dX8_seen_52 : decode cX8_seen 52 = .ok (.aload_n 0, 1) := by decide +kernel
theorem dX8_seen_53 : decode cX8_seen 53 = .ok (.getfield 122, 3) := by decide +kernel
theorem dX8_seen_56 : decode cX8_seen 56 = .ok (.imul, 1) := by decide +kernel
theorem dX8_seen_57 : decode cX8_seen 57 = .ok (.iconst 1, 1) := by decide +kernel
theorem dX8_seen_58 : decode cX8_seen 58 = .ok (.iadd, 1) := by decide +kernel
theorem dX8_seen_59 : decode cX8_seen 59 = .ok (.iload_n 2, 1) := by decide +kernel
theorem dX8_seen_60 : decode cX8_seen 60 = .ok (.iastore, 1) := by decide +kernel
theorem dX8_seen_61 : decode cX8_seen 61 = .ok (.aload_n 0, 1) := by decide +kernel
theorem dX8_seen_62 : decode cX8_seen 62 = .ok (.dup, 1) := by decide +kernel
theorem dX8_seen_63 : decode cX8_seen 63 = .ok (.getfield 122, 3) := by decide +kernel
theorem dX8_seen_66 : decode cX8_seen 66 = .ok (.iconst 1, 1) := by decide +kernel
theorem dX8_seen_67 : decode cX8_seen 67 = .ok (.iadd, 1) := by decide +kernel
theorem dX8_seen_68 : decode cX8_seen 68 = .ok (.putfield 122, 3) := by decide +kernel
theorem dX8_seen_71 : decode cX8_seen 71 = .ok (.aload_n 0, 1) := by decide +kernel
theorem dX8_seen_72 : decode cX8_seen 72 = .ok (.getfield 122, 3) := by decide +kernel
theorem dX8_seen_75 : decode cX8_seen 75 = .ok (.ireturn, 1) := by decide +kernel
theorem dX8_forget_0 : decode cX8_forget 0 = .ok (.aload_n 0, 1) := by decide +kernel
theorem dX8_forget_1 : decode cX8_forget 1 = .ok (.getfield 122, 3) := by decide +kernel
theorem dX8_forget_4 : decode cX8_forget 4 = .ok (.istore_n 1, 1) := by decide +kernel
theorem dX8_forget_5 : decode cX8_forget 5 = .ok (.aload_n 0, 1) := by decide +kernel
theorem dX8_forget_6 : decode cX8_forget 6 = .ok (.iconst 0, 1) := by decide +kernel
theorem dX8_forget_7 : decode cX8_forget 7 = .ok (.putfield 122, 3) := by decide +kernel
theorem dX8_forget_10 : decode cX8_forget 10 = .ok (.iload_n 1, 1) := by decide +kernel
theorem dX8_forget_11 : decode cX8_forget 11 = .ok (.ireturn, 1) := by decide +kernel
theorem dX8_canHave_0 : decode cX8_canHave 0 = .ok (.iconst 1, 1) := by decide +kernel
theorem dX8_canHave_1 : decode cX8_canHave 1 = .ok (.istore_n 2, 1) := by decide +kernel
theorem dX8_canHave_2 : decode cX8_canHave 2 = .ok (.iconst 0, 1) := by decide +kernel
theorem dX8_canHave_3 : decode cX8_canHave 3 = .ok (.istore_n 3, 1) := by decide +kernel
theorem dX8_canHave_4 : decode cX8_canHave 4 = .ok (.iload_n 3, 1) := by decide +kernel
theorem dX8_canHave_5 : decode cX8_canHave 5 = .ok (.aload_n 0, 1) := by decide +kernel
theorem dX8_canHave_6 : decode cX8_canHave 6 = .ok (.getfield 122, 3) := by decide +kernel
theorem dX8_canHave_9 : decode cX8_canHave 9 = .ok (.if_icmp .ge 87, 3) := by decide +kernel
theorem dX8_canHave_12 : decode cX8_canHave 12 = .ok (.aload_n 0, 1) := by decide +kernel
theorem dX8_canHave_13 : decode cX8_canHave 13 = .ok (.getfield 29, 3) := by decide +kernel
theorem dX8_canHave_16 : decode cX8_canHave 16 = .ok (.iconst 2, 1) := by decide +kernel
theorem dX8_canHave_17 : decode cX8_canHave 17 = .ok (.iload_n 3, 1) := by decide +kernel
theorem dX8_canHave_18 : decode cX8_canHave 18 = .ok (.imul, 1) := by decide +kernel
theorem dX8_canHave_19 : decode cX8_canHave 19 = .ok (.iaload, 1) := by decide +kernel
theorem dX8_canHave_20 : decode cX8_canHave 20 = .ok (.istore 4, 2) := by decide +kernel
theorem dX8_canHave_22 : decode cX8_canHave 22 = .ok (.iload_n 1, 1) := by decide +kernel
theorem dX8_canHave_23 : decode cX8_canHave 23 = .ok (.iconst 5, 1) := by decide +kernel
theorem dX8_canHave_24 : decode cX8_canHave 24 = .ok (.if_icmp .ge 29, 3) := by decide +kernel
theorem dX8_canHave_27 : decode cX8_canHave 27 = .ok (.iload 4, 2) := by decide +kernel
theorem dX8_canHave_29 : decode cX8_canHave 29 = .ok (.iload_n 1, 1) := by decide +kernel
theorem dX8_canHave_30 : decode cX8_canHave 30 = .ok (.if_icmp .eq 23, 3) := by decide +kernel
theorem dX8_canHave_33 : decode cX8_canHave 33 = .ok (.aload_n 0, 1) := by decide +kernel
theorem dX8_canHave_34 : decode cX8_canHave 34 = .ok (.getfield 7, 3) := by decide +kernel
theorem dX8_canHave_37 : decode cX8_canHave 37 = .ok (.iload 4, 2) := by decide +kernel
theorem dX8_canHave_39 : decode cX8_canHave 39 = .ok (.invokestatic 105, 3) := by decide +kernel
theorem dX8_canHave_42 : decode cX8_canHave 42 = .ok (.iconst 0, 1) := by decide +kernel
theorem dX8_canHave_43 : decode cX8_canHave 43 = .ok (.iadd, 1) := by decide +kernel
theorem dX8_canHave_44 : decode cX8_canHave 44 = .ok (.iaload, 1) := by decide +kernel
theorem dX8_canHave_45 : decode cX8_canHave 45 = .ok (.iconst 1, 1) := by decide +kernel
theorem dX8_canHave_46 : decode cX8_canHave 46 = .ok (.if_icmp .eq 7, 3) := by decide +kernel
theorem dX8_canHave_49 : decode cX8_canHave 49 = .ok (.iconst 1, 1) := by decide +kernel
theorem dX8_canHave_50 : decode cX8_canHave 50 = .ok (.goto 4, 3) := by decide +kernel
theorem dX8_canHave_53 : decode cX8_canHave 53 = .ok (.iconst 0, 1) := by decide +kernel
theorem dX8_canHave_54 : decode cX8_canHave 54 = .ok (.istore 5, 2) := by decide +kernel
theorem dX8_canHave_56 : decode cX8_canHave 56 = .ok (.iload_n 2, 1) := by decide +kernel
theorem dX8_canHave_57 : decode cX8_canHave 57 = .ok (.ifCond .eq 31, 3) := by decide +kernel
theorem dX8_canHave_60 : decode cX8_canHave 60 = .ok (.aload_n 0, 1) := by decide +kernel
theorem dX8_canHave_61 : decode cX8_canHave 61 = .ok (.getfield 29, 3) := by decide +kernel
theorem dX8_canHave_64 : decode cX8_canHave 64 = .ok (.iconst 2, 1) := by decide +kernel
theorem dX8_canHave_65 : decode cX8_canHave 65 = .ok (.iload_n 3, 1) := by decide +kernel
theorem dX8_canHave_66 : decode cX8_canHave 66 = .ok (.imul, 1) := by decide +kernel
theorem dX8_canHave_67 : decode cX8_canHave 67 = .ok (.iconst 1, 1) := by decide +kernel
theorem dX8_canHave_68 : decode cX8_canHave 68 = .ok (.iadd, 1) := by decide +kernel
theorem dX8_canHave_69 : decode cX8_canHave 69 = .ok (.iaload, 1) := by decide +kernel
theorem dX8_canHave_70 : decode cX8_canHave 70 = .ok (.iconst 1, 1) := by decide +kernel
theorem dX8_canHave_71 : decode cX8_canHave 71 = .ok (.if_icmp .ne 7, 3) := by decide +kernel
theorem dX8_canHave_74 : decode cX8_canHave 74 = .ok (.iconst 1, 1) := by decide +kernel
theorem dX8_canHave_75 : decode cX8_canHave 75 = .ok (.goto 4, 3) := by decide +kernel
theorem dX8_canHave_78 : decode cX8_canHave 78 = .ok (.iconst 0, 1) := by decide +kernel
theorem dX8_canHave_79 : decode cX8_canHave 79 = .ok (.iload 5, 2) := by decide +kernel
theorem dX8_canHave_81 : decode cX8_canHave 81 = .ok (.if_icmp .ne 7, 3) := by decide +kernel
theorem dX8_canHave_84 : decode cX8_canHave 84 = .ok (.iconst 1, 1) := by decide +kernel
theorem dX8_canHave_85 : decode cX8_canHave 85 = .ok (.goto 4, 3) := by decide +kernel
theorem dX8_canHave_88 : decode cX8_canHave 88 = .ok (.iconst 0, 1) := by decide +kernel
theorem dX8_canHave_89 : decode cX8_canHave 89 = .ok (.istore_n 2, 1) := by decide +kernel
theorem dX8_canHave_90 : decode cX8_canHave 90 = .ok (.iinc 3 1, 3) := by decide +kernel
theorem dX8_canHave_93 : decode cX8_canHave 93 = .ok (.goto (-89), 3) := by decide +kernel
theorem dX8_canHave_96 : decode cX8_canHave 96 = .ok (.iload_n 2, 1) := by decide +kernel
theorem dX8_canHave_97 : decode cX8_canHave 97 = .ok (.ireturn, 1) := by decide +kernel
theorem dX8_buyers_0 : decode cX8_buyers 0 = .ok (.aload_n 0, 1) := by decide +kernel
theorem dX8_buyers_1 : decode cX8_buyers 1 = .ok (.iconst 5, 1) := by decide +kernel
theorem dX8_buyers_2 : decode cX8_buyers 2 = .ok (.invokevirtual 200, 3) := by decide +kernel
theorem dX8_buyers_5 : decode cX8_buyers 5 = .ok (.ifCond .eq 8, 3) := by decide +kernel
theorem dX8_buyers_8 : decode cX8_buyers 8 = .ok (.bipush 32, 2) := by decide +kernel
theorem dX8_buyers_10 : decode cX8_buyers 10 = .ok (.goto 4, 3) := by decide +kernel
theorem dX8_buyers_13 : decode cX8_buyers 13 = .ok (.iconst 0, 1) := by decide +kernel
theorem dX8_buyers_14 : decode cX8_buyers 14 = .ok (.istore_n 1, 1) := by decide +kernel
theorem dX8_buyers_15 : decode cX8_buyers 15 = .ok (.iconst 0, 1) := by decide +kernel
theorem dX8_buyers_16 : decode cX8_buyers 16 = .ok (.istore_n 2, 1) := by decide +kernel
theorem dX8_buyers_17 : decode cX8_buyers 17 = .ok (.iload_n 2, 1) := by decide +kernel
theorem dX8_buyers_18 : decode cX8_buyers 18 = .ok (.aload_n 0, 1) := by decide +kernel
theorem dX8_buyers_19 : decode cX8_buyers 19 = .ok (.getfield 7, 3) := by decide +kernel
theorem dX8_buyers_22 : decode cX8_buyers 22 = .ok (.iconst 1, 1) := by decide +kernel
theorem dX8_buyers_23 : decode cX8_buyers 23 = .ok (.iaload, 1) := by decide +kernel
theorem dX8_buyers_24 : decode cX8_buyers 24 = .ok (.if_icmp .ge 27, 3) := by decide +kernel
theorem dX8_buyers_27 : decode cX8_buyers 27 = .ok (.iload_n 1, 1) := by decide +kernel
theorem dX8_buyers_28 : decode cX8_buyers 28 = .ok (.aload_n 0, 1) := by decide +kernel
theorem dX8_buyers_29 : decode cX8_buyers 29 = .ok (.iload_n 2, 1) := by decide +kernel
theorem dX8_buyers_30 : decode cX8_buyers 30 = .ok (.invokevirtual 200, 3) := by decide +kernel
theorem dX8_buyers_33 : decode cX8_buyers 33 = .ok (.ifCond .eq 9, 3) := by decide +kernel
theorem dX8_buyers_36 : decode cX8_buyers 36 = .ok (.iconst 1, 1) := by decide +kernel
theorem dX8_buyers_37 : decode cX8_buyers 37 = .ok (.iload_n 2, 1) := by decide +kernel
theorem dX8_buyers_38 : decode cX8_buyers 38 = .ok (.ishl, 1) := by decide +kernel
theorem dX8_buyers_39 : decode cX8_buyers 39 = .ok (.goto 4, 3) := by decide +kernel
theorem dX8_buyers_42 : decode cX8_buyers 42 = .ok (.iconst 0, 1) := by decide +kernel
theorem dX8_buyers_43 : decode cX8_buyers 43 = .ok (.ior, 1) := by decide +kernel
theorem dX8_buyers_44 : decode cX8_buyers 44 = .ok (.istore_n 1, 1) := by decide +kernel
theorem dX8_buyers_45 : decode cX8_buyers 45 = .ok (.iinc 2 1, 3) := by decide +kernel
theorem dX8_buyers_48 : decode cX8_buyers 48 = .ok (.goto (-31), 3) := by decide +kernel
theorem dX8_buyers_51 : decode cX8_buyers 51 = .ok (.iload_n 1, 1) := by decide +kernel
theorem dX8_buyers_52 : decode cX8_buyers 52 = .ok (.ireturn, 1) := by decide +kernel
theorem dX8_count_0 : decode cX8_count 0 = .ok (.iconst 0, 1) := by decide +kernel
theorem dX8_count_1 : decode cX8_count 1 = .ok (.istore_n 2, 1) := by decide +kernel
theorem dX8_count_2 : decode cX8_count 2 = .ok (.iconst 0, 1) := by decide +kernel
theorem dX8_count_3 : decode cX8_count 3 = .ok (.istore_n 3, 1) := by decide +kernel
theorem dX8_count_4 : decode cX8_count 4 = .ok (.iload_n 3, 1) := by decide +kernel
theorem dX8_count_5 : decode cX8_count 5 = .ok (.aload_n 0, 1) := by decide +kernel
theorem dX8_count_6 : decode cX8_count 6 = .ok (.getfield 7, 3) := by decide +kernel
theorem dX8_count_9 : decode cX8_count 9 = .ok (.iconst 1, 1) := by decide +kernel
theorem dX8_count_10 : decode cX8_count 10 = .ok (.iaload, 1) := by decide +kernel
theorem dX8_count_11 : decode cX8_count 11 = .ok (.if_icmp .ge 23, 3) := by decide +kernel
theorem dX8_count_14 : decode cX8_count 14 = .ok (.iload_n 2, 1) := by decide +kernel
theorem dX8_count_15 : decode cX8_count 15 = .ok (.aload_n 0, 1) := by decide +kernel
theorem dX8_count_16 : decode cX8_count 16 = .ok (.getfield 7, 3) := by decide +kernel
theorem dX8_count_19 : decode cX8_count 19 = .ok (.iload_n 3, 1) := by decide +kernel
theorem dX8_count_20 : decode cX8_count 20 = .ok (.invokestatic 105, 3) := by decide +kernel
theorem dX8_count_23 : decode cX8_count 23 = .ok (.iconst 4, 1) := by decide +kernel
theorem dX8_count_24 : decode cX8_count 24 = .ok (.iadd, 1) := by decide +kernel
theorem dX8_count_25 : decode cX8_count 25 = .ok (.iaload, 1) := by decide +kernel
theorem dX8_count_26 : decode cX8_count 26 = .ok (.iadd, 1) := by decide +kernel
theorem dX8_count_27 : decode cX8_count 27 = .ok (.istore_n 2, 1) := by decide +kernel
theorem dX8_count_28 : decode cX8_count 28 = .ok (.iinc 3 1, 3) := by decide +kernel
theorem dX8_count_31 : decode cX8_count 31 = .ok (.goto (-27), 3) := by decide +kernel
theorem dX8_count_34 : decode cX8_count 34 = .ok (.iload_n 1, 1) := by decide +kernel
theorem dX8_count_35 : decode cX8_count 35 = .ok (.tableswitch 98 0 11 #[61, 61, 61, 61, 61, 61, 68, 73, 81, 83, 88, 93], 61) := by decide +kernel
theorem dX8_count_96 : decode cX8_count 96 = .ok (.aload_n 0, 1) := by decide +kernel
theorem dX8_count_97 : decode cX8_count 97 = .ok (.getfield 7, 3) := by decide +kernel
theorem dX8_count_100 : decode cX8_count 100 = .ok (.iload_n 1, 1) := by decide +kernel
theorem dX8_count_101 : decode cX8_count 101 = .ok (.iaload, 1) := by decide +kernel
theorem dX8_count_102 : decode cX8_count 102 = .ok (.ireturn, 1) := by decide +kernel
theorem dX8_count_103 : decode cX8_count 103 = .ok (.aload_n 0, 1) := by decide +kernel
theorem dX8_count_104 : decode cX8_count 104 = .ok (.invokevirtual 147, 3) := by decide +kernel
theorem dX8_count_107 : decode cX8_count 107 = .ok (.ireturn, 1) := by decide +kernel
theorem dX8_count_108 : decode cX8_count 108 = .ok (.aload_n 0, 1) := by decide +kernel
theorem dX8_count_109 : decode cX8_count 109 = .ok (.getfield 7, 3) := by decide +kernel
theorem dX8_count_112 : decode cX8_count 112 = .ok (.bipush 6, 2) := by decide +kernel
theorem dX8_count_114 : decode cX8_count 114 = .ok (.iaload, 1) := by decide +kernel
theorem dX8_count_115 : decode cX8_count 115 = .ok (.ireturn, 1) := by decide +kernel
theorem dX8_count_116 : decode cX8_count 116 = .ok (.iload_n 2, 1) := by decide +kernel
theorem dX8_count_117 : decode cX8_count 117 = .ok (.ireturn, 1) := by decide +kernel
theorem dX8_count_118 : decode cX8_count 118 = .ok (.aload_n 0, 1) := by decide +kernel
theorem dX8_count_119 : decode cX8_count 119 = .ok (.getfield 122, 3) := by decide +kernel
theorem dX8_count_122 : decode cX8_count 122 = .ok (.ireturn, 1) := by decide +kernel
theorem dX8_count_123 : decode cX8_count 123 = .ok (.aload_n 0, 1) := by decide +kernel
theorem dX8_count_124 : decode cX8_count 124 = .ok (.getfield 125, 3) := by decide +kernel
theorem dX8_count_127 : decode cX8_count 127 = .ok (.ireturn, 1) := by decide +kernel
theorem dX8_count_128 : decode cX8_count 128 = .ok (.aload_n 0, 1) := by decide +kernel
theorem dX8_count_129 : decode cX8_count 129 = .ok (.getfield 39, 3) := by decide +kernel
theorem dX8_count_132 : decode cX8_count 132 = .ok (.ireturn, 1) := by decide +kernel
theorem dX8_count_133 : decode cX8_count 133 = .ok (.bipush (-3), 2) := by decide +kernel
theorem dX8_count_135 : decode cX8_count 135 = .ok (.ireturn, 1) := by decide +kernel
