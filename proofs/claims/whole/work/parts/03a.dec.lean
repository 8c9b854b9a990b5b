theorem dX0_init_0 : decode cX0_init 0 = .ok (.aload_n 0, 1) := by decide +kernel
theorem dX0_init_1 : decode cX0_init 1 = .ok (.invokespecial 3, 3) := by decide +kernel
theorem dX0_init_4 : decode cX0_init 4 = .ok (.aload_n 0, 1) := by decide +kernel
theorem dX0_init_5 : decode cX0_init 5 = .ok (.iconst 5, 1) := by decide +kernel
theorem dX0_init_6 : decode cX0_init 6 = .ok (.newarray .int, 2) := by decide +kernel
theorem dX0_init_8 : decode cX0_init 8 = .ok (.putfield 9, 3) := by decide +kernel
theorem dX0_init_11 : decode cX0_init 11 = .ok (.aload_n 0, 1) := by decide +kernel
theorem dX0_init_12 : decode cX0_init 12 = .ok (.aload_n 1, 1) := by decide +kernel
theorem dX0_init_13 : decode cX0_init 13 = .ok (.putfield 15, 3) := by decide +kernel
theorem dX0_init_16 : decode cX0_init 16 = .ok (.aload_n 0, 1) := by decide +kernel
theorem dX0_init_17 : decode cX0_init 17 = .ok (.aload_n 2, 1) := by decide +kernel
theorem dX0_init_18 : decode cX0_init 18 = .ok (.putfield 19, 3) := by decide +kernel
theorem dX0_init_21 : decode cX0_init 21 = .ok (.return_, 1) := by decide +kernel
theorem dX0_ownerBy_0 : decode cX0_ownerBy 0 = .ok (.iconst (-1), 1) := by decide +kernel
theorem dX0_ownerBy_1 : decode cX0_ownerBy 1 = .ok (.istore_n 2, 1) := by decide +kernel
theorem dX0_ownerBy_2 : decode cX0_ownerBy 2 = .ok (.iconst 0, 1) := by decide +kernel
theorem dX0_ownerBy_3 : decode cX0_ownerBy 3 = .ok (.istore_n 3, 1) := by decide +kernel
theorem dX0_ownerBy_4 : decode cX0_ownerBy 4 = .ok (.iload_n 3, 1) := by decide +kernel
theorem dX0_ownerBy_5 : decode cX0_ownerBy 5 = .ok (.aload_n 0, 1) := by decide +kernel
theorem dX0_ownerBy_6 : decode cX0_ownerBy 6 = .ok (.getfield 15, 3) := by decide +kernel
theorem dX0_ownerBy_9 : decode cX0_ownerBy 9 = .ok (.getfield 23, 3) := by decide +kernel
theorem dX0_ownerBy_12 : decode cX0_ownerBy 12 = .ok (.if_icmp .ge 38, 3) := by decide +kernel
theorem dX0_ownerBy_15 : decode cX0_ownerBy 15 = .ok (.aload_n 1, 1) := by decide +kernel
theorem dX0_ownerBy_16 : decode cX0_ownerBy 16 = .ok (.iload_n 3, 1) := by decide +kernel
theorem dX0_ownerBy_17 : decode cX0_ownerBy 17 = .ok (.iaload, 1) := by decide +kernel
theorem dX0_ownerBy_18 : decode cX0_ownerBy 18 = .ok (.aload_n 0, 1) := by decide +kernel
theorem dX0_ownerBy_19 : decode cX0_ownerBy 19 = .ok (.getfield 15, 3) := by decide +kernel
theorem dX0_ownerBy_22 : decode cX0_ownerBy 22 = .ok (.getfield 29, 3) := by decide +kernel
theorem dX0_ownerBy_25 : decode cX0_ownerBy 25 = .ok (.if_icmp .lt 19, 3) := by decide +kernel
theorem dX0_ownerBy_28 : decode cX0_ownerBy 28 = .ok (.iload_n 2, 1) := by decide +kernel
theorem dX0_ownerBy_29 : decode cX0_ownerBy 29 = .ok (.iconst (-1), 1) := by decide +kernel
theorem dX0_ownerBy_30 : decode cX0_ownerBy 30 = .ok (.if_icmp .eq 12, 3) := by decide +kernel
theorem dX0_ownerBy_33 : decode cX0_ownerBy 33 = .ok (.aload_n 1, 1) := by decide +kernel
theorem dX0_ownerBy_34 : decode cX0_ownerBy 34 = .ok (.iload_n 3, 1) := by decide +kernel
theorem dX0_ownerBy_35 : decode cX0_ownerBy 35 = .ok (.iaload, 1) := by decide +kernel
theorem dX0_ownerBy_36 : decode cX0_ownerBy 36 = .ok (.aload_n 1, 1) := by decide +kernel
theorem dX0_ownerBy_37 : decode cX0_ownerBy 37 = .ok (.iload_n 2, 1) := by decide +kernel
theorem dX0_ownerBy_38 : decode cX0_ownerBy 38 = .ok (.iaload, 1) := by decide +kernel
theorem dX0_ownerBy_39 : decode cX0_ownerBy 39 = .ok (.if_icmp .le 5, 3) := by decide +kernel
theorem dX0_ownerBy_42 : decode cX0_ownerBy 42 = .ok (.iload_n 3, 1) := by decide +kernel
theorem dX0_ownerBy_43 : decode cX0_ownerBy 43 = .ok (.istore_n 2, 1) := by decide +kernel
theorem dX0_ownerBy_44 : decode cX0_ownerBy 44 = .ok (.iinc 3 1, 3) := by decide +kernel
theorem dX0_ownerBy_47 : decode cX0_ownerBy 47 = .ok (.goto (-43), 3) := by decide +kernel
theorem dX0_ownerBy_50 : decode cX0_ownerBy 50 = .ok (.iload_n 2, 1) := by decide +kernel
theorem dX0_ownerBy_51 : decode cX0_ownerBy 51 = .ok (.ireturn, 1) := by decide +kernel
theorem dX0_paymentBy_0 : decode cX0_paymentBy 0 = .ok (.iload_n 3, 1) := by decide +kernel
theorem dX0_paymentBy_1 : decode cX0_paymentBy 1 = .ok (.ifCond .ne 7, 3) := by decide +kernel
theorem dX0_paymentBy_4 : decode cX0_paymentBy 4 = .ok (.aload_n 1, 1) := by decide +kernel
theorem dX0_paymentBy_5 : decode cX0_paymentBy 5 = .ok (.iload_n 2, 1) := by decide +kernel
theorem dX0_paymentBy_6 : decode cX0_paymentBy 6 = .ok (.iaload, 1) := by decide +kernel
theorem dX0_paymentBy_7 : decode cX0_paymentBy 7 = .ok (.ireturn, 1) := by decide +kernel
theorem dX0_paymentBy_8 : decode cX0_paymentBy 8 = .ok (.aload_n 0, 1) := by decide +kernel
theorem dX0_paymentBy_9 : decode cX0_paymentBy 9 = .ok (.getfield 15, 3) := by decide +kernel
theorem dX0_paymentBy_12 : decode cX0_paymentBy 12 = .ok (.getfield 29, 3) := by decide +kernel
theorem dX0_paymentBy_15 : decode cX0_paymentBy 15 = .ok (.istore 4, 2) := by decide +kernel
theorem dX0_paymentBy_17 : decode cX0_paymentBy 17 = .ok (.iconst 0, 1) := by decide +kernel
theorem dX0_paymentBy_18 : decode cX0_paymentBy 18 = .ok (.istore 5, 2) := by decide +kernel
theorem dX0_paymentBy_20 : decode cX0_paymentBy 20 = .ok (.iload 5, 2) := by decide +kernel
theorem dX0_paymentBy_22 : decode cX0_paymentBy 22 = .ok (.aload_n 0, 1) := by decide +kernel
theorem dX0_paymentBy_23 : decode cX0_paymentBy 23 = .ok (.getfield 15, 3) := by decide +kernel
theorem dX0_paymentBy_26 : decode cX0_paymentBy 26 = .ok (.getfield 23, 3) := by decide +kernel
theorem dX0_paymentBy_29 : decode cX0_paymentBy 29 = .ok (.if_icmp .ge 26, 3) := by decide +kernel
theorem dX0_paymentBy_32 : decode cX0_paymentBy 32 = .ok (.iload 5, 2) := by decide +kernel
theorem dX0_paymentBy_34 : decode cX0_paymentBy 34 = .ok (.iload_n 2, 1) := by decide +kernel
theorem dX0_paymentBy_35 : decode cX0_paymentBy 35 = .ok (.if_icmp .eq 14, 3) := by decide +kernel
theorem dX0_paymentBy_38 : decode cX0_paymentBy 38 = .ok (.iload 4, 2) := by decide +kernel
theorem dX0_paymentBy_40 : decode cX0_paymentBy 40 = .ok (.aload_n 1, 1) := by decide +kernel
theorem dX0_paymentBy_41 : decode cX0_paymentBy 41 = .ok (.iload 5, 2) := by decide +kernel
theorem dX0_paymentBy_43 : decode cX0_paymentBy 43 = .ok (.iaload, 1) := by decide +kernel
theorem dX0_paymentBy_44 : decode cX0_paymentBy 44 = .ok (.invokestatic 32, 3) := by decide +kernel
theorem dX0_paymentBy_47 : decode cX0_paymentBy 47 = .ok (.istore 4, 2) := by decide +kernel
theorem dX0_paymentBy_49 : decode cX0_paymentBy 49 = .ok (.iinc 5 1, 3) := by decide +kernel
theorem dX0_paymentBy_52 : decode cX0_paymentBy 52 = .ok (.goto (-32), 3) := by decide +kernel
theorem dX0_paymentBy_55 : decode cX0_paymentBy 55 = .ok (.iload 4, 2) := by decide +kernel
theorem dX0_paymentBy_57 : decode cX0_paymentBy 57 = .ok (.ireturn, 1) := by decide +kernel
theorem dX0_gainBy_0 : decode cX0_gainBy 0 = .ok (.aload_n 0, 1) := by decide +kernel
theorem dX0_gainBy_1 : decode cX0_gainBy 1 = .ok (.aload_n 1, 1) := by decide +kernel
theorem dX0_gainBy_2 : decode cX0_gainBy 2 = .ok (.invokevirtual 38, 3) := by decide +kernel
theorem dX0_gainBy_5 : decode cX0_gainBy 5 = .ok (.iload_n 2, 1) := by decide +kernel
theorem dX0_gainBy_6 : decode cX0_gainBy 6 = .ok (.if_icmp .eq 5, 3) := by decide +kernel
theorem dX0_gainBy_9 : decode cX0_gainBy 9 = .ok (.iconst 0, 1) := by decide +kernel
theorem dX0_gainBy_10 : decode cX0_gainBy 10 = .ok (.ireturn, 1) := by decide +kernel
theorem dX0_gainBy_11 : decode cX0_gainBy 11 = .ok (.aload_n 0, 1) := by decide +kernel
theorem dX0_gainBy_12 : decode cX0_gainBy 12 = .ok (.getfield 15, 3) := by decide +kernel
theorem dX0_gainBy_15 : decode cX0_gainBy 15 = .ok (.iload_n 2, 1) := by decide +kernel
theorem dX0_gainBy_16 : decode cX0_gainBy 16 = .ok (.aload_n 0, 1) := by decide +kernel
theorem dX0_gainBy_17 : decode cX0_gainBy 17 = .ok (.getfield 19, 3) := by decide +kernel
theorem dX0_gainBy_20 : decode cX0_gainBy 20 = .ok (.getfield 42, 3) := by decide +kernel
theorem dX0_gainBy_23 : decode cX0_gainBy 23 = .ok (.aload_n 0, 1) := by decide +kernel
theorem dX0_gainBy_24 : decode cX0_gainBy 24 = .ok (.aload_n 1, 1) := by decide +kernel
theorem dX0_gainBy_25 : decode cX0_gainBy 25 = .ok (.iload_n 2, 1) := by decide +kernel
theorem dX0_gainBy_26 : decode cX0_gainBy 26 = .ok (.aload_n 0, 1) := by decide +kernel
theorem dX0_gainBy_27 : decode cX0_gainBy 27 = .ok (.getfield 15, 3) := by decide +kernel
theorem dX0_gainBy_30 : decode cX0_gainBy 30 = .ok (.getfield 47, 3) := by decide +kernel
theorem dX0_gainBy_33 : decode cX0_gainBy 33 = .ok (.invokevirtual 50, 3) := by decide +kernel
theorem dX0_gainBy_36 : decode cX0_gainBy 36 = .ok (.invokevirtual 54, 3) := by decide +kernel
theorem dX0_gainBy_39 : decode cX0_gainBy 39 = .ok (.ireturn, 1) := by decide +kernel
theorem dX0_sell_0 : decode cX0_sell 0 = .ok (.aload_n 0, 1) := by decide +kernel
theorem dX0_sell_1 : decode cX0_sell 1 = .ok (.getfield 19, 3) := by decide +kernel
theorem dX0_sell_4 : decode cX0_sell 4 = .ok (.getfield 42, 3) := by decide +kernel
theorem dX0_sell_7 : decode cX0_sell 7 = .ok (.istore_n 2, 1) := by decide +kernel
theorem dX0_sell_8 : decode cX0_sell 8 = .ok (.aload_n 0, 1) := by decide +kernel
theorem dX0_sell_9 : decode cX0_sell 9 = .ok (.aload_n 0, 1) := by decide +kernel
theorem dX0_sell_10 : decode cX0_sell 10 = .ok (.getfield 19, 3) := by decide +kernel
theorem dX0_sell_13 : decode cX0_sell 13 = .ok (.getfield 58, 3) := by decide +kernel
theorem dX0_sell_16 : decode cX0_sell 16 = .ok (.invokevirtual 38, 3) := by decide +kernel
theorem dX0_sell_19 : decode cX0_sell 19 = .ok (.istore_n 3, 1) := by decide +kernel
theorem dX0_sell_20 : decode cX0_sell 20 = .ok (.aload_n 0, 1) := by decide +kernel
theorem dX0_sell_21 : decode cX0_sell 21 = .ok (.iload_n 1, 1) := by decide +kernel
theorem dX0_sell_22 : decode cX0_sell 22 = .ok (.iload_n 2, 1) := by decide +kernel
theorem dX0_sell_23 : decode cX0_sell 23 = .ok (.invokevirtual 61, 3) := by decide +kernel
theorem dX0_sell_26 : decode cX0_sell 26 = .ok (.istore 4, 2) := by decide +kernel
theorem dX0_sell_28 : decode cX0_sell 28 = .ok (.iconst (-1), 1) := by decide +kernel
theorem dX0_sell_29 : decode cX0_sell 29 = .ok (.istore 5, 2) := by decide +kernel
theorem dX0_sell_31 : decode cX0_sell 31 = .ok (.iload_n 3, 1) := by decide +kernel
theorem dX0_sell_32 : decode cX0_sell 32 = .ok (.iconst (-1), 1) := by decide +kernel
theorem dX0_sell_33 : decode cX0_sell 33 = .ok (.if_icmp .eq 33, 3) := by decide +kernel
theorem dX0_sell_36 : decode cX0_sell 36 = .ok (.aload_n 0, 1) := by decide +kernel
theorem dX0_sell_37 : decode cX0_sell 37 = .ok (.aload_n 0, 1) := by decide +kernel
theorem dX0_sell_38 : decode cX0_sell 38 = .ok (.getfield 19, 3) := by decide +kernel
theorem dX0_sell_41 : decode cX0_sell 41 = .ok (.getfield 58, 3) := by decide +kernel
theorem dX0_sell_44 : decode cX0_sell 44 = .ok (.iload_n 3, 1) := by decide +kernel
theorem dX0_sell_45 : decode cX0_sell 45 = .ok (.aload_n 0, 1) := by decide +kernel
theorem dX0_sell_46 : decode cX0_sell 46 = .ok (.getfield 15, 3) := by decide +kernel
theorem dX0_sell_49 : decode cX0_sell 49 = .ok (.getfield 47, 3) := by decide +kernel
theorem dX0_sell_52 : decode cX0_sell 52 = .ok (.invokevirtual 50, 3) := by decide +kernel
theorem dX0_sell_55 : decode cX0_sell 55 = .ok (.istore 5, 2) := by decide +kernel
theorem dX0_sell_57 : decode cX0_sell 57 = .ok (.aload_n 0, 1) := by decide +kernel
theorem dX0_sell_58 : decode cX0_sell 58 = .ok (.iload_n 3, 1) := by decide +kernel
theorem dX0_sell_59 : decode cX0_sell 59 = .ok (.iload 5, 2) := by decide +kernel
theorem dX0_sell_61 : decode cX0_sell 61 = .ok (.iload 4, 2) := by decide +kernel
theorem dX0_sell_63 : decode cX0_sell 63 = .ok (.invokevirtual 65, 3) := by decide +kernel
theorem dX0_sell_66 : decode cX0_sell 66 = .ok (.aload_n 0, 1) := by decide +kernel
theorem dX0_sell_67 : decode cX0_sell 67 = .ok (.getfield 19, 3) := by decide +kernel
theorem dX0_sell_70 : decode cX0_sell 70 = .ok (.getfield 69, 3) := by decide +kernel
theorem dX0_sell_73 : decode cX0_sell 73 = .ok (.iload_n 2, 1) := by decide +kernel
theorem dX0_sell_74 : decode cX0_sell 74 = .ok (.iload 4, 2) := by decide +kernel
theorem dX0_sell_76 : decode cX0_sell 76 = .ok (.ifCond .eq 7, 3) := by decide +kernel
theorem dX0_sell_79 : decode cX0_sell 79 = .ok (.iconst 1, 1) := by decide +kernel
theorem dX0_sell_80 : decode cX0_sell 80 = .ok (.goto 4, 3) := by decide +kernel
theorem dX0_sell_83 : decode cX0_sell 83 = .ok (.iconst 0, 1) := by decide +kernel
theorem dX0_sell_84 : decode cX0_sell 84 = .ok (.iastore, 1) := by decide +kernel
theorem dX0_sell_85 : decode cX0_sell 85 = .ok (.aload_n 0, 1) := by decide +kernel
theorem dX0_sell_86 : decode cX0_sell 86 = .ok (.getfield 19, 3) := by decide +kernel
theorem dX0_sell_89 : decode cX0_sell 89 = .ok (.getfield 58, 3) := by decide +kernel
theorem dX0_sell_92 : decode cX0_sell 92 = .ok (.iconst (-1), 1) := by decide +kernel
theorem dX0_sell_93 : decode cX0_sell 93 = .ok (.invokestatic 72, 3) := by decide +kernel
theorem dX0_sell_96 : decode cX0_sell 96 = .ok (.aload_n 0, 1) := by decide +kernel
theorem dX0_sell_97 : decode cX0_sell 97 = .ok (.getfield 19, 3) := by decide +kernel
theorem dX0_sell_100 : decode cX0_sell 100 = .ok (.dup, 1) := by decide +kernel
theorem dX0_sell_101 : decode cX0_sell 101 = .ok (.getfield 42, 3) := by decide +kernel
theorem dX0_sell_104 : decode cX0_sell 104 = .ok (.iconst 1, 1) := by decide +kernel
theorem dX0_sell_105 : decode cX0_sell 105 = .ok (.iadd, 1) := by decide +kernel
theorem dX0_sell_106 : decode cX0_sell 106 = .ok (.putfield 42, 3) := by decide +kernel
theorem dX0_sell_109 : decode cX0_sell 109 = .ok (.iload 5, 2) := by decide +kernel
theorem dX0_sell_111 : decode cX0_sell 111 = .ok (.ireturn, 1) := by decide +kernel
theorem dX0_isBrightBy_0 : decode cX0_isBrightBy 0 = .ok (.ldc2_w 78, 3) := by decide +kernel
theorem dX0_isBrightBy_3 : decode cX0_isBrightBy 3 = .ok (.iload_n 1, 1) := by decide +kernel
theorem dX0_isBrightBy_4 : decode cX0_isBrightBy 4 = .ok (.i2l, 1) := by decide +kernel
theorem dX0_isBrightBy_5 : decode cX0_isBrightBy 5 = .ok (.lmul, 1) := by decide +kernel
theorem dX0_isBrightBy_6 : decode cX0_isBrightBy 6 = .ok (.ldc2_w 80, 3) := by decide +kernel
theorem dX0_isBrightBy_9 : decode cX0_isBrightBy 9 = .ok (.iload_n 2, 1) := by decide +kernel
theorem dX0_isBrightBy_10 : decode cX0_isBrightBy 10 = .ok (.i2l, 1) := by decide +kernel
theorem dX0_isBrightBy_11 : decode cX0_isBrightBy 11 = .ok (.lmul, 1) := by decide +kernel
theorem dX0_isBrightBy_12 : decode cX0_isBrightBy 12 = .ok (.ladd, 1) := by decide +kernel
theorem dX0_isBrightBy_13 : decode cX0_isBrightBy 13 = .ok (.lconst 1, 1) := by decide +kernel
theorem dX0_isBrightBy_14 : decode cX0_isBrightBy 14 = .ok (.ladd, 1) := by decide +kernel
theorem dX0_isBrightBy_15 : decode cX0_isBrightBy 15 = .ok (.lstore_n 3, 1) := by decide +kernel
theorem dX0_isBrightBy_16 : decode cX0_isBrightBy 16 = .ok (.lload_n 3, 1) := by decide +kernel
theorem dX0_isBrightBy_17 : decode cX0_isBrightBy 17 = .ok (.lload_n 3, 1) := by decide +kernel
theorem dX0_isBrightBy_18 : decode cX0_isBrightBy 18 = .ok (.lmul, 1) := by decide +kernel
theorem dX0_isBrightBy_19 : decode cX0_isBrightBy 19 = .ok (.ldc2_w 82, 3) := by decide +kernel
theorem dX0_isBrightBy_22 : decode cX0_isBrightBy 22 = .ok (.lrem, 1) := by decide +kernel
theorem dX0_isBrightBy_23 : decode cX0_isBrightBy 23 = .ok (.ldc2_w 84, 3) := by decide +kernel
theorem dX0_isBrightBy_26 : decode cX0_isBrightBy 26 = .ok (.lrem, 1) := by decide +kernel
theorem dX0_isBrightBy_27 : decode cX0_isBrightBy 27 = .ok (.aload_n 0, 1) := by decide +kernel
theorem dX0_isBrightBy_28 : decode cX0_isBrightBy 28 = .ok (.getfield 15, 3) := by decide +kernel
theorem dX0_isBrightBy_31 : decode cX0_isBrightBy 31 = .ok (.getfield 86, 3) := by decide +kernel
theorem dX0_isBrightBy_34 : decode cX0_isBrightBy 34 = .ok (.iload_n 2, 1) := by decide +kernel
theorem dX0_isBrightBy_35 : decode cX0_isBrightBy 35 = .ok (.iaload, 1) := by decide +kernel
theorem dX0_isBrightBy_36 : decode cX0_isBrightBy 36 = .ok (.i2l, 1) := by decide +kernel
theorem dX0_isBrightBy_37 : decode cX0_isBrightBy 37 = .ok (.lcmp, 1) := by decide +kernel
theorem dX0_isBrightBy_38 : decode cX0_isBrightBy 38 = .ok (.ifCond .ge 7, 3) := by decide +kernel
theorem dX0_isBrightBy_41 : decode cX0_isBrightBy 41 = .ok (.iconst 1, 1) := by decide +kernel
theorem dX0_isBrightBy_42 : decode cX0_isBrightBy 42 = .ok (.goto 4, 3) := by decide +kernel
theorem dX0_isBrightBy_45 : decode cX0_isBrightBy 45 = .ok (.iconst 0, 1) := by decide +kernel
theorem dX0_isBrightBy_46 : decode cX0_isBrightBy 46 = .ok (.ireturn, 1) := by decide +kernel
theorem dX0_handOver_0 : decode cX0_handOver 0 = .ok (.aload_n 0, 1) := by decide +kernel
theorem dX0_handOver_1 : decode cX0_handOver 1 = .ok (.getfield 19, 3) := by decide +kernel
theorem dX0_handOver_4 : decode cX0_handOver 4 = .ok (.getfield 42, 3) := by decide +kernel
theorem dX0_handOver_7 : decode cX0_handOver 7 = .ok (.istore 4, 2) := by decide +kernel
theorem dX0_handOver_9 : decode cX0_handOver 9 = .ok (.iload_n 3, 1) := by decide +kernel
theorem dX0_handOver_10 : decode cX0_handOver 10 = .ok (.ifCond .eq 7, 3) := by decide +kernel
theorem dX0_handOver_13 : decode cX0_handOver 13 = .ok (.iload_n 2, 1) := by decide +kernel
theorem dX0_handOver_14 : decode cX0_handOver 14 = .ok (.goto 15, 3) := by decide +kernel
theorem dX0_handOver_17 : decode cX0_handOver 17 = .ok (.iload_n 2, 1) := by decide +kernel
theorem dX0_handOver_18 : decode cX0_handOver 18 = .ok (.aload_n 0, 1) := by decide +kernel
theorem dX0_handOver_19 : decode cX0_handOver 19 = .ok (.getfield 15, 3) := by decide +kernel
theorem dX0_handOver_22 : decode cX0_handOver 22 = .ok (.iload 4, 2) := by decide +kernel
theorem dX0_handOver_24 : decode cX0_handOver 24 = .ok (.iload_n 2, 1) := by decide +kernel
theorem dX0_handOver_25 : decode cX0_handOver 25 = .ok (.invokevirtual 89, 3) := by decide +kernel
theorem dX0_handOver_28 : decode cX0_handOver 28 = .ok (.isub, 1) := by decide +kernel
theorem dX0_handOver_29 : decode cX0_handOver 29 = .ok (.istore 5, 2) := by decide +kernel
theorem dX0_handOver_31 : decode cX0_handOver 31 = .ok (.aload_n 0, 1) := by decide +kernel
theorem dX0_handOver_32 : decode cX0_handOver 32 = .ok (.getfield 19, 3) := by decide +kernel
theorem dX0_handOver_35 : decode cX0_handOver 35 = .ok (.getfield 92, 3) := by decide +kernel
theorem dX0_handOver_38 : decode cX0_handOver 38 = .ok (.iload 4, 2) := by decide +kernel
theorem dX0_handOver_40 : decode cX0_handOver 40 = .ok (.iload_n 1, 1) := by decide +kernel
theorem dX0_handOver_41 : decode cX0_handOver 41 = .ok (.iastore, 1) := by decide +kernel
theorem dX0_handOver_42 : decode cX0_handOver 42 = .ok (.aload_n 0, 1) := by decide +kernel
theorem dX0_handOver_43 : decode cX0_handOver 43 = .ok (.getfield 19, 3) := by decide +kernel
theorem dX0_handOver_46 : decode cX0_handOver 46 = .ok (.getfield 95, 3) := by decide +kernel
theorem dX0_handOver_49 : decode cX0_handOver 49 = .ok (.iload 4, 2) := by decide +kernel
theorem dX0_handOver_51 : decode cX0_handOver 51 = .ok (.iload_n 2, 1) := by decide +kernel
theorem dX0_handOver_52 : decode cX0_handOver 52 = .ok (.iastore, 1) := by decide +kernel
theorem dX0_handOver_53 : decode cX0_handOver 53 = .ok (.aload_n 0, 1) := by decide +kernel
theorem dX0_handOver_54 : decode cX0_handOver 54 = .ok (.getfield 19, 3) := by decide +kernel
theorem dX0_handOver_57 : decode cX0_handOver 57 = .ok (.getfield 98, 3) := by decide +kernel
theorem dX0_handOver_60 : decode cX0_handOver 60 = .ok (.iload_n 1, 1) := by decide +kernel
theorem dX0_handOver_61 : decode cX0_handOver 61 = .ok (.dup2, 1) := by decide +kernel
theorem dX0_handOver_62 : decode cX0_handOver 62 = .ok (.iaload, 1) := by decide +kernel
theorem dX0_handOver_63 : decode cX0_handOver 63 = .ok (.iload 5, 2) := by decide +kernel
theorem dX0_handOver_65 : decode cX0_handOver 65 = .ok (.isub, 1) := by decide +kernel
theorem dX0_handOver_66 : decode cX0_handOver 66 = .ok (.iastore, 1) := by decide +kernel
theorem dX0_handOver_67 : decode cX0_handOver 67 = .ok (.aload_n 0, 1) := by decide +kernel
theorem dX0_handOver_68 : decode cX0_handOver 68 = .ok (.getfield 19, 3) := by decide +kernel
theorem dX0_handOver_71 : decode cX0_handOver 71 = .ok (.dup, 1) := by decide +kernel
theorem dX0_handOver_72 : decode cX0_handOver 72 = .ok (.getfield 101, 3) := by decide +kernel
theorem dX0_handOver_75 : decode cX0_handOver 75 = .ok (.iload 5, 2) := by decide +kernel
theorem dX0_handOver_77 : decode cX0_handOver 77 = .ok (.iadd, 1) := by decide +kernel
theorem dX0_handOver_78 : decode cX0_handOver 78 = .ok (.putfield 101, 3) := by decide +kernel
theorem dX0_handOver_81 : decode cX0_handOver 81 = .ok (.aload_n 0, 1) := by decide +kernel
theorem dX0_handOver_82 : decode cX0_handOver 82 = .ok (.getfield 19, 3) := by decide +kernel
theorem dX0_handOver_85 : decode cX0_handOver 85 = .ok (.getfield 104, 3) := by decide +kernel
theorem dX0_handOver_88 : decode cX0_handOver 88 = .ok (.iload_n 1, 1) := by decide +kernel
theorem dX0_handOver_89 : decode cX0_handOver 89 = .ok (.dup2, 1) := by decide +kernel
theorem dX0_handOver_90 : decode cX0_handOver 90 = .ok (.iaload, 1) := by decide +kernel
theorem dX0_handOver_91 : decode cX0_handOver 91 = .ok (.iload_n 3, 1) := by decide +kernel
theorem dX0_handOver_92 : decode cX0_handOver 92 = .ok (.ifCond .eq 14, 3) := by decide +kernel
theorem dX0_handOver_95 : decode cX0_handOver 95 = .ok (.aload_n 0, 1) := by decide +kernel
theorem dX0_handOver_96 : decode cX0_handOver 96 = .ok (.getfield 15, 3) := by decide +kernel
theorem dX0_handOver_99 : decode cX0_handOver 99 = .ok (.iload_n 1, 1) := by decide +kernel
theorem dX0_handOver_100 : decode cX0_handOver 100 = .ok (.invokevirtual 107, 3) := by decide +kernel
theorem dX0_handOver_103 : decode cX0_handOver 103 = .ok (.goto 11, 3) := by decide +kernel
theorem dX0_handOver_106 : decode cX0_handOver 106 = .ok (.aload_n 0, 1) := by decide +kernel
theorem dX0_handOver_107 : decode cX0_handOver 107 = .ok (.getfield 15, 3) := by decide +kernel
theorem dX0_handOver_110 : decode cX0_handOver 110 = .ok (.iload_n 1, 1) := by decide +kernel
theorem dX0_handOver_111 : decode cX0_handOver 111 = .ok (.invokevirtual 111, 3) := by decide +kernel
theorem dX0_handOver_114 : decode cX0_handOver 114 = .ok (.iadd, 1) := by decide +kernel
theorem dX0_handOver_115 : decode cX0_handOver 115 = .ok (.iastore, 1) := by decide +kernel
theorem dX0_handOver_116 : decode cX0_handOver 116 = .ok (.return_, 1) := by decide +kernel
theorem dX0_dearestPrice_0 : decode cX0_dearestPrice 0 = .ok (.aload_n 0, 1) := by decide +kernel
theorem dX0_dearestPrice_1 : decode cX0_dearestPrice 1 = .ok (.iload_n 1, 1) := by decide +kernel
theorem dX0_dearestPrice_2 : decode cX0_dearestPrice 2 = .ok (.invokevirtual 114, 3) := by decide +kernel
theorem dX0_dearestPrice_5 : decode cX0_dearestPrice 5 = .ok (.istore_n 2, 1) := by decide +kernel
theorem dX0_dearestPrice_6 : decode cX0_dearestPrice 6 = .ok (.iload_n 2, 1) := by decide +kernel
theorem dX0_dearestPrice_7 : decode cX0_dearestPrice 7 = .ok (.ifCond .le 30, 3) := by decide +kernel
theorem dX0_dearestPrice_10 : decode cX0_dearestPrice 10 = .ok (.aload_n 0, 1) := by decide +kernel
theorem dX0_dearestPrice_11 : decode cX0_dearestPrice 11 = .ok (.getfield 15, 3) := by decide +kernel
theorem dX0_dearestPrice_14 : decode cX0_dearestPrice 14 = .ok (.iload_n 1, 1) := by decide +kernel
theorem dX0_dearestPrice_15 : decode cX0_dearestPrice 15 = .ok (.aload_n 0, 1) := by decide +kernel
theorem dX0_dearestPrice_16 : decode cX0_dearestPrice 16 = .ok (.getfield 19, 3) := by decide +kernel
theorem dX0_dearestPrice_19 : decode cX0_dearestPrice 19 = .ok (.getfield 42, 3) := by decide +kernel
theorem dX0_dearestPrice_22 : decode cX0_dearestPrice 22 = .ok (.iload_n 2, 1) := by decide +kernel
theorem dX0_dearestPrice_23 : decode cX0_dearestPrice 23 = .ok (.invokevirtual 54, 3) := by decide +kernel
theorem dX0_dearestPrice_26 : decode cX0_dearestPrice 26 = .ok (.ifCond .lt 5, 3) := by decide +kernel
theorem dX0_dearestPrice_29 : decode cX0_dearestPrice 29 = .ok (.iload_n 2, 1) := by decide +kernel
theorem dX0_dearestPrice_30 : decode cX0_dearestPrice 30 = .ok (.ireturn, 1) := by decide +kernel
theorem dX0_dearestPrice_31 : decode cX0_dearestPrice 31 = .ok (.iinc 2 (-1), 3) := by decide +kernel
theorem dX0_dearestPrice_34 : decode cX0_dearestPrice 34 = .ok (.goto (-28), 3) := by decide +kernel
theorem dX0_dearestPrice_37 : decode cX0_dearestPrice 37 = .ok (.iconst 0, 1) := by decide +kernel
theorem dX0_dearestPrice_38 : decode cX0_dearestPrice 38 = .ok (.ireturn, 1) := by decide +kernel
theorem dX0_topBid_0 : decode cX0_topBid 0 = .ok (.bipush 99, 2) := by decide +kernel
theorem dX0_topBid_2 : decode cX0_topBid 2 = .ok (.aload_n 0, 1) := by decide +kernel
theorem dX0_topBid_3 : decode cX0_topBid 3 = .ok (.getfield 19, 3) := by decide +kernel
theorem dX0_topBid_6 : decode cX0_topBid 6 = .ok (.getfield 98, 3) := by decide +kernel
theorem dX0_topBid_9 : decode cX0_topBid 9 = .ok (.iload_n 1, 1) := by decide +kernel
theorem dX0_topBid_10 : decode cX0_topBid 10 = .ok (.iaload, 1) := by decide +kernel
theorem dX0_topBid_11 : decode cX0_topBid 11 = .ok (.invokestatic 117, 3) := by decide +kernel
theorem dX0_topBid_14 : decode cX0_topBid 14 = .ok (.ireturn, 1) := by decide +kernel
theorem dX0_findReply_0 : decode cX0_findReply 0 = .ok (.aload_n 0, 1) := by decide +kernel
theorem dX0_findReply_1 : decode cX0_findReply 1 = .ok (.getfield 19, 3) := by decide +kernel
theorem dX0_findReply_4 : decode cX0_findReply 4 = .ok (.getfield 58, 3) := by decide +kernel
theorem dX0_findReply_7 : decode cX0_findReply 7 = .ok (.iconst 0, 1) := by decide +kernel
theorem dX0_findReply_8 : decode cX0_findReply 8 = .ok (.aload_n 0, 1) := by decide +kernel
theorem dX0_findReply_9 : decode cX0_findReply 9 = .ok (.getfield 9, 3) := by decide +kernel
theorem dX0_findReply_12 : decode cX0_findReply 12 = .ok (.iconst 0, 1) := by decide +kernel
theorem dX0_findReply_13 : decode cX0_findReply 13 = .ok (.iconst 5, 1) := by decide +kernel
theorem dX0_findReply_14 : decode cX0_findReply 14 = .ok (.invokestatic 120, 3) := by decide +kernel
theorem dX0_findReply_17 : decode cX0_findReply 17 = .ok (.aload_n 0, 1) := by decide +kernel
theorem dX0_findReply_18 : decode cX0_findReply 18 = .ok (.iconst (-1), 1) := by decide +kernel
theorem dX0_findReply_19 : decode cX0_findReply 19 = .ok (.putfield 126, 3) := by decide +kernel
theorem dX0_findReply_22 : decode cX0_findReply 22 = .ok (.aload_n 0, 1) := by decide +kernel
theorem dX0_findReply_23 : decode cX0_findReply 23 = .ok (.iconst 0, 1) := by decide +kernel
theorem dX0_findReply_24 : decode cX0_findReply 24 = .ok (.putfield 129, 3) := by decide +kernel
theorem dX0_findReply_27 : decode cX0_findReply 27 = .ok (.aload_n 0, 1) := by decide +kernel
theorem dX0_findReply_28 : decode cX0_findReply 28 = .ok (.iload_n 1, 1) := by decide +kernel
theorem dX0_findReply_29 : decode cX0_findReply 29 = .ok (.invokevirtual 114, 3) := by decide +kernel
theorem dX0_findReply_32 : decode cX0_findReply 32 = .ok (.istore_n 2, 1) := by decide +kernel
theorem dX0_findReply_33 : decode cX0_findReply 33 = .ok (.iconst 0, 1) := by decide +kernel
theorem dX0_findReply_34 : decode cX0_findReply 34 = .ok (.istore_n 3, 1) := by decide +kernel
theorem dX0_findReply_35 : decode cX0_findReply 35 = .ok (.iload_n 3, 1) := by decide +kernel
theorem dX0_findReply_36 : decode cX0_findReply 36 = .ok (.iload_n 2, 1) := by decide +kernel
theorem dX0_findReply_37 : decode cX0_findReply 37 = .ok (.if_icmp .gt 47, 3) := by decide +kernel
theorem dX0_findReply_40 : decode cX0_findReply 40 = .ok (.aload_n 0, 1) := by decide +kernel
theorem dX0_findReply_41 : decode cX0_findReply 41 = .ok (.getfield 9, 3) := by decide +kernel
theorem dX0_findReply_44 : decode cX0_findReply 44 = .ok (.iload_n 1, 1) := by decide +kernel
theorem dX0_findReply_45 : decode cX0_findReply 45 = .ok (.iload_n 3, 1) := by decide +kernel
theorem dX0_findReply_46 : decode cX0_findReply 46 = .ok (.iastore, 1) := by decide +kernel
theorem dX0_findReply_47 : decode cX0_findReply 47 = .ok (.aload_n 0, 1) := by decide +kernel
theorem dX0_findReply_48 : decode cX0_findReply 48 = .ok (.aload_n 0, 1) := by decide +kernel
theorem dX0_findReply_49 : decode cX0_findReply 49 = .ok (.getfield 9, 3) := by decide +kernel
theorem dX0_findReply_52 : decode cX0_findReply 52 = .ok (.iload_n 1, 1) := by decide +kernel
theorem dX0_findReply_53 : decode cX0_findReply 53 = .ok (.invokevirtual 132, 3) := by decide +kernel
theorem dX0_findReply_56 : decode cX0_findReply 56 = .ok (.istore 4, 2) := by decide +kernel
theorem dX0_findReply_58 : decode cX0_findReply 58 = .ok (.iload 4, 2) := by decide +kernel
theorem dX0_findReply_60 : decode cX0_findReply 60 = .ok (.aload_n 0, 1) := by decide +kernel
theorem dX0_findReply_61 : decode cX0_findReply 61 = .ok (.getfield 129, 3) := by decide +kernel
theorem dX0_findReply_64 : decode cX0_findReply 64 = .ok (.if_icmp .le 14, 3) := by decide +kernel
theorem dX0_findReply_67 : decode cX0_findReply 67 = .ok (.aload_n 0, 1) := by decide +kernel
theorem dX0_findReply_68 : decode cX0_findReply 68 = .ok (.iload_n 3, 1) := by decide +kernel
theorem dX0_findReply_69 : decode cX0_findReply 69 = .ok (.putfield 126, 3) := by decide +kernel
theorem dX0_findReply_72 : decode cX0_findReply 72 = .ok (.aload_n 0, 1) := by decide +kernel
theorem dX0_findReply_73 : decode cX0_findReply 73 = .ok (.iload 4, 2) := by decide +kernel
theorem dX0_findReply_75 : decode cX0_findReply 75 = .ok (.putfield 129, 3) := by decide +kernel
theorem dX0_findReply_78 : decode cX0_findReply 78 = .ok (.iinc 3 1, 3) := by decide +kernel
theorem dX0_findReply_81 : decode cX0_findReply 81 = .ok (.goto (-46), 3) := by decide +kernel
theorem dX0_findReply_84 : decode cX0_findReply 84 = .ok (.return_, 1) := by decide +kernel
theorem dX0_findTempted_0 : decode cX0_findTempted 0 = .ok (.iconst 0, 1) := by decide +kernel
theorem dX0_findTempted_1 : decode cX0_findTempted 1 = .ok (.istore_n 1, 1) := by decide +kernel
theorem dX0_findTempted_2 : decode cX0_findTempted 2 = .ok (.iconst 0, 1) := by decide +kernel
theorem dX0_findTempted_3 : decode cX0_findTempted 3 = .ok (.istore_n 2, 1) := by decide +kernel
theorem dX0_findTempted_4 : decode cX0_findTempted 4 = .ok (.iload_n 2, 1) := by decide +kernel
theorem dX0_findTempted_5 : decode cX0_findTempted 5 = .ok (.aload_n 0, 1) := by decide +kernel
theorem dX0_findTempted_6 : decode cX0_findTempted 6 = .ok (.getfield 15, 3) := by decide +kernel
theorem dX0_findTempted_9 : decode cX0_findTempted 9 = .ok (.getfield 23, 3) := by decide +kernel
theorem dX0_findTempted_12 : decode cX0_findTempted 12 = .ok (.if_icmp .ge 39, 3) := by decide +kernel
theorem dX0_findTempted_15 : decode cX0_findTempted 15 = .ok (.aload_n 0, 1) := by decide +kernel
theorem dX0_findTempted_16 : decode cX0_findTempted 16 = .ok (.iload_n 2, 1) := by decide +kernel
theorem dX0_findTempted_17 : decode cX0_findTempted 17 = .ok (.invokevirtual 136, 3) := by decide +kernel
theorem dX0_findTempted_20 : decode cX0_findTempted 20 = .ok (.aload_n 0, 1) := by decide +kernel
theorem dX0_findTempted_21 : decode cX0_findTempted 21 = .ok (.getfield 129, 3) := by decide +kernel
theorem dX0_findTempted_24 : decode cX0_findTempted 24 = .ok (.aload_n 0, 1) := by decide +kernel
theorem dX0_findTempted_25 : decode cX0_findTempted 25 = .ok (.aload_n 0, 1) := by decide +kernel
theorem dX0_findTempted_26 : decode cX0_findTempted 26 = .ok (.getfield 19, 3) := by decide +kernel
theorem dX0_findTempted_29 : decode cX0_findTempted 29 = .ok (.getfield 58, 3) := by decide +kernel
theorem dX0_findTempted_32 : decode cX0_findTempted 32 = .ok (.iload_n 2, 1) := by decide +kernel
theorem dX0_findTempted_33 : decode cX0_findTempted 33 = .ok (.invokevirtual 132, 3) := by decide +kernel
theorem dX0_findTempted_36 : decode cX0_findTempted 36 = .ok (.if_icmp .le 9, 3) := by decide +kernel
theorem dX0_findTempted_39 : decode cX0_findTempted 39 = .ok (.iload_n 1, 1) := by decide +kernel
theorem dX0_findTempted_40 : decode cX0_findTempted 40 = .ok (.iconst 1, 1) := by decide +kernel
theorem dX0_findTempted_41 : decode cX0_findTempted 41 = .ok (.iload_n 2, 1) := by decide +kernel
theorem dX0_findTempted_42 : decode cX0_findTempted 42 = .ok (.ishl, 1) := by decide +kernel
theorem dX0_findTempted_43 : decode cX0_findTempted 43 = .ok (.ior, 1) := by decide +kernel
theorem dX0_findTempted_44 : decode cX0_findTempted 44 = .ok (.istore_n 1, 1) := by decide +kernel
theorem dX0_findTempted_45 : decode cX0_findTempted 45 = .ok (.iinc 2 1, 3) := by decide +kernel
theorem dX0_findTempted_48 : decode cX0_findTempted 48 = .ok (.goto (-44), 3) := by decide +kernel
theorem dX0_findTempted_51 : decode cX0_findTempted 51 = .ok (.iload_n 1, 1) := by decide +kernel
theorem dX0_findTempted_52 : decode cX0_findTempted 52 = .ok (.ireturn, 1) := by decide +kernel
theorem dX0_findCartel_0 : decode cX0_findCartel 0 = .ok (.aload_n 0, 1) := by decide +kernel
theorem dX0_findCartel_1 : decode cX0_findCartel 1 = .ok (.iconst (-1), 1) := by decide +kernel
theorem dX0_findCartel_2 : decode cX0_findCartel 2 = .ok (.putfield 140, 3) := by decide +kernel
theorem dX0_findCartel_5 : decode cX0_findCartel 5 = .ok (.aload_n 0, 1) := by decide +kernel
theorem dX0_findCartel_6 : decode cX0_findCartel 6 = .ok (.iconst (-1), 1) := by decide +kernel
theorem dX0_findCartel_7 : decode cX0_findCartel 7 = .ok (.putfield 143, 3) := by decide +kernel
theorem dX0_findCartel_10 : decode cX0_findCartel 10 = .ok (.aload_n 0, 1) := by decide +kernel
theorem dX0_findCartel_11 : decode cX0_findCartel 11 = .ok (.aload_n 0, 1) := by decide +kernel
theorem dX0_findCartel_12 : decode cX0_findCartel 12 = .ok (.getfield 19, 3) := by decide +kernel
theorem dX0_findCartel_15 : decode cX0_findCartel 15 = .ok (.getfield 58, 3) := by decide +kernel
theorem dX0_findCartel_18 : decode cX0_findCartel 18 = .ok (.invokevirtual 38, 3) := by decide +kernel
theorem dX0_findCartel_21 : decode cX0_findCartel 21 = .ok (.istore_n 1, 1) := by decide +kernel
theorem dX0_findCartel_22 : decode cX0_findCartel 22 = .ok (.iload_n 1, 1) := by decide +kernel
theorem dX0_findCartel_23 : decode cX0_findCartel 23 = .ok (.iconst (-1), 1) := by decide +kernel
theorem dX0_findCartel_24 : decode cX0_findCartel 24 = .ok (.if_icmp .ne 4, 3) := by decide +kernel
theorem dX0_findCartel_27 : decode cX0_findCartel 27 = .ok (.return_, 1) := by decide +kernel
theorem dX0_findCartel_28 : decode cX0_findCartel 28 = .ok (.aload_n 0, 1) := by decide +kernel
theorem dX0_findCartel_29 : decode cX0_findCartel 29 = .ok (.aload_n 0, 1) := by decide +kernel
theorem dX0_findCartel_30 : decode cX0_findCartel 30 = .ok (.getfield 19, 3) := by decide +kernel
theorem dX0_findCartel_33 : decode cX0_findCartel 33 = .ok (.getfield 58, 3) := by decide +kernel
theorem dX0_findCartel_36 : decode cX0_findCartel 36 = .ok (.iload_n 1, 1) := by decide +kernel
theorem dX0_findCartel_37 : decode cX0_findCartel 37 = .ok (.aload_n 0, 1) := by decide +kernel
theorem dX0_findCartel_38 : decode cX0_findCartel 38 = .ok (.getfield 15, 3) := by decide +kernel
theorem dX0_findCartel_41 : decode cX0_findCartel 41 = .ok (.getfield 47, 3) := by decide +kernel
theorem dX0_findCartel_44 : decode cX0_findCartel 44 = .ok (.invokevirtual 50, 3) := by decide +kernel
theorem dX0_findCartel_47 : decode cX0_findCartel 47 = .ok (.istore_n 2, 1) := by decide +kernel
theorem dX0_findCartel_48 : decode cX0_findCartel 48 = .ok (.iconst 0, 1) := by decide +kernel
theorem dX0_findCartel_49 : decode cX0_findCartel 49 = .ok (.istore_n 3, 1) := by decide +kernel
theorem dX0_findCartel_50 : decode cX0_findCartel 50 = .ok (.iload_n 3, 1) := by decide +kernel
theorem dX0_findCartel_51 : decode cX0_findCartel 51 = .ok (.iconst 1, 1) := by decide +kernel
theorem dX0_findCartel_52 : decode cX0_findCartel 52 = .ok (.aload_n 0, 1) := by decide +kernel
theorem dX0_findCartel_53 : decode cX0_findCartel 53 = .ok (.getfield 15, 3) := by decide +kernel
theorem dX0_findCartel_56 : decode cX0_findCartel 56 = .ok (.getfield 23, 3) := by decide +kernel
theorem dX0_findCartel_59 : decode cX0_findCartel 59 = .ok (.ishl, 1) := by decide +kernel
theorem dX0_findCartel_60 : decode cX0_findCartel 60 = .ok (.if_icmp .ge 56, 3) := by decide +kernel
theorem dX0_findCartel_63 : decode cX0_findCartel 63 = .ok (.iload_n 3, 1) := by decide +kernel
theorem dX0_findCartel_64 : decode cX0_findCartel 64 = .ok (.iload_n 1, 1) := by decide +kernel
theorem dX0_findCartel_65 : decode cX0_findCartel 65 = .ok (.ishr, 1) := by decide +kernel
theorem dX0_findCartel_66 : decode cX0_findCartel 66 = .ok (.iconst 1, 1) := by decide +kernel
theorem dX0_findCartel_67 : decode cX0_findCartel 67 = .ok (.iand, 1) := by decide +kernel
theorem dX0_findCartel_68 : decode cX0_findCartel 68 = .ok (.iconst 1, 1) := by decide +kernel
theorem dX0_findCartel_69 : decode cX0_findCartel 69 = .ok (.if_icmp .ne 41, 3) := by decide +kernel
theorem dX0_findCartel_72 : decode cX0_findCartel 72 = .ok (.iload_n 3, 1) := by decide +kernel
theorem dX0_findCartel_73 : decode cX0_findCartel 73 = .ok (.invokestatic 146, 3) := by decide +kernel
theorem dX0_findCartel_76 : decode cX0_findCartel 76 = .ok (.iconst 2, 1) := by decide +kernel
theorem dX0_findCartel_77 : decode cX0_findCartel 77 = .ok (.if_icmp .lt 33, 3) := by decide +kernel
theorem dX0_findCartel_80 : decode cX0_findCartel 80 = .ok (.iload_n 2, 1) := by decide +kernel
theorem dX0_findCartel_81 : decode cX0_findCartel 81 = .ok (.aload_n 0, 1) := by decide +kernel
theorem dX0_findCartel_82 : decode cX0_findCartel 82 = .ok (.iload_n 3, 1) := by decide +kernel
theorem dX0_findCartel_83 : decode cX0_findCartel 83 = .ok (.iload_n 1, 1) := by decide +kernel
theorem dX0_findCartel_84 : decode cX0_findCartel 84 = .ok (.invokevirtual 151, 3) := by decide +kernel
theorem dX0_findCartel_87 : decode cX0_findCartel 87 = .ok (.isub, 1) := by decide +kernel
theorem dX0_findCartel_88 : decode cX0_findCartel 88 = .ok (.istore 4, 2) := by decide +kernel
theorem dX0_findCartel_90 : decode cX0_findCartel 90 = .ok (.iload 4, 2) := by decide +kernel
theorem dX0_findCartel_92 : decode cX0_findCartel 92 = .ok (.aload_n 0, 1) := by decide +kernel
theorem dX0_findCartel_93 : decode cX0_findCartel 93 = .ok (.getfield 140, 3) := by decide +kernel
theorem dX0_findCartel_96 : decode cX0_findCartel 96 = .ok (.if_icmp .le 14, 3) := by decide +kernel
theorem dX0_findCartel_99 : decode cX0_findCartel 99 = .ok (.aload_n 0, 1) := by decide +kernel
theorem dX0_findCartel_100 : decode cX0_findCartel 100 = .ok (.iload 4, 2) := by decide +kernel
theorem dX0_findCartel_102 : decode cX0_findCartel 102 = .ok (.putfield 140, 3) := by decide +kernel
theorem dX0_findCartel_105 : decode cX0_findCartel 105 = .ok (.aload_n 0, 1) := by decide +kernel
theorem dX0_findCartel_106 : decode cX0_findCartel 106 = .ok (.iload_n 3, 1) := by decide +kernel
theorem dX0_findCartel_107 : decode cX0_findCartel 107 = .ok (.putfield 143, 3) := by decide +kernel
theorem dX0_findCartel_110 : decode cX0_findCartel 110 = .ok (.iinc 3 1, 3) := by decide +kernel
theorem dX0_findCartel_113 : decode cX0_findCartel 113 = .ok (.goto (-63), 3) := by decide +kernel
theorem dX0_findCartel_116 : decode cX0_findCartel 116 = .ok (.return_, 1) := by decide +kernel
theorem dX0_paymentWithin_0 : decode cX0_paymentWithin 0 = .ok (.iconst 0, 1) := by decide +kernel
theorem dX0_paymentWithin_1 : decode cX0_paymentWithin 1 = .ok (.istore_n 3, 1) := by decide +kernel
theorem dX0_paymentWithin_2 : decode cX0_paymentWithin 2 = .ok (.iload_n 3, 1) := by decide +kernel
theorem dX0_paymentWithin_3 : decode cX0_paymentWithin 3 = .ok (.aload_n 0, 1) := by decide +kernel
theorem dX0_paymentWithin_4 : decode cX0_paymentWithin 4 = .ok (.getfield 15, 3) := by decide +kernel
theorem dX0_paymentWithin_7 : decode cX0_paymentWithin 7 = .ok (.getfield 23, 3) := by decide +kernel
theorem dX0_paymentWithin_10 : decode cX0_paymentWithin 10 = .ok (.if_icmp .ge 54, 3) := by decide +kernel
theorem dX0_paymentWithin_13 : decode cX0_paymentWithin 13 = .ok (.iload_n 3, 1) := by decide +kernel
theorem dX0_paymentWithin_14 : decode cX0_paymentWithin 14 = .ok (.iload_n 2, 1) := by decide +kernel
theorem dX0_paymentWithin_15 : decode cX0_paymentWithin 15 = .ok (.if_icmp .eq 16, 3) := by decide +kernel
theorem dX0_paymentWithin_18 : decode cX0_paymentWithin 18 = .ok (.iload_n 1, 1) := by decide +kernel
theorem dX0_paymentWithin_19 : decode cX0_paymentWithin 19 = .ok (.iload_n 3, 1) := by decide +kernel
theorem dX0_paymentWithin_20 : decode cX0_paymentWithin 20 = .ok (.ishr, 1) := by decide +kernel
theorem dX0_paymentWithin_21 : decode cX0_paymentWithin 21 = .ok (.iconst 1, 1) := by decide +kernel
theorem dX0_paymentWithin_22 : decode cX0_paymentWithin 22 = .ok (.iand, 1) := by decide +kernel
theorem dX0_paymentWithin_23 : decode cX0_paymentWithin 23 = .ok (.iconst 1, 1) := by decide +kernel
theorem dX0_paymentWithin_24 : decode cX0_paymentWithin 24 = .ok (.if_icmp .ne 7, 3) := by decide +kernel
theorem dX0_paymentWithin_27 : decode cX0_paymentWithin 27 = .ok (.iconst 1, 1) := by decide +kernel
theorem dX0_paymentWithin_28 : decode cX0_paymentWithin 28 = .ok (.goto 4, 3) := by decide +kernel
theorem dX0_paymentWithin_31 : decode cX0_paymentWithin 31 = .ok (.iconst 0, 1) := by decide +kernel
theorem dX0_paymentWithin_32 : decode cX0_paymentWithin 32 = .ok (.istore 4, 2) := by decide +kernel
theorem dX0_paymentWithin_34 : decode cX0_paymentWithin 34 = .ok (.aload_n 0, 1) := by decide +kernel
theorem dX0_paymentWithin_35 : decode cX0_paymentWithin 35 = .ok (.getfield 9, 3) := by decide +kernel
theorem dX0_paymentWithin_38 : decode cX0_paymentWithin 38 = .ok (.iload_n 3, 1) := by decide +kernel
theorem dX0_paymentWithin_39 : decode cX0_paymentWithin 39 = .ok (.iload 4, 2) := by decide +kernel
theorem dX0_paymentWithin_41 : decode cX0_paymentWithin 41 = .ok (.ifCond .eq 7, 3) := by decide +kernel
theorem dX0_paymentWithin_44 : decode cX0_paymentWithin 44 = .ok (.iconst (-1), 1) := by decide +kernel
theorem dX0_paymentWithin_45 : decode cX0_paymentWithin 45 = .ok (.goto 12, 3) := by decide +kernel
theorem dX0_paymentWithin_48 : decode cX0_paymentWithin 48 = .ok (.aload_n 0, 1) := by decide +kernel
theorem dX0_paymentWithin_49 : decode cX0_paymentWithin 49 = .ok (.getfield 19, 3) := by decide +kernel
theorem dX0_paymentWithin_52 : decode cX0_paymentWithin 52 = .ok (.getfield 58, 3) := by decide +kernel
theorem dX0_paymentWithin_55 : decode cX0_paymentWithin 55 = .ok (.iload_n 3, 1) := by decide +kernel
theorem dX0_paymentWithin_56 : decode cX0_paymentWithin 56 = .ok (.iaload, 1) := by decide +kernel
theorem dX0_paymentWithin_57 : decode cX0_paymentWithin 57 = .ok (.iastore, 1) := by decide +kernel
theorem dX0_paymentWithin_58 : decode cX0_paymentWithin 58 = .ok (.iinc 3 1, 3) := by decide +kernel
theorem dX0_paymentWithin_61 : decode cX0_paymentWithin 61 = .ok (.goto (-59), 3) := by decide +kernel
theorem dX0_paymentWithin_64 : decode cX0_paymentWithin 64 = .ok (.aload_n 0, 1) := by decide +kernel
theorem dX0_paymentWithin_65 : decode cX0_paymentWithin 65 = .ok (.aload_n 0, 1) := by decide +kernel
theorem dX0_paymentWithin_66 : decode cX0_paymentWithin 66 = .ok (.getfield 9, 3) := by decide +kernel
theorem dX0_paymentWithin_69 : decode cX0_paymentWithin 69 = .ok (.iload_n 2, 1) := by decide +kernel
theorem dX0_paymentWithin_70 : decode cX0_paymentWithin 70 = .ok (.aload_n 0, 1) := by decide +kernel
theorem dX0_paymentWithin_71 : decode cX0_paymentWithin 71 = .ok (.getfield 15, 3) := by decide +kernel
theorem dX0_paymentWithin_74 : decode cX0_paymentWithin 74 = .ok (.getfield 47, 3) := by decide +kernel
theorem dX0_paymentWithin_77 : decode cX0_paymentWithin 77 = .ok (.invokevirtual 50, 3) := by decide +kernel
theorem dX0_paymentWithin_80 : decode cX0_paymentWithin 80 = .ok (.ireturn, 1) := by decide +kernel
theorem dX1_init_0 : decode cX1_init 0 = .ok (.aload_n 0, 1) := by decide +kernel
theorem dX1_init_1 : decode cX1_init 1 = .ok (.invokespecial 3, 3) := by decide +kernel
theorem dX1_init_4 : decode cX1_init 4 = .ok (.aload_n 0, 1) := by decide +kernel
theorem dX1_init_5 : decode cX1_init 5 = .ok (.iconst 5, 1) := by decide +kernel
theorem dX1_init_6 : decode cX1_init 6 = .ok (.newarray .int, 2) := by decide +kernel
theorem dX1_init_8 : decode cX1_init 8 = .ok (.putfield 9, 3) := by decide +kernel
theorem dX1_init_11 : decode cX1_init 11 = .ok (.aload_n 0, 1) := by decide +kernel
theorem dX1_init_12 : decode cX1_init 12 = .ok (.iconst 5, 1) := by decide +kernel
theorem dX1_init_13 : decode cX1_init 13 = .ok (.newarray .int, 2) := by decide +kernel
theorem dX1_init_15 : decode cX1_init 15 = .ok (.putfield 15, 3) := by decide +kernel
theorem dX1_init_18 : decode cX1_init 18 = .ok (.aload_n 0, 1) := by decide +kernel
theorem dX1_init_19 : decode cX1_init 19 = .ok (.iconst 5, 1) := by decide +kernel
theorem dX1_init_20 : decode cX1_init 20 = .ok (.newarray .int, 2) := by decide +kernel
theorem dX1_init_22 : decode cX1_init 22 = .ok (.putfield 18, 3) := by decide +kernel
theorem dX1_init_25 : decode cX1_init 25 = .ok (.aload_n 0, 1) := by decide +kernel
theorem dX1_init_26 : decode cX1_init 26 = .ok (.bipush 7, 2) := by decide +kernel
theorem dX1_init_28 : decode cX1_init 28 = .ok (.newarray .int, 2) := by decide +kernel
theorem dX1_init_30 : decode cX1_init 30 = .ok (.putfield 21, 3) := by decide +kernel
theorem dX1_init_33 : decode cX1_init 33 = .ok (.aload_n 0, 1) := by decide +kernel
theorem dX1_init_34 : decode cX1_init 34 = .ok (.bipush 7, 2) := by decide +kernel
theorem dX1_init_36 : decode cX1_init 36 = .ok (.newarray .int, 2) := by decide +kernel
theorem dX1_init_38 : decode cX1_init 38 = .ok (.putfield 24, 3) := by decide +kernel
theorem dX1_init_41 : decode cX1_init 41 = .ok (.aload_n 0, 1) := by decide +kernel
theorem dX1_init_42 : decode cX1_init 42 = .ok (.bipush 7, 2) := by decide +kernel
theorem dX1_init_44 : decode cX1_init 44 = .ok (.newarray .int, 2) := by decide +kernel
theorem dX1_init_46 : decode cX1_init 46 = .ok (.putfield 27, 3) := by decide +kernel
theorem dX1_init_49 : decode cX1_init 49 = .ok (.aload_n 0, 1) := by decide +kernel
theorem dX1_init_50 : decode cX1_init 50 = .ok (.bipush 7, 2) := by decide +kernel
theorem dX1_init_52 : decode cX1_init 52 = .ok (.newarray .int, 2) := by decide +kernel
theorem dX1_init_54 : decode cX1_init 54 = .ok (.putfield 30, 3) := by decide +kernel
theorem dX1_init_57 : decode cX1_init 57 = .ok (.aload_n 0, 1) := by decide +kernel
theorem dX1_init_58 : decode cX1_init 58 = .ok (.bipush 21, 2) := by decide +kernel
theorem dX1_init_60 : decode cX1_init 60 = .ok (.newarray .int, 2) := by decide +kernel
theorem dX1_init_62 : decode cX1_init 62 = .ok (.putfield 33, 3) := by decide +kernel
theorem dX1_init_65 : decode cX1_init 65 = .ok (.return_, 1) := by decide +kernel
theorem dX1_startAnew_0 : decode cX1_startAnew 0 = .ok (.aload_n 0, 1) := by decide +kernel
theorem dX1_startAnew_1 : decode cX1_startAnew 1 = .ok (.iconst 0, 1) := by decide +kernel
theorem dX1_startAnew_2 : decode cX1_startAnew 2 = .ok (.putfield 36, 3) := by decide +kernel
theorem dX1_startAnew_5 : decode cX1_startAnew 5 = .ok (.aload_n 0, 1) := by decide +kernel
theorem dX1_startAnew_6 : decode cX1_startAnew 6 = .ok (.iconst 0, 1) := by decide +kernel
theorem dX1_startAnew_7 : decode cX1_startAnew 7 = .ok (.putfield 40, 3) := by decide +kernel
theorem dX1_startAnew_10 : decode cX1_startAnew 10 = .ok (.iconst 0, 1) := by decide +kernel
theorem dX1_startAnew_11 : decode cX1_startAnew 11 = .ok (.istore_n 2, 1) := by decide +kernel
theorem dX1_startAnew_12 : decode cX1_startAnew 12 = .ok (.iload_n 2, 1) := by decide +kernel
theorem dX1_startAnew_13 : decode cX1_startAnew 13 = .ok (.iconst 5, 1) := by decide +kernel
theorem dX1_startAnew_14 : decode cX1_startAnew 14 = .ok (.if_icmp .ge 24, 3) := by decide +kernel
theorem dX1_startAnew_17 : decode cX1_startAnew 17 = .ok (.aload_n 0, 1) := by decide +kernel
theorem dX1_startAnew_18 : decode cX1_startAnew 18 = .ok (.getfield 9, 3) := by decide +kernel
theorem dX1_startAnew_21 : decode cX1_startAnew 21 = .ok (.iload_n 2, 1) := by decide +kernel
theorem dX1_startAnew_22 : decode cX1_startAnew 22 = .ok (.bipush 10, 2) := by decide +kernel
theorem dX1_startAnew_24 : decode cX1_startAnew 24 = .ok (.aload_n 1, 1) := by decide +kernel
theorem dX1_startAnew_25 : decode cX1_startAnew 25 = .ok (.getfield 43, 3) := by decide +kernel
theorem dX1_startAnew_28 : decode cX1_startAnew 28 = .ok (.iload_n 2, 1) := by decide +kernel
theorem dX1_startAnew_29 : decode cX1_startAnew 29 = .ok (.iaload, 1) := by decide +kernel
theorem dX1_startAnew_30 : decode cX1_startAnew 30 = .ok (.imul, 1) := by decide +kernel
theorem dX1_startAnew_31 : decode cX1_startAnew 31 = .ok (.iastore, 1) := by decide +kernel
theorem dX1_startAnew_32 : decode cX1_startAnew 32 = .ok (.iinc 2 1, 3) := by decide +kernel
theorem dX1_startAnew_35 : decode cX1_startAnew 35 = .ok (.goto (-23), 3) := by decide +kernel
theorem dX1_startAnew_38 : decode cX1_startAnew 38 = .ok (.aload_n 0, 1) := by decide +kernel
theorem dX1_startAnew_39 : decode cX1_startAnew 39 = .ok (.getfield 15, 3) := by decide +kernel
theorem dX1_startAnew_42 : decode cX1_startAnew 42 = .ok (.iconst 0, 1) := by decide +kernel
theorem dX1_startAnew_43 : decode cX1_startAnew 43 = .ok (.invokestatic 48, 3) := by decide +kernel
theorem dX1_startAnew_46 : decode cX1_startAnew 46 = .ok (.aload_n 0, 1) := by decide +kernel
theorem dX1_startAnew_47 : decode cX1_startAnew 47 = .ok (.getfield 18, 3) := by decide +kernel
theorem dX1_startAnew_50 : decode cX1_startAnew 50 = .ok (.iconst (-1), 1) := by decide +kernel
theorem dX1_startAnew_51 : decode cX1_startAnew 51 = .ok (.invokestatic 48, 3) := by decide +kernel
theorem dX1_startAnew_54 : decode cX1_startAnew 54 = .ok (.aload_n 0, 1) := by decide +kernel
theorem dX1_startAnew_55 : decode cX1_startAnew 55 = .ok (.getfield 21, 3) := by decide +kernel
theorem dX1_startAnew_58 : decode cX1_startAnew 58 = .ok (.iconst 0, 1) := by decide +kernel
theorem dX1_startAnew_59 : decode cX1_startAnew 59 = .ok (.invokestatic 48, 3) := by decide +kernel
theorem dX1_startAnew_62 : decode cX1_startAnew 62 = .ok (.aload_n 0, 1) := by decide +kernel
theorem dX1_startAnew_63 : decode cX1_startAnew 63 = .ok (.getfield 24, 3) := by decide +kernel
theorem dX1_startAnew_66 : decode cX1_startAnew 66 = .ok (.iconst (-1), 1) := by decide +kernel
theorem dX1_startAnew_67 : decode cX1_startAnew 67 = .ok (.invokestatic 48, 3) := by decide +kernel
theorem dX1_startAnew_70 : decode cX1_startAnew 70 = .ok (.aload_n 0, 1) := by decide +kernel
theorem dX1_startAnew_71 : decode cX1_startAnew 71 = .ok (.getfield 27, 3) := by decide +kernel
theorem dX1_startAnew_74 : decode cX1_startAnew 74 = .ok (.iconst 0, 1) := by decide +kernel
theorem dX1_startAnew_75 : decode cX1_startAnew 75 = .ok (.invokestatic 48, 3) := by decide +kernel
theorem dX1_startAnew_78 : decode cX1_startAnew 78 = .ok (.aload_n 0, 1) := by decide +kernel
theorem dX1_startAnew_79 : decode cX1_startAnew 79 = .ok (.getfield 30, 3) := by decide +kernel
theorem dX1_startAnew_82 : decode cX1_startAnew 82 = .ok (.iconst (-1), 1) := by decide +kernel
theorem dX1_startAnew_83 : decode cX1_startAnew 83 = .ok (.invokestatic 48, 3) := by decide +kernel
theorem dX1_startAnew_86 : decode cX1_startAnew 86 = .ok (.aload_n 0, 1) := by decide +kernel
theorem dX1_startAnew_87 : decode cX1_startAnew 87 = .ok (.getfield 33, 3) := by decide +kernel
theorem dX1_startAnew_90 : decode cX1_startAnew 90 = .ok (.iconst 5, 1) := by decide +kernel
theorem dX1_startAnew_91 : decode cX1_startAnew 91 = .ok (.invokestatic 48, 3) := by decide +kernel
theorem dX1_startAnew_94 : decode cX1_startAnew 94 = .ok (.return_, 1) := by decide +kernel
theorem dX1_copyFrom_0 : decode cX1_copyFrom 0 = .ok (.aload_n 0, 1) := by decide +kernel
theorem dX1_copyFrom_1 : decode cX1_copyFrom 1 = .ok (.aload_n 1, 1) := by decide +kernel
theorem dX1_copyFrom_2 : decode cX1_copyFrom 2 = .ok (.getfield 36, 3) := by decide +kernel
theorem dX1_copyFrom_5 : decode cX1_copyFrom 5 = .ok (.putfield 36, 3) := by decide +kernel
theorem dX1_copyFrom_8 : decode cX1_copyFrom 8 = .ok (.aload_n 0, 1) := by decide +kernel
theorem dX1_copyFrom_9 : decode cX1_copyFrom 9 = .ok (.aload_n 1, 1) := by decide +kernel
theorem dX1_copyFrom_10 : decode cX1_copyFrom 10 = .ok (.getfield 40, 3) := by decide +kernel
theorem dX1_copyFrom_13 : decode cX1_copyFrom 13 = .ok (.putfield 40, 3) := by decide +kernel
theorem dX1_copyFrom_16 : decode cX1_copyFrom 16 = .ok (.aload_n 1, 1) := by decide +kernel
theorem dX1_copyFrom_17 : decode cX1_copyFrom 17 = .ok (.getfield 9, 3) := by decide +kernel
theorem dX1_copyFrom_20 : decode cX1_copyFrom 20 = .ok (.iconst 0, 1) := by decide +kernel
theorem dX1_copyFrom_21 : decode cX1_copyFrom 21 = .ok (.aload_n 0, 1) := by decide +kernel
theorem dX1_copyFrom_22 : decode cX1_copyFrom 22 = .ok (.getfield 9, 3) := by decide +kernel
theorem dX1_copyFrom_25 : decode cX1_copyFrom 25 = .ok (.iconst 0, 1) := by decide +kernel
theorem dX1_copyFrom_26 : decode cX1_copyFrom 26 = .ok (.iconst 5, 1) := by decide +kernel
theorem dX1_copyFrom_27 : decode cX1_copyFrom 27 = .ok (.invokestatic 54, 3) := by decide +kernel
theorem dX1_copyFrom_30 : decode cX1_copyFrom 30 = .ok (.aload_n 1, 1) := by decide +kernel
theorem dX1_copyFrom_31 : decode cX1_copyFrom 31 = .ok (.getfield 15, 3) := by decide +kernel
theorem dX1_copyFrom_34 : decode cX1_copyFrom 34 = .ok (.iconst 0, 1) := by decide +kernel
theorem dX1_copyFrom_35 : decode cX1_copyFrom 35 = .ok (.aload_n 0, 1) := by decide +kernel
theorem dX1_copyFrom_36 : decode cX1_copyFrom 36 = .ok (.getfield 15, 3) := by decide +kernel
theorem dX1_copyFrom_39 : decode cX1_copyFrom 39 = .ok (.iconst 0, 1) := by decide +kernel
theorem dX1_copyFrom_40 : decode cX1_copyFrom 40 = .ok (.iconst 5, 1) := by decide +kernel
theorem dX1_copyFrom_41 : decode cX1_copyFrom 41 = .ok (.invokestatic 54, 3) := by decide +kernel
theorem dX1_copyFrom_44 : decode cX1_copyFrom 44 = .ok (.aload_n 1, 1) := by decide +kernel
theorem dX1_copyFrom_45 : decode cX1_copyFrom 45 = .ok (.getfield 18, 3) := by decide +kernel
theorem dX1_copyFrom_48 : decode cX1_copyFrom 48 = .ok (.iconst 0, 1) := by decide +kernel
theorem dX1_copyFrom_49 : decode cX1_copyFrom 49 = .ok (.aload_n 0, 1) := by decide +kernel
theorem dX1_copyFrom_50 : decode cX1_copyFrom 50 = .ok (.getfield 18, 3) := by decide +kernel
theorem dX1_copyFrom_53 : decode cX1_copyFrom 53 = .ok (.iconst 0, 1) := by decide +kernel
theorem dX1_copyFrom_54 : decode cX1_copyFrom 54 = .ok (.iconst 5, 1) := by decide +kernel
theorem dX1_copyFrom_55 : decode cX1_copyFrom 55 = .ok (.invokestatic 54, 3) := by decide +kernel
theorem dX1_copyFrom_58 : decode cX1_copyFrom 58 = .ok (.aload_n 1, 1) := by decide +kernel
theorem dX1_copyFrom_59 : decode cX1_copyFrom 59 = .ok (.getfield 21, 3) := by decide +kernel
theorem dX1_copyFrom_62 : decode cX1_copyFrom 62 = .ok (.iconst 0, 1) := by decide +kernel
theorem dX1_copyFrom_63 : decode cX1_copyFrom 63 = .ok (.aload_n 0, 1) := by decide +kernel
theorem dX1_copyFrom_64 : decode cX1_copyFrom 64 = .ok (.getfield 21, 3) := by decide +kernel
theorem dX1_copyFrom_67 : decode cX1_copyFrom 67 = .ok (.iconst 0, 1) := by decide +kernel
theorem dX1_copyFrom_68 : decode cX1_copyFrom 68 = .ok (.bipush 7, 2) := by decide +kernel
theorem dX1_copyFrom_70 : decode cX1_copyFrom 70 = .ok (.invokestatic 54, 3) := by decide +kernel
theorem dX1_copyFrom_73 : decode cX1_copyFrom 73 = .ok (.aload_n 1, 1) := by decide +kernel
theorem dX1_copyFrom_74 : decode cX1_copyFrom 74 = .ok (.getfield 24, 3) := by decide +kernel
theorem dX1_copyFrom_77 : decode cX1_copyFrom 77 = .ok (.iconst 0, 1) := by decide +kernel
theorem dX1_copyFrom_78 : decode cX1_copyFrom 78 = .ok (.aload_n 0, 1) := by decide +kernel
theorem dX1_copyFrom_79 : decode cX1_copyFrom 79 = .ok (.getfield 24, 3) := by decide +kernel
theorem dX1_copyFrom_82 : decode cX1_copyFrom 82 = .ok (.iconst 0, 1) := by decide +kernel
theorem dX1_copyFrom_83 : decode cX1_copyFrom 83 = .ok (.bipush 7, 2) := by decide +kernel
theorem dX1_copyFrom_85 : decode cX1_copyFrom 85 = .ok (.invokestatic 54, 3) := by decide +kernel
theorem dX1_copyFrom_88 : decode cX1_copyFrom 88 = .ok (.aload_n 1, 1) := by decide +kernel
theorem dX1_copyFrom_89 : decode cX1_copyFrom 89 = .ok (.getfield 27, 3) := by decide +kernel
theorem dX1_copyFrom_92 : decode cX1_copyFrom 92 = .ok (.iconst 0, 1) := by decide +kernel
theorem dX1_copyFrom_93 : decode cX1_copyFrom 93 = .ok (.aload_n 0, 1) := by decide +kernel
theorem dX1_copyFrom_94 : decode cX1_copyFrom 94 = .ok (.getfield 27, 3) := by decide +kernel
theorem dX1_copyFrom_97 : decode cX1_copyFrom 97 = .ok (.iconst 0, 1) := by decide +kernel
theorem dX1_copyFrom_98 : decode cX1_copyFrom 98 = .ok (.bipush 7, 2) := by decide +kernel
theorem dX1_copyFrom_100 : decode cX1_copyFrom 100 = .ok (.invokestatic 54, 3) := by decide +kernel
theorem dX1_copyFrom_103 : decode cX1_copyFrom 103 = .ok (.aload_n 1, 1) := by decide +kernel
theorem dX1_copyFrom_104 : decode cX1_copyFrom 104 = .ok (.getfield 30, 3) := by decide +kernel
theorem dX1_copyFrom_107 : decode cX1_copyFrom 107 = .ok (.iconst 0, 1) := by decide +kernel
theorem dX1_copyFrom_108 : decode cX1_copyFrom 108 = .ok (.aload_n 0, 1) := by decide +kernel
theorem dX1_copyFrom_109 : decode cX1_copyFrom 109 = .ok (.getfield 30, 3) := by decide +kernel
theorem dX1_copyFrom_112 : decode cX1_copyFrom 112 = .ok (.iconst 0, 1) := by decide +kernel
theorem dX1_copyFrom_113 : decode cX1_copyFrom 113 = .ok (.bipush 7, 2) := by decide +kernel
theorem dX1_copyFrom_115 : decode cX1_copyFrom 115 = .ok (.invokestatic 54, 3) := by decide +kernel
theorem dX1_copyFrom_118 : decode cX1_copyFrom 118 = .ok (.aload_n 1, 1) := by decide +kernel
theorem dX1_copyFrom_119 : decode cX1_copyFrom 119 = .ok (.getfield 33, 3) := by decide +kernel
theorem dX1_copyFrom_122 : decode cX1_copyFrom 122 = .ok (.iconst 0, 1) := by decide +kernel
theorem dX1_copyFrom_123 : decode cX1_copyFrom 123 = .ok (.aload_n 0, 1) := by decide +kernel
theorem dX1_copyFrom_124 : decode cX1_copyFrom 124 = .ok (.getfield 33, 3) := by decide +kernel
theorem dX1_copyFrom_127 : decode cX1_copyFrom 127 = .ok (.iconst 0, 1) := by decide +kernel
theorem dX1_copyFrom_128 : decode cX1_copyFrom 128 = .ok (.bipush 21, 2) := by decide +kernel
theorem dX1_copyFrom_130 : decode cX1_copyFrom 130 = .ok (.invokestatic 54, 3) := by decide +kernel
theorem dX1_copyFrom_133 : decode cX1_copyFrom 133 = .ok (.return_, 1) := by decide +kernel
theorem dX1_countBids_0 : decode cX1_countBids 0 = .ok (.iconst 0, 1) := by decide +kernel
theorem dX1_countBids_1 : decode cX1_countBids 1 = .ok (.istore_n 1, 1) := by decide +kernel
theorem dX1_countBids_2 : decode cX1_countBids 2 = .ok (.iconst 0, 1) := by decide +kernel
theorem dX1_countBids_3 : decode cX1_countBids 3 = .ok (.istore_n 2, 1) := by decide +kernel
theorem dX1_countBids_4 : decode cX1_countBids 4 = .ok (.iload_n 2, 1) := by decide +kernel
theorem dX1_countBids_5 : decode cX1_countBids 5 = .ok (.iconst 5, 1) := by decide +kernel
theorem dX1_countBids_6 : decode cX1_countBids 6 = .ok (.if_icmp .ge 22, 3) := by decide +kernel
theorem dX1_countBids_9 : decode cX1_countBids 9 = .ok (.aload_n 0, 1) := by decide +kernel
theorem dX1_countBids_10 : decode cX1_countBids 10 = .ok (.getfield 18, 3) := by decide +kernel
theorem dX1_countBids_13 : decode cX1_countBids 13 = .ok (.iload_n 2, 1) := by decide +kernel
theorem dX1_countBids_14 : decode cX1_countBids 14 = .ok (.iaload, 1) := by decide +kernel
theorem dX1_countBids_15 : decode cX1_countBids 15 = .ok (.iconst (-1), 1) := by decide +kernel
theorem dX1_countBids_16 : decode cX1_countBids 16 = .ok (.if_icmp .eq 6, 3) := by decide +kernel
theorem dX1_countBids_19 : decode cX1_countBids 19 = .ok (.iinc 1 1, 3) := by decide +kernel
theorem dX1_countBids_22 : decode cX1_countBids 22 = .ok (.iinc 2 1, 3) := by decide +kernel
theorem dX1_countBids_25 : decode cX1_countBids 25 = .ok (.goto (-21), 3) := by decide +kernel
theorem dX1_countBids_28 : decode cX1_countBids 28 = .ok (.iload_n 1, 1) := by decide +kernel
theorem dX1_countBids_29 : decode cX1_countBids 29 = .ok (.ireturn, 1) := by decide +kernel
theorem dX1_joyOfAll_0 : decode cX1_joyOfAll 0 = .ok (.iconst 0, 1) := by decide +kernel
theorem dX1_joyOfAll_1 : decode cX1_joyOfAll 1 = .ok (.istore_n 1, 1) := by decide +kernel
theorem dX1_joyOfAll_2 : decode cX1_joyOfAll 2 = .ok (.iconst 0, 1) := by decide +kernel
theorem dX1_joyOfAll_3 : decode cX1_joyOfAll 3 = .ok (.istore_n 2, 1) := by decide +kernel
theorem dX1_joyOfAll_4 : decode cX1_joyOfAll 4 = .ok (.iload_n 2, 1) := by decide +kernel
theorem dX1_joyOfAll_5 : decode cX1_joyOfAll 5 = .ok (.iconst 5, 1) := by decide +kernel
theorem dX1_joyOfAll_6 : decode cX1_joyOfAll 6 = .ok (.if_icmp .ge 18, 3) := by decide +kernel
theorem dX1_joyOfAll_9 : decode cX1_joyOfAll 9 = .ok (.iload_n 1, 1) := by decide +kernel
theorem dX1_joyOfAll_10 : decode cX1_joyOfAll 10 = .ok (.aload_n 0, 1) := by decide +kernel
theorem dX1_joyOfAll_11 : decode cX1_joyOfAll 11 = .ok (.getfield 15, 3) := by decide +kernel
theorem dX1_joyOfAll_14 : decode cX1_joyOfAll 14 = .ok (.iload_n 2, 1) := by decide +kernel
theorem dX1_joyOfAll_15 : decode cX1_joyOfAll 15 = .ok (.iaload, 1) := by decide +kernel
theorem dX1_joyOfAll_16 : decode cX1_joyOfAll 16 = .ok (.iadd, 1) := by decide +kernel
theorem dX1_joyOfAll_17 : decode cX1_joyOfAll 17 = .ok (.istore_n 1, 1) := by decide +kernel
theorem dX1_joyOfAll_18 : decode cX1_joyOfAll 18 = .ok (.iinc 2 1, 3) := by decide +kernel
theorem dX1_joyOfAll_21 : decode cX1_joyOfAll 21 = .ok (.goto (-17), 3) := by decide +kernel
theorem dX1_joyOfAll_24 : decode cX1_joyOfAll 24 = .ok (.iload_n 1, 1) := by decide +kernel
theorem dX1_joyOfAll_25 : decode cX1_joyOfAll 25 = .ok (.ireturn, 1) := by decide +kernel
theorem dX1_scoreOf_0 : decode cX1_scoreOf 0 = .ok (.iconst 0, 1) := by decide +kernel
theorem dX1_scoreOf_1 : decode cX1_scoreOf 1 = .ok (.istore_n 2, 1) := by decide +kernel
theorem dX1_scoreOf_2 : decode cX1_scoreOf 2 = .ok (.iconst 0, 1) := by decide +kernel
theorem dX1_scoreOf_3 : decode cX1_scoreOf 3 = .ok (.istore_n 3, 1) := by decide +kernel
theorem dX1_scoreOf_4 : decode cX1_scoreOf 4 = .ok (.iload_n 3, 1) := by decide +kernel
theorem dX1_scoreOf_5 : decode cX1_scoreOf 5 = .ok (.aload_n 0, 1) := by decide +kernel
theorem dX1_scoreOf_6 : decode cX1_scoreOf 6 = .ok (.getfield 36, 3) := by decide +kernel
theorem dX1_scoreOf_9 : decode cX1_scoreOf 9 = .ok (.if_icmp .ge 56, 3) := by decide +kernel
theorem dX1_scoreOf_12 : decode cX1_scoreOf 12 = .ok (.iload_n 3, 1) := by decide +kernel
theorem dX1_scoreOf_13 : decode cX1_scoreOf 13 = .ok (.bipush 7, 2) := by decide +kernel
theorem dX1_scoreOf_15 : decode cX1_scoreOf 15 = .ok (.if_icmp .ge 50, 3) := by decide +kernel
theorem dX1_scoreOf_18 : decode cX1_scoreOf 18 = .ok (.aload_n 0, 1) := by decide +kernel
theorem dX1_scoreOf_19 : decode cX1_scoreOf 19 = .ok (.getfield 30, 3) := by decide +kernel
theorem dX1_scoreOf_22 : decode cX1_scoreOf 22 = .ok (.iload_n 3, 1) := by decide +kernel
theorem dX1_scoreOf_23 : decode cX1_scoreOf 23 = .ok (.iaload, 1) := by decide +kernel
theorem dX1_scoreOf_24 : decode cX1_scoreOf 24 = .ok (.iconst 1, 1) := by decide +kernel
theorem dX1_scoreOf_25 : decode cX1_scoreOf 25 = .ok (.if_icmp .ne 8, 3) := by decide +kernel
theorem dX1_scoreOf_28 : decode cX1_scoreOf 28 = .ok (.bipush 10, 2) := by decide +kernel
theorem dX1_scoreOf_30 : decode cX1_scoreOf 30 = .ok (.goto 4, 3) := by decide +kernel
theorem dX1_scoreOf_33 : decode cX1_scoreOf 33 = .ok (.iconst 0, 1) := by decide +kernel
theorem dX1_scoreOf_34 : decode cX1_scoreOf 34 = .ok (.istore 4, 2) := by decide +kernel
theorem dX1_scoreOf_36 : decode cX1_scoreOf 36 = .ok (.aload_n 0, 1) := by decide +kernel
theorem dX1_scoreOf_37 : decode cX1_scoreOf 37 = .ok (.getfield 33, 3) := by decide +kernel
theorem dX1_scoreOf_40 : decode cX1_scoreOf 40 = .ok (.iload_n 1, 1) := by decide +kernel
theorem dX1_scoreOf_41 : decode cX1_scoreOf 41 = .ok (.iload_n 3, 1) := by decide +kernel
theorem dX1_scoreOf_42 : decode cX1_scoreOf 42 = .ok (.invokestatic 60, 3) := by decide +kernel
theorem dX1_scoreOf_45 : decode cX1_scoreOf 45 = .ok (.iaload, 1) := by decide +kernel
theorem dX1_scoreOf_46 : decode cX1_scoreOf 46 = .ok (.iload 4, 2) := by decide +kernel
theorem dX1_scoreOf_48 : decode cX1_scoreOf 48 = .ok (.isub, 1) := by decide +kernel
theorem dX1_scoreOf_49 : decode cX1_scoreOf 49 = .ok (.istore 5, 2) := by decide +kernel
theorem dX1_scoreOf_51 : decode cX1_scoreOf 51 = .ok (.iload_n 2, 1) := by decide +kernel
theorem dX1_scoreOf_52 : decode cX1_scoreOf 52 = .ok (.iload 5, 2) := by decide +kernel
theorem dX1_scoreOf_54 : decode cX1_scoreOf 54 = .ok (.iload 5, 2) := by decide +kernel
theorem dX1_scoreOf_56 : decode cX1_scoreOf 56 = .ok (.imul, 1) := by decide +kernel
theorem dX1_scoreOf_57 : decode cX1_scoreOf 57 = .ok (.iadd, 1) := by decide +kernel
theorem dX1_scoreOf_58 : decode cX1_scoreOf 58 = .ok (.istore_n 2, 1) := by decide +kernel
theorem dX1_scoreOf_59 : decode cX1_scoreOf 59 = .ok (.iinc 3 1, 3) := by decide +kernel
theorem dX1_scoreOf_62 : decode cX1_scoreOf 62 = .ok (.goto (-58), 3) := by decide +kernel
theorem dX1_scoreOf_65 : decode cX1_scoreOf 65 = .ok (.iload_n 2, 1) := by decide +kernel
theorem dX1_scoreOf_66 : decode cX1_scoreOf 66 = .ok (.ireturn, 1) := by decide +kernel
theorem dX2_init_0 : decode cX2_init 0 = .ok (.aload_n 0, 1) := by decide +kernel
theorem dX2_init_1 : decode cX2_init 1 = .ok (.invokespecial 3, 3) := by decide +kernel
theorem dX2_init_4 : decode cX2_init 4 = .ok (.aload_n 0, 1) := by decide +kernel
theorem dX2_init_5 : decode cX2_init 5 = .ok (.bipush 8, 2) := by decide +kernel
theorem dX2_init_7 : decode cX2_init 7 = .ok (.newarray .int, 2) := by decide +kernel
theorem dX2_init_9 : decode cX2_init 9 = .ok (.putfield 9, 3) := by decide +kernel
theorem dX2_init_12 : decode cX2_init 12 = .ok (.aload_n 0, 1) := by decide +kernel
theorem dX2_init_13 : decode cX2_init 13 = .ok (.bipush 7, 2) := by decide +kernel
theorem dX2_init_15 : decode cX2_init 15 = .ok (.newarray .int, 2) := by decide +kernel
theorem dX2_init_17 : decode cX2_init 17 = .ok (.putfield 15, 3) := by decide +kernel
theorem dX2_init_20 : decode cX2_init 20 = .ok (.aload_n 0, 1) := by decide +kernel
theorem dX2_init_21 : decode cX2_init 21 = .ok (.aload_n 1, 1) := by decide +kernel
theorem dX2_init_22 : decode cX2_init 22 = .ok (.putfield 18, 3) := by decide +kernel
theorem dX2_init_25 : decode cX2_init 25 = .ok (.aload_n 0, 1) := by decide +kernel
theorem dX2_init_26 : decode cX2_init 26 = .ok (.aload_n 2, 1) := by decide +kernel
theorem dX2_init_27 : decode cX2_init 27 = .ok (.putfield 22, 3) := by decide +kernel
theorem dX2_init_30 : decode cX2_init 30 = .ok (.return_, 1) := by decide +kernel
theorem dX2_findSeason_0 : decode cX2_findSeason 0 = .ok (.aload_n 0, 1) := by decide +kernel
theorem dX2_findSeason_1 : decode cX2_findSeason 1 = .ok (.getfield 22, 3) := by decide +kernel
theorem dX2_findSeason_4 : decode cX2_findSeason 4 = .ok (.getfield 26, 3) := by decide +kernel
theorem dX2_findSeason_7 : decode cX2_findSeason 7 = .ok (.istore_n 2, 1) := by decide +kernel
theorem dX2_findSeason_8 : decode cX2_findSeason 8 = .ok (.iload_n 2, 1) := by decide +kernel
theorem dX2_findSeason_9 : decode cX2_findSeason 9 = .ok (.aload_n 0, 1) := by decide +kernel
theorem dX2_findSeason_10 : decode cX2_findSeason 10 = .ok (.getfield 18, 3) := by decide +kernel
theorem dX2_findSeason_13 : decode cX2_findSeason 13 = .ok (.getfield 32, 3) := by decide +kernel
theorem dX2_findSeason_16 : decode cX2_findSeason 16 = .ok (.if_icmp .ge 33, 3) := by decide +kernel
theorem dX2_findSeason_19 : decode cX2_findSeason 19 = .ok (.aload_n 0, 1) := by decide +kernel
theorem dX2_findSeason_20 : decode cX2_findSeason 20 = .ok (.getfield 15, 3) := by decide +kernel
theorem dX2_findSeason_23 : decode cX2_findSeason 23 = .ok (.iload_n 2, 1) := by decide +kernel
theorem dX2_findSeason_24 : decode cX2_findSeason 24 = .ok (.aload_n 0, 1) := by decide +kernel
theorem dX2_findSeason_25 : decode cX2_findSeason 25 = .ok (.getfield 18, 3) := by decide +kernel
theorem dX2_findSeason_28 : decode cX2_findSeason 28 = .ok (.iload_n 1, 1) := by decide +kernel
theorem dX2_findSeason_29 : decode cX2_findSeason 29 = .ok (.iload_n 2, 1) := by decide +kernel
theorem dX2_findSeason_30 : decode cX2_findSeason 30 = .ok (.aload_n 0, 1) := by decide +kernel
theorem dX2_findSeason_31 : decode cX2_findSeason 31 = .ok (.getfield 22, 3) := by decide +kernel
theorem dX2_findSeason_34 : decode cX2_findSeason 34 = .ok (.getfield 37, 3) := by decide +kernel
theorem dX2_findSeason_37 : decode cX2_findSeason 37 = .ok (.iload_n 2, 1) := by decide +kernel
theorem dX2_findSeason_38 : decode cX2_findSeason 38 = .ok (.iaload, 1) := by decide +kernel
theorem dX2_findSeason_39 : decode cX2_findSeason 39 = .ok (.invokevirtual 40, 3) := by decide +kernel
theorem dX2_findSeason_42 : decode cX2_findSeason 42 = .ok (.iastore, 1) := by decide +kernel
theorem dX2_findSeason_43 : decode cX2_findSeason 43 = .ok (.iinc 2 1, 3) := by decide +kernel
theorem dX2_findSeason_46 : decode cX2_findSeason 46 = .ok (.goto (-38), 3) := by decide +kernel
theorem dX2_findSeason_49 : decode cX2_findSeason 49 = .ok (.aload_n 0, 1) := by decide +kernel
theorem dX2_findSeason_50 : decode cX2_findSeason 50 = .ok (.iconst 0, 1) := by decide +kernel
theorem dX2_findSeason_51 : decode cX2_findSeason 51 = .ok (.putfield 44, 3) := by decide +kernel
theorem dX2_findSeason_54 : decode cX2_findSeason 54 = .ok (.aload_n 0, 1) := by decide +kernel
theorem dX2_findSeason_55 : decode cX2_findSeason 55 = .ok (.iconst 0, 1) := by decide +kernel
theorem dX2_findSeason_56 : decode cX2_findSeason 56 = .ok (.putfield 47, 3) := by decide +kernel
theorem dX2_findSeason_59 : decode cX2_findSeason 59 = .ok (.iconst 1, 1) := by decide +kernel
theorem dX2_findSeason_60 : decode cX2_findSeason 60 = .ok (.aload_n 0, 1) := by decide +kernel
theorem dX2_findSeason_61 : decode cX2_findSeason 61 = .ok (.getfield 22, 3) := by decide +kernel
theorem dX2_findSeason_64 : decode cX2_findSeason 64 = .ok (.getfield 26, 3) := by decide +kernel
theorem dX2_findSeason_67 : decode cX2_findSeason 67 = .ok (.ishl, 1) := by decide +kernel
theorem dX2_findSeason_68 : decode cX2_findSeason 68 = .ok (.istore_n 2, 1) := by decide +kernel
theorem dX2_findSeason_69 : decode cX2_findSeason 69 = .ok (.iload_n 2, 1) := by decide +kernel
theorem dX2_findSeason_70 : decode cX2_findSeason 70 = .ok (.istore_n 3, 1) := by decide +kernel
theorem dX2_findSeason_71 : decode cX2_findSeason 71 = .ok (.iload_n 3, 1) := by decide +kernel
theorem dX2_findSeason_72 : decode cX2_findSeason 72 = .ok (.iconst 1, 1) := by decide +kernel
theorem dX2_findSeason_73 : decode cX2_findSeason 73 = .ok (.aload_n 0, 1) := by decide +kernel
theorem dX2_findSeason_74 : decode cX2_findSeason 74 = .ok (.getfield 18, 3) := by decide +kernel
theorem dX2_findSeason_77 : decode cX2_findSeason 77 = .ok (.getfield 32, 3) := by decide +kernel
theorem dX2_findSeason_80 : decode cX2_findSeason 80 = .ok (.ishl, 1) := by decide +kernel
theorem dX2_findSeason_81 : decode cX2_findSeason 81 = .ok (.if_icmp .ge 65, 3) := by decide +kernel
theorem dX2_findSeason_84 : decode cX2_findSeason 84 = .ok (.aload_n 0, 1) := by decide +kernel
theorem dX2_findSeason_85 : decode cX2_findSeason 85 = .ok (.iload_n 3, 1) := by decide +kernel
theorem dX2_findSeason_86 : decode cX2_findSeason 86 = .ok (.aload_n 0, 1) := by decide +kernel
theorem dX2_findSeason_87 : decode cX2_findSeason 87 = .ok (.getfield 15, 3) := by decide +kernel
theorem dX2_findSeason_90 : decode cX2_findSeason 90 = .ok (.invokevirtual 50, 3) := by decide +kernel
theorem dX2_findSeason_93 : decode cX2_findSeason 93 = .ok (.istore 4, 2) := by decide +kernel
theorem dX2_findSeason_95 : decode cX2_findSeason 95 = .ok (.iload 4, 2) := by decide +kernel
theorem dX2_findSeason_97 : decode cX2_findSeason 97 = .ok (.aload_n 0, 1) := by decide +kernel
theorem dX2_findSeason_98 : decode cX2_findSeason 98 = .ok (.getfield 44, 3) := by decide +kernel
theorem dX2_findSeason_101 : decode cX2_findSeason 101 = .ok (.if_icmp .le 38, 3) := by decide +kernel
theorem dX2_findSeason_104 : decode cX2_findSeason 104 = .ok (.aload_n 0, 1) := by decide +kernel
theorem dX2_findSeason_105 : decode cX2_findSeason 105 = .ok (.iload_n 3, 1) := by decide +kernel
theorem dX2_findSeason_106 : decode cX2_findSeason 106 = .ok (.aload_n 0, 1) := by decide +kernel
theorem dX2_findSeason_107 : decode cX2_findSeason 107 = .ok (.getfield 22, 3) := by decide +kernel
theorem dX2_findSeason_110 : decode cX2_findSeason 110 = .ok (.getfield 37, 3) := by decide +kernel
theorem dX2_findSeason_113 : decode cX2_findSeason 113 = .ok (.invokevirtual 50, 3) := by decide +kernel
theorem dX2_findSeason_116 : decode cX2_findSeason 116 = .ok (.aload_n 0, 1) := by decide +kernel
theorem dX2_findSeason_117 : decode cX2_findSeason 117 = .ok (.getfield 22, 3) := by decide +kernel
theorem dX2_findSeason_120 : decode cX2_findSeason 120 = .ok (.getfield 54, 3) := by decide +kernel
theorem dX2_findSeason_123 : decode cX2_findSeason 123 = .ok (.iload_n 1, 1) := by decide +kernel
theorem dX2_findSeason_124 : decode cX2_findSeason 124 = .ok (.iaload, 1) := by decide +kernel
theorem dX2_findSeason_125 : decode cX2_findSeason 125 = .ok (.if_icmp .gt 14, 3) := by decide +kernel
theorem dX2_findSeason_128 : decode cX2_findSeason 128 = .ok (.aload_n 0, 1) := by decide +kernel
theorem dX2_findSeason_129 : decode cX2_findSeason 129 = .ok (.iload 4, 2) := by decide +kernel
theorem dX2_findSeason_131 : decode cX2_findSeason 131 = .ok (.putfield 44, 3) := by decide +kernel
theorem dX2_findSeason_134 : decode cX2_findSeason 134 = .ok (.aload_n 0, 1) := by decide +kernel
theorem dX2_findSeason_135 : decode cX2_findSeason 135 = .ok (.iload_n 3, 1) := by decide +kernel
theorem dX2_findSeason_136 : decode cX2_findSeason 136 = .ok (.putfield 47, 3) := by decide +kernel
theorem dX2_findSeason_139 : decode cX2_findSeason 139 = .ok (.iload_n 3, 1) := by decide +kernel
theorem dX2_findSeason_140 : decode cX2_findSeason 140 = .ok (.iload_n 2, 1) := by decide +kernel
theorem dX2_findSeason_141 : decode cX2_findSeason 141 = .ok (.iadd, 1) := by decide +kernel
theorem dX2_findSeason_142 : decode cX2_findSeason 142 = .ok (.istore_n 3, 1) := by decide +kernel
theorem dX2_findSeason_143 : decode cX2_findSeason 143 = .ok (.goto (-72), 3) := by decide +kernel
theorem dX2_findSeason_146 : decode cX2_findSeason 146 = .ok (.return_, 1) := by decide +kernel
theorem dX2_sumOver_0 : decode cX2_sumOver 0 = .ok (.iconst 0, 1) := by decide +kernel
theorem dX2_sumOver_1 : decode cX2_sumOver 1 = .ok (.istore_n 3, 1) := by decide +kernel
theorem dX2_sumOver_2 : decode cX2_sumOver 2 = .ok (.aload_n 0, 1) := by decide +kernel
theorem dX2_sumOver_3 : decode cX2_sumOver 3 = .ok (.getfield 22, 3) := by decide +kernel
theorem dX2_sumOver_6 : decode cX2_sumOver 6 = .ok (.getfield 26, 3) := by decide +kernel
theorem dX2_sumOver_9 : decode cX2_sumOver 9 = .ok (.istore 4, 2) := by decide +kernel
theorem dX2_sumOver_11 : decode cX2_sumOver 11 = .ok (.iload 4, 2) := by decide +kernel
theorem dX2_sumOver_13 : decode cX2_sumOver 13 = .ok (.aload_n 0, 1) := by decide +kernel
theorem dX2_sumOver_14 : decode cX2_sumOver 14 = .ok (.getfield 18, 3) := by decide +kernel
theorem dX2_sumOver_17 : decode cX2_sumOver 17 = .ok (.getfield 32, 3) := by decide +kernel
theorem dX2_sumOver_20 : decode cX2_sumOver 20 = .ok (.if_icmp .ge 26, 3) := by decide +kernel
theorem dX2_sumOver_23 : decode cX2_sumOver 23 = .ok (.iload_n 1, 1) := by decide +kernel
theorem dX2_sumOver_24 : decode cX2_sumOver 24 = .ok (.iload 4, 2) := by decide +kernel
theorem dX2_sumOver_26 : decode cX2_sumOver 26 = .ok (.ishr, 1) := by decide +kernel
theorem dX2_sumOver_27 : decode cX2_sumOver 27 = .ok (.iconst 1, 1) := by decide +kernel
theorem dX2_sumOver_28 : decode cX2_sumOver 28 = .ok (.iand, 1) := by decide +kernel
theorem dX2_sumOver_29 : decode cX2_sumOver 29 = .ok (.iconst 1, 1) := by decide +kernel
theorem dX2_sumOver_30 : decode cX2_sumOver 30 = .ok (.if_icmp .ne 10, 3) := by decide +kernel
theorem dX2_sumOver_33 : decode cX2_sumOver 33 = .ok (.iload_n 3, 1) := by decide +kernel
theorem dX2_sumOver_34 : decode cX2_sumOver 34 = .ok (.aload_n 2, 1) := by decide +kernel
theorem dX2_sumOver_35 : decode cX2_sumOver 35 = .ok (.iload 4, 2) := by decide +kernel
theorem dX2_sumOver_37 : decode cX2_sumOver 37 = .ok (.iaload, 1) := by decide +kernel
theorem dX2_sumOver_38 : decode cX2_sumOver 38 = .ok (.iadd, 1) := by decide +kernel
theorem dX2_sumOver_39 : decode cX2_sumOver 39 = .ok (.istore_n 3, 1) := by decide +kernel
theorem dX2_sumOver_40 : decode cX2_sumOver 40 = .ok (.iinc 4 1, 3) := by decide +kernel
theorem dX2_sumOver_43 : decode cX2_sumOver 43 = .ok (.goto (-32), 3) := by decide +kernel
theorem dX2_sumOver_46 : decode cX2_sumOver 46 = .ok (.iload_n 3, 1) := by decide +kernel
theorem dX2_sumOver_47 : decode cX2_sumOver 47 = .ok (.ireturn, 1) := by decide +kernel
theorem dX2_findOdds_0 : decode cX2_findOdds 0 = .ok (.aload_n 0, 1) := by decide +kernel
theorem dX2_findOdds_1 : decode cX2_findOdds 1 = .ok (.getfield 9, 3) := by decide +kernel
theorem dX2_findOdds_4 : decode cX2_findOdds 4 = .ok (.iconst 0, 1) := by decide +kernel
theorem dX2_findOdds_5 : decode cX2_findOdds 5 = .ok (.invokestatic 57, 3) := by decide +kernel
theorem dX2_findOdds_8 : decode cX2_findOdds 8 = .ok (.aload_n 0, 1) := by decide +kernel
theorem dX2_findOdds_9 : decode cX2_findOdds 9 = .ok (.getfield 9, 3) := by decide +kernel
theorem dX2_findOdds_12 : decode cX2_findOdds 12 = .ok (.iconst 0, 1) := by decide +kernel
theorem dX2_findOdds_13 : decode cX2_findOdds 13 = .ok (.iconst 1, 1) := by decide +kernel
theorem dX2_findOdds_14 : decode cX2_findOdds 14 = .ok (.iastore, 1) := by decide +kernel
theorem dX2_findOdds_15 : decode cX2_findOdds 15 = .ok (.iconst 1, 1) := by decide +kernel
theorem dX2_findOdds_16 : decode cX2_findOdds 16 = .ok (.istore_n 2, 1) := by decide +kernel
theorem dX2_findOdds_17 : decode cX2_findOdds 17 = .ok (.aload_n 0, 1) := by decide +kernel
theorem dX2_findOdds_18 : decode cX2_findOdds 18 = .ok (.getfield 22, 3) := by decide +kernel
theorem dX2_findOdds_21 : decode cX2_findOdds 21 = .ok (.getfield 26, 3) := by decide +kernel
theorem dX2_findOdds_24 : decode cX2_findOdds 24 = .ok (.istore_n 3, 1) := by decide +kernel
theorem dX2_findOdds_25 : decode cX2_findOdds 25 = .ok (.iload_n 3, 1) := by decide +kernel
theorem dX2_findOdds_26 : decode cX2_findOdds 26 = .ok (.aload_n 0, 1) := by decide +kernel
theorem dX2_findOdds_27 : decode cX2_findOdds 27 = .ok (.getfield 18, 3) := by decide +kernel
theorem dX2_findOdds_30 : decode cX2_findOdds 30 = .ok (.getfield 32, 3) := by decide +kernel
theorem dX2_findOdds_33 : decode cX2_findOdds 33 = .ok (.if_icmp .ge 27, 3) := by decide +kernel
theorem dX2_findOdds_36 : decode cX2_findOdds 36 = .ok (.aload_n 0, 1) := by decide +kernel
theorem dX2_findOdds_37 : decode cX2_findOdds 37 = .ok (.aload_n 0, 1) := by decide +kernel
theorem dX2_findOdds_38 : decode cX2_findOdds 38 = .ok (.getfield 18, 3) := by decide +kernel
theorem dX2_findOdds_41 : decode cX2_findOdds 41 = .ok (.getfield 63, 3) := by decide +kernel
theorem dX2_findOdds_44 : decode cX2_findOdds 44 = .ok (.iload_n 3, 1) := by decide +kernel
theorem dX2_findOdds_45 : decode cX2_findOdds 45 = .ok (.iaload, 1) := by decide +kernel
theorem dX2_findOdds_46 : decode cX2_findOdds 46 = .ok (.invokevirtual 66, 3) := by decide +kernel
theorem dX2_findOdds_49 : decode cX2_findOdds 49 = .ok (.iload_n 2, 1) := by decide +kernel
theorem dX2_findOdds_50 : decode cX2_findOdds 50 = .ok (.bipush 10, 2) := by decide +kernel
theorem dX2_findOdds_52 : decode cX2_findOdds 52 = .ok (.imul, 1) := by decide +kernel
theorem dX2_findOdds_53 : decode cX2_findOdds 53 = .ok (.istore_n 2, 1) := by decide +kernel
theorem dX2_findOdds_54 : decode cX2_findOdds 54 = .ok (.iinc 3 1, 3) := by decide +kernel
theorem dX2_findOdds_57 : decode cX2_findOdds 57 = .ok (.goto (-32), 3) := by decide +kernel
theorem dX2_findOdds_60 : decode cX2_findOdds 60 = .ok (.iconst 0, 1) := by decide +kernel
theorem dX2_findOdds_61 : decode cX2_findOdds 61 = .ok (.istore_n 3, 1) := by decide +kernel
theorem dX2_findOdds_62 : decode cX2_findOdds 62 = .ok (.iload_n 1, 1) := by decide +kernel
theorem dX2_findOdds_63 : decode cX2_findOdds 63 = .ok (.istore 4, 2) := by decide +kernel
theorem dX2_findOdds_65 : decode cX2_findOdds 65 = .ok (.iload 4, 2) := by decide +kernel
theorem dX2_findOdds_67 : decode cX2_findOdds 67 = .ok (.bipush 7, 2) := by decide +kernel
theorem dX2_findOdds_69 : decode cX2_findOdds 69 = .ok (.if_icmp .gt 19, 3) := by decide +kernel
theorem dX2_findOdds_72 : decode cX2_findOdds 72 = .ok (.iload_n 3, 1) := by decide +kernel
theorem dX2_findOdds_73 : decode cX2_findOdds 73 = .ok (.aload_n 0, 1) := by decide +kernel
theorem dX2_findOdds_74 : decode cX2_findOdds 74 = .ok (.getfield 9, 3) := by decide +kernel
theorem dX2_findOdds_77 : decode cX2_findOdds 77 = .ok (.iload 4, 2) := by decide +kernel
theorem dX2_findOdds_79 : decode cX2_findOdds 79 = .ok (.iaload, 1) := by decide +kernel
theorem dX2_findOdds_80 : decode cX2_findOdds 80 = .ok (.iadd, 1) := by decide +kernel
theorem dX2_findOdds_81 : decode cX2_findOdds 81 = .ok (.istore_n 3, 1) := by decide +kernel
theorem dX2_findOdds_82 : decode cX2_findOdds 82 = .ok (.iinc 4 1, 3) := by decide +kernel
theorem dX2_findOdds_85 : decode cX2_findOdds 85 = .ok (.goto (-20), 3) := by decide +kernel
theorem dX2_findOdds_88 : decode cX2_findOdds 88 = .ok (.iload_n 2, 1) := by decide +kernel
theorem dX2_findOdds_89 : decode cX2_findOdds 89 = .ok (.iload_n 3, 1) := by decide +kernel
theorem dX2_findOdds_90 : decode cX2_findOdds 90 = .ok (.invokestatic 70, 3) := by decide +kernel
theorem dX2_findOdds_93 : decode cX2_findOdds 93 = .ok (.istore 4, 2) := by decide +kernel
theorem dX2_findOdds_95 : decode cX2_findOdds 95 = .ok (.aload_n 0, 1) := by decide +kernel
theorem dX2_findOdds_96 : decode cX2_findOdds 96 = .ok (.iload_n 3, 1) := by decide +kernel
theorem dX2_findOdds_97 : decode cX2_findOdds 97 = .ok (.iload 4, 2) := by decide +kernel
theorem dX2_findOdds_99 : decode cX2_findOdds 99 = .ok (.idiv, 1) := by decide +kernel
theorem dX2_findOdds_100 : decode cX2_findOdds 100 = .ok (.putfield 74, 3) := by decide +kernel
theorem dX2_findOdds_103 : decode cX2_findOdds 103 = .ok (.aload_n 0, 1) := by decide +kernel
theorem dX2_findOdds_104 : decode cX2_findOdds 104 = .ok (.iload_n 2, 1) := by decide +kernel
theorem dX2_findOdds_105 : decode cX2_findOdds 105 = .ok (.iload 4, 2) := by decide +kernel
theorem dX2_findOdds_107 : decode cX2_findOdds 107 = .ok (.idiv, 1) := by decide +kernel
theorem dX2_findOdds_108 : decode cX2_findOdds 108 = .ok (.putfield 77, 3) := by decide +kernel
theorem dX2_findOdds_111 : decode cX2_findOdds 111 = .ok (.return_, 1) := by decide +kernel
theorem dX2_addEvening_0 : decode cX2_addEvening 0 = .ok (.bipush 7, 2) := by decide +kernel
theorem dX2_addEvening_2 : decode cX2_addEvening 2 = .ok (.istore_n 2, 1) := by decide +kernel
theorem dX2_addEvening_3 : decode cX2_addEvening 3 = .ok (.iload_n 2, 1) := by decide +kernel
theorem dX2_addEvening_4 : decode cX2_addEvening 4 = .ok (.ifCond .le 37, 3) := by decide +kernel
theorem dX2_addEvening_7 : decode cX2_addEvening 7 = .ok (.aload_n 0, 1) := by decide +kernel
theorem dX2_addEvening_8 : decode cX2_addEvening 8 = .ok (.getfield 9, 3) := by decide +kernel
theorem dX2_addEvening_11 : decode cX2_addEvening 11 = .ok (.iload_n 2, 1) := by decide +kernel
theorem dX2_addEvening_12 : decode cX2_addEvening 12 = .ok (.aload_n 0, 1) := by decide +kernel
theorem dX2_addEvening_13 : decode cX2_addEvening 13 = .ok (.getfield 9, 3) := by decide +kernel
theorem dX2_addEvening_16 : decode cX2_addEvening 16 = .ok (.iload_n 2, 1) := by decide +kernel
theorem dX2_addEvening_17 : decode cX2_addEvening 17 = .ok (.iaload, 1) := by decide +kernel
theorem dX2_addEvening_18 : decode cX2_addEvening 18 = .ok (.bipush 10, 2) := by decide +kernel
theorem dX2_addEvening_20 : decode cX2_addEvening 20 = .ok (.iload_n 1, 1) := by decide +kernel
theorem dX2_addEvening_21 : decode cX2_addEvening 21 = .ok (.isub, 1) := by decide +kernel
theorem dX2_addEvening_22 : decode cX2_addEvening 22 = .ok (.imul, 1) := by decide +kernel
theorem dX2_addEvening_23 : decode cX2_addEvening 23 = .ok (.aload_n 0, 1) := by decide +kernel
theorem dX2_addEvening_24 : decode cX2_addEvening 24 = .ok (.getfield 9, 3) := by decide +kernel
theorem dX2_addEvening_27 : decode cX2_addEvening 27 = .ok (.iload_n 2, 1) := by decide +kernel
theorem dX2_addEvening_28 : decode cX2_addEvening 28 = .ok (.iconst 1, 1) := by decide +kernel
theorem dX2_addEvening_29 : decode cX2_addEvening 29 = .ok (.isub, 1) := by decide +kernel
theorem dX2_addEvening_30 : decode cX2_addEvening 30 = .ok (.iaload, 1) := by decide +kernel
theorem dX2_addEvening_31 : decode cX2_addEvening 31 = .ok (.iload_n 1, 1) := by decide +kernel
theorem dX2_addEvening_32 : decode cX2_addEvening 32 = .ok (.imul, 1) := by decide +kernel
theorem dX2_addEvening_33 : decode cX2_addEvening 33 = .ok (.iadd, 1) := by decide +kernel
theorem dX2_addEvening_34 : decode cX2_addEvening 34 = .ok (.iastore, 1) := by decide +kernel
theorem dX2_addEvening_35 : decode cX2_addEvening 35 = .ok (.iinc 2 (-1), 3) := by decide +kernel
theorem dX2_addEvening_38 : decode cX2_addEvening 38 = .ok (.goto (-35), 3) := by decide +kernel
theorem dX2_addEvening_41 : decode cX2_addEvening 41 = .ok (.aload_n 0, 1) := by decide +kernel
theorem dX2_addEvening_42 : decode cX2_addEvening 42 = .ok (.getfield 9, 3) := by decide +kernel
theorem dX2_addEvening_45 : decode cX2_addEvening 45 = .ok (.iconst 0, 1) := by decide +kernel
theorem dX2_addEvening_46 : decode cX2_addEvening 46 = .ok (.dup2, 1) := by decide +kernel
theorem dX2_addEvening_47 : decode cX2_addEvening 47 = .ok (.iaload, 1) := by decide +kernel
theorem dX2_addEvening_48 : decode cX2_addEvening 48 = .ok (.bipush 10, 2) := by decide +kernel
theorem dX2_addEvening_50 : decode cX2_addEvening 50 = .ok (.iload_n 1, 1) := by decide +kernel
theorem dX2_addEvening_51 : decode cX2_addEvening 51 = .ok (.isub, 1) := by decide +kernel
theorem dX2_addEvening_52 : decode cX2_addEvening 52 = .ok (.imul, 1) := by decide +kernel
theorem dX2_addEvening_53 : decode cX2_addEvening 53 = .ok (.iastore, 1) := by decide +kernel
theorem dX2_addEvening_54 : decode cX2_addEvening 54 = .ok (.return_, 1) := by decide +kernel
theorem dX2_commonDivisor_0 : decode cX2_commonDivisor 0 = .ok (.iload_n 0, 1) := by decide +kernel
theorem dX2_commonDivisor_1 : decode cX2_commonDivisor 1 = .ok (.istore_n 2, 1) := by decide +kernel
theorem dX2_commonDivisor_2 : decode cX2_commonDivisor 2 = .ok (.iload_n 1, 1) := by decide +kernel
theorem dX2_commonDivisor_3 : decode cX2_commonDivisor 3 = .ok (.istore_n 3, 1) := by decide +kernel
theorem dX2_commonDivisor_4 : decode cX2_commonDivisor 4 = .ok (.iconst 0, 1) := by decide +kernel
theorem dX2_commonDivisor_5 : decode cX2_commonDivisor 5 = .ok (.istore 4, 2) := by decide +kernel
theorem dX2_commonDivisor_7 : decode cX2_commonDivisor 7 = .ok (.iload 4, 2) := by decide +kernel
theorem dX2_commonDivisor_9 : decode cX2_commonDivisor 9 = .ok (.bipush 100, 2) := by decide +kernel
theorem dX2_commonDivisor_11 : decode cX2_commonDivisor 11 = .ok (.if_icmp .ge 23, 3) := by decide +kernel
theorem dX2_commonDivisor_14 : decode cX2_commonDivisor 14 = .ok (.iload_n 3, 1) := by decide +kernel
theorem dX2_commonDivisor_15 : decode cX2_commonDivisor 15 = .ok (.ifCond .eq 19, 3) := by decide +kernel
theorem dX2_commonDivisor_18 : decode cX2_commonDivisor 18 = .ok (.iload_n 2, 1) := by decide +kernel
theorem dX2_commonDivisor_19 : decode cX2_commonDivisor 19 = .ok (.iload_n 3, 1) := by decide +kernel
theorem dX2_commonDivisor_20 : decode cX2_commonDivisor 20 = .ok (.irem, 1) := by decide +kernel
theorem dX2_commonDivisor_21 : decode cX2_commonDivisor 21 = .ok (.istore 5, 2) := by decide +kernel
theorem dX2_commonDivisor_23 : decode cX2_commonDivisor 23 = .ok (.iload_n 3, 1) := by decide +kernel
theorem dX2_commonDivisor_24 : decode cX2_commonDivisor 24 = .ok (.istore_n 2, 1) := by decide +kernel
theorem dX2_commonDivisor_25 : decode cX2_commonDivisor 25 = .ok (.iload 5, 2) := by decide +kernel
theorem dX2_commonDivisor_27 : decode cX2_commonDivisor 27 = .ok (.istore_n 3, 1) := by decide +kernel
theorem dX2_commonDivisor_28 : decode cX2_commonDivisor 28 = .ok (.iinc 4 1, 3) := by decide +kernel
theorem dX2_commonDivisor_31 : decode cX2_commonDivisor 31 = .ok (.goto (-24), 3) := by decide +kernel
theorem dX2_commonDivisor_34 : decode cX2_commonDivisor 34 = .ok (.iconst 1, 1) := by decide +kernel
theorem dX2_commonDivisor_35 : decode cX2_commonDivisor 35 = .ok (.iload_n 2, 1) := by decide +kernel
theorem dX2_commonDivisor_36 : decode cX2_commonDivisor 36 = .ok (.invokestatic 80, 3) := by decide +kernel
theorem dX2_commonDivisor_39 : decode cX2_commonDivisor 39 = .ok (.ireturn, 1) := by decide +kernel
theorem dX3_init_0 : decode cX3_init 0 = .ok (.aload_n 0, 1) := by decide +kernel
theorem dX3_init_1 : decode cX3_init 1 = .ok (.invokespecial 3, 3) := by decide +kernel
theorem dX3_init_4 : decode cX3_init 4 = .ok (.aload_n 0, 1) := by decide +kernel
theorem dX3_init_5 : decode cX3_init 5 = .ok (.bipush 8, 2) := by decide +kernel
theorem dX3_init_7 : decode cX3_init 7 = .ok (.anewarray 9, 3) := by decide +kernel
theorem dX3_init_10 : decode cX3_init 10 = .ok (.putfield 11, 3) := by decide +kernel
theorem dX3_init_13 : decode cX3_init 13 = .ok (.iconst 0, 1) := by decide +kernel
theorem dX3_init_14 : decode cX3_init 14 = .ok (.istore_n 1, 1) := by decide +kernel
theorem dX3_init_15 : decode cX3_init 15 = .ok (.iload_n 1, 1) := by decide +kernel
theorem dX3_init_16 : decode cX3_init 16 = .ok (.bipush 8, 2) := by decide +kernel
theorem dX3_init_18 : decode cX3_init 18 = .ok (.if_icmp .ge 22, 3) := by decide +kernel
theorem dX3_init_21 : decode cX3_init 21 = .ok (.aload_n 0, 1) := by decide +kernel
theorem dX3_init_22 : decode cX3_init 22 = .ok (.getfield 11, 3) := by decide +kernel
theorem dX3_init_25 : decode cX3_init 25 = .ok (.iload_n 1, 1) := by decide +kernel
theorem dX3_init_26 : decode cX3_init 26 = .ok (.new 9, 3) := by decide +kernel
theorem dX3_init_29 : decode cX3_init 29 = .ok (.dup, 1) := by decide +kernel
theorem dX3_init_30 : decode cX3_init 30 = .ok (.invokespecial 17, 3) := by decide +kernel
theorem dX3_init_33 : decode cX3_init 33 = .ok (.aastore, 1) := by decide +kernel
theorem dX3_init_34 : decode cX3_init 34 = .ok (.iinc 1 1, 3) := by decide +kernel
theorem dX3_init_37 : decode cX3_init 37 = .ok (.goto (-22), 3) := by decide +kernel
theorem dX3_init_40 : decode cX3_init 40 = .ok (.return_, 1) := by decide +kernel
theorem dX3_remember_0 : decode cX3_remember 0 = .ok (.aload_n 0, 1) := by decide +kernel
theorem dX3_remember_1 : decode cX3_remember 1 = .ok (.getfield 11, 3) := by decide +kernel
theorem dX3_remember_4 : decode cX3_remember 4 = .ok (.aload_n 0, 1) := by decide +kernel
theorem dX3_remember_5 : decode cX3_remember 5 = .ok (.getfield 18, 3) := by decide +kernel
theorem dX3_remember_8 : decode cX3_remember 8 = .ok (.aaload, 1) := by decide +kernel
theorem dX3_remember_9 : decode cX3_remember 9 = .ok (.aload_n 1, 1) := by decide +kernel
theorem dX3_remember_10 : decode cX3_remember 10 = .ok (.invokevirtual 22, 3) := by decide +kernel
theorem dX3_remember_13 : decode cX3_remember 13 = .ok (.aload_n 0, 1) := by decide +kernel
theorem dX3_remember_14 : decode cX3_remember 14 = .ok (.aload_n 0, 1) := by decide +kernel
theorem dX3_remember_15 : decode cX3_remember 15 = .ok (.getfield 18, 3) := by decide +kernel
theorem dX3_remember_18 : decode cX3_remember 18 = .ok (.iconst 1, 1) := by decide +kernel
theorem dX3_remember_19 : decode cX3_remember 19 = .ok (.iadd, 1) := by decide +kernel
theorem dX3_remember_20 : decode cX3_remember 20 = .ok (.bipush 8, 2) := by decide +kernel
theorem dX3_remember_22 : decode cX3_remember 22 = .ok (.irem, 1) := by decide +kernel
theorem dX3_remember_23 : decode cX3_remember 23 = .ok (.putfield 18, 3) := by decide +kernel
theorem dX3_remember_26 : decode cX3_remember 26 = .ok (.aload_n 0, 1) := by decide +kernel
theorem dX3_remember_27 : decode cX3_remember 27 = .ok (.aload_n 0, 1) := by decide +kernel
theorem dX3_remember_28 : decode cX3_remember 28 = .ok (.getfield 26, 3) := by decide +kernel
theorem dX3_remember_31 : decode cX3_remember 31 = .ok (.iconst 1, 1) := by decide +kernel
theorem dX3_remember_32 : decode cX3_remember 32 = .ok (.iadd, 1) := by decide +kernel
theorem dX3_remember_33 : decode cX3_remember 33 = .ok (.bipush 8, 2) := by decide +kernel
theorem dX3_remember_35 : decode cX3_remember 35 = .ok (.invokestatic 29, 3) := by decide +kernel
theorem dX3_remember_38 : decode cX3_remember 38 = .ok (.putfield 26, 3) := by decide +kernel
theorem dX3_remember_41 : decode cX3_remember 41 = .ok (.return_, 1) := by decide +kernel
theorem dX3_recall_0 : decode cX3_recall 0 = .ok (.aload_n 0, 1) := by decide +kernel
theorem dX3_recall_1 : decode cX3_recall 1 = .ok (.aload_n 0, 1) := by decide +kernel
theorem dX3_recall_2 : decode cX3_recall 2 = .ok (.getfield 18, 3) := by decide +kernel
theorem dX3_recall_5 : decode cX3_recall 5 = .ok (.bipush 8, 2) := by decide +kernel
theorem dX3_recall_7 : decode cX3_recall 7 = .ok (.iadd, 1) := by decide +kernel
theorem dX3_recall_8 : decode cX3_recall 8 = .ok (.iconst 1, 1) := by decide +kernel
theorem dX3_recall_9 : decode cX3_recall 9 = .ok (.isub, 1) := by decide +kernel
theorem dX3_recall_10 : decode cX3_recall 10 = .ok (.bipush 8, 2) := by decide +kernel
theorem dX3_recall_12 : decode cX3_recall 12 = .ok (.irem, 1) := by decide +kernel
theorem dX3_recall_13 : decode cX3_recall 13 = .ok (.putfield 18, 3) := by decide +kernel
theorem dX3_recall_16 : decode cX3_recall 16 = .ok (.aload_n 1, 1) := by decide +kernel
theorem dX3_recall_17 : decode cX3_recall 17 = .ok (.aload_n 0, 1) := by decide +kernel
theorem dX3_recall_18 : decode cX3_recall 18 = .ok (.getfield 11, 3) := by decide +kernel
theorem dX3_recall_21 : decode cX3_recall 21 = .ok (.aload_n 0, 1) := by decide +kernel
theorem dX3_recall_22 : decode cX3_recall 22 = .ok (.getfield 18, 3) := by decide +kernel
theorem dX3_recall_25 : decode cX3_recall 25 = .ok (.aaload, 1) := by decide +kernel
theorem dX3_recall_26 : decode cX3_recall 26 = .ok (.invokevirtual 22, 3) := by decide +kernel
theorem dX3_recall_29 : decode cX3_recall 29 = .ok (.aload_n 0, 1) := by decide +kernel
theorem dX3_recall_30 : decode cX3_recall 30 = .ok (.dup, 1) := by decide +kernel
theorem dX3_recall_31 : decode cX3_recall 31 = .ok (.getfield 26, 3) := by decide +kernel
theorem dX3_recall_34 : decode cX3_recall 34 = .ok (.iconst 1, 1) := by decide +kernel
theorem dX3_recall_35 : decode cX3_recall 35 = .ok (.isub, 1) := by decide +kernel
theorem dX3_recall_36 : decode cX3_recall 36 = .ok (.putfield 26, 3) := by decide +kernel
theorem dX3_recall_39 : decode cX3_recall 39 = .ok (.return_, 1) := by decide +kernel
theorem dX4_init_0 : decode cX4_init 0 = .ok (.aload_n 0, 1) := by decide +kernel
theorem dX4_init_1 : decode cX4_init 1 = .ok (.invokespecial 3, 3) := by decide +kernel
theorem dX4_init_4 : decode cX4_init 4 = .ok (.aload_n 0, 1) := by decide +kernel
theorem dX4_init_5 : decode cX4_init 5 = .ok (.bipush 6, 2) := by decide +kernel
theorem dX4_init_7 : decode cX4_init 7 = .ok (.newarray .int, 2) := by decide +kernel
theorem dX4_init_9 : decode cX4_init 9 = .ok (.putfield 9, 3) := by decide +kernel
theorem dX4_init_12 : decode cX4_init 12 = .ok (.aload_n 0, 1) := by decide +kernel
theorem dX4_init_13 : decode cX4_init 13 = .ok (.bipush 6, 2) := by decide +kernel
theorem dX4_init_15 : decode cX4_init 15 = .ok (.newarray .int, 2) := by decide +kernel
theorem dX4_init_17 : decode cX4_init 17 = .ok (.putfield 15, 3) := by decide +kernel
theorem dX4_init_20 : decode cX4_init 20 = .ok (.aload_n 0, 1) := by decide +kernel
theorem dX4_init_21 : decode cX4_init 21 = .ok (.aload_n 1, 1) := by decide +kernel
theorem dX4_init_22 : decode cX4_init 22 = .ok (.putfield 18, 3) := by decide +kernel
theorem dX4_init_25 : decode cX4_init 25 = .ok (.return_, 1) := by decide +kernel
theorem dX4_add_0 : decode cX4_add 0 = .ok (.aload_n 0, 1) := by decide +kernel
theorem dX4_add_1 : decode cX4_add 1 = .ok (.getfield 22, 3) := by decide +kernel
theorem dX4_add_4 : decode cX4_add 4 = .ok (.bipush 6, 2) := by decide +kernel
theorem dX4_add_6 : decode cX4_add 6 = .ok (.if_icmp .ge 33, 3) := by decide +kernel
theorem dX4_add_9 : decode cX4_add 9 = .ok (.aload_n 0, 1) := by decide +kernel
theorem dX4_add_10 : decode cX4_add 10 = .ok (.getfield 9, 3) := by decide +kernel
theorem dX4_add_13 : decode cX4_add 13 = .ok (.aload_n 0, 1) := by decide +kernel
theorem dX4_add_14 : decode cX4_add 14 = .ok (.getfield 22, 3) := by decide +kernel
theorem dX4_add_17 : decode cX4_add 17 = .ok (.iload_n 1, 1) := by decide +kernel
theorem dX4_add_18 : decode cX4_add 18 = .ok (.iastore, 1) := by decide +kernel
theorem dX4_add_19 : decode cX4_add 19 = .ok (.aload_n 0, 1) := by decide +kernel
theorem dX4_add_20 : decode cX4_add 20 = .ok (.getfield 15, 3) := by decide +kernel
theorem dX4_add_23 : decode cX4_add 23 = .ok (.aload_n 0, 1) := by decide +kernel
theorem dX4_add_24 : decode cX4_add 24 = .ok (.getfield 22, 3) := by decide +kernel
theorem dX4_add_27 : decode cX4_add 27 = .ok (.iload_n 2, 1) := by decide +kernel
theorem dX4_add_28 : decode cX4_add 28 = .ok (.iastore, 1) := by decide +kernel
theorem dX4_add_29 : decode cX4_add 29 = .ok (.aload_n 0, 1) := by decide +kernel
theorem dX4_add_30 : decode cX4_add 30 = .ok (.dup, 1) := by decide +kernel
theorem dX4_add_31 : decode cX4_add 31 = .ok (.getfield 22, 3) := by decide +kernel
theorem dX4_add_34 : decode cX4_add 34 = .ok (.iconst 1, 1) := by decide +kernel
theorem dX4_add_35 : decode cX4_add 35 = .ok (.iadd, 1) := by decide +kernel
theorem dX4_add_36 : decode cX4_add 36 = .ok (.putfield 22, 3) := by decide +kernel
theorem dX4_add_39 : decode cX4_add 39 = .ok (.return_, 1) := by decide +kernel
theorem dX4_findBuyers_0 : decode cX4_findBuyers 0 = .ok (.iconst 0, 1) := by decide +kernel
theorem dX4_findBuyers_1 : decode cX4_findBuyers 1 = .ok (.istore_n 1, 1) := by decide +kernel
theorem dX4_findBuyers_2 : decode cX4_findBuyers 2 = .ok (.iconst 0, 1) := by decide +kernel
theorem dX4_findBuyers_3 : decode cX4_findBuyers 3 = .ok (.istore_n 2, 1) := by decide +kernel
theorem dX4_findBuyers_4 : decode cX4_findBuyers 4 = .ok (.iload_n 2, 1) := by decide +kernel
theorem dX4_findBuyers_5 : decode cX4_findBuyers 5 = .ok (.aload_n 0, 1) := by decide +kernel
theorem dX4_findBuyers_6 : decode cX4_findBuyers 6 = .ok (.getfield 18, 3) := by decide +kernel
theorem dX4_findBuyers_9 : decode cX4_findBuyers 9 = .ok (.getfield 26, 3) := by decide +kernel
theorem dX4_findBuyers_12 : decode cX4_findBuyers 12 = .ok (.if_icmp .ge 23, 3) := by decide +kernel
theorem dX4_findBuyers_15 : decode cX4_findBuyers 15 = .ok (.aload_n 0, 1) := by decide +kernel
theorem dX4_findBuyers_16 : decode cX4_findBuyers 16 = .ok (.iload_n 2, 1) := by decide +kernel
theorem dX4_findBuyers_17 : decode cX4_findBuyers 17 = .ok (.invokevirtual 30, 3) := by decide +kernel
theorem dX4_findBuyers_20 : decode cX4_findBuyers 20 = .ok (.ifCond .eq 9, 3) := by decide +kernel
theorem dX4_findBuyers_23 : decode cX4_findBuyers 23 = .ok (.iload_n 1, 1) := by decide +kernel
theorem dX4_findBuyers_24 : decode cX4_findBuyers 24 = .ok (.iconst 1, 1) := by decide +kernel
theorem dX4_findBuyers_25 : decode cX4_findBuyers 25 = .ok (.iload_n 2, 1) := by decide +kernel
theorem dX4_findBuyers_26 : decode cX4_findBuyers 26 = .ok (.ishl, 1) := by decide +kernel
theorem dX4_findBuyers_27 : decode cX4_findBuyers 27 = .ok (.ior, 1) := by decide +kernel
theorem dX4_findBuyers_28 : decode cX4_findBuyers 28 = .ok (.istore_n 1, 1) := by decide +kernel
theorem dX4_findBuyers_29 : decode cX4_findBuyers 29 = .ok (.iinc 2 1, 3) := by decide +kernel
theorem dX4_findBuyers_32 : decode cX4_findBuyers 32 = .ok (.goto (-28), 3) := by decide +kernel
theorem dX4_findBuyers_35 : decode cX4_findBuyers 35 = .ok (.aload_n 0, 1) := by decide +kernel
theorem dX4_findBuyers_36 : decode cX4_findBuyers 36 = .ok (.iconst (-1), 1) := by decide +kernel
theorem dX4_findBuyers_37 : decode cX4_findBuyers 37 = .ok (.invokevirtual 30, 3) := by decide +kernel
theorem dX4_findBuyers_40 : decode cX4_findBuyers 40 = .ok (.ifCond .eq 10, 3) := by decide +kernel
theorem dX4_findBuyers_43 : decode cX4_findBuyers 43 = .ok (.iload_n 1, 1) := by decide +kernel
theorem dX4_findBuyers_44 : decode cX4_findBuyers 44 = .ok (.bipush 32, 2) := by decide +kernel
theorem dX4_findBuyers_46 : decode cX4_findBuyers 46 = .ok (.ior, 1) := by decide +kernel
theorem dX4_findBuyers_47 : decode cX4_findBuyers 47 = .ok (.goto 4, 3) := by decide +kernel
theorem dX4_findBuyers_50 : decode cX4_findBuyers 50 = .ok (.iload_n 1, 1) := by decide +kernel
theorem dX4_findBuyers_51 : decode cX4_findBuyers 51 = .ok (.ireturn, 1) := by decide +kernel
theorem dX4_fits_0 : decode cX4_fits 0 = .ok (.iconst 0, 1) := by decide +kernel
theorem dX4_fits_1 : decode cX4_fits 1 = .ok (.istore_n 2, 1) := by decide +kernel
theorem dX4_fits_2 : decode cX4_fits 2 = .ok (.iload_n 2, 1) := by decide +kernel
theorem dX4_fits_3 : decode cX4_fits 3 = .ok (.aload_n 0, 1) := by decide +kernel
theorem dX4_fits_4 : decode cX4_fits 4 = .ok (.getfield 22, 3) := by decide +kernel
theorem dX4_fits_7 : decode cX4_fits 7 = .ok (.if_icmp .ge 31, 3) := by decide +kernel
theorem dX4_fits_10 : decode cX4_fits 10 = .ok (.aload_n 0, 1) := by decide +kernel
theorem dX4_fits_11 : decode cX4_fits 11 = .ok (.getfield 15, 3) := by decide +kernel
theorem dX4_fits_14 : decode cX4_fits 14 = .ok (.iload_n 2, 1) := by decide +kernel
theorem dX4_fits_15 : decode cX4_fits 15 = .ok (.iaload, 1) := by decide +kernel
theorem dX4_fits_16 : decode cX4_fits 16 = .ok (.aload_n 0, 1) := by decide +kernel
theorem dX4_fits_17 : decode cX4_fits 17 = .ok (.iload_n 1, 1) := by decide +kernel
theorem dX4_fits_18 : decode cX4_fits 18 = .ok (.aload_n 0, 1) := by decide +kernel
theorem dX4_fits_19 : decode cX4_fits 19 = .ok (.getfield 9, 3) := by decide +kernel
theorem dX4_fits_22 : decode cX4_fits 22 = .ok (.iload_n 2, 1) := by decide +kernel
theorem dX4_fits_23 : decode cX4_fits 23 = .ok (.iaload, 1) := by decide +kernel
theorem dX4_fits_24 : decode cX4_fits 24 = .ok (.invokevirtual 34, 3) := by decide +kernel
theorem dX4_fits_27 : decode cX4_fits 27 = .ok (.if_icmp .eq 5, 3) := by decide +kernel
theorem dX4_fits_30 : decode cX4_fits 30 = .ok (.iconst 0, 1) := by decide +kernel
theorem dX4_fits_31 : decode cX4_fits 31 = .ok (.ireturn, 1) := by decide +kernel
theorem dX4_fits_32 : decode cX4_fits 32 = .ok (.iinc 2 1, 3) := by decide +kernel
theorem dX4_fits_35 : decode cX4_fits 35 = .ok (.goto (-33), 3) := by decide +kernel
theorem dX4_fits_38 : decode cX4_fits 38 = .ok (.iconst 1, 1) := by decide +kernel
theorem dX4_fits_39 : decode cX4_fits 39 = .ok (.ireturn, 1) := by decide +kernel
theorem dX4_downBy_0 : decode cX4_downBy 0 = .ok (.iload_n 1, 1) := by decide +kernel
theorem dX4_downBy_1 : decode cX4_downBy 1 = .ok (.iconst (-1), 1) := by decide +kernel
theorem dX4_downBy_2 : decode cX4_downBy 2 = .ok (.if_icmp .eq 25, 3) := by decide +kernel
theorem dX4_downBy_5 : decode cX4_downBy 5 = .ok (.iload_n 1, 1) := by decide +kernel
theorem dX4_downBy_6 : decode cX4_downBy 6 = .ok (.iload_n 2, 1) := by decide +kernel
theorem dX4_downBy_7 : decode cX4_downBy 7 = .ok (.if_icmp .eq 20, 3) := by decide +kernel
theorem dX4_downBy_10 : decode cX4_downBy 10 = .ok (.aload_n 0, 1) := by decide +kernel
theorem dX4_downBy_11 : decode cX4_downBy 11 = .ok (.getfield 18, 3) := by decide +kernel
theorem dX4_downBy_14 : decode cX4_downBy 14 = .ok (.getfield 38, 3) := by decide +kernel
theorem dX4_downBy_17 : decode cX4_downBy 17 = .ok (.iload_n 2, 1) := by decide +kernel
theorem dX4_downBy_18 : decode cX4_downBy 18 = .ok (.iaload, 1) := by decide +kernel
theorem dX4_downBy_19 : decode cX4_downBy 19 = .ok (.iconst 1, 1) := by decide +kernel
theorem dX4_downBy_20 : decode cX4_downBy 20 = .ok (.if_icmp .eq 7, 3) := by decide +kernel
theorem dX4_downBy_23 : decode cX4_downBy 23 = .ok (.iconst 1, 1) := by decide +kernel
theorem dX4_downBy_24 : decode cX4_downBy 24 = .ok (.goto 4, 3) := by decide +kernel
theorem dX4_downBy_27 : decode cX4_downBy 27 = .ok (.iconst 0, 1) := by decide +kernel
theorem dX4_downBy_28 : decode cX4_downBy 28 = .ok (.istore_n 3, 1) := by decide +kernel
theorem dX4_downBy_29 : decode cX4_downBy 29 = .ok (.iload_n 3, 1) := by decide +kernel
theorem dX4_downBy_30 : decode cX4_downBy 30 = .ok (.ifCond .eq 7, 3) := by decide +kernel
theorem dX4_downBy_33 : decode cX4_downBy 33 = .ok (.iconst 1, 1) := by decide +kernel
theorem dX4_downBy_34 : decode cX4_downBy 34 = .ok (.goto 4, 3) := by decide +kernel
theorem dX4_downBy_37 : decode cX4_downBy 37 = .ok (.iconst 0, 1) := by decide +kernel
theorem dX4_downBy_38 : decode cX4_downBy 38 = .ok (.ireturn, 1) := by decide +kernel
