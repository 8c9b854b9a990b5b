theorem dX5_init_0 : decode cX5_init 0 = .ok (.aload_n 0, 1) := by decide +kernel
theorem dX5_init_1 : decode cX5_init 1 = .ok (.invokespecial 3, 3) := by decide +kernel
theorem dX5_init_4 : decode cX5_init 4 = .ok (.aload_n 0, 1) := by decide +kernel
theorem dX5_init_5 : decode cX5_init 5 = .ok (.sipush 160, 3) := by decide +kernel
theorem dX5_init_8 : decode cX5_init 8 = .ok (.newarray .int, 2) := by decide +kernel
theorem dX5_init_10 : decode cX5_init 10 = .ok (.putfield 9, 3) := by decide +kernel
theorem dX5_init_13 : decode cX5_init 13 = .ok (.aload_n 0, 1) := by decide +kernel
theorem dX5_init_14 : decode cX5_init 14 = .ok (.bipush 14, 2) := by decide +kernel
theorem dX5_init_16 : decode cX5_init 16 = .ok (.newarray .int, 2) := by decide +kernel
theorem dX5_init_18 : decode cX5_init 18 = .ok (.putfield 15, 3) := by decide +kernel
theorem dX5_init_21 : decode cX5_init 21 = .ok (.aload_n 0, 1) := by decide +kernel
theorem dX5_init_22 : decode cX5_init 22 = .ok (.bipush 14, 2) := by decide +kernel
theorem dX5_init_24 : decode cX5_init 24 = .ok (.newarray .int, 2) := by decide +kernel
theorem dX5_init_26 : decode cX5_init 26 = .ok (.putfield 18, 3) := by decide +kernel
theorem dX5_init_29 : decode cX5_init 29 = .ok (.aload_n 0, 1) := by decide +kernel
theorem dX5_init_30 : decode cX5_init 30 = .ok (.bipush 14, 2) := by decide +kernel
theorem dX5_init_32 : decode cX5_init 32 = .ok (.newarray .int, 2) := by decide +kernel
theorem dX5_init_34 : decode cX5_init 34 = .ok (.putfield 21, 3) := by decide +kernel
theorem dX5_init_37 : decode cX5_init 37 = .ok (.return_, 1) := by decide +kernel
theorem dX5_add_0 : decode cX5_add 0 = .ok (.aload_n 0, 1) := by decide +kernel
theorem dX5_add_1 : decode cX5_add 1 = .ok (.getfield 24, 3) := by decide +kernel
theorem dX5_add_4 : decode cX5_add 4 = .ok (.sipush 160, 3) := by decide +kernel
theorem dX5_add_7 : decode cX5_add 7 = .ok (.if_icmp .ge 23, 3) := by decide +kernel
theorem dX5_add_10 : decode cX5_add 10 = .ok (.aload_n 0, 1) := by decide +kernel
theorem dX5_add_11 : decode cX5_add 11 = .ok (.getfield 9, 3) := by decide +kernel
theorem dX5_add_14 : decode cX5_add 14 = .ok (.aload_n 0, 1) := by decide +kernel
theorem dX5_add_15 : decode cX5_add 15 = .ok (.getfield 24, 3) := by decide +kernel
theorem dX5_add_18 : decode cX5_add 18 = .ok (.iload_n 1, 1) := by decide +kernel
theorem dX5_add_19 : decode cX5_add 19 = .ok (.iastore, 1) := by decide +kernel
theorem dX5_add_20 : decode cX5_add 20 = .ok (.aload_n 0, 1) := by decide +kernel
theorem dX5_add_21 : decode cX5_add 21 = .ok (.dup, 1) := by decide +kernel
theorem dX5_add_22 : decode cX5_add 22 = .ok (.getfield 24, 3) := by decide +kernel
theorem dX5_add_25 : decode cX5_add 25 = .ok (.iconst 1, 1) := by decide +kernel
theorem dX5_add_26 : decode cX5_add 26 = .ok (.iadd, 1) := by decide +kernel
theorem dX5_add_27 : decode cX5_add 27 = .ok (.putfield 24, 3) := by decide +kernel
theorem dX5_add_30 : decode cX5_add 30 = .ok (.return_, 1) := by decide +kernel
theorem dX5_findFault_0 : decode cX5_findFault 0 = .ok (.aload_n 0, 1) := by decide +kernel
theorem dX5_findFault_1 : decode cX5_findFault 1 = .ok (.iload_n 1, 1) := by decide +kernel
theorem dX5_findFault_2 : decode cX5_findFault 2 = .ok (.putfield 28, 3) := by decide +kernel
theorem dX5_findFault_5 : decode cX5_findFault 5 = .ok (.aload_n 0, 1) := by decide +kernel
theorem dX5_findFault_6 : decode cX5_findFault 6 = .ok (.iload_n 2, 1) := by decide +kernel
theorem dX5_findFault_7 : decode cX5_findFault 7 = .ok (.putfield 31, 3) := by decide +kernel
theorem dX5_findFault_10 : decode cX5_findFault 10 = .ok (.aload_n 0, 1) := by decide +kernel
theorem dX5_findFault_11 : decode cX5_findFault 11 = .ok (.iconst 0, 1) := by decide +kernel
theorem dX5_findFault_12 : decode cX5_findFault 12 = .ok (.putfield 34, 3) := by decide +kernel
theorem dX5_findFault_15 : decode cX5_findFault 15 = .ok (.aload_n 0, 1) := by decide +kernel
theorem dX5_findFault_16 : decode cX5_findFault 16 = .ok (.iconst 0, 1) := by decide +kernel
theorem dX5_findFault_17 : decode cX5_findFault 17 = .ok (.putfield 37, 3) := by decide +kernel
theorem dX5_findFault_20 : decode cX5_findFault 20 = .ok (.iconst 0, 1) := by decide +kernel
theorem dX5_findFault_21 : decode cX5_findFault 21 = .ok (.istore_n 3, 1) := by decide +kernel
theorem dX5_findFault_22 : decode cX5_findFault 22 = .ok (.iload_n 3, 1) := by decide +kernel
theorem dX5_findFault_23 : decode cX5_findFault 23 = .ok (.bipush 14, 2) := by decide +kernel
theorem dX5_findFault_25 : decode cX5_findFault 25 = .ok (.if_icmp .ge 68, 3) := by decide +kernel
theorem dX5_findFault_28 : decode cX5_findFault 28 = .ok (.aload_n 0, 1) := by decide +kernel
theorem dX5_findFault_29 : decode cX5_findFault 29 = .ok (.iload_n 3, 1) := by decide +kernel
theorem dX5_findFault_30 : decode cX5_findFault 30 = .ok (.invokevirtual 40, 3) := by decide +kernel
theorem dX5_findFault_33 : decode cX5_findFault 33 = .ok (.ifCond .ne 8, 3) := by decide +kernel
theorem dX5_findFault_36 : decode cX5_findFault 36 = .ok (.aload_n 0, 1) := by decide +kernel
theorem dX5_findFault_37 : decode cX5_findFault 37 = .ok (.getfield 44, 3) := by decide +kernel
theorem dX5_findFault_40 : decode cX5_findFault 40 = .ok (.ireturn, 1) := by decide +kernel
theorem dX5_findFault_41 : decode cX5_findFault 41 = .ok (.aload_n 0, 1) := by decide +kernel
theorem dX5_findFault_42 : decode cX5_findFault 42 = .ok (.dup, 1) := by decide +kernel
theorem dX5_findFault_43 : decode cX5_findFault 43 = .ok (.getfield 34, 3) := by decide +kernel
theorem dX5_findFault_46 : decode cX5_findFault 46 = .ok (.iconst 1, 1) := by decide +kernel
theorem dX5_findFault_47 : decode cX5_findFault 47 = .ok (.iadd, 1) := by decide +kernel
theorem dX5_findFault_48 : decode cX5_findFault 48 = .ok (.putfield 34, 3) := by decide +kernel
theorem dX5_findFault_51 : decode cX5_findFault 51 = .ok (.aload_n 0, 1) := by decide +kernel
theorem dX5_findFault_52 : decode cX5_findFault 52 = .ok (.invokevirtual 47, 3) := by decide +kernel
theorem dX5_findFault_55 : decode cX5_findFault 55 = .ok (.aload_n 0, 1) := by decide +kernel
theorem dX5_findFault_56 : decode cX5_findFault 56 = .ok (.getfield 44, 3) := by decide +kernel
theorem dX5_findFault_59 : decode cX5_findFault 59 = .ok (.aload_n 0, 1) := by decide +kernel
theorem dX5_findFault_60 : decode cX5_findFault 60 = .ok (.getfield 24, 3) := by decide +kernel
theorem dX5_findFault_63 : decode cX5_findFault 63 = .ok (.if_icmp .lt 5, 3) := by decide +kernel
theorem dX5_findFault_66 : decode cX5_findFault 66 = .ok (.iconst (-1), 1) := by decide +kernel
theorem dX5_findFault_67 : decode cX5_findFault 67 = .ok (.ireturn, 1) := by decide +kernel
theorem dX5_findFault_68 : decode cX5_findFault 68 = .ok (.aload_n 0, 1) := by decide +kernel
theorem dX5_findFault_69 : decode cX5_findFault 69 = .ok (.getfield 9, 3) := by decide +kernel
theorem dX5_findFault_72 : decode cX5_findFault 72 = .ok (.aload_n 0, 1) := by decide +kernel
theorem dX5_findFault_73 : decode cX5_findFault 73 = .ok (.getfield 44, 3) := by decide +kernel
theorem dX5_findFault_76 : decode cX5_findFault 76 = .ok (.iaload, 1) := by decide +kernel
theorem dX5_findFault_77 : decode cX5_findFault 77 = .ok (.bipush 59, 2) := by decide +kernel
theorem dX5_findFault_79 : decode cX5_findFault 79 = .ok (.if_icmp .eq 8, 3) := by decide +kernel
theorem dX5_findFault_82 : decode cX5_findFault 82 = .ok (.aload_n 0, 1) := by decide +kernel
theorem dX5_findFault_83 : decode cX5_findFault 83 = .ok (.getfield 44, 3) := by decide +kernel
theorem dX5_findFault_86 : decode cX5_findFault 86 = .ok (.ireturn, 1) := by decide +kernel
theorem dX5_findFault_87 : decode cX5_findFault 87 = .ok (.iinc 3 1, 3) := by decide +kernel
theorem dX5_findFault_90 : decode cX5_findFault 90 = .ok (.goto (-68), 3) := by decide +kernel
theorem dX5_findFault_93 : decode cX5_findFault 93 = .ok (.aload_n 0, 1) := by decide +kernel
theorem dX5_findFault_94 : decode cX5_findFault 94 = .ok (.getfield 44, 3) := by decide +kernel
theorem dX5_findFault_97 : decode cX5_findFault 97 = .ok (.ireturn, 1) := by decide +kernel
theorem dX5_readClause_0 : decode cX5_readClause 0 = .ok (.aload_n 0, 1) := by decide +kernel
theorem dX5_readClause_1 : decode cX5_readClause 1 = .ok (.invokevirtual 47, 3) := by decide +kernel
theorem dX5_readClause_4 : decode cX5_readClause 4 = .ok (.aload_n 0, 1) := by decide +kernel
theorem dX5_readClause_5 : decode cX5_readClause 5 = .ok (.invokevirtual 50, 3) := by decide +kernel
theorem dX5_readClause_8 : decode cX5_readClause 8 = .ok (.istore_n 2, 1) := by decide +kernel
theorem dX5_readClause_9 : decode cX5_readClause 9 = .ok (.iload_n 2, 1) := by decide +kernel
theorem dX5_readClause_10 : decode cX5_readClause 10 = .ok (.iconst (-1), 1) := by decide +kernel
theorem dX5_readClause_11 : decode cX5_readClause 11 = .ok (.if_icmp .eq 11, 3) := by decide +kernel
theorem dX5_readClause_14 : decode cX5_readClause 14 = .ok (.aload_n 0, 1) := by decide +kernel
theorem dX5_readClause_15 : decode cX5_readClause 15 = .ok (.iload_n 2, 1) := by decide +kernel
theorem dX5_readClause_16 : decode cX5_readClause 16 = .ok (.invokevirtual 54, 3) := by decide +kernel
theorem dX5_readClause_19 : decode cX5_readClause 19 = .ok (.ifCond .ne 5, 3) := by decide +kernel
theorem dX5_readClause_22 : decode cX5_readClause 22 = .ok (.iconst 0, 1) := by decide +kernel
theorem dX5_readClause_23 : decode cX5_readClause 23 = .ok (.ireturn, 1) := by decide +kernel
theorem dX5_readClause_24 : decode cX5_readClause 24 = .ok (.aload_n 0, 1) := by decide +kernel
theorem dX5_readClause_25 : decode cX5_readClause 25 = .ok (.getfield 15, 3) := by decide +kernel
theorem dX5_readClause_28 : decode cX5_readClause 28 = .ok (.iload_n 1, 1) := by decide +kernel
theorem dX5_readClause_29 : decode cX5_readClause 29 = .ok (.iload_n 2, 1) := by decide +kernel
theorem dX5_readClause_30 : decode cX5_readClause 30 = .ok (.iastore, 1) := by decide +kernel
theorem dX5_readClause_31 : decode cX5_readClause 31 = .ok (.aload_n 0, 1) := by decide +kernel
theorem dX5_readClause_32 : decode cX5_readClause 32 = .ok (.getfield 18, 3) := by decide +kernel
theorem dX5_readClause_35 : decode cX5_readClause 35 = .ok (.iload_n 1, 1) := by decide +kernel
theorem dX5_readClause_36 : decode cX5_readClause 36 = .ok (.iconst 0, 1) := by decide +kernel
theorem dX5_readClause_37 : decode cX5_readClause 37 = .ok (.iastore, 1) := by decide +kernel
theorem dX5_readClause_38 : decode cX5_readClause 38 = .ok (.aload_n 0, 1) := by decide +kernel
theorem dX5_readClause_39 : decode cX5_readClause 39 = .ok (.getfield 21, 3) := by decide +kernel
theorem dX5_readClause_42 : decode cX5_readClause 42 = .ok (.iload_n 1, 1) := by decide +kernel
theorem dX5_readClause_43 : decode cX5_readClause 43 = .ok (.iconst 0, 1) := by decide +kernel
theorem dX5_readClause_44 : decode cX5_readClause 44 = .ok (.iastore, 1) := by decide +kernel
theorem dX5_readClause_45 : decode cX5_readClause 45 = .ok (.iload_n 2, 1) := by decide +kernel
theorem dX5_readClause_46 : decode cX5_readClause 46 = .ok (.invokestatic 57, 3) := by decide +kernel
theorem dX5_readClause_49 : decode cX5_readClause 49 = .ok (.istore_n 3, 1) := by decide +kernel
theorem dX5_readClause_50 : decode cX5_readClause 50 = .ok (.iload_n 3, 1) := by decide +kernel
theorem dX5_readClause_51 : decode cX5_readClause 51 = .ok (.ifCond .le 21, 3) := by decide +kernel
theorem dX5_readClause_54 : decode cX5_readClause 54 = .ok (.aload_n 0, 1) := by decide +kernel
theorem dX5_readClause_55 : decode cX5_readClause 55 = .ok (.invokevirtual 47, 3) := by decide +kernel
theorem dX5_readClause_58 : decode cX5_readClause 58 = .ok (.aload_n 0, 1) := by decide +kernel
theorem dX5_readClause_59 : decode cX5_readClause 59 = .ok (.getfield 18, 3) := by decide +kernel
theorem dX5_readClause_62 : decode cX5_readClause 62 = .ok (.iload_n 1, 1) := by decide +kernel
theorem dX5_readClause_63 : decode cX5_readClause 63 = .ok (.aload_n 0, 1) := by decide +kernel
theorem dX5_readClause_64 : decode cX5_readClause 64 = .ok (.iload_n 2, 1) := by decide +kernel
theorem dX5_readClause_65 : decode cX5_readClause 65 = .ok (.invokestatic 61, 3) := by decide +kernel
theorem dX5_readClause_68 : decode cX5_readClause 68 = .ok (.invokevirtual 64, 3) := by decide +kernel
theorem dX5_readClause_71 : decode cX5_readClause 71 = .ok (.iastore, 1) := by decide +kernel
theorem dX5_readClause_72 : decode cX5_readClause 72 = .ok (.iload_n 3, 1) := by decide +kernel
theorem dX5_readClause_73 : decode cX5_readClause 73 = .ok (.iconst 1, 1) := by decide +kernel
theorem dX5_readClause_74 : decode cX5_readClause 74 = .ok (.if_icmp .le 29, 3) := by decide +kernel
theorem dX5_readClause_77 : decode cX5_readClause 77 = .ok (.aload_n 0, 1) := by decide +kernel
theorem dX5_readClause_78 : decode cX5_readClause 78 = .ok (.getfield 18, 3) := by decide +kernel
theorem dX5_readClause_81 : decode cX5_readClause 81 = .ok (.iload_n 1, 1) := by decide +kernel
theorem dX5_readClause_82 : decode cX5_readClause 82 = .ok (.iaload, 1) := by decide +kernel
theorem dX5_readClause_83 : decode cX5_readClause 83 = .ok (.iconst (-1), 1) := by decide +kernel
theorem dX5_readClause_84 : decode cX5_readClause 84 = .ok (.if_icmp .eq 19, 3) := by decide +kernel
theorem dX5_readClause_87 : decode cX5_readClause 87 = .ok (.aload_n 0, 1) := by decide +kernel
theorem dX5_readClause_88 : decode cX5_readClause 88 = .ok (.invokevirtual 47, 3) := by decide +kernel
theorem dX5_readClause_91 : decode cX5_readClause 91 = .ok (.aload_n 0, 1) := by decide +kernel
theorem dX5_readClause_92 : decode cX5_readClause 92 = .ok (.getfield 21, 3) := by decide +kernel
theorem dX5_readClause_95 : decode cX5_readClause 95 = .ok (.iload_n 1, 1) := by decide +kernel
theorem dX5_readClause_96 : decode cX5_readClause 96 = .ok (.aload_n 0, 1) := by decide +kernel
theorem dX5_readClause_97 : decode cX5_readClause 97 = .ok (.bipush 99, 2) := by decide +kernel
theorem dX5_readClause_99 : decode cX5_readClause 99 = .ok (.invokevirtual 64, 3) := by decide +kernel
theorem dX5_readClause_102 : decode cX5_readClause 102 = .ok (.iastore, 1) := by decide +kernel
theorem dX5_readClause_103 : decode cX5_readClause 103 = .ok (.aload_n 0, 1) := by decide +kernel
theorem dX5_readClause_104 : decode cX5_readClause 104 = .ok (.iload_n 2, 1) := by decide +kernel
theorem dX5_readClause_105 : decode cX5_readClause 105 = .ok (.invokevirtual 67, 3) := by decide +kernel
theorem dX5_readClause_108 : decode cX5_readClause 108 = .ok (.aload_n 0, 1) := by decide +kernel
theorem dX5_readClause_109 : decode cX5_readClause 109 = .ok (.getfield 18, 3) := by decide +kernel
theorem dX5_readClause_112 : decode cX5_readClause 112 = .ok (.iload_n 1, 1) := by decide +kernel
theorem dX5_readClause_113 : decode cX5_readClause 113 = .ok (.iaload, 1) := by decide +kernel
theorem dX5_readClause_114 : decode cX5_readClause 114 = .ok (.iconst (-1), 1) := by decide +kernel
theorem dX5_readClause_115 : decode cX5_readClause 115 = .ok (.if_icmp .eq 17, 3) := by decide +kernel
theorem dX5_readClause_118 : decode cX5_readClause 118 = .ok (.aload_n 0, 1) := by decide +kernel
theorem dX5_readClause_119 : decode cX5_readClause 119 = .ok (.getfield 21, 3) := by decide +kernel
theorem dX5_readClause_122 : decode cX5_readClause 122 = .ok (.iload_n 1, 1) := by decide +kernel
theorem dX5_readClause_123 : decode cX5_readClause 123 = .ok (.iaload, 1) := by decide +kernel
theorem dX5_readClause_124 : decode cX5_readClause 124 = .ok (.iconst (-1), 1) := by decide +kernel
theorem dX5_readClause_125 : decode cX5_readClause 125 = .ok (.if_icmp .eq 7, 3) := by decide +kernel
theorem dX5_readClause_128 : decode cX5_readClause 128 = .ok (.iconst 1, 1) := by decide +kernel
theorem dX5_readClause_129 : decode cX5_readClause 129 = .ok (.goto 4, 3) := by decide +kernel
theorem dX5_readClause_132 : decode cX5_readClause 132 = .ok (.iconst 0, 1) := by decide +kernel
theorem dX5_readClause_133 : decode cX5_readClause 133 = .ok (.ireturn, 1) := by decide +kernel
theorem dX5_readToken_0 : decode cX5_readToken 0 = .ok (.aload_n 0, 1) := by decide +kernel
theorem dX5_readToken_1 : decode cX5_readToken 1 = .ok (.aload_n 0, 1) := by decide +kernel
theorem dX5_readToken_2 : decode cX5_readToken 2 = .ok (.getfield 37, 3) := by decide +kernel
theorem dX5_readToken_5 : decode cX5_readToken 5 = .ok (.putfield 44, 3) := by decide +kernel
theorem dX5_readToken_8 : decode cX5_readToken 8 = .ok (.aload_n 0, 1) := by decide +kernel
theorem dX5_readToken_9 : decode cX5_readToken 9 = .ok (.getfield 44, 3) := by decide +kernel
theorem dX5_readToken_12 : decode cX5_readToken 12 = .ok (.aload_n 0, 1) := by decide +kernel
theorem dX5_readToken_13 : decode cX5_readToken 13 = .ok (.getfield 24, 3) := by decide +kernel
theorem dX5_readToken_16 : decode cX5_readToken 16 = .ok (.if_icmp .ge 30, 3) := by decide +kernel
theorem dX5_readToken_19 : decode cX5_readToken 19 = .ok (.aload_n 0, 1) := by decide +kernel
theorem dX5_readToken_20 : decode cX5_readToken 20 = .ok (.getfield 9, 3) := by decide +kernel
theorem dX5_readToken_23 : decode cX5_readToken 23 = .ok (.aload_n 0, 1) := by decide +kernel
theorem dX5_readToken_24 : decode cX5_readToken 24 = .ok (.getfield 44, 3) := by decide +kernel
theorem dX5_readToken_27 : decode cX5_readToken 27 = .ok (.iaload, 1) := by decide +kernel
theorem dX5_readToken_28 : decode cX5_readToken 28 = .ok (.bipush 32, 2) := by decide +kernel
theorem dX5_readToken_30 : decode cX5_readToken 30 = .ok (.if_icmp .ne 16, 3) := by decide +kernel
theorem dX5_readToken_33 : decode cX5_readToken 33 = .ok (.aload_n 0, 1) := by decide +kernel
theorem dX5_readToken_34 : decode cX5_readToken 34 = .ok (.dup, 1) := by decide +kernel
theorem dX5_readToken_35 : decode cX5_readToken 35 = .ok (.getfield 44, 3) := by decide +kernel
theorem dX5_readToken_38 : decode cX5_readToken 38 = .ok (.iconst 1, 1) := by decide +kernel
theorem dX5_readToken_39 : decode cX5_readToken 39 = .ok (.iadd, 1) := by decide +kernel
theorem dX5_readToken_40 : decode cX5_readToken 40 = .ok (.putfield 44, 3) := by decide +kernel
theorem dX5_readToken_43 : decode cX5_readToken 43 = .ok (.goto (-35), 3) := by decide +kernel
theorem dX5_readToken_46 : decode cX5_readToken 46 = .ok (.aload_n 0, 1) := by decide +kernel
theorem dX5_readToken_47 : decode cX5_readToken 47 = .ok (.aload_n 0, 1) := by decide +kernel
theorem dX5_readToken_48 : decode cX5_readToken 48 = .ok (.getfield 44, 3) := by decide +kernel
theorem dX5_readToken_51 : decode cX5_readToken 51 = .ok (.putfield 37, 3) := by decide +kernel
theorem dX5_readToken_54 : decode cX5_readToken 54 = .ok (.aload_n 0, 1) := by decide +kernel
theorem dX5_readToken_55 : decode cX5_readToken 55 = .ok (.getfield 44, 3) := by decide +kernel
theorem dX5_readToken_58 : decode cX5_readToken 58 = .ok (.aload_n 0, 1) := by decide +kernel
theorem dX5_readToken_59 : decode cX5_readToken 59 = .ok (.getfield 24, 3) := by decide +kernel
theorem dX5_readToken_62 : decode cX5_readToken 62 = .ok (.if_icmp .lt 4, 3) := by decide +kernel
theorem dX5_readToken_65 : decode cX5_readToken 65 = .ok (.return_, 1) := by decide +kernel
theorem dX5_readToken_66 : decode cX5_readToken 66 = .ok (.aload_n 0, 1) := by decide +kernel
theorem dX5_readToken_67 : decode cX5_readToken 67 = .ok (.getfield 9, 3) := by decide +kernel
theorem dX5_readToken_70 : decode cX5_readToken 70 = .ok (.aload_n 0, 1) := by decide +kernel
theorem dX5_readToken_71 : decode cX5_readToken 71 = .ok (.getfield 44, 3) := by decide +kernel
theorem dX5_readToken_74 : decode cX5_readToken 74 = .ok (.iaload, 1) := by decide +kernel
theorem dX5_readToken_75 : decode cX5_readToken 75 = .ok (.invokestatic 71, 3) := by decide +kernel
theorem dX5_readToken_78 : decode cX5_readToken 78 = .ok (.istore_n 1, 1) := by decide +kernel
theorem dX5_readToken_79 : decode cX5_readToken 79 = .ok (.aload_n 0, 1) := by decide +kernel
theorem dX5_readToken_80 : decode cX5_readToken 80 = .ok (.dup, 1) := by decide +kernel
theorem dX5_readToken_81 : decode cX5_readToken 81 = .ok (.getfield 37, 3) := by decide +kernel
theorem dX5_readToken_84 : decode cX5_readToken 84 = .ok (.iconst 1, 1) := by decide +kernel
theorem dX5_readToken_85 : decode cX5_readToken 85 = .ok (.iadd, 1) := by decide +kernel
theorem dX5_readToken_86 : decode cX5_readToken 86 = .ok (.putfield 37, 3) := by decide +kernel
theorem dX5_readToken_89 : decode cX5_readToken 89 = .ok (.iload_n 1, 1) := by decide +kernel
theorem dX5_readToken_90 : decode cX5_readToken 90 = .ok (.ifCond .eq 43, 3) := by decide +kernel
theorem dX5_readToken_93 : decode cX5_readToken 93 = .ok (.aload_n 0, 1) := by decide +kernel
theorem dX5_readToken_94 : decode cX5_readToken 94 = .ok (.getfield 37, 3) := by decide +kernel
theorem dX5_readToken_97 : decode cX5_readToken 97 = .ok (.aload_n 0, 1) := by decide +kernel
theorem dX5_readToken_98 : decode cX5_readToken 98 = .ok (.getfield 24, 3) := by decide +kernel
theorem dX5_readToken_101 : decode cX5_readToken 101 = .ok (.if_icmp .ge 32, 3) := by decide +kernel
theorem dX5_readToken_104 : decode cX5_readToken 104 = .ok (.aload_n 0, 1) := by decide +kernel
theorem dX5_readToken_105 : decode cX5_readToken 105 = .ok (.getfield 9, 3) := by decide +kernel
theorem dX5_readToken_108 : decode cX5_readToken 108 = .ok (.aload_n 0, 1) := by decide +kernel
theorem dX5_readToken_109 : decode cX5_readToken 109 = .ok (.getfield 37, 3) := by decide +kernel
theorem dX5_readToken_112 : decode cX5_readToken 112 = .ok (.iaload, 1) := by decide +kernel
theorem dX5_readToken_113 : decode cX5_readToken 113 = .ok (.invokestatic 71, 3) := by decide +kernel
theorem dX5_readToken_116 : decode cX5_readToken 116 = .ok (.iload_n 1, 1) := by decide +kernel
theorem dX5_readToken_117 : decode cX5_readToken 117 = .ok (.if_icmp .ne 16, 3) := by decide +kernel
theorem dX5_readToken_120 : decode cX5_readToken 120 = .ok (.aload_n 0, 1) := by decide +kernel
theorem dX5_readToken_121 : decode cX5_readToken 121 = .ok (.dup, 1) := by decide +kernel
theorem dX5_readToken_122 : decode cX5_readToken 122 = .ok (.getfield 37, 3) := by decide +kernel
theorem dX5_readToken_125 : decode cX5_readToken 125 = .ok (.iconst 1, 1) := by decide +kernel
theorem dX5_readToken_126 : decode cX5_readToken 126 = .ok (.iadd, 1) := by decide +kernel
theorem dX5_readToken_127 : decode cX5_readToken 127 = .ok (.putfield 37, 3) := by decide +kernel
theorem dX5_readToken_130 : decode cX5_readToken 130 = .ok (.goto (-41), 3) := by decide +kernel
theorem dX5_readToken_133 : decode cX5_readToken 133 = .ok (.return_, 1) := by decide +kernel
theorem dX5_sortOf_0 : decode cX5_sortOf 0 = .ok (.iload_n 0, 1) := by decide +kernel
theorem dX5_sortOf_1 : decode cX5_sortOf 1 = .ok (.bipush 97, 2) := by decide +kernel
theorem dX5_sortOf_3 : decode cX5_sortOf 3 = .ok (.if_icmp .lt 11, 3) := by decide +kernel
theorem dX5_sortOf_6 : decode cX5_sortOf 6 = .ok (.iload_n 0, 1) := by decide +kernel
theorem dX5_sortOf_7 : decode cX5_sortOf 7 = .ok (.bipush 122, 2) := by decide +kernel
theorem dX5_sortOf_9 : decode cX5_sortOf 9 = .ok (.if_icmp .gt 5, 3) := by decide +kernel
theorem dX5_sortOf_12 : decode cX5_sortOf 12 = .ok (.iconst 1, 1) := by decide +kernel
theorem dX5_sortOf_13 : decode cX5_sortOf 13 = .ok (.ireturn, 1) := by decide +kernel
theorem dX5_sortOf_14 : decode cX5_sortOf 14 = .ok (.iload_n 0, 1) := by decide +kernel
theorem dX5_sortOf_15 : decode cX5_sortOf 15 = .ok (.bipush 48, 2) := by decide +kernel
theorem dX5_sortOf_17 : decode cX5_sortOf 17 = .ok (.if_icmp .lt 13, 3) := by decide +kernel
theorem dX5_sortOf_20 : decode cX5_sortOf 20 = .ok (.iload_n 0, 1) := by decide +kernel
theorem dX5_sortOf_21 : decode cX5_sortOf 21 = .ok (.bipush 57, 2) := by decide +kernel
theorem dX5_sortOf_23 : decode cX5_sortOf 23 = .ok (.if_icmp .gt 7, 3) := by decide +kernel
theorem dX5_sortOf_26 : decode cX5_sortOf 26 = .ok (.iconst 2, 1) := by decide +kernel
theorem dX5_sortOf_27 : decode cX5_sortOf 27 = .ok (.goto 4, 3) := by decide +kernel
theorem dX5_sortOf_30 : decode cX5_sortOf 30 = .ok (.iconst 0, 1) := by decide +kernel
theorem dX5_sortOf_31 : decode cX5_sortOf 31 = .ok (.ireturn, 1) := by decide +kernel
theorem dX5_findWord_0 : decode cX5_findWord 0 = .ok (.iconst 0, 1) := by decide +kernel
theorem dX5_findWord_1 : decode cX5_findWord 1 = .ok (.istore_n 1, 1) := by decide +kernel
theorem dX5_findWord_2 : decode cX5_findWord 2 = .ok (.iload_n 1, 1) := by decide +kernel
theorem dX5_findWord_3 : decode cX5_findWord 3 = .ok (.bipush 13, 2) := by decide +kernel
theorem dX5_findWord_5 : decode cX5_findWord 5 = .ok (.if_icmp .ge 22, 3) := by decide +kernel
theorem dX5_findWord_8 : decode cX5_findWord 8 = .ok (.aload_n 0, 1) := by decide +kernel
theorem dX5_findWord_9 : decode cX5_findWord 9 = .ok (.iload_n 1, 1) := by decide +kernel
theorem dX5_findWord_10 : decode cX5_findWord 10 = .ok (.invokestatic 74, 3) := by decide +kernel
theorem dX5_findWord_13 : decode cX5_findWord 13 = .ok (.invokevirtual 78, 3) := by decide +kernel
theorem dX5_findWord_16 : decode cX5_findWord 16 = .ok (.ifCond .eq 5, 3) := by decide +kernel
theorem dX5_findWord_19 : decode cX5_findWord 19 = .ok (.iload_n 1, 1) := by decide +kernel
theorem dX5_findWord_20 : decode cX5_findWord 20 = .ok (.ireturn, 1) := by decide +kernel
theorem dX5_findWord_21 : decode cX5_findWord 21 = .ok (.iinc 1 1, 3) := by decide +kernel
theorem dX5_findWord_24 : decode cX5_findWord 24 = .ok (.goto (-22), 3) := by decide +kernel
theorem dX5_findWord_27 : decode cX5_findWord 27 = .ok (.iconst (-1), 1) := by decide +kernel
theorem dX5_findWord_28 : decode cX5_findWord 28 = .ok (.ireturn, 1) := by decide +kernel
theorem dX5_spelling_0 : decode cX5_spelling 0 = .ok (.iload_n 0, 1) := by decide +kernel
theorem dX5_spelling_1 : decode cX5_spelling 1 = .ok (.tableswitch 99 0 11 #[63, 66, 69, 72, 75, 78, 81, 84, 87, 90, 93, 96], 63) := by decide +kernel
theorem dX5_spelling_64 : decode cX5_spelling 64 = .ok (.ldc 82, 2) := by decide +kernel
theorem dX5_spelling_66 : decode cX5_spelling 66 = .ok (.areturn, 1) := by decide +kernel
theorem dX5_spelling_67 : decode cX5_spelling 67 = .ok (.ldc 84, 2) := by decide +kernel
theorem dX5_spelling_69 : decode cX5_spelling 69 = .ok (.areturn, 1) := by decide +kernel
theorem dX5_spelling_70 : decode cX5_spelling 70 = .ok (.ldc 86, 2) := by decide +kernel
theorem dX5_spelling_72 : decode cX5_spelling 72 = .ok (.areturn, 1) := by decide +kernel
theorem dX5_spelling_73 : decode cX5_spelling 73 = .ok (.ldc 88, 2) := by decide +kernel
theorem dX5_spelling_75 : decode cX5_spelling 75 = .ok (.areturn, 1) := by decide +kernel
theorem dX5_spelling_76 : decode cX5_spelling 76 = .ok (.ldc 90, 2) := by decide +kernel
theorem dX5_spelling_78 : decode cX5_spelling 78 = .ok (.areturn, 1) := by decide +kernel
theorem dX5_spelling_79 : decode cX5_spelling 79 = .ok (.ldc 92, 2) := by decide +kernel
theorem dX5_spelling_81 : decode cX5_spelling 81 = .ok (.areturn, 1) := by decide +kernel
theorem dX5_spelling_82 : decode cX5_spelling 82 = .ok (.ldc 94, 2) := by decide +kernel
theorem dX5_spelling_84 : decode cX5_spelling 84 = .ok (.areturn, 1) := by decide +kernel
theorem dX5_spelling_85 : decode cX5_spelling 85 = .ok (.ldc 96, 2) := by decide +kernel
theorem dX5_spelling_87 : decode cX5_spelling 87 = .ok (.areturn, 1) := by decide +kernel
theorem dX5_spelling_88 : decode cX5_spelling 88 = .ok (.ldc 98, 2) := by decide +kernel
theorem dX5_spelling_90 : decode cX5_spelling 90 = .ok (.areturn, 1) := by decide +kernel
theorem dX5_spelling_91 : decode cX5_spelling 91 = .ok (.ldc 100, 2) := by decide +kernel
theorem dX5_spelling_93 : decode cX5_spelling 93 = .ok (.areturn, 1) := by decide +kernel
theorem dX5_spelling_94 : decode cX5_spelling 94 = .ok (.ldc 102, 2) := by decide +kernel
theorem dX5_spelling_96 : decode cX5_spelling 96 = .ok (.areturn, 1) := by decide +kernel
theorem dX5_spelling_97 : decode cX5_spelling 97 = .ok (.ldc 104, 2) := by decide +kernel
theorem dX5_spelling_99 : decode cX5_spelling 99 = .ok (.areturn, 1) := by decide +kernel
theorem dX5_spelling_100 : decode cX5_spelling 100 = .ok (.ldc 106, 2) := by decide +kernel
theorem dX5_spelling_102 : decode cX5_spelling 102 = .ok (.areturn, 1) := by decide +kernel
theorem dX5_isToken_0 : decode cX5_isToken 0 = .ok (.aload_n 0, 1) := by decide +kernel
theorem dX5_isToken_1 : decode cX5_isToken 1 = .ok (.getfield 37, 3) := by decide +kernel
theorem dX5_isToken_4 : decode cX5_isToken 4 = .ok (.aload_n 0, 1) := by decide +kernel
theorem dX5_isToken_5 : decode cX5_isToken 5 = .ok (.getfield 44, 3) := by decide +kernel
theorem dX5_isToken_8 : decode cX5_isToken 8 = .ok (.isub, 1) := by decide +kernel
theorem dX5_isToken_9 : decode cX5_isToken 9 = .ok (.aload_n 1, 1) := by decide +kernel
theorem dX5_isToken_10 : decode cX5_isToken 10 = .ok (.invokevirtual 108, 3) := by decide +kernel
theorem dX5_isToken_13 : decode cX5_isToken 13 = .ok (.if_icmp .eq 5, 3) := by decide +kernel
theorem dX5_isToken_16 : decode cX5_isToken 16 = .ok (.iconst 0, 1) := by decide +kernel
theorem dX5_isToken_17 : decode cX5_isToken 17 = .ok (.ireturn, 1) := by decide +kernel
theorem dX5_isToken_18 : decode cX5_isToken 18 = .ok (.iconst 0, 1) := by decide +kernel
theorem dX5_isToken_19 : decode cX5_isToken 19 = .ok (.istore_n 2, 1) := by decide +kernel
theorem dX5_isToken_20 : decode cX5_isToken 20 = .ok (.iload_n 2, 1) := by decide +kernel
theorem dX5_isToken_21 : decode cX5_isToken 21 = .ok (.aload_n 1, 1) := by decide +kernel
theorem dX5_isToken_22 : decode cX5_isToken 22 = .ok (.invokevirtual 108, 3) := by decide +kernel
theorem dX5_isToken_25 : decode cX5_isToken 25 = .ok (.if_icmp .ge 30, 3) := by decide +kernel
theorem dX5_isToken_28 : decode cX5_isToken 28 = .ok (.aload_n 0, 1) := by decide +kernel
theorem dX5_isToken_29 : decode cX5_isToken 29 = .ok (.getfield 9, 3) := by decide +kernel
theorem dX5_isToken_32 : decode cX5_isToken 32 = .ok (.aload_n 0, 1) := by decide +kernel
theorem dX5_isToken_33 : decode cX5_isToken 33 = .ok (.getfield 44, 3) := by decide +kernel
theorem dX5_isToken_36 : decode cX5_isToken 36 = .ok (.iload_n 2, 1) := by decide +kernel
theorem dX5_isToken_37 : decode cX5_isToken 37 = .ok (.iadd, 1) := by decide +kernel
theorem dX5_isToken_38 : decode cX5_isToken 38 = .ok (.iaload, 1) := by decide +kernel
theorem dX5_isToken_39 : decode cX5_isToken 39 = .ok (.aload_n 1, 1) := by decide +kernel
theorem dX5_isToken_40 : decode cX5_isToken 40 = .ok (.iload_n 2, 1) := by decide +kernel
theorem dX5_isToken_41 : decode cX5_isToken 41 = .ok (.invokevirtual 112, 3) := by decide +kernel
theorem dX5_isToken_44 : decode cX5_isToken 44 = .ok (.if_icmp .eq 5, 3) := by decide +kernel
theorem dX5_isToken_47 : decode cX5_isToken 47 = .ok (.iconst 0, 1) := by decide +kernel
theorem dX5_isToken_48 : decode cX5_isToken 48 = .ok (.ireturn, 1) := by decide +kernel
theorem dX5_isToken_49 : decode cX5_isToken 49 = .ok (.iinc 2 1, 3) := by decide +kernel
theorem dX5_isToken_52 : decode cX5_isToken 52 = .ok (.goto (-32), 3) := by decide +kernel
theorem dX5_isToken_55 : decode cX5_isToken 55 = .ok (.iconst 1, 1) := by decide +kernel
theorem dX5_isToken_56 : decode cX5_isToken 56 = .ok (.ireturn, 1) := by decide +kernel
theorem dX5_hasRoomFor_0 : decode cX5_hasRoomFor 0 = .ok (.iload_n 1, 1) := by decide +kernel
theorem dX5_hasRoomFor_1 : decode cX5_hasRoomFor 1 = .ok (.invokestatic 116, 3) := by decide +kernel
theorem dX5_hasRoomFor_4 : decode cX5_hasRoomFor 4 = .ok (.ifCond .eq 18, 3) := by decide +kernel
theorem dX5_hasRoomFor_7 : decode cX5_hasRoomFor 7 = .ok (.aload_n 0, 1) := by decide +kernel
theorem dX5_hasRoomFor_8 : decode cX5_hasRoomFor 8 = .ok (.getfield 28, 3) := by decide +kernel
theorem dX5_hasRoomFor_11 : decode cX5_hasRoomFor 11 = .ok (.bipush 7, 2) := by decide +kernel
theorem dX5_hasRoomFor_13 : decode cX5_hasRoomFor 13 = .ok (.if_icmp .ge 7, 3) := by decide +kernel
theorem dX5_hasRoomFor_16 : decode cX5_hasRoomFor 16 = .ok (.iconst 1, 1) := by decide +kernel
theorem dX5_hasRoomFor_17 : decode cX5_hasRoomFor 17 = .ok (.goto 4, 3) := by decide +kernel
theorem dX5_hasRoomFor_20 : decode cX5_hasRoomFor 20 = .ok (.iconst 0, 1) := by decide +kernel
theorem dX5_hasRoomFor_21 : decode cX5_hasRoomFor 21 = .ok (.ireturn, 1) := by decide +kernel
theorem dX5_hasRoomFor_22 : decode cX5_hasRoomFor 22 = .ok (.iload_n 1, 1) := by decide +kernel
theorem dX5_hasRoomFor_23 : decode cX5_hasRoomFor 23 = .ok (.invokestatic 119, 3) := by decide +kernel
theorem dX5_hasRoomFor_26 : decode cX5_hasRoomFor 26 = .ok (.ifCond .eq 11, 3) := by decide +kernel
theorem dX5_hasRoomFor_29 : decode cX5_hasRoomFor 29 = .ok (.aload_n 0, 1) := by decide +kernel
theorem dX5_hasRoomFor_30 : decode cX5_hasRoomFor 30 = .ok (.getfield 31, 3) := by decide +kernel
theorem dX5_hasRoomFor_33 : decode cX5_hasRoomFor 33 = .ok (.iconst 5, 1) := by decide +kernel
theorem dX5_hasRoomFor_34 : decode cX5_hasRoomFor 34 = .ok (.if_icmp .ge 7, 3) := by decide +kernel
theorem dX5_hasRoomFor_37 : decode cX5_hasRoomFor 37 = .ok (.iconst 1, 1) := by decide +kernel
theorem dX5_hasRoomFor_38 : decode cX5_hasRoomFor 38 = .ok (.goto 4, 3) := by decide +kernel
theorem dX5_hasRoomFor_41 : decode cX5_hasRoomFor 41 = .ok (.iconst 0, 1) := by decide +kernel
theorem dX5_hasRoomFor_42 : decode cX5_hasRoomFor 42 = .ok (.ireturn, 1) := by decide +kernel
theorem dX5_numbersBehind_0 : decode cX5_numbersBehind 0 = .ok (.iload_n 0, 1) := by decide +kernel
theorem dX5_numbersBehind_1 : decode cX5_numbersBehind 1 = .ok (.invokestatic 119, 3) := by decide +kernel
theorem dX5_numbersBehind_4 : decode cX5_numbersBehind 4 = .ok (.ifCond .eq 5, 3) := by decide +kernel
theorem dX5_numbersBehind_7 : decode cX5_numbersBehind 7 = .ok (.iconst 2, 1) := by decide +kernel
theorem dX5_numbersBehind_8 : decode cX5_numbersBehind 8 = .ok (.ireturn, 1) := by decide +kernel
theorem dX5_numbersBehind_9 : decode cX5_numbersBehind 9 = .ok (.iload_n 0, 1) := by decide +kernel
theorem dX5_numbersBehind_10 : decode cX5_numbersBehind 10 = .ok (.invokestatic 116, 3) := by decide +kernel
theorem dX5_numbersBehind_13 : decode cX5_numbersBehind 13 = .ok (.ifCond .ne 15, 3) := by decide +kernel
theorem dX5_numbersBehind_16 : decode cX5_numbersBehind 16 = .ok (.iload_n 0, 1) := by decide +kernel
theorem dX5_numbersBehind_17 : decode cX5_numbersBehind 17 = .ok (.bipush 10, 2) := by decide +kernel
theorem dX5_numbersBehind_19 : decode cX5_numbersBehind 19 = .ok (.if_icmp .eq 9, 3) := by decide +kernel
theorem dX5_numbersBehind_22 : decode cX5_numbersBehind 22 = .ok (.iload_n 0, 1) := by decide +kernel
theorem dX5_numbersBehind_23 : decode cX5_numbersBehind 23 = .ok (.bipush 11, 2) := by decide +kernel
theorem dX5_numbersBehind_25 : decode cX5_numbersBehind 25 = .ok (.if_icmp .ne 7, 3) := by decide +kernel
theorem dX5_numbersBehind_28 : decode cX5_numbersBehind 28 = .ok (.iconst 1, 1) := by decide +kernel
theorem dX5_numbersBehind_29 : decode cX5_numbersBehind 29 = .ok (.goto 4, 3) := by decide +kernel
theorem dX5_numbersBehind_32 : decode cX5_numbersBehind 32 = .ok (.iconst 0, 1) := by decide +kernel
theorem dX5_numbersBehind_33 : decode cX5_numbersBehind 33 = .ok (.ireturn, 1) := by decide +kernel
theorem dX5_topBehind_0 : decode cX5_topBehind 0 = .ok (.iload_n 0, 1) := by decide +kernel
theorem dX5_topBehind_1 : decode cX5_topBehind 1 = .ok (.invokestatic 116, 3) := by decide +kernel
theorem dX5_topBehind_4 : decode cX5_topBehind 4 = .ok (.ifCond .ne 9, 3) := by decide +kernel
theorem dX5_topBehind_7 : decode cX5_topBehind 7 = .ok (.iload_n 0, 1) := by decide +kernel
theorem dX5_topBehind_8 : decode cX5_topBehind 8 = .ok (.bipush 11, 2) := by decide +kernel
theorem dX5_topBehind_10 : decode cX5_topBehind 10 = .ok (.if_icmp .ne 8, 3) := by decide +kernel
theorem dX5_topBehind_13 : decode cX5_topBehind 13 = .ok (.bipush 10, 2) := by decide +kernel
theorem dX5_topBehind_15 : decode cX5_topBehind 15 = .ok (.goto 5, 3) := by decide +kernel
theorem dX5_topBehind_18 : decode cX5_topBehind 18 = .ok (.bipush 99, 2) := by decide +kernel
theorem dX5_topBehind_20 : decode cX5_topBehind 20 = .ok (.ireturn, 1) := by decide +kernel
theorem dX5_numberUpTo_0 : decode cX5_numberUpTo 0 = .ok (.aload_n 0, 1) := by decide +kernel
theorem dX5_numberUpTo_1 : decode cX5_numberUpTo 1 = .ok (.getfield 37, 3) := by decide +kernel
theorem dX5_numberUpTo_4 : decode cX5_numberUpTo 4 = .ok (.aload_n 0, 1) := by decide +kernel
theorem dX5_numberUpTo_5 : decode cX5_numberUpTo 5 = .ok (.getfield 44, 3) := by decide +kernel
theorem dX5_numberUpTo_8 : decode cX5_numberUpTo 8 = .ok (.isub, 1) := by decide +kernel
theorem dX5_numberUpTo_9 : decode cX5_numberUpTo 9 = .ok (.istore_n 2, 1) := by decide +kernel
theorem dX5_numberUpTo_10 : decode cX5_numberUpTo 10 = .ok (.iload_n 2, 1) := by decide +kernel
theorem dX5_numberUpTo_11 : decode cX5_numberUpTo 11 = .ok (.iconst 1, 1) := by decide +kernel
theorem dX5_numberUpTo_12 : decode cX5_numberUpTo 12 = .ok (.if_icmp .lt 24, 3) := by decide +kernel
theorem dX5_numberUpTo_15 : decode cX5_numberUpTo 15 = .ok (.iload_n 2, 1) := by decide +kernel
theorem dX5_numberUpTo_16 : decode cX5_numberUpTo 16 = .ok (.iconst 2, 1) := by decide +kernel
theorem dX5_numberUpTo_17 : decode cX5_numberUpTo 17 = .ok (.if_icmp .gt 19, 3) := by decide +kernel
theorem dX5_numberUpTo_20 : decode cX5_numberUpTo 20 = .ok (.aload_n 0, 1) := by decide +kernel
theorem dX5_numberUpTo_21 : decode cX5_numberUpTo 21 = .ok (.getfield 9, 3) := by decide +kernel
theorem dX5_numberUpTo_24 : decode cX5_numberUpTo 24 = .ok (.aload_n 0, 1) := by decide +kernel
theorem dX5_numberUpTo_25 : decode cX5_numberUpTo 25 = .ok (.getfield 44, 3) := by decide +kernel
theorem dX5_numberUpTo_28 : decode cX5_numberUpTo 28 = .ok (.iaload, 1) := by decide +kernel
theorem dX5_numberUpTo_29 : decode cX5_numberUpTo 29 = .ok (.invokestatic 71, 3) := by decide +kernel
theorem dX5_numberUpTo_32 : decode cX5_numberUpTo 32 = .ok (.iconst 2, 1) := by decide +kernel
theorem dX5_numberUpTo_33 : decode cX5_numberUpTo 33 = .ok (.if_icmp .eq 5, 3) := by decide +kernel
theorem dX5_numberUpTo_36 : decode cX5_numberUpTo 36 = .ok (.iconst (-1), 1) := by decide +kernel
theorem dX5_numberUpTo_37 : decode cX5_numberUpTo 37 = .ok (.ireturn, 1) := by decide +kernel
theorem dX5_numberUpTo_38 : decode cX5_numberUpTo 38 = .ok (.aload_n 0, 1) := by decide +kernel
theorem dX5_numberUpTo_39 : decode cX5_numberUpTo 39 = .ok (.getfield 9, 3) := by decide +kernel
theorem dX5_numberUpTo_42 : decode cX5_numberUpTo 42 = .ok (.aload_n 0, 1) := by decide +kernel
theorem dX5_numberUpTo_43 : decode cX5_numberUpTo 43 = .ok (.getfield 44, 3) := by decide +kernel
theorem dX5_numberUpTo_46 : decode cX5_numberUpTo 46 = .ok (.iaload, 1) := by decide +kernel
theorem dX5_numberUpTo_47 : decode cX5_numberUpTo 47 = .ok (.bipush 48, 2) := by decide +kernel
theorem dX5_numberUpTo_49 : decode cX5_numberUpTo 49 = .ok (.isub, 1) := by decide +kernel
theorem dX5_numberUpTo_50 : decode cX5_numberUpTo 50 = .ok (.istore_n 3, 1) := by decide +kernel
theorem dX5_numberUpTo_51 : decode cX5_numberUpTo 51 = .ok (.iload_n 2, 1) := by decide +kernel
theorem dX5_numberUpTo_52 : decode cX5_numberUpTo 52 = .ok (.iconst 2, 1) := by decide +kernel
theorem dX5_numberUpTo_53 : decode cX5_numberUpTo 53 = .ok (.if_icmp .ne 23, 3) := by decide +kernel
theorem dX5_numberUpTo_56 : decode cX5_numberUpTo 56 = .ok (.bipush 10, 2) := by decide +kernel
theorem dX5_numberUpTo_58 : decode cX5_numberUpTo 58 = .ok (.iload_n 3, 1) := by decide +kernel
theorem dX5_numberUpTo_59 : decode cX5_numberUpTo 59 = .ok (.imul, 1) := by decide +kernel
theorem dX5_numberUpTo_60 : decode cX5_numberUpTo 60 = .ok (.aload_n 0, 1) := by decide +kernel
theorem dX5_numberUpTo_61 : decode cX5_numberUpTo 61 = .ok (.getfield 9, 3) := by decide +kernel
theorem dX5_numberUpTo_64 : decode cX5_numberUpTo 64 = .ok (.aload_n 0, 1) := by decide +kernel
theorem dX5_numberUpTo_65 : decode cX5_numberUpTo 65 = .ok (.getfield 44, 3) := by decide +kernel
theorem dX5_numberUpTo_68 : decode cX5_numberUpTo 68 = .ok (.iconst 1, 1) := by decide +kernel
theorem dX5_numberUpTo_69 : decode cX5_numberUpTo 69 = .ok (.iadd, 1) := by decide +kernel
theorem dX5_numberUpTo_70 : decode cX5_numberUpTo 70 = .ok (.iaload, 1) := by decide +kernel
theorem dX5_numberUpTo_71 : decode cX5_numberUpTo 71 = .ok (.iadd, 1) := by decide +kernel
theorem dX5_numberUpTo_72 : decode cX5_numberUpTo 72 = .ok (.bipush 48, 2) := by decide +kernel
theorem dX5_numberUpTo_74 : decode cX5_numberUpTo 74 = .ok (.isub, 1) := by decide +kernel
theorem dX5_numberUpTo_75 : decode cX5_numberUpTo 75 = .ok (.istore_n 3, 1) := by decide +kernel
theorem dX5_numberUpTo_76 : decode cX5_numberUpTo 76 = .ok (.iload_n 3, 1) := by decide +kernel
theorem dX5_numberUpTo_77 : decode cX5_numberUpTo 77 = .ok (.iload_n 1, 1) := by decide +kernel
theorem dX5_numberUpTo_78 : decode cX5_numberUpTo 78 = .ok (.if_icmp .gt 7, 3) := by decide +kernel
theorem dX5_numberUpTo_81 : decode cX5_numberUpTo 81 = .ok (.iload_n 3, 1) := by decide +kernel
theorem dX5_numberUpTo_82 : decode cX5_numberUpTo 82 = .ok (.goto 4, 3) := by decide +kernel
theorem dX5_numberUpTo_85 : decode cX5_numberUpTo 85 = .ok (.iconst (-1), 1) := by decide +kernel
theorem dX5_numberUpTo_86 : decode cX5_numberUpTo 86 = .ok (.ireturn, 1) := by decide +kernel
theorem dX5_countAlong_0 : decode cX5_countAlong 0 = .ok (.iload_n 1, 1) := by decide +kernel
theorem dX5_countAlong_1 : decode cX5_countAlong 1 = .ok (.invokestatic 116, 3) := by decide +kernel
theorem dX5_countAlong_4 : decode cX5_countAlong 4 = .ok (.ifCond .eq 16, 3) := by decide +kernel
theorem dX5_countAlong_7 : decode cX5_countAlong 7 = .ok (.aload_n 0, 1) := by decide +kernel
theorem dX5_countAlong_8 : decode cX5_countAlong 8 = .ok (.dup, 1) := by decide +kernel
theorem dX5_countAlong_9 : decode cX5_countAlong 9 = .ok (.getfield 28, 3) := by decide +kernel
theorem dX5_countAlong_12 : decode cX5_countAlong 12 = .ok (.iconst 1, 1) := by decide +kernel
theorem dX5_countAlong_13 : decode cX5_countAlong 13 = .ok (.iadd, 1) := by decide +kernel
theorem dX5_countAlong_14 : decode cX5_countAlong 14 = .ok (.putfield 28, 3) := by decide +kernel
theorem dX5_countAlong_17 : decode cX5_countAlong 17 = .ok (.goto 51, 3) := by decide +kernel
theorem dX5_countAlong_20 : decode cX5_countAlong 20 = .ok (.iload_n 1, 1) := by decide +kernel
theorem dX5_countAlong_21 : decode cX5_countAlong 21 = .ok (.invokestatic 119, 3) := by decide +kernel
theorem dX5_countAlong_24 : decode cX5_countAlong 24 = .ok (.ifCond .eq 16, 3) := by decide +kernel
theorem dX5_countAlong_27 : decode cX5_countAlong 27 = .ok (.aload_n 0, 1) := by decide +kernel
theorem dX5_countAlong_28 : decode cX5_countAlong 28 = .ok (.dup, 1) := by decide +kernel
theorem dX5_countAlong_29 : decode cX5_countAlong 29 = .ok (.getfield 31, 3) := by decide +kernel
theorem dX5_countAlong_32 : decode cX5_countAlong 32 = .ok (.iconst 1, 1) := by decide +kernel
theorem dX5_countAlong_33 : decode cX5_countAlong 33 = .ok (.iadd, 1) := by decide +kernel
theorem dX5_countAlong_34 : decode cX5_countAlong 34 = .ok (.putfield 31, 3) := by decide +kernel
theorem dX5_countAlong_37 : decode cX5_countAlong 37 = .ok (.goto 31, 3) := by decide +kernel
theorem dX5_countAlong_40 : decode cX5_countAlong 40 = .ok (.iload_n 1, 1) := by decide +kernel
theorem dX5_countAlong_41 : decode cX5_countAlong 41 = .ok (.bipush 12, 2) := by decide +kernel
theorem dX5_countAlong_43 : decode cX5_countAlong 43 = .ok (.if_icmp .ne 11, 3) := by decide +kernel
theorem dX5_countAlong_46 : decode cX5_countAlong 46 = .ok (.aload_n 0, 1) := by decide +kernel
theorem dX5_countAlong_47 : decode cX5_countAlong 47 = .ok (.iconst 0, 1) := by decide +kernel
theorem dX5_countAlong_48 : decode cX5_countAlong 48 = .ok (.putfield 28, 3) := by decide +kernel
theorem dX5_countAlong_51 : decode cX5_countAlong 51 = .ok (.goto 17, 3) := by decide +kernel
theorem dX5_countAlong_54 : decode cX5_countAlong 54 = .ok (.iload_n 1, 1) := by decide +kernel
theorem dX5_countAlong_55 : decode cX5_countAlong 55 = .ok (.ifCond .ne 13, 3) := by decide +kernel
theorem dX5_countAlong_58 : decode cX5_countAlong 58 = .ok (.aload_n 0, 1) := by decide +kernel
theorem dX5_countAlong_59 : decode cX5_countAlong 59 = .ok (.iconst 0, 1) := by decide +kernel
theorem dX5_countAlong_60 : decode cX5_countAlong 60 = .ok (.putfield 28, 3) := by decide +kernel
theorem dX5_countAlong_63 : decode cX5_countAlong 63 = .ok (.aload_n 0, 1) := by decide +kernel
theorem dX5_countAlong_64 : decode cX5_countAlong 64 = .ok (.iconst 0, 1) := by decide +kernel
theorem dX5_countAlong_65 : decode cX5_countAlong 65 = .ok (.putfield 31, 3) := by decide +kernel
theorem dX5_countAlong_68 : decode cX5_countAlong 68 = .ok (.return_, 1) := by decide +kernel
theorem dX6_init_0 : decode cX6_init 0 = .ok (.aload_n 0, 1) := by decide +kernel
theorem dX6_init_1 : decode cX6_init 1 = .ok (.invokespecial 3, 3) := by decide +kernel
theorem dX6_init_4 : decode cX6_init 4 = .ok (.aload_n 0, 1) := by decide +kernel
theorem dX6_init_5 : decode cX6_init 5 = .ok (.bipush 7, 2) := by decide +kernel
theorem dX6_init_7 : decode cX6_init 7 = .ok (.newarray .int, 2) := by decide +kernel
theorem dX6_init_9 : decode cX6_init 9 = .ok (.putfield 9, 3) := by decide +kernel
theorem dX6_init_12 : decode cX6_init 12 = .ok (.aload_n 0, 1) := by decide +kernel
theorem dX6_init_13 : decode cX6_init 13 = .ok (.bipush 7, 2) := by decide +kernel
theorem dX6_init_15 : decode cX6_init 15 = .ok (.newarray .int, 2) := by decide +kernel
theorem dX6_init_17 : decode cX6_init 17 = .ok (.putfield 15, 3) := by decide +kernel
theorem dX6_init_20 : decode cX6_init 20 = .ok (.aload_n 0, 1) := by decide +kernel
theorem dX6_init_21 : decode cX6_init 21 = .ok (.iconst 5, 1) := by decide +kernel
theorem dX6_init_22 : decode cX6_init 22 = .ok (.newarray .int, 2) := by decide +kernel
theorem dX6_init_24 : decode cX6_init 24 = .ok (.putfield 18, 3) := by decide +kernel
theorem dX6_init_27 : decode cX6_init 27 = .ok (.aload_n 0, 1) := by decide +kernel
theorem dX6_init_28 : decode cX6_init 28 = .ok (.iconst 5, 1) := by decide +kernel
theorem dX6_init_29 : decode cX6_init 29 = .ok (.newarray .int, 2) := by decide +kernel
theorem dX6_init_31 : decode cX6_init 31 = .ok (.putfield 21, 3) := by decide +kernel
theorem dX6_init_34 : decode cX6_init 34 = .ok (.aload_n 0, 1) := by decide +kernel
theorem dX6_init_35 : decode cX6_init 35 = .ok (.iconst 5, 1) := by decide +kernel
theorem dX6_init_36 : decode cX6_init 36 = .ok (.newarray .int, 2) := by decide +kernel
theorem dX6_init_38 : decode cX6_init 38 = .ok (.putfield 24, 3) := by decide +kernel
theorem dX6_init_41 : decode cX6_init 41 = .ok (.return_, 1) := by decide +kernel
theorem dX6_isEvening_0 : decode cX6_isEvening 0 = .ok (.iload_n 1, 1) := by decide +kernel
theorem dX6_isEvening_1 : decode cX6_isEvening 1 = .ok (.ifCond .lt 15, 3) := by decide +kernel
theorem dX6_isEvening_4 : decode cX6_isEvening 4 = .ok (.iload_n 1, 1) := by decide +kernel
theorem dX6_isEvening_5 : decode cX6_isEvening 5 = .ok (.aload_n 0, 1) := by decide +kernel
theorem dX6_isEvening_6 : decode cX6_isEvening 6 = .ok (.getfield 27, 3) := by decide +kernel
theorem dX6_isEvening_9 : decode cX6_isEvening 9 = .ok (.if_icmp .ge 7, 3) := by decide +kernel
theorem dX6_isEvening_12 : decode cX6_isEvening 12 = .ok (.iconst 1, 1) := by decide +kernel
theorem dX6_isEvening_13 : decode cX6_isEvening 13 = .ok (.goto 4, 3) := by decide +kernel
theorem dX6_isEvening_16 : decode cX6_isEvening 16 = .ok (.iconst 0, 1) := by decide +kernel
theorem dX6_isEvening_17 : decode cX6_isEvening 17 = .ok (.ireturn, 1) := by decide +kernel
theorem dX6_isBidder_0 : decode cX6_isBidder 0 = .ok (.iload_n 1, 1) := by decide +kernel
theorem dX6_isBidder_1 : decode cX6_isBidder 1 = .ok (.ifCond .lt 15, 3) := by decide +kernel
theorem dX6_isBidder_4 : decode cX6_isBidder 4 = .ok (.iload_n 1, 1) := by decide +kernel
theorem dX6_isBidder_5 : decode cX6_isBidder 5 = .ok (.aload_n 0, 1) := by decide +kernel
theorem dX6_isBidder_6 : decode cX6_isBidder 6 = .ok (.getfield 31, 3) := by decide +kernel
theorem dX6_isBidder_9 : decode cX6_isBidder 9 = .ok (.if_icmp .ge 7, 3) := by decide +kernel
theorem dX6_isBidder_12 : decode cX6_isBidder 12 = .ok (.iconst 1, 1) := by decide +kernel
theorem dX6_isBidder_13 : decode cX6_isBidder 13 = .ok (.goto 4, 3) := by decide +kernel
theorem dX6_isBidder_16 : decode cX6_isBidder 16 = .ok (.iconst 0, 1) := by decide +kernel
theorem dX6_isBidder_17 : decode cX6_isBidder 17 = .ok (.ireturn, 1) := by decide +kernel
theorem dX6_carryOut_0 : decode cX6_carryOut 0 = .ok (.iload_n 1, 1) := by decide +kernel
theorem dX6_carryOut_1 : decode cX6_carryOut 1 = .ok (.invokestatic 34, 3) := by decide +kernel
theorem dX6_carryOut_4 : decode cX6_carryOut 4 = .ok (.ifCond .eq 14, 3) := by decide +kernel
theorem dX6_carryOut_7 : decode cX6_carryOut 7 = .ok (.aload_n 0, 1) := by decide +kernel
theorem dX6_carryOut_8 : decode cX6_carryOut 8 = .ok (.iload_n 1, 1) := by decide +kernel
theorem dX6_carryOut_9 : decode cX6_carryOut 9 = .ok (.iconst 1, 1) := by decide +kernel
theorem dX6_carryOut_10 : decode cX6_carryOut 10 = .ok (.isub, 1) := by decide +kernel
theorem dX6_carryOut_11 : decode cX6_carryOut 11 = .ok (.iload_n 2, 1) := by decide +kernel
theorem dX6_carryOut_12 : decode cX6_carryOut 12 = .ok (.invokevirtual 38, 3) := by decide +kernel
theorem dX6_carryOut_15 : decode cX6_carryOut 15 = .ok (.goto 28, 3) := by decide +kernel
theorem dX6_carryOut_18 : decode cX6_carryOut 18 = .ok (.iload_n 1, 1) := by decide +kernel
theorem dX6_carryOut_19 : decode cX6_carryOut 19 = .ok (.invokestatic 42, 3) := by decide +kernel
theorem dX6_carryOut_22 : decode cX6_carryOut 22 = .ok (.ifCond .eq 15, 3) := by decide +kernel
theorem dX6_carryOut_25 : decode cX6_carryOut 25 = .ok (.aload_n 0, 1) := by decide +kernel
theorem dX6_carryOut_26 : decode cX6_carryOut 26 = .ok (.iload_n 1, 1) := by decide +kernel
theorem dX6_carryOut_27 : decode cX6_carryOut 27 = .ok (.iconst 4, 1) := by decide +kernel
theorem dX6_carryOut_28 : decode cX6_carryOut 28 = .ok (.isub, 1) := by decide +kernel
theorem dX6_carryOut_29 : decode cX6_carryOut 29 = .ok (.iload_n 2, 1) := by decide +kernel
theorem dX6_carryOut_30 : decode cX6_carryOut 30 = .ok (.iload_n 3, 1) := by decide +kernel
theorem dX6_carryOut_31 : decode cX6_carryOut 31 = .ok (.invokevirtual 45, 3) := by decide +kernel
theorem dX6_carryOut_34 : decode cX6_carryOut 34 = .ok (.goto 9, 3) := by decide +kernel
theorem dX6_carryOut_37 : decode cX6_carryOut 37 = .ok (.aload_n 0, 1) := by decide +kernel
theorem dX6_carryOut_38 : decode cX6_carryOut 38 = .ok (.iload_n 1, 1) := by decide +kernel
theorem dX6_carryOut_39 : decode cX6_carryOut 39 = .ok (.iload_n 2, 1) := by decide +kernel
theorem dX6_carryOut_40 : decode cX6_carryOut 40 = .ok (.invokevirtual 49, 3) := by decide +kernel
theorem dX6_carryOut_43 : decode cX6_carryOut 43 = .ok (.return_, 1) := by decide +kernel
theorem dX6_settle_0 : decode cX6_settle 0 = .ok (.iload_n 1, 1) := by decide +kernel
theorem dX6_settle_1 : decode cX6_settle 1 = .ok (.tableswitch 114 0 12 #[67, 114, 114, 114, 114, 114, 114, 114, 74, 82, 90, 98, 106], 67) := by decide +kernel
theorem dX6_settle_68 : decode cX6_settle 68 = .ok (.aload_n 0, 1) := by decide +kernel
theorem dX6_settle_69 : decode cX6_settle 69 = .ok (.invokevirtual 52, 3) := by decide +kernel
theorem dX6_settle_72 : decode cX6_settle 72 = .ok (.goto 43, 3) := by decide +kernel
theorem dX6_settle_75 : decode cX6_settle 75 = .ok (.aload_n 0, 1) := by decide +kernel
theorem dX6_settle_76 : decode cX6_settle 76 = .ok (.iconst 0, 1) := by decide +kernel
theorem dX6_settle_77 : decode cX6_settle 77 = .ok (.putfield 55, 3) := by decide +kernel
theorem dX6_settle_80 : decode cX6_settle 80 = .ok (.goto 35, 3) := by decide +kernel
theorem dX6_settle_83 : decode cX6_settle 83 = .ok (.aload_n 0, 1) := by decide +kernel
theorem dX6_settle_84 : decode cX6_settle 84 = .ok (.iconst 1, 1) := by decide +kernel
theorem dX6_settle_85 : decode cX6_settle 85 = .ok (.putfield 55, 3) := by decide +kernel
theorem dX6_settle_88 : decode cX6_settle 88 = .ok (.goto 27, 3) := by decide +kernel
theorem dX6_settle_91 : decode cX6_settle 91 = .ok (.aload_n 0, 1) := by decide +kernel
theorem dX6_settle_92 : decode cX6_settle 92 = .ok (.iload_n 2, 1) := by decide +kernel
theorem dX6_settle_93 : decode cX6_settle 93 = .ok (.putfield 58, 3) := by decide +kernel
theorem dX6_settle_96 : decode cX6_settle 96 = .ok (.goto 19, 3) := by decide +kernel
theorem dX6_settle_99 : decode cX6_settle 99 = .ok (.aload_n 0, 1) := by decide +kernel
theorem dX6_settle_100 : decode cX6_settle 100 = .ok (.iload_n 2, 1) := by decide +kernel
theorem dX6_settle_101 : decode cX6_settle 101 = .ok (.putfield 61, 3) := by decide +kernel
theorem dX6_settle_104 : decode cX6_settle 104 = .ok (.goto 11, 3) := by decide +kernel
theorem dX6_settle_107 : decode cX6_settle 107 = .ok (.aload_n 0, 1) := by decide +kernel
theorem dX6_settle_108 : decode cX6_settle 108 = .ok (.iconst 0, 1) := by decide +kernel
theorem dX6_settle_109 : decode cX6_settle 109 = .ok (.putfield 27, 3) := by decide +kernel
theorem dX6_settle_112 : decode cX6_settle 112 = .ok (.goto 3, 3) := by decide +kernel
theorem dX6_settle_115 : decode cX6_settle 115 = .ok (.return_, 1) := by decide +kernel
theorem dX6_forgetAll_0 : decode cX6_forgetAll 0 = .ok (.aload_n 0, 1) := by decide +kernel
theorem dX6_forgetAll_1 : decode cX6_forgetAll 1 = .ok (.iconst 0, 1) := by decide +kernel
theorem dX6_forgetAll_2 : decode cX6_forgetAll 2 = .ok (.putfield 55, 3) := by decide +kernel
theorem dX6_forgetAll_5 : decode cX6_forgetAll 5 = .ok (.aload_n 0, 1) := by decide +kernel
theorem dX6_forgetAll_6 : decode cX6_forgetAll 6 = .ok (.iconst 0, 1) := by decide +kernel
theorem dX6_forgetAll_7 : decode cX6_forgetAll 7 = .ok (.putfield 58, 3) := by decide +kernel
theorem dX6_forgetAll_10 : decode cX6_forgetAll 10 = .ok (.aload_n 0, 1) := by decide +kernel
theorem dX6_forgetAll_11 : decode cX6_forgetAll 11 = .ok (.iconst 0, 1) := by decide +kernel
theorem dX6_forgetAll_12 : decode cX6_forgetAll 12 = .ok (.putfield 61, 3) := by decide +kernel
theorem dX6_forgetAll_15 : decode cX6_forgetAll 15 = .ok (.aload_n 0, 1) := by decide +kernel
theorem dX6_forgetAll_16 : decode cX6_forgetAll 16 = .ok (.iconst 0, 1) := by decide +kernel
theorem dX6_forgetAll_17 : decode cX6_forgetAll 17 = .ok (.putfield 27, 3) := by decide +kernel
theorem dX6_forgetAll_20 : decode cX6_forgetAll 20 = .ok (.aload_n 0, 1) := by decide +kernel
theorem dX6_forgetAll_21 : decode cX6_forgetAll 21 = .ok (.iconst 0, 1) := by decide +kernel
theorem dX6_forgetAll_22 : decode cX6_forgetAll 22 = .ok (.putfield 31, 3) := by decide +kernel
theorem dX6_forgetAll_25 : decode cX6_forgetAll 25 = .ok (.return_, 1) := by decide +kernel
theorem dX6_addEvening_0 : decode cX6_addEvening 0 = .ok (.aload_n 0, 1) := by decide +kernel
theorem dX6_addEvening_1 : decode cX6_addEvening 1 = .ok (.getfield 27, 3) := by decide +kernel
theorem dX6_addEvening_4 : decode cX6_addEvening 4 = .ok (.bipush 7, 2) := by decide +kernel
theorem dX6_addEvening_6 : decode cX6_addEvening 6 = .ok (.if_icmp .ge 48, 3) := by decide +kernel
theorem dX6_addEvening_9 : decode cX6_addEvening 9 = .ok (.aload_n 0, 1) := by decide +kernel
theorem dX6_addEvening_10 : decode cX6_addEvening 10 = .ok (.getfield 9, 3) := by decide +kernel
theorem dX6_addEvening_13 : decode cX6_addEvening 13 = .ok (.aload_n 0, 1) := by decide +kernel
theorem dX6_addEvening_14 : decode cX6_addEvening 14 = .ok (.getfield 27, 3) := by decide +kernel
theorem dX6_addEvening_17 : decode cX6_addEvening 17 = .ok (.iload_n 1, 1) := by decide +kernel
theorem dX6_addEvening_18 : decode cX6_addEvening 18 = .ok (.iastore, 1) := by decide +kernel
theorem dX6_addEvening_19 : decode cX6_addEvening 19 = .ok (.aload_n 0, 1) := by decide +kernel
theorem dX6_addEvening_20 : decode cX6_addEvening 20 = .ok (.getfield 15, 3) := by decide +kernel
theorem dX6_addEvening_23 : decode cX6_addEvening 23 = .ok (.aload_n 0, 1) := by decide +kernel
theorem dX6_addEvening_24 : decode cX6_addEvening 24 = .ok (.getfield 27, 3) := by decide +kernel
theorem dX6_addEvening_27 : decode cX6_addEvening 27 = .ok (.iload_n 1, 1) := by decide +kernel
theorem dX6_addEvening_28 : decode cX6_addEvening 28 = .ok (.iconst 1, 1) := by decide +kernel
theorem dX6_addEvening_29 : decode cX6_addEvening 29 = .ok (.if_icmp .ne 13, 3) := by decide +kernel
theorem dX6_addEvening_32 : decode cX6_addEvening 32 = .ok (.iconst 0, 1) := by decide +kernel
theorem dX6_addEvening_33 : decode cX6_addEvening 33 = .ok (.iload_n 2, 1) := by decide +kernel
theorem dX6_addEvening_34 : decode cX6_addEvening 34 = .ok (.iconst 2, 1) := by decide +kernel
theorem dX6_addEvening_35 : decode cX6_addEvening 35 = .ok (.isub, 1) := by decide +kernel
theorem dX6_addEvening_36 : decode cX6_addEvening 36 = .ok (.invokestatic 64, 3) := by decide +kernel
theorem dX6_addEvening_39 : decode cX6_addEvening 39 = .ok (.goto 4, 3) := by decide +kernel
theorem dX6_addEvening_42 : decode cX6_addEvening 42 = .ok (.iload_n 2, 1) := by decide +kernel
theorem dX6_addEvening_43 : decode cX6_addEvening 43 = .ok (.iastore, 1) := by decide +kernel
theorem dX6_addEvening_44 : decode cX6_addEvening 44 = .ok (.aload_n 0, 1) := by decide +kernel
theorem dX6_addEvening_45 : decode cX6_addEvening 45 = .ok (.dup, 1) := by decide +kernel
theorem dX6_addEvening_46 : decode cX6_addEvening 46 = .ok (.getfield 27, 3) := by decide +kernel
theorem dX6_addEvening_49 : decode cX6_addEvening 49 = .ok (.iconst 1, 1) := by decide +kernel
theorem dX6_addEvening_50 : decode cX6_addEvening 50 = .ok (.iadd, 1) := by decide +kernel
theorem dX6_addEvening_51 : decode cX6_addEvening 51 = .ok (.putfield 27, 3) := by decide +kernel
theorem dX6_addEvening_54 : decode cX6_addEvening 54 = .ok (.return_, 1) := by decide +kernel
theorem dX6_addBidder_0 : decode cX6_addBidder 0 = .ok (.aload_n 0, 1) := by decide +kernel
theorem dX6_addBidder_1 : decode cX6_addBidder 1 = .ok (.getfield 31, 3) := by decide +kernel
theorem dX6_addBidder_4 : decode cX6_addBidder 4 = .ok (.iconst 5, 1) := by decide +kernel
theorem dX6_addBidder_5 : decode cX6_addBidder 5 = .ok (.if_icmp .ge 43, 3) := by decide +kernel
theorem dX6_addBidder_8 : decode cX6_addBidder 8 = .ok (.aload_n 0, 1) := by decide +kernel
theorem dX6_addBidder_9 : decode cX6_addBidder 9 = .ok (.getfield 18, 3) := by decide +kernel
theorem dX6_addBidder_12 : decode cX6_addBidder 12 = .ok (.aload_n 0, 1) := by decide +kernel
theorem dX6_addBidder_13 : decode cX6_addBidder 13 = .ok (.getfield 31, 3) := by decide +kernel
theorem dX6_addBidder_16 : decode cX6_addBidder 16 = .ok (.iload_n 1, 1) := by decide +kernel
theorem dX6_addBidder_17 : decode cX6_addBidder 17 = .ok (.iastore, 1) := by decide +kernel
theorem dX6_addBidder_18 : decode cX6_addBidder 18 = .ok (.aload_n 0, 1) := by decide +kernel
theorem dX6_addBidder_19 : decode cX6_addBidder 19 = .ok (.getfield 21, 3) := by decide +kernel
theorem dX6_addBidder_22 : decode cX6_addBidder 22 = .ok (.aload_n 0, 1) := by decide +kernel
theorem dX6_addBidder_23 : decode cX6_addBidder 23 = .ok (.getfield 31, 3) := by decide +kernel
theorem dX6_addBidder_26 : decode cX6_addBidder 26 = .ok (.iload_n 2, 1) := by decide +kernel
theorem dX6_addBidder_27 : decode cX6_addBidder 27 = .ok (.iastore, 1) := by decide +kernel
theorem dX6_addBidder_28 : decode cX6_addBidder 28 = .ok (.aload_n 0, 1) := by decide +kernel
theorem dX6_addBidder_29 : decode cX6_addBidder 29 = .ok (.getfield 24, 3) := by decide +kernel
theorem dX6_addBidder_32 : decode cX6_addBidder 32 = .ok (.aload_n 0, 1) := by decide +kernel
theorem dX6_addBidder_33 : decode cX6_addBidder 33 = .ok (.getfield 31, 3) := by decide +kernel
theorem dX6_addBidder_36 : decode cX6_addBidder 36 = .ok (.iload_n 3, 1) := by decide +kernel
theorem dX6_addBidder_37 : decode cX6_addBidder 37 = .ok (.iastore, 1) := by decide +kernel
theorem dX6_addBidder_38 : decode cX6_addBidder 38 = .ok (.aload_n 0, 1) := by decide +kernel
theorem dX6_addBidder_39 : decode cX6_addBidder 39 = .ok (.dup, 1) := by decide +kernel
theorem dX6_addBidder_40 : decode cX6_addBidder 40 = .ok (.getfield 31, 3) := by decide +kernel
theorem dX6_addBidder_43 : decode cX6_addBidder 43 = .ok (.iconst 1, 1) := by decide +kernel
theorem dX6_addBidder_44 : decode cX6_addBidder 44 = .ok (.iadd, 1) := by decide +kernel
theorem dX6_addBidder_45 : decode cX6_addBidder 45 = .ok (.putfield 31, 3) := by decide +kernel
theorem dX6_addBidder_48 : decode cX6_addBidder 48 = .ok (.return_, 1) := by decide +kernel
theorem dX6_worthBright_0 : decode cX6_worthBright 0 = .ok (.aload_n 0, 1) := by decide +kernel
theorem dX6_worthBright_1 : decode cX6_worthBright 1 = .ok (.getfield 18, 3) := by decide +kernel
theorem dX6_worthBright_4 : decode cX6_worthBright 4 = .ok (.iload_n 1, 1) := by decide +kernel
theorem dX6_worthBright_5 : decode cX6_worthBright 5 = .ok (.iaload, 1) := by decide +kernel
theorem dX6_worthBright_6 : decode cX6_worthBright 6 = .ok (.lookupswitch 49 #[(1, 26), (3, 35)], 26) := by decide +kernel
theorem dX6_worthBright_32 : decode cX6_worthBright 32 = .ok (.aload_n 0, 1) := by decide +kernel
theorem dX6_worthBright_33 : decode cX6_worthBright 33 = .ok (.getfield 21, 3) := by decide +kernel
theorem dX6_worthBright_36 : decode cX6_worthBright 36 = .ok (.iload_n 1, 1) := by decide +kernel
theorem dX6_worthBright_37 : decode cX6_worthBright 37 = .ok (.iaload, 1) := by decide +kernel
theorem dX6_worthBright_38 : decode cX6_worthBright 38 = .ok (.iconst 2, 1) := by decide +kernel
theorem dX6_worthBright_39 : decode cX6_worthBright 39 = .ok (.idiv, 1) := by decide +kernel
theorem dX6_worthBright_40 : decode cX6_worthBright 40 = .ok (.ireturn, 1) := by decide +kernel
theorem dX6_worthBright_41 : decode cX6_worthBright 41 = .ok (.iconst 0, 1) := by decide +kernel
theorem dX6_worthBright_42 : decode cX6_worthBright 42 = .ok (.aload_n 0, 1) := by decide +kernel
theorem dX6_worthBright_43 : decode cX6_worthBright 43 = .ok (.getfield 21, 3) := by decide +kernel
theorem dX6_worthBright_46 : decode cX6_worthBright 46 = .ok (.iload_n 1, 1) := by decide +kernel
theorem dX6_worthBright_47 : decode cX6_worthBright 47 = .ok (.iaload, 1) := by decide +kernel
theorem dX6_worthBright_48 : decode cX6_worthBright 48 = .ok (.bipush 10, 2) := by decide +kernel
theorem dX6_worthBright_50 : decode cX6_worthBright 50 = .ok (.isub, 1) := by decide +kernel
theorem dX6_worthBright_51 : decode cX6_worthBright 51 = .ok (.invokestatic 64, 3) := by decide +kernel
theorem dX6_worthBright_54 : decode cX6_worthBright 54 = .ok (.ireturn, 1) := by decide +kernel
theorem dX6_worthBright_55 : decode cX6_worthBright 55 = .ok (.aload_n 0, 1) := by decide +kernel
theorem dX6_worthBright_56 : decode cX6_worthBright 56 = .ok (.getfield 21, 3) := by decide +kernel
theorem dX6_worthBright_59 : decode cX6_worthBright 59 = .ok (.iload_n 1, 1) := by decide +kernel
theorem dX6_worthBright_60 : decode cX6_worthBright 60 = .ok (.iaload, 1) := by decide +kernel
theorem dX6_worthBright_61 : decode cX6_worthBright 61 = .ok (.ireturn, 1) := by decide +kernel
theorem dX6_worthDull_0 : decode cX6_worthDull 0 = .ok (.aload_n 0, 1) := by decide +kernel
theorem dX6_worthDull_1 : decode cX6_worthDull 1 = .ok (.getfield 18, 3) := by decide +kernel
theorem dX6_worthDull_4 : decode cX6_worthDull 4 = .ok (.iload_n 1, 1) := by decide +kernel
theorem dX6_worthDull_5 : decode cX6_worthDull 5 = .ok (.iaload, 1) := by decide +kernel
theorem dX6_worthDull_6 : decode cX6_worthDull 6 = .ok (.lookupswitch 37 #[(1, 26), (2, 35)], 26) := by decide +kernel
theorem dX6_worthDull_32 : decode cX6_worthDull 32 = .ok (.aload_n 0, 1) := by decide +kernel
theorem dX6_worthDull_33 : decode cX6_worthDull 33 = .ok (.getfield 21, 3) := by decide +kernel
theorem dX6_worthDull_36 : decode cX6_worthDull 36 = .ok (.iload_n 1, 1) := by decide +kernel
theorem dX6_worthDull_37 : decode cX6_worthDull 37 = .ok (.iaload, 1) := by decide +kernel
theorem dX6_worthDull_38 : decode cX6_worthDull 38 = .ok (.iconst 2, 1) := by decide +kernel
theorem dX6_worthDull_39 : decode cX6_worthDull 39 = .ok (.idiv, 1) := by decide +kernel
theorem dX6_worthDull_40 : decode cX6_worthDull 40 = .ok (.ireturn, 1) := by decide +kernel
theorem dX6_worthDull_41 : decode cX6_worthDull 41 = .ok (.iconst 5, 1) := by decide +kernel
theorem dX6_worthDull_42 : decode cX6_worthDull 42 = .ok (.ireturn, 1) := by decide +kernel
theorem dX6_worthDull_43 : decode cX6_worthDull 43 = .ok (.iconst 0, 1) := by decide +kernel
theorem dX6_worthDull_44 : decode cX6_worthDull 44 = .ok (.ireturn, 1) := by decide +kernel
theorem dX6_refundOf_0 : decode cX6_refundOf 0 = .ok (.aload_n 0, 1) := by decide +kernel
theorem dX6_refundOf_1 : decode cX6_refundOf 1 = .ok (.getfield 9, 3) := by decide +kernel
theorem dX6_refundOf_4 : decode cX6_refundOf 4 = .ok (.iload_n 1, 1) := by decide +kernel
theorem dX6_refundOf_5 : decode cX6_refundOf 5 = .ok (.iaload, 1) := by decide +kernel
theorem dX6_refundOf_6 : decode cX6_refundOf 6 = .ok (.iconst 2, 1) := by decide +kernel
theorem dX6_refundOf_7 : decode cX6_refundOf 7 = .ok (.if_icmp .ne 7, 3) := by decide +kernel
theorem dX6_refundOf_10 : decode cX6_refundOf 10 = .ok (.iconst 0, 1) := by decide +kernel
theorem dX6_refundOf_11 : decode cX6_refundOf 11 = .ok (.goto 12, 3) := by decide +kernel
theorem dX6_refundOf_14 : decode cX6_refundOf 14 = .ok (.aload_n 0, 1) := by decide +kernel
theorem dX6_refundOf_15 : decode cX6_refundOf 15 = .ok (.getfield 61, 3) := by decide +kernel
theorem dX6_refundOf_18 : decode cX6_refundOf 18 = .ok (.iload_n 2, 1) := by decide +kernel
theorem dX6_refundOf_19 : decode cX6_refundOf 19 = .ok (.imul, 1) := by decide +kernel
theorem dX6_refundOf_20 : decode cX6_refundOf 20 = .ok (.bipush 10, 2) := by decide +kernel
theorem dX6_refundOf_22 : decode cX6_refundOf 22 = .ok (.idiv, 1) := by decide +kernel
theorem dX6_refundOf_23 : decode cX6_refundOf 23 = .ok (.ireturn, 1) := by decide +kernel
theorem dX6_gainOf_0 : decode cX6_gainOf 0 = .ok (.aload_n 0, 1) := by decide +kernel
theorem dX6_gainOf_1 : decode cX6_gainOf 1 = .ok (.getfield 15, 3) := by decide +kernel
theorem dX6_gainOf_4 : decode cX6_gainOf 4 = .ok (.iload_n 2, 1) := by decide +kernel
theorem dX6_gainOf_5 : decode cX6_gainOf 5 = .ok (.iaload, 1) := by decide +kernel
theorem dX6_gainOf_6 : decode cX6_gainOf 6 = .ok (.istore 4, 2) := by decide +kernel
theorem dX6_gainOf_8 : decode cX6_gainOf 8 = .ok (.aload_n 0, 1) := by decide +kernel
theorem dX6_gainOf_9 : decode cX6_gainOf 9 = .ok (.iload_n 1, 1) := by decide +kernel
theorem dX6_gainOf_10 : decode cX6_gainOf 10 = .ok (.invokevirtual 70, 3) := by decide +kernel
theorem dX6_gainOf_13 : decode cX6_gainOf 13 = .ok (.aload_n 0, 1) := by decide +kernel
theorem dX6_gainOf_14 : decode cX6_gainOf 14 = .ok (.iload_n 2, 1) := by decide +kernel
theorem dX6_gainOf_15 : decode cX6_gainOf 15 = .ok (.iload_n 3, 1) := by decide +kernel
theorem dX6_gainOf_16 : decode cX6_gainOf 16 = .ok (.invokevirtual 74, 3) := by decide +kernel
theorem dX6_gainOf_19 : decode cX6_gainOf 19 = .ok (.iadd, 1) := by decide +kernel
theorem dX6_gainOf_20 : decode cX6_gainOf 20 = .ok (.istore 5, 2) := by decide +kernel
theorem dX6_gainOf_22 : decode cX6_gainOf 22 = .ok (.iload 4, 2) := by decide +kernel
theorem dX6_gainOf_24 : decode cX6_gainOf 24 = .ok (.aload_n 0, 1) := by decide +kernel
theorem dX6_gainOf_25 : decode cX6_gainOf 25 = .ok (.iload_n 1, 1) := by decide +kernel
theorem dX6_gainOf_26 : decode cX6_gainOf 26 = .ok (.invokevirtual 77, 3) := by decide +kernel
theorem dX6_gainOf_29 : decode cX6_gainOf 29 = .ok (.imul, 1) := by decide +kernel
theorem dX6_gainOf_30 : decode cX6_gainOf 30 = .ok (.bipush 10, 2) := by decide +kernel
theorem dX6_gainOf_32 : decode cX6_gainOf 32 = .ok (.iload 4, 2) := by decide +kernel
theorem dX6_gainOf_34 : decode cX6_gainOf 34 = .ok (.isub, 1) := by decide +kernel
theorem dX6_gainOf_35 : decode cX6_gainOf 35 = .ok (.iload 5, 2) := by decide +kernel
theorem dX6_gainOf_37 : decode cX6_gainOf 37 = .ok (.imul, 1) := by decide +kernel
theorem dX6_gainOf_38 : decode cX6_gainOf 38 = .ok (.iadd, 1) := by decide +kernel
theorem dX6_gainOf_39 : decode cX6_gainOf 39 = .ok (.bipush 10, 2) := by decide +kernel
theorem dX6_gainOf_41 : decode cX6_gainOf 41 = .ok (.iload_n 3, 1) := by decide +kernel
theorem dX6_gainOf_42 : decode cX6_gainOf 42 = .ok (.imul, 1) := by decide +kernel
theorem dX6_gainOf_43 : decode cX6_gainOf 43 = .ok (.isub, 1) := by decide +kernel
theorem dX6_gainOf_44 : decode cX6_gainOf 44 = .ok (.ireturn, 1) := by decide +kernel
