theorem dX7_init_0 : decode cX7_init 0 = .ok (.aload_n 0, 1) := by decide +kernel
theorem dX7_init_1 : decode cX7_init 1 = .ok (.invokespecial 1, 3) := by decide +kernel
theorem dX7_init_4 : decode cX7_init 4 = .ok (.aload_n 0, 1) := by decide +kernel
theorem dX7_init_5 : decode cX7_init 5 = .ok (.new 7, 3) := by decide +kernel
theorem dX7_init_8 : decode cX7_init 8 = .ok (.dup, 1) := by decide +kernel
theorem dX7_init_9 : decode cX7_init 9 = .ok (.invokespecial 9, 3) := by decide +kernel
theorem dX7_init_12 : decode cX7_init 12 = .ok (.putfield 10, 3) := by decide +kernel
theorem dX7_init_15 : decode cX7_init 15 = .ok (.aload_n 0, 1) := by decide +kernel
theorem dX7_init_16 : decode cX7_init 16 = .ok (.new 16, 3) := by decide +kernel
theorem dX7_init_19 : decode cX7_init 19 = .ok (.dup, 1) := by decide +kernel
theorem dX7_init_20 : decode cX7_init 20 = .ok (.invokespecial 18, 3) := by decide +kernel
theorem dX7_init_23 : decode cX7_init 23 = .ok (.putfield 19, 3) := by decide +kernel
theorem dX7_init_26 : decode cX7_init 26 = .ok (.aload_n 0, 1) := by decide +kernel
theorem dX7_init_27 : decode cX7_init 27 = .ok (.new 23, 3) := by decide +kernel
theorem dX7_init_30 : decode cX7_init 30 = .ok (.dup, 1) := by decide +kernel
theorem dX7_init_31 : decode cX7_init 31 = .ok (.invokespecial 25, 3) := by decide +kernel
theorem dX7_init_34 : decode cX7_init 34 = .ok (.putfield 26, 3) := by decide +kernel
theorem dX7_init_37 : decode cX7_init 37 = .ok (.aload_n 0, 1) := by decide +kernel
theorem dX7_init_38 : decode cX7_init 38 = .ok (.new 30, 3) := by decide +kernel
theorem dX7_init_41 : decode cX7_init 41 = .ok (.dup, 1) := by decide +kernel
theorem dX7_init_42 : decode cX7_init 42 = .ok (.invokespecial 32, 3) := by decide +kernel
theorem dX7_init_45 : decode cX7_init 45 = .ok (.putfield 33, 3) := by decide +kernel
theorem dX7_init_48 : decode cX7_init 48 = .ok (.aload_n 0, 1) := by decide +kernel
theorem dX7_init_49 : decode cX7_init 49 = .ok (.iconst 2, 1) := by decide +kernel
theorem dX7_init_50 : decode cX7_init 50 = .ok (.anewarray 23, 3) := by decide +kernel
theorem dX7_init_53 : decode cX7_init 53 = .ok (.putfield 37, 3) := by decide +kernel
theorem dX7_init_56 : decode cX7_init 56 = .ok (.iconst 0, 1) := by decide +kernel
theorem dX7_init_57 : decode cX7_init 57 = .ok (.istore_n 1, 1) := by decide +kernel
theorem dX7_init_58 : decode cX7_init 58 = .ok (.iload_n 1, 1) := by decide +kernel
theorem dX7_init_59 : decode cX7_init 59 = .ok (.iconst 2, 1) := by decide +kernel
theorem dX7_init_60 : decode cX7_init 60 = .ok (.if_icmp .ge 22, 3) := by decide +kernel
theorem dX7_init_63 : decode cX7_init 63 = .ok (.aload_n 0, 1) := by decide +kernel
theorem dX7_init_64 : decode cX7_init 64 = .ok (.getfield 37, 3) := by decide +kernel
theorem dX7_init_67 : decode cX7_init 67 = .ok (.iload_n 1, 1) := by decide +kernel
theorem dX7_init_68 : decode cX7_init 68 = .ok (.new 23, 3) := by decide +kernel
theorem dX7_init_71 : decode cX7_init 71 = .ok (.dup, 1) := by decide +kernel
theorem dX7_init_72 : decode cX7_init 72 = .ok (.invokespecial 25, 3) := by decide +kernel
theorem dX7_init_75 : decode cX7_init 75 = .ok (.aastore, 1) := by decide +kernel
theorem dX7_init_76 : decode cX7_init 76 = .ok (.iinc 1 1, 3) := by decide +kernel
theorem dX7_init_79 : decode cX7_init 79 = .ok (.goto (-21), 3) := by decide +kernel
theorem dX7_init_82 : decode cX7_init 82 = .ok (.aload_n 0, 1) := by decide +kernel
theorem dX7_init_83 : decode cX7_init 83 = .ok (.iconst 2, 1) := by decide +kernel
theorem dX7_init_84 : decode cX7_init 84 = .ok (.newarray .boolean, 2) := by decide +kernel
theorem dX7_init_86 : decode cX7_init 86 = .ok (.putfield 41, 3) := by decide +kernel
theorem dX7_init_89 : decode cX7_init 89 = .ok (.aload_n 0, 1) := by decide +kernel
theorem dX7_init_90 : decode cX7_init 90 = .ok (.new 45, 3) := by decide +kernel
theorem dX7_init_93 : decode cX7_init 93 = .ok (.dup, 1) := by decide +kernel
theorem dX7_init_94 : decode cX7_init 94 = .ok (.aload_n 0, 1) := by decide +kernel
theorem dX7_init_95 : decode cX7_init 95 = .ok (.getfield 19, 3) := by decide +kernel
theorem dX7_init_98 : decode cX7_init 98 = .ok (.aload_n 0, 1) := by decide +kernel
theorem dX7_init_99 : decode cX7_init 99 = .ok (.getfield 26, 3) := by decide +kernel
theorem dX7_init_102 : decode cX7_init 102 = .ok (.invokespecial 47, 3) := by decide +kernel
theorem dX7_init_105 : decode cX7_init 105 = .ok (.putfield 50, 3) := by decide +kernel
theorem dX7_init_108 : decode cX7_init 108 = .ok (.aload_n 0, 1) := by decide +kernel
theorem dX7_init_109 : decode cX7_init 109 = .ok (.new 54, 3) := by decide +kernel
theorem dX7_init_112 : decode cX7_init 112 = .ok (.dup, 1) := by decide +kernel
theorem dX7_init_113 : decode cX7_init 113 = .ok (.aload_n 0, 1) := by decide +kernel
theorem dX7_init_114 : decode cX7_init 114 = .ok (.getfield 19, 3) := by decide +kernel
theorem dX7_init_117 : decode cX7_init 117 = .ok (.aload_n 0, 1) := by decide +kernel
theorem dX7_init_118 : decode cX7_init 118 = .ok (.getfield 26, 3) := by decide +kernel
theorem dX7_init_121 : decode cX7_init 121 = .ok (.invokespecial 56, 3) := by decide +kernel
theorem dX7_init_124 : decode cX7_init 124 = .ok (.putfield 57, 3) := by decide +kernel
theorem dX7_init_127 : decode cX7_init 127 = .ok (.aload_n 0, 1) := by decide +kernel
theorem dX7_init_128 : decode cX7_init 128 = .ok (.new 61, 3) := by decide +kernel
theorem dX7_init_131 : decode cX7_init 131 = .ok (.dup, 1) := by decide +kernel
theorem dX7_init_132 : decode cX7_init 132 = .ok (.aload_n 0, 1) := by decide +kernel
theorem dX7_init_133 : decode cX7_init 133 = .ok (.getfield 19, 3) := by decide +kernel
theorem dX7_init_136 : decode cX7_init 136 = .ok (.invokespecial 63, 3) := by decide +kernel
theorem dX7_init_139 : decode cX7_init 139 = .ok (.putfield 66, 3) := by decide +kernel
theorem dX7_init_142 : decode cX7_init 142 = .ok (.aload_n 0, 1) := by decide +kernel
theorem dX7_init_143 : decode cX7_init 143 = .ok (.getfield 26, 3) := by decide +kernel
theorem dX7_init_146 : decode cX7_init 146 = .ok (.aload_n 0, 1) := by decide +kernel
theorem dX7_init_147 : decode cX7_init 147 = .ok (.getfield 19, 3) := by decide +kernel
theorem dX7_init_150 : decode cX7_init 150 = .ok (.invokevirtual 70, 3) := by decide +kernel
theorem dX7_init_153 : decode cX7_init 153 = .ok (.return_, 1) := by decide +kernel
theorem dX7_write_0 : decode cX7_write 0 = .ok (.iload_n 1, 1) := by decide +kernel
theorem dX7_write_1 : decode cX7_write 1 = .ok (.sipush 255, 3) := by decide +kernel
theorem dX7_write_4 : decode cX7_write 4 = .ok (.invokestatic 73, 3) := by decide +kernel
theorem dX7_write_7 : decode cX7_write 7 = .ok (.ifCond .ne 6, 3) := by decide +kernel
theorem dX7_write_10 : decode cX7_write 10 = .ok (.bipush (-3), 2) := by decide +kernel
theorem dX7_write_12 : decode cX7_write 12 = .ok (.ireturn, 1) := by decide +kernel
theorem dX7_write_13 : decode cX7_write 13 = .ok (.aload_n 0, 1) := by decide +kernel
theorem dX7_write_14 : decode cX7_write 14 = .ok (.getfield 10, 3) := by decide +kernel
theorem dX7_write_17 : decode cX7_write 17 = .ok (.getfield 77, 3) := by decide +kernel
theorem dX7_write_20 : decode cX7_write 20 = .ok (.sipush 160, 3) := by decide +kernel
theorem dX7_write_23 : decode cX7_write 23 = .ok (.if_icmp .lt 6, 3) := by decide +kernel
theorem dX7_write_26 : decode cX7_write 26 = .ok (.bipush (-5), 2) := by decide +kernel
theorem dX7_write_28 : decode cX7_write 28 = .ok (.ireturn, 1) := by decide +kernel
theorem dX7_write_29 : decode cX7_write 29 = .ok (.aload_n 0, 1) := by decide +kernel
theorem dX7_write_30 : decode cX7_write 30 = .ok (.getfield 10, 3) := by decide +kernel
theorem dX7_write_33 : decode cX7_write 33 = .ok (.iload_n 1, 1) := by decide +kernel
theorem dX7_write_34 : decode cX7_write 34 = .ok (.invokevirtual 81, 3) := by decide +kernel
theorem dX7_write_37 : decode cX7_write 37 = .ok (.aload_n 0, 1) := by decide +kernel
theorem dX7_write_38 : decode cX7_write 38 = .ok (.getfield 10, 3) := by decide +kernel
theorem dX7_write_41 : decode cX7_write 41 = .ok (.getfield 77, 3) := by decide +kernel
theorem dX7_write_44 : decode cX7_write 44 = .ok (.ireturn, 1) := by decide +kernel
theorem dX7_erase_0 : decode cX7_erase 0 = .ok (.aload_n 0, 1) := by decide +kernel
theorem dX7_erase_1 : decode cX7_erase 1 = .ok (.getfield 10, 3) := by decide +kernel
theorem dX7_erase_4 : decode cX7_erase 4 = .ok (.getfield 77, 3) := by decide +kernel
theorem dX7_erase_7 : decode cX7_erase 7 = .ok (.istore_n 1, 1) := by decide +kernel
theorem dX7_erase_8 : decode cX7_erase 8 = .ok (.aload_n 0, 1) := by decide +kernel
theorem dX7_erase_9 : decode cX7_erase 9 = .ok (.getfield 10, 3) := by decide +kernel
theorem dX7_erase_12 : decode cX7_erase 12 = .ok (.iconst 0, 1) := by decide +kernel
theorem dX7_erase_13 : decode cX7_erase 13 = .ok (.putfield 77, 3) := by decide +kernel
theorem dX7_erase_16 : decode cX7_erase 16 = .ok (.iload_n 1, 1) := by decide +kernel
theorem dX7_erase_17 : decode cX7_erase 17 = .ok (.ireturn, 1) := by decide +kernel
theorem dX7_fault_0 : decode cX7_fault 0 = .ok (.aload_n 0, 1) := by decide +kernel
theorem dX7_fault_1 : decode cX7_fault 1 = .ok (.getfield 10, 3) := by decide +kernel
theorem dX7_fault_4 : decode cX7_fault 4 = .ok (.aload_n 0, 1) := by decide +kernel
theorem dX7_fault_5 : decode cX7_fault 5 = .ok (.getfield 19, 3) := by decide +kernel
theorem dX7_fault_8 : decode cX7_fault 8 = .ok (.getfield 85, 3) := by decide +kernel
theorem dX7_fault_11 : decode cX7_fault 11 = .ok (.aload_n 0, 1) := by decide +kernel
theorem dX7_fault_12 : decode cX7_fault 12 = .ok (.getfield 19, 3) := by decide +kernel
theorem dX7_fault_15 : decode cX7_fault 15 = .ok (.getfield 88, 3) := by decide +kernel
theorem dX7_fault_18 : decode cX7_fault 18 = .ok (.invokevirtual 91, 3) := by decide +kernel
theorem dX7_fault_21 : decode cX7_fault 21 = .ok (.ireturn, 1) := by decide +kernel
theorem dX7_west_0 : decode cX7_west 0 = .ok (.aload_n 0, 1) := by decide +kernel
theorem dX7_west_1 : decode cX7_west 1 = .ok (.getfield 10, 3) := by decide +kernel
theorem dX7_west_4 : decode cX7_west 4 = .ok (.aload_n 0, 1) := by decide +kernel
theorem dX7_west_5 : decode cX7_west 5 = .ok (.getfield 19, 3) := by decide +kernel
theorem dX7_west_8 : decode cX7_west 8 = .ok (.getfield 85, 3) := by decide +kernel
theorem dX7_west_11 : decode cX7_west 11 = .ok (.aload_n 0, 1) := by decide +kernel
theorem dX7_west_12 : decode cX7_west 12 = .ok (.getfield 19, 3) := by decide +kernel
theorem dX7_west_15 : decode cX7_west 15 = .ok (.getfield 88, 3) := by decide +kernel
theorem dX7_west_18 : decode cX7_west 18 = .ok (.invokevirtual 91, 3) := by decide +kernel
theorem dX7_west_21 : decode cX7_west 21 = .ok (.iconst (-1), 1) := by decide +kernel
theorem dX7_west_22 : decode cX7_west 22 = .ok (.if_icmp .eq 6, 3) := by decide +kernel
theorem dX7_west_25 : decode cX7_west 25 = .ok (.bipush (-4), 2) := by decide +kernel
theorem dX7_west_27 : decode cX7_west 27 = .ok (.ireturn, 1) := by decide +kernel
theorem dX7_west_28 : decode cX7_west 28 = .ok (.iconst 0, 1) := by decide +kernel
theorem dX7_west_29 : decode cX7_west 29 = .ok (.istore_n 1, 1) := by decide +kernel
theorem dX7_west_30 : decode cX7_west 30 = .ok (.iload_n 1, 1) := by decide +kernel
theorem dX7_west_31 : decode cX7_west 31 = .ok (.aload_n 0, 1) := by decide +kernel
theorem dX7_west_32 : decode cX7_west 32 = .ok (.getfield 10, 3) := by decide +kernel
theorem dX7_west_35 : decode cX7_west 35 = .ok (.getfield 95, 3) := by decide +kernel
theorem dX7_west_38 : decode cX7_west 38 = .ok (.if_icmp .ge 49, 3) := by decide +kernel
theorem dX7_west_41 : decode cX7_west 41 = .ok (.iload_n 1, 1) := by decide +kernel
theorem dX7_west_42 : decode cX7_west 42 = .ok (.bipush 14, 2) := by decide +kernel
theorem dX7_west_44 : decode cX7_west 44 = .ok (.if_icmp .ge 43, 3) := by decide +kernel
theorem dX7_west_47 : decode cX7_west 47 = .ok (.aload_n 0, 1) := by decide +kernel
theorem dX7_west_48 : decode cX7_west 48 = .ok (.getfield 19, 3) := by decide +kernel
theorem dX7_west_51 : decode cX7_west 51 = .ok (.aload_n 0, 1) := by decide +kernel
theorem dX7_west_52 : decode cX7_west 52 = .ok (.getfield 10, 3) := by decide +kernel
theorem dX7_west_55 : decode cX7_west 55 = .ok (.getfield 98, 3) := by decide +kernel
theorem dX7_west_58 : decode cX7_west 58 = .ok (.iload_n 1, 1) := by decide +kernel
theorem dX7_west_59 : decode cX7_west 59 = .ok (.iaload, 1) := by decide +kernel
theorem dX7_west_60 : decode cX7_west 60 = .ok (.aload_n 0, 1) := by decide +kernel
theorem dX7_west_61 : decode cX7_west 61 = .ok (.getfield 10, 3) := by decide +kernel
theorem dX7_west_64 : decode cX7_west 64 = .ok (.getfield 102, 3) := by decide +kernel
theorem dX7_west_67 : decode cX7_west 67 = .ok (.iload_n 1, 1) := by decide +kernel
theorem dX7_west_68 : decode cX7_west 68 = .ok (.iaload, 1) := by decide +kernel
theorem dX7_west_69 : decode cX7_west 69 = .ok (.aload_n 0, 1) := by decide +kernel
theorem dX7_west_70 : decode cX7_west 70 = .ok (.getfield 10, 3) := by decide +kernel
theorem dX7_west_73 : decode cX7_west 73 = .ok (.getfield 105, 3) := by decide +kernel
theorem dX7_west_76 : decode cX7_west 76 = .ok (.iload_n 1, 1) := by decide +kernel
theorem dX7_west_77 : decode cX7_west 77 = .ok (.iaload, 1) := by decide +kernel
theorem dX7_west_78 : decode cX7_west 78 = .ok (.invokevirtual 108, 3) := by decide +kernel
theorem dX7_west_81 : decode cX7_west 81 = .ok (.iinc 1 1, 3) := by decide +kernel
theorem dX7_west_84 : decode cX7_west 84 = .ok (.goto (-54), 3) := by decide +kernel
theorem dX7_west_87 : decode cX7_west 87 = .ok (.aload_n 0, 1) := by decide +kernel
theorem dX7_west_88 : decode cX7_west 88 = .ok (.getfield 10, 3) := by decide +kernel
theorem dX7_west_91 : decode cX7_west 91 = .ok (.iconst 0, 1) := by decide +kernel
theorem dX7_west_92 : decode cX7_west 92 = .ok (.putfield 77, 3) := by decide +kernel
theorem dX7_west_95 : decode cX7_west 95 = .ok (.aload_n 0, 1) := by decide +kernel
theorem dX7_west_96 : decode cX7_west 96 = .ok (.getfield 26, 3) := by decide +kernel
theorem dX7_west_99 : decode cX7_west 99 = .ok (.aload_n 0, 1) := by decide +kernel
theorem dX7_west_100 : decode cX7_west 100 = .ok (.getfield 19, 3) := by decide +kernel
theorem dX7_west_103 : decode cX7_west 103 = .ok (.invokevirtual 70, 3) := by decide +kernel
theorem dX7_west_106 : decode cX7_west 106 = .ok (.aload_n 0, 1) := by decide +kernel
theorem dX7_west_107 : decode cX7_west 107 = .ok (.getfield 66, 3) := by decide +kernel
theorem dX7_west_110 : decode cX7_west 110 = .ok (.iconst 0, 1) := by decide +kernel
theorem dX7_west_111 : decode cX7_west 111 = .ok (.putfield 112, 3) := by decide +kernel
theorem dX7_west_114 : decode cX7_west 114 = .ok (.aload_n 0, 1) := by decide +kernel
theorem dX7_west_115 : decode cX7_west 115 = .ok (.getfield 33, 3) := by decide +kernel
theorem dX7_west_118 : decode cX7_west 118 = .ok (.iconst 0, 1) := by decide +kernel
theorem dX7_west_119 : decode cX7_west 119 = .ok (.putfield 115, 3) := by decide +kernel
theorem dX7_west_122 : decode cX7_west 122 = .ok (.iconst 0, 1) := by decide +kernel
theorem dX7_west_123 : decode cX7_west 123 = .ok (.istore_n 1, 1) := by decide +kernel
theorem dX7_west_124 : decode cX7_west 124 = .ok (.iload_n 1, 1) := by decide +kernel
theorem dX7_west_125 : decode cX7_west 125 = .ok (.iconst 2, 1) := by decide +kernel
theorem dX7_west_126 : decode cX7_west 126 = .ok (.if_icmp .ge 16, 3) := by decide +kernel
theorem dX7_west_129 : decode cX7_west 129 = .ok (.aload_n 0, 1) := by decide +kernel
theorem dX7_west_130 : decode cX7_west 130 = .ok (.getfield 41, 3) := by decide +kernel
theorem dX7_west_133 : decode cX7_west 133 = .ok (.iload_n 1, 1) := by decide +kernel
theorem dX7_west_134 : decode cX7_west 134 = .ok (.iconst 0, 1) := by decide +kernel
theorem dX7_west_135 : decode cX7_west 135 = .ok (.bastore, 1) := by decide +kernel
theorem dX7_west_136 : decode cX7_west 136 = .ok (.iinc 1 1, 3) := by decide +kernel
theorem dX7_west_139 : decode cX7_west 139 = .ok (.goto (-15), 3) := by decide +kernel
theorem dX7_west_142 : decode cX7_west 142 = .ok (.aload_n 0, 1) := by decide +kernel
theorem dX7_west_143 : decode cX7_west 143 = .ok (.getfield 10, 3) := by decide +kernel
theorem dX7_west_146 : decode cX7_west 146 = .ok (.getfield 95, 3) := by decide +kernel
theorem dX7_west_149 : decode cX7_west 149 = .ok (.ireturn, 1) := by decide +kernel
theorem dX7_evening_0 : decode cX7_evening 0 = .ok (.aload_n 0, 1) := by decide +kernel
theorem dX7_evening_1 : decode cX7_evening 1 = .ok (.getfield 19, 3) := by decide +kernel
theorem dX7_evening_4 : decode cX7_evening 4 = .ok (.iload_n 1, 1) := by decide +kernel
theorem dX7_evening_5 : decode cX7_evening 5 = .ok (.invokevirtual 116, 3) := by decide +kernel
theorem dX7_evening_8 : decode cX7_evening 8 = .ok (.ifCond .ne 6, 3) := by decide +kernel
theorem dX7_evening_11 : decode cX7_evening 11 = .ok (.bipush (-2), 2) := by decide +kernel
theorem dX7_evening_13 : decode cX7_evening 13 = .ok (.ireturn, 1) := by decide +kernel
theorem dX7_evening_14 : decode cX7_evening 14 = .ok (.iload_n 2, 1) := by decide +kernel
theorem dX7_evening_15 : decode cX7_evening 15 = .ok (.tableswitch 97 0 5 #[37, 47, 57, 67, 77, 87], 37) := by decide +kernel
theorem dX7_evening_52 : decode cX7_evening 52 = .ok (.aload_n 0, 1) := by decide +kernel
theorem dX7_evening_53 : decode cX7_evening 53 = .ok (.getfield 19, 3) := by decide +kernel
theorem dX7_evening_56 : decode cX7_evening 56 = .ok (.getfield 120, 3) := by decide +kernel
theorem dX7_evening_59 : decode cX7_evening 59 = .ok (.iload_n 1, 1) := by decide +kernel
theorem dX7_evening_60 : decode cX7_evening 60 = .ok (.iaload, 1) := by decide +kernel
theorem dX7_evening_61 : decode cX7_evening 61 = .ok (.ireturn, 1) := by decide +kernel
theorem dX7_evening_62 : decode cX7_evening 62 = .ok (.aload_n 0, 1) := by decide +kernel
theorem dX7_evening_63 : decode cX7_evening 63 = .ok (.getfield 19, 3) := by decide +kernel
theorem dX7_evening_66 : decode cX7_evening 66 = .ok (.getfield 123, 3) := by decide +kernel
theorem dX7_evening_69 : decode cX7_evening 69 = .ok (.iload_n 1, 1) := by decide +kernel
theorem dX7_evening_70 : decode cX7_evening 70 = .ok (.iaload, 1) := by decide +kernel
theorem dX7_evening_71 : decode cX7_evening 71 = .ok (.ireturn, 1) := by decide +kernel
theorem dX7_evening_72 : decode cX7_evening 72 = .ok (.aload_n 0, 1) := by decide +kernel
theorem dX7_evening_73 : decode cX7_evening 73 = .ok (.getfield 26, 3) := by decide +kernel
theorem dX7_evening_76 : decode cX7_evening 76 = .ok (.getfield 126, 3) := by decide +kernel
theorem dX7_evening_79 : decode cX7_evening 79 = .ok (.iload_n 1, 1) := by decide +kernel
theorem dX7_evening_80 : decode cX7_evening 80 = .ok (.iaload, 1) := by decide +kernel
theorem dX7_evening_81 : decode cX7_evening 81 = .ok (.ireturn, 1) := by decide +kernel
theorem dX7_evening_82 : decode cX7_evening 82 = .ok (.aload_n 0, 1) := by decide +kernel
theorem dX7_evening_83 : decode cX7_evening 83 = .ok (.getfield 26, 3) := by decide +kernel
theorem dX7_evening_86 : decode cX7_evening 86 = .ok (.getfield 129, 3) := by decide +kernel
theorem dX7_evening_89 : decode cX7_evening 89 = .ok (.iload_n 1, 1) := by decide +kernel
theorem dX7_evening_90 : decode cX7_evening 90 = .ok (.iaload, 1) := by decide +kernel
theorem dX7_evening_91 : decode cX7_evening 91 = .ok (.ireturn, 1) := by decide +kernel
theorem dX7_evening_92 : decode cX7_evening 92 = .ok (.aload_n 0, 1) := by decide +kernel
theorem dX7_evening_93 : decode cX7_evening 93 = .ok (.getfield 26, 3) := by decide +kernel
theorem dX7_evening_96 : decode cX7_evening 96 = .ok (.getfield 132, 3) := by decide +kernel
theorem dX7_evening_99 : decode cX7_evening 99 = .ok (.iload_n 1, 1) := by decide +kernel
theorem dX7_evening_100 : decode cX7_evening 100 = .ok (.iaload, 1) := by decide +kernel
theorem dX7_evening_101 : decode cX7_evening 101 = .ok (.ireturn, 1) := by decide +kernel
theorem dX7_evening_102 : decode cX7_evening 102 = .ok (.aload_n 0, 1) := by decide +kernel
theorem dX7_evening_103 : decode cX7_evening 103 = .ok (.getfield 26, 3) := by decide +kernel
theorem dX7_evening_106 : decode cX7_evening 106 = .ok (.getfield 135, 3) := by decide +kernel
theorem dX7_evening_109 : decode cX7_evening 109 = .ok (.iload_n 1, 1) := by decide +kernel
theorem dX7_evening_110 : decode cX7_evening 110 = .ok (.iaload, 1) := by decide +kernel
theorem dX7_evening_111 : decode cX7_evening 111 = .ok (.ireturn, 1) := by decide +kernel
theorem dX7_evening_112 : decode cX7_evening 112 = .ok (.bipush (-3), 2) := by decide +kernel
theorem dX7_evening_114 : decode cX7_evening 114 = .ok (.ireturn, 1) := by decide +kernel
theorem dX7_bidder_0 : decode cX7_bidder 0 = .ok (.aload_n 0, 1) := by decide +kernel
theorem dX7_bidder_1 : decode cX7_bidder 1 = .ok (.getfield 19, 3) := by decide +kernel
theorem dX7_bidder_4 : decode cX7_bidder 4 = .ok (.iload_n 1, 1) := by decide +kernel
theorem dX7_bidder_5 : decode cX7_bidder 5 = .ok (.invokevirtual 138, 3) := by decide +kernel
theorem dX7_bidder_8 : decode cX7_bidder 8 = .ok (.ifCond .ne 6, 3) := by decide +kernel
theorem dX7_bidder_11 : decode cX7_bidder 11 = .ok (.bipush (-2), 2) := by decide +kernel
theorem dX7_bidder_13 : decode cX7_bidder 13 = .ok (.ireturn, 1) := by decide +kernel
theorem dX7_bidder_14 : decode cX7_bidder 14 = .ok (.iload_n 2, 1) := by decide +kernel
theorem dX7_bidder_15 : decode cX7_bidder 15 = .ok (.tableswitch 83 0 4 #[33, 43, 53, 63, 73], 33) := by decide +kernel
theorem dX7_bidder_48 : decode cX7_bidder 48 = .ok (.aload_n 0, 1) := by decide +kernel
theorem dX7_bidder_49 : decode cX7_bidder 49 = .ok (.getfield 19, 3) := by decide +kernel
theorem dX7_bidder_52 : decode cX7_bidder 52 = .ok (.getfield 141, 3) := by decide +kernel
theorem dX7_bidder_55 : decode cX7_bidder 55 = .ok (.iload_n 1, 1) := by decide +kernel
theorem dX7_bidder_56 : decode cX7_bidder 56 = .ok (.iaload, 1) := by decide +kernel
theorem dX7_bidder_57 : decode cX7_bidder 57 = .ok (.ireturn, 1) := by decide +kernel
theorem dX7_bidder_58 : decode cX7_bidder 58 = .ok (.aload_n 0, 1) := by decide +kernel
theorem dX7_bidder_59 : decode cX7_bidder 59 = .ok (.getfield 19, 3) := by decide +kernel
theorem dX7_bidder_62 : decode cX7_bidder 62 = .ok (.getfield 144, 3) := by decide +kernel
theorem dX7_bidder_65 : decode cX7_bidder 65 = .ok (.iload_n 1, 1) := by decide +kernel
theorem dX7_bidder_66 : decode cX7_bidder 66 = .ok (.iaload, 1) := by decide +kernel
theorem dX7_bidder_67 : decode cX7_bidder 67 = .ok (.ireturn, 1) := by decide +kernel
theorem dX7_bidder_68 : decode cX7_bidder 68 = .ok (.aload_n 0, 1) := by decide +kernel
theorem dX7_bidder_69 : decode cX7_bidder 69 = .ok (.getfield 26, 3) := by decide +kernel
theorem dX7_bidder_72 : decode cX7_bidder 72 = .ok (.getfield 147, 3) := by decide +kernel
theorem dX7_bidder_75 : decode cX7_bidder 75 = .ok (.iload_n 1, 1) := by decide +kernel
theorem dX7_bidder_76 : decode cX7_bidder 76 = .ok (.iaload, 1) := by decide +kernel
theorem dX7_bidder_77 : decode cX7_bidder 77 = .ok (.ireturn, 1) := by decide +kernel
theorem dX7_bidder_78 : decode cX7_bidder 78 = .ok (.aload_n 0, 1) := by decide +kernel
theorem dX7_bidder_79 : decode cX7_bidder 79 = .ok (.getfield 26, 3) := by decide +kernel
theorem dX7_bidder_82 : decode cX7_bidder 82 = .ok (.getfield 150, 3) := by decide +kernel
theorem dX7_bidder_85 : decode cX7_bidder 85 = .ok (.iload_n 1, 1) := by decide +kernel
theorem dX7_bidder_86 : decode cX7_bidder 86 = .ok (.iaload, 1) := by decide +kernel
theorem dX7_bidder_87 : decode cX7_bidder 87 = .ok (.ireturn, 1) := by decide +kernel
theorem dX7_bidder_88 : decode cX7_bidder 88 = .ok (.aload_n 0, 1) := by decide +kernel
theorem dX7_bidder_89 : decode cX7_bidder 89 = .ok (.getfield 26, 3) := by decide +kernel
theorem dX7_bidder_92 : decode cX7_bidder 92 = .ok (.getfield 153, 3) := by decide +kernel
theorem dX7_bidder_95 : decode cX7_bidder 95 = .ok (.iload_n 1, 1) := by decide +kernel
theorem dX7_bidder_96 : decode cX7_bidder 96 = .ok (.iaload, 1) := by decide +kernel
theorem dX7_bidder_97 : decode cX7_bidder 97 = .ok (.ireturn, 1) := by decide +kernel
theorem dX7_bidder_98 : decode cX7_bidder 98 = .ok (.bipush (-3), 2) := by decide +kernel
theorem dX7_bidder_100 : decode cX7_bidder 100 = .ok (.ireturn, 1) := by decide +kernel
theorem dX7_as_0 : decode cX7_as 0 = .ok (.aload_n 0, 1) := by decide +kernel
theorem dX7_as_1 : decode cX7_as 1 = .ok (.getfield 19, 3) := by decide +kernel
theorem dX7_as_4 : decode cX7_as 4 = .ok (.iload_n 1, 1) := by decide +kernel
theorem dX7_as_5 : decode cX7_as 5 = .ok (.invokevirtual 138, 3) := by decide +kernel
theorem dX7_as_8 : decode cX7_as 8 = .ok (.ifCond .ne 6, 3) := by decide +kernel
theorem dX7_as_11 : decode cX7_as 11 = .ok (.bipush (-2), 2) := by decide +kernel
theorem dX7_as_13 : decode cX7_as 13 = .ok (.ireturn, 1) := by decide +kernel
theorem dX7_as_14 : decode cX7_as 14 = .ok (.iload_n 2, 1) := by decide +kernel
theorem dX7_as_15 : decode cX7_as 15 = .ok (.getstatic 156, 3) := by decide +kernel
theorem dX7_as_18 : decode cX7_as 18 = .ok (.arraylength, 1) := by decide +kernel
theorem dX7_as_19 : decode cX7_as 19 = .ok (.iconst 1, 1) := by decide +kernel
theorem dX7_as_20 : decode cX7_as 20 = .ok (.isub, 1) := by decide +kernel
theorem dX7_as_21 : decode cX7_as 21 = .ok (.invokestatic 73, 3) := by decide +kernel
theorem dX7_as_24 : decode cX7_as 24 = .ok (.ifCond .ne 6, 3) := by decide +kernel
theorem dX7_as_27 : decode cX7_as 27 = .ok (.bipush (-3), 2) := by decide +kernel
theorem dX7_as_29 : decode cX7_as 29 = .ok (.ireturn, 1) := by decide +kernel
theorem dX7_as_30 : decode cX7_as 30 = .ok (.aload_n 0, 1) := by decide +kernel
theorem dX7_as_31 : decode cX7_as 31 = .ok (.getfield 19, 3) := by decide +kernel
theorem dX7_as_34 : decode cX7_as 34 = .ok (.getfield 141, 3) := by decide +kernel
theorem dX7_as_37 : decode cX7_as 37 = .ok (.iload_n 1, 1) := by decide +kernel
theorem dX7_as_38 : decode cX7_as 38 = .ok (.iaload, 1) := by decide +kernel
theorem dX7_as_39 : decode cX7_as 39 = .ok (.iconst 1, 1) := by decide +kernel
theorem dX7_as_40 : decode cX7_as 40 = .ok (.iadd, 1) := by decide +kernel
theorem dX7_as_41 : decode cX7_as 41 = .ok (.iload_n 2, 1) := by decide +kernel
theorem dX7_as_42 : decode cX7_as 42 = .ok (.getstatic 156, 3) := by decide +kernel
theorem dX7_as_45 : decode cX7_as 45 = .ok (.invokestatic 159, 3) := by decide +kernel
theorem dX7_as_48 : decode cX7_as 48 = .ok (.ifCond .ne 6, 3) := by decide +kernel
theorem dX7_as_51 : decode cX7_as 51 = .ok (.bipush (-4), 2) := by decide +kernel
theorem dX7_as_53 : decode cX7_as 53 = .ok (.ireturn, 1) := by decide +kernel
theorem dX7_as_54 : decode cX7_as 54 = .ok (.bipush 100, 2) := by decide +kernel
theorem dX7_as_56 : decode cX7_as 56 = .ok (.aload_n 0, 1) := by decide +kernel
theorem dX7_as_57 : decode cX7_as 57 = .ok (.getfield 19, 3) := by decide +kernel
theorem dX7_as_60 : decode cX7_as 60 = .ok (.iload_n 1, 1) := by decide +kernel
theorem dX7_as_61 : decode cX7_as 61 = .ok (.invokevirtual 163, 3) := by decide +kernel
theorem dX7_as_64 : decode cX7_as 64 = .ok (.imul, 1) := by decide +kernel
theorem dX7_as_65 : decode cX7_as 65 = .ok (.aload_n 0, 1) := by decide +kernel
theorem dX7_as_66 : decode cX7_as 66 = .ok (.getfield 19, 3) := by decide +kernel
theorem dX7_as_69 : decode cX7_as 69 = .ok (.iload_n 1, 1) := by decide +kernel
theorem dX7_as_70 : decode cX7_as 70 = .ok (.invokevirtual 167, 3) := by decide +kernel
theorem dX7_as_73 : decode cX7_as 73 = .ok (.iadd, 1) := by decide +kernel
theorem dX7_as_74 : decode cX7_as 74 = .ok (.ireturn, 1) := by decide +kernel
theorem dX7_eveningAs_0 : decode cX7_eveningAs 0 = .ok (.aload_n 0, 1) := by decide +kernel
theorem dX7_eveningAs_1 : decode cX7_eveningAs 1 = .ok (.getfield 19, 3) := by decide +kernel
theorem dX7_eveningAs_4 : decode cX7_eveningAs 4 = .ok (.iload_n 1, 1) := by decide +kernel
theorem dX7_eveningAs_5 : decode cX7_eveningAs 5 = .ok (.invokevirtual 116, 3) := by decide +kernel
theorem dX7_eveningAs_8 : decode cX7_eveningAs 8 = .ok (.ifCond .ne 6, 3) := by decide +kernel
theorem dX7_eveningAs_11 : decode cX7_eveningAs 11 = .ok (.bipush (-2), 2) := by decide +kernel
theorem dX7_eveningAs_13 : decode cX7_eveningAs 13 = .ok (.ireturn, 1) := by decide +kernel
theorem dX7_eveningAs_14 : decode cX7_eveningAs 14 = .ok (.iload_n 2, 1) := by decide +kernel
theorem dX7_eveningAs_15 : decode cX7_eveningAs 15 = .ok (.getstatic 170, 3) := by decide +kernel
theorem dX7_eveningAs_18 : decode cX7_eveningAs 18 = .ok (.arraylength, 1) := by decide +kernel
theorem dX7_eveningAs_19 : decode cX7_eveningAs 19 = .ok (.iconst 1, 1) := by decide +kernel
theorem dX7_eveningAs_20 : decode cX7_eveningAs 20 = .ok (.isub, 1) := by decide +kernel
theorem dX7_eveningAs_21 : decode cX7_eveningAs 21 = .ok (.invokestatic 73, 3) := by decide +kernel
theorem dX7_eveningAs_24 : decode cX7_eveningAs 24 = .ok (.ifCond .ne 6, 3) := by decide +kernel
theorem dX7_eveningAs_27 : decode cX7_eveningAs 27 = .ok (.bipush (-3), 2) := by decide +kernel
theorem dX7_eveningAs_29 : decode cX7_eveningAs 29 = .ok (.ireturn, 1) := by decide +kernel
theorem dX7_eveningAs_30 : decode cX7_eveningAs 30 = .ok (.aload_n 0, 1) := by decide +kernel
theorem dX7_eveningAs_31 : decode cX7_eveningAs 31 = .ok (.getfield 19, 3) := by decide +kernel
theorem dX7_eveningAs_34 : decode cX7_eveningAs 34 = .ok (.getfield 120, 3) := by decide +kernel
theorem dX7_eveningAs_37 : decode cX7_eveningAs 37 = .ok (.iload_n 1, 1) := by decide +kernel
theorem dX7_eveningAs_38 : decode cX7_eveningAs 38 = .ok (.iaload, 1) := by decide +kernel
theorem dX7_eveningAs_39 : decode cX7_eveningAs 39 = .ok (.iconst 1, 1) := by decide +kernel
theorem dX7_eveningAs_40 : decode cX7_eveningAs 40 = .ok (.iadd, 1) := by decide +kernel
theorem dX7_eveningAs_41 : decode cX7_eveningAs 41 = .ok (.iload_n 2, 1) := by decide +kernel
theorem dX7_eveningAs_42 : decode cX7_eveningAs 42 = .ok (.getstatic 170, 3) := by decide +kernel
theorem dX7_eveningAs_45 : decode cX7_eveningAs 45 = .ok (.invokestatic 159, 3) := by decide +kernel
theorem dX7_eveningAs_48 : decode cX7_eveningAs 48 = .ok (.ifCond .ne 6, 3) := by decide +kernel
theorem dX7_eveningAs_51 : decode cX7_eveningAs 51 = .ok (.bipush (-4), 2) := by decide +kernel
theorem dX7_eveningAs_53 : decode cX7_eveningAs 53 = .ok (.ireturn, 1) := by decide +kernel
theorem dX7_eveningAs_54 : decode cX7_eveningAs 54 = .ok (.aload_n 0, 1) := by decide +kernel
theorem dX7_eveningAs_55 : decode cX7_eveningAs 55 = .ok (.getfield 19, 3) := by decide +kernel
theorem dX7_eveningAs_58 : decode cX7_eveningAs 58 = .ok (.iload_n 1, 1) := by decide +kernel
theorem dX7_eveningAs_59 : decode cX7_eveningAs 59 = .ok (.bipush 50, 2) := by decide +kernel
theorem dX7_eveningAs_61 : decode cX7_eveningAs 61 = .ok (.invokevirtual 173, 3) := by decide +kernel
theorem dX7_eveningAs_64 : decode cX7_eveningAs 64 = .ok (.ireturn, 1) := by decide +kernel
theorem dX7_bid_0 : decode cX7_bid 0 = .ok (.aload_n 0, 1) := by decide +kernel
theorem dX7_bid_1 : decode cX7_bid 1 = .ok (.getfield 19, 3) := by decide +kernel
theorem dX7_bid_4 : decode cX7_bid 4 = .ok (.iload_n 1, 1) := by decide +kernel
theorem dX7_bid_5 : decode cX7_bid 5 = .ok (.invokevirtual 138, 3) := by decide +kernel
theorem dX7_bid_8 : decode cX7_bid 8 = .ok (.ifCond .ne 6, 3) := by decide +kernel
theorem dX7_bid_11 : decode cX7_bid 11 = .ok (.bipush (-2), 2) := by decide +kernel
theorem dX7_bid_13 : decode cX7_bid 13 = .ok (.ireturn, 1) := by decide +kernel
theorem dX7_bid_14 : decode cX7_bid 14 = .ok (.iload_n 2, 1) := by decide +kernel
theorem dX7_bid_15 : decode cX7_bid 15 = .ok (.iconst (-1), 1) := by decide +kernel
theorem dX7_bid_16 : decode cX7_bid 16 = .ok (.if_icmp .eq 15, 3) := by decide +kernel
theorem dX7_bid_19 : decode cX7_bid 19 = .ok (.iload_n 2, 1) := by decide +kernel
theorem dX7_bid_20 : decode cX7_bid 20 = .ok (.bipush 99, 2) := by decide +kernel
theorem dX7_bid_22 : decode cX7_bid 22 = .ok (.invokestatic 73, 3) := by decide +kernel
theorem dX7_bid_25 : decode cX7_bid 25 = .ok (.ifCond .ne 6, 3) := by decide +kernel
theorem dX7_bid_28 : decode cX7_bid 28 = .ok (.bipush (-3), 2) := by decide +kernel
theorem dX7_bid_30 : decode cX7_bid 30 = .ok (.ireturn, 1) := by decide +kernel
theorem dX7_bid_31 : decode cX7_bid 31 = .ok (.iload_n 2, 1) := by decide +kernel
theorem dX7_bid_32 : decode cX7_bid 32 = .ok (.aload_n 0, 1) := by decide +kernel
theorem dX7_bid_33 : decode cX7_bid 33 = .ok (.getfield 26, 3) := by decide +kernel
theorem dX7_bid_36 : decode cX7_bid 36 = .ok (.getfield 147, 3) := by decide +kernel
theorem dX7_bid_39 : decode cX7_bid 39 = .ok (.iload_n 1, 1) := by decide +kernel
theorem dX7_bid_40 : decode cX7_bid 40 = .ok (.iaload, 1) := by decide +kernel
theorem dX7_bid_41 : decode cX7_bid 41 = .ok (.if_icmp .gt 10, 3) := by decide +kernel
theorem dX7_bid_44 : decode cX7_bid 44 = .ok (.aload_n 0, 1) := by decide +kernel
theorem dX7_bid_45 : decode cX7_bid 45 = .ok (.invokevirtual 176, 3) := by decide +kernel
theorem dX7_bid_48 : decode cX7_bid 48 = .ok (.ifCond .ne 6, 3) := by decide +kernel
theorem dX7_bid_51 : decode cX7_bid 51 = .ok (.bipush (-4), 2) := by decide +kernel
theorem dX7_bid_53 : decode cX7_bid 53 = .ok (.ireturn, 1) := by decide +kernel
theorem dX7_bid_54 : decode cX7_bid 54 = .ok (.aload_n 0, 1) := by decide +kernel
theorem dX7_bid_55 : decode cX7_bid 55 = .ok (.getfield 33, 3) := by decide +kernel
theorem dX7_bid_58 : decode cX7_bid 58 = .ok (.aload_n 0, 1) := by decide +kernel
theorem dX7_bid_59 : decode cX7_bid 59 = .ok (.getfield 26, 3) := by decide +kernel
theorem dX7_bid_62 : decode cX7_bid 62 = .ok (.invokevirtual 180, 3) := by decide +kernel
theorem dX7_bid_65 : decode cX7_bid 65 = .ok (.aload_n 0, 1) := by decide +kernel
theorem dX7_bid_66 : decode cX7_bid 66 = .ok (.getfield 26, 3) := by decide +kernel
theorem dX7_bid_69 : decode cX7_bid 69 = .ok (.getfield 153, 3) := by decide +kernel
theorem dX7_bid_72 : decode cX7_bid 72 = .ok (.iload_n 1, 1) := by decide +kernel
theorem dX7_bid_73 : decode cX7_bid 73 = .ok (.iload_n 2, 1) := by decide +kernel
theorem dX7_bid_74 : decode cX7_bid 74 = .ok (.iastore, 1) := by decide +kernel
theorem dX7_bid_75 : decode cX7_bid 75 = .ok (.aload_n 0, 1) := by decide +kernel
theorem dX7_bid_76 : decode cX7_bid 76 = .ok (.getfield 26, 3) := by decide +kernel
theorem dX7_bid_79 : decode cX7_bid 79 = .ok (.invokevirtual 184, 3) := by decide +kernel
theorem dX7_bid_82 : decode cX7_bid 82 = .ok (.ireturn, 1) := by decide +kernel
theorem dX7_sale_0 : decode cX7_sale 0 = .ok (.iload_n 1, 1) := by decide +kernel
theorem dX7_sale_1 : decode cX7_sale 1 = .ok (.sipush 9999, 3) := by decide +kernel
theorem dX7_sale_4 : decode cX7_sale 4 = .ok (.invokestatic 73, 3) := by decide +kernel
theorem dX7_sale_7 : decode cX7_sale 7 = .ok (.ifCond .ne 6, 3) := by decide +kernel
theorem dX7_sale_10 : decode cX7_sale 10 = .ok (.bipush (-3), 2) := by decide +kernel
theorem dX7_sale_12 : decode cX7_sale 12 = .ok (.ireturn, 1) := by decide +kernel
theorem dX7_sale_13 : decode cX7_sale 13 = .ok (.aload_n 0, 1) := by decide +kernel
theorem dX7_sale_14 : decode cX7_sale 14 = .ok (.invokevirtual 176, 3) := by decide +kernel
theorem dX7_sale_17 : decode cX7_sale 17 = .ok (.ifCond .ne 6, 3) := by decide +kernel
theorem dX7_sale_20 : decode cX7_sale 20 = .ok (.bipush (-4), 2) := by decide +kernel
theorem dX7_sale_22 : decode cX7_sale 22 = .ok (.ireturn, 1) := by decide +kernel
theorem dX7_sale_23 : decode cX7_sale 23 = .ok (.aload_n 0, 1) := by decide +kernel
theorem dX7_sale_24 : decode cX7_sale 24 = .ok (.getfield 33, 3) := by decide +kernel
theorem dX7_sale_27 : decode cX7_sale 27 = .ok (.aload_n 0, 1) := by decide +kernel
theorem dX7_sale_28 : decode cX7_sale 28 = .ok (.getfield 26, 3) := by decide +kernel
theorem dX7_sale_31 : decode cX7_sale 31 = .ok (.invokevirtual 180, 3) := by decide +kernel
theorem dX7_sale_34 : decode cX7_sale 34 = .ok (.aload_n 0, 1) := by decide +kernel
theorem dX7_sale_35 : decode cX7_sale 35 = .ok (.getfield 50, 3) := by decide +kernel
theorem dX7_sale_38 : decode cX7_sale 38 = .ok (.iload_n 1, 1) := by decide +kernel
theorem dX7_sale_39 : decode cX7_sale 39 = .ok (.invokevirtual 188, 3) := by decide +kernel
theorem dX7_sale_42 : decode cX7_sale 42 = .ok (.ireturn, 1) := by decide +kernel
theorem dX7_price_0 : decode cX7_price 0 = .ok (.aload_n 0, 1) := by decide +kernel
theorem dX7_price_1 : decode cX7_price 1 = .ok (.getfield 19, 3) := by decide +kernel
theorem dX7_price_4 : decode cX7_price 4 = .ok (.iload_n 1, 1) := by decide +kernel
theorem dX7_price_5 : decode cX7_price 5 = .ok (.invokevirtual 116, 3) := by decide +kernel
theorem dX7_price_8 : decode cX7_price 8 = .ok (.ifCond .ne 6, 3) := by decide +kernel
theorem dX7_price_11 : decode cX7_price 11 = .ok (.bipush (-2), 2) := by decide +kernel
theorem dX7_price_13 : decode cX7_price 13 = .ok (.ireturn, 1) := by decide +kernel
theorem dX7_price_14 : decode cX7_price 14 = .ok (.iload_n 2, 1) := by decide +kernel
theorem dX7_price_15 : decode cX7_price 15 = .ok (.bipush 99, 2) := by decide +kernel
theorem dX7_price_17 : decode cX7_price 17 = .ok (.invokestatic 73, 3) := by decide +kernel
theorem dX7_price_20 : decode cX7_price 20 = .ok (.ifCond .ne 6, 3) := by decide +kernel
theorem dX7_price_23 : decode cX7_price 23 = .ok (.bipush (-3), 2) := by decide +kernel
theorem dX7_price_25 : decode cX7_price 25 = .ok (.ireturn, 1) := by decide +kernel
theorem dX7_price_26 : decode cX7_price 26 = .ok (.aload_n 0, 1) := by decide +kernel
theorem dX7_price_27 : decode cX7_price 27 = .ok (.getfield 33, 3) := by decide +kernel
theorem dX7_price_30 : decode cX7_price 30 = .ok (.aload_n 0, 1) := by decide +kernel
theorem dX7_price_31 : decode cX7_price 31 = .ok (.getfield 26, 3) := by decide +kernel
theorem dX7_price_34 : decode cX7_price 34 = .ok (.invokevirtual 180, 3) := by decide +kernel
theorem dX7_price_37 : decode cX7_price 37 = .ok (.aload_n 0, 1) := by decide +kernel
theorem dX7_price_38 : decode cX7_price 38 = .ok (.getfield 26, 3) := by decide +kernel
theorem dX7_price_41 : decode cX7_price 41 = .ok (.getfield 126, 3) := by decide +kernel
theorem dX7_price_44 : decode cX7_price 44 = .ok (.iload_n 1, 1) := by decide +kernel
theorem dX7_price_45 : decode cX7_price 45 = .ok (.iaload, 1) := by decide +kernel
theorem dX7_price_46 : decode cX7_price 46 = .ok (.istore_n 3, 1) := by decide +kernel
theorem dX7_price_47 : decode cX7_price 47 = .ok (.aload_n 0, 1) := by decide +kernel
theorem dX7_price_48 : decode cX7_price 48 = .ok (.getfield 26, 3) := by decide +kernel
theorem dX7_price_51 : decode cX7_price 51 = .ok (.getfield 126, 3) := by decide +kernel
theorem dX7_price_54 : decode cX7_price 54 = .ok (.iload_n 1, 1) := by decide +kernel
theorem dX7_price_55 : decode cX7_price 55 = .ok (.iload_n 2, 1) := by decide +kernel
theorem dX7_price_56 : decode cX7_price 56 = .ok (.iastore, 1) := by decide +kernel
theorem dX7_price_57 : decode cX7_price 57 = .ok (.iload_n 3, 1) := by decide +kernel
theorem dX7_price_58 : decode cX7_price 58 = .ok (.ireturn, 1) := by decide +kernel
theorem dX7_says_0 : decode cX7_says 0 = .ok (.iload_n 1, 1) := by decide +kernel
theorem dX7_says_1 : decode cX7_says 1 = .ok (.invokestatic 191, 3) := by decide +kernel
theorem dX7_says_4 : decode cX7_says 4 = .ok (.ifCond .eq 14, 3) := by decide +kernel
theorem dX7_says_7 : decode cX7_says 7 = .ok (.aload_n 0, 1) := by decide +kernel
theorem dX7_says_8 : decode cX7_says 8 = .ok (.getfield 19, 3) := by decide +kernel
theorem dX7_says_11 : decode cX7_says 11 = .ok (.iload_n 2, 1) := by decide +kernel
theorem dX7_says_12 : decode cX7_says 12 = .ok (.invokevirtual 116, 3) := by decide +kernel
theorem dX7_says_15 : decode cX7_says 15 = .ok (.ifCond .ne 6, 3) := by decide +kernel
theorem dX7_says_18 : decode cX7_says 18 = .ok (.bipush (-2), 2) := by decide +kernel
theorem dX7_says_20 : decode cX7_says 20 = .ok (.ireturn, 1) := by decide +kernel
theorem dX7_says_21 : decode cX7_says 21 = .ok (.iload_n 3, 1) := by decide +kernel
theorem dX7_says_22 : decode cX7_says 22 = .ok (.bipush 10, 2) := by decide +kernel
theorem dX7_says_24 : decode cX7_says 24 = .ok (.invokestatic 73, 3) := by decide +kernel
theorem dX7_says_27 : decode cX7_says 27 = .ok (.ifCond .ne 6, 3) := by decide +kernel
theorem dX7_says_30 : decode cX7_says 30 = .ok (.bipush (-3), 2) := by decide +kernel
theorem dX7_says_32 : decode cX7_says 32 = .ok (.ireturn, 1) := by decide +kernel
theorem dX7_says_33 : decode cX7_says 33 = .ok (.iload_n 2, 1) := by decide +kernel
theorem dX7_says_34 : decode cX7_says 34 = .ok (.aload_n 0, 1) := by decide +kernel
theorem dX7_says_35 : decode cX7_says 35 = .ok (.getfield 26, 3) := by decide +kernel
theorem dX7_says_38 : decode cX7_says 38 = .ok (.getfield 194, 3) := by decide +kernel
theorem dX7_says_41 : decode cX7_says 41 = .ok (.if_icmp .ge 6, 3) := by decide +kernel
theorem dX7_says_44 : decode cX7_says 44 = .ok (.bipush (-4), 2) := by decide +kernel
theorem dX7_says_46 : decode cX7_says 46 = .ok (.ireturn, 1) := by decide +kernel
theorem dX7_says_47 : decode cX7_says 47 = .ok (.aload_n 0, 1) := by decide +kernel
theorem dX7_says_48 : decode cX7_says 48 = .ok (.getfield 33, 3) := by decide +kernel
theorem dX7_says_51 : decode cX7_says 51 = .ok (.aload_n 0, 1) := by decide +kernel
theorem dX7_says_52 : decode cX7_says 52 = .ok (.getfield 26, 3) := by decide +kernel
theorem dX7_says_55 : decode cX7_says 55 = .ok (.invokevirtual 180, 3) := by decide +kernel
theorem dX7_says_58 : decode cX7_says 58 = .ok (.iload_n 1, 1) := by decide +kernel
theorem dX7_says_59 : decode cX7_says 59 = .ok (.iload_n 2, 1) := by decide +kernel
theorem dX7_says_60 : decode cX7_says 60 = .ok (.invokestatic 197, 3) := by decide +kernel
theorem dX7_says_63 : decode cX7_says 63 = .ok (.istore 4, 2) := by decide +kernel
theorem dX7_says_65 : decode cX7_says 65 = .ok (.aload_n 0, 1) := by decide +kernel
theorem dX7_says_66 : decode cX7_says 66 = .ok (.getfield 26, 3) := by decide +kernel
theorem dX7_says_69 : decode cX7_says 69 = .ok (.getfield 200, 3) := by decide +kernel
theorem dX7_says_72 : decode cX7_says 72 = .ok (.iload 4, 2) := by decide +kernel
theorem dX7_says_74 : decode cX7_says 74 = .ok (.iaload, 1) := by decide +kernel
theorem dX7_says_75 : decode cX7_says 75 = .ok (.istore 5, 2) := by decide +kernel
theorem dX7_says_77 : decode cX7_says 77 = .ok (.aload_n 0, 1) := by decide +kernel
theorem dX7_says_78 : decode cX7_says 78 = .ok (.getfield 26, 3) := by decide +kernel
theorem dX7_says_81 : decode cX7_says 81 = .ok (.getfield 200, 3) := by decide +kernel
theorem dX7_says_84 : decode cX7_says 84 = .ok (.iload 4, 2) := by decide +kernel
theorem dX7_says_86 : decode cX7_says 86 = .ok (.iload_n 3, 1) := by decide +kernel
theorem dX7_says_87 : decode cX7_says 87 = .ok (.iastore, 1) := by decide +kernel
theorem dX7_says_88 : decode cX7_says 88 = .ok (.iload 5, 2) := by decide +kernel
theorem dX7_says_90 : decode cX7_says 90 = .ok (.ireturn, 1) := by decide +kernel
theorem dX7_undo_0 : decode cX7_undo 0 = .ok (.aload_n 0, 1) := by decide +kernel
theorem dX7_undo_1 : decode cX7_undo 1 = .ok (.getfield 33, 3) := by decide +kernel
theorem dX7_undo_4 : decode cX7_undo 4 = .ok (.getfield 115, 3) := by decide +kernel
theorem dX7_undo_7 : decode cX7_undo 7 = .ok (.ifCond .gt 6, 3) := by decide +kernel
theorem dX7_undo_10 : decode cX7_undo 10 = .ok (.bipush (-4), 2) := by decide +kernel
theorem dX7_undo_12 : decode cX7_undo 12 = .ok (.ireturn, 1) := by decide +kernel
theorem dX7_undo_13 : decode cX7_undo 13 = .ok (.aload_n 0, 1) := by decide +kernel
theorem dX7_undo_14 : decode cX7_undo 14 = .ok (.getfield 33, 3) := by decide +kernel
theorem dX7_undo_17 : decode cX7_undo 17 = .ok (.aload_n 0, 1) := by decide +kernel
theorem dX7_undo_18 : decode cX7_undo 18 = .ok (.getfield 26, 3) := by decide +kernel
theorem dX7_undo_21 : decode cX7_undo 21 = .ok (.invokevirtual 203, 3) := by decide +kernel
theorem dX7_undo_24 : decode cX7_undo 24 = .ok (.aload_n 0, 1) := by decide +kernel
theorem dX7_undo_25 : decode cX7_undo 25 = .ok (.getfield 33, 3) := by decide +kernel
theorem dX7_undo_28 : decode cX7_undo 28 = .ok (.getfield 115, 3) := by decide +kernel
theorem dX7_undo_31 : decode cX7_undo 31 = .ok (.ireturn, 1) := by decide +kernel
theorem dX7_keep_0 : decode cX7_keep 0 = .ok (.iload_n 1, 1) := by decide +kernel
theorem dX7_keep_1 : decode cX7_keep 1 = .ok (.iconst 1, 1) := by decide +kernel
theorem dX7_keep_2 : decode cX7_keep 2 = .ok (.invokestatic 73, 3) := by decide +kernel
theorem dX7_keep_5 : decode cX7_keep 5 = .ok (.ifCond .ne 6, 3) := by decide +kernel
theorem dX7_keep_8 : decode cX7_keep 8 = .ok (.bipush (-2), 2) := by decide +kernel
theorem dX7_keep_10 : decode cX7_keep 10 = .ok (.ireturn, 1) := by decide +kernel
theorem dX7_keep_11 : decode cX7_keep 11 = .ok (.aload_n 0, 1) := by decide +kernel
theorem dX7_keep_12 : decode cX7_keep 12 = .ok (.getfield 37, 3) := by decide +kernel
theorem dX7_keep_15 : decode cX7_keep 15 = .ok (.iload_n 1, 1) := by decide +kernel
theorem dX7_keep_16 : decode cX7_keep 16 = .ok (.aaload, 1) := by decide +kernel
theorem dX7_keep_17 : decode cX7_keep 17 = .ok (.aload_n 0, 1) := by decide +kernel
theorem dX7_keep_18 : decode cX7_keep 18 = .ok (.getfield 26, 3) := by decide +kernel
theorem dX7_keep_21 : decode cX7_keep 21 = .ok (.invokevirtual 206, 3) := by decide +kernel
theorem dX7_keep_24 : decode cX7_keep 24 = .ok (.aload_n 0, 1) := by decide +kernel
theorem dX7_keep_25 : decode cX7_keep 25 = .ok (.getfield 41, 3) := by decide +kernel
theorem dX7_keep_28 : decode cX7_keep 28 = .ok (.iload_n 1, 1) := by decide +kernel
theorem dX7_keep_29 : decode cX7_keep 29 = .ok (.iconst 1, 1) := by decide +kernel
theorem dX7_keep_30 : decode cX7_keep 30 = .ok (.bastore, 1) := by decide +kernel
theorem dX7_keep_31 : decode cX7_keep 31 = .ok (.aload_n 0, 1) := by decide +kernel
theorem dX7_keep_32 : decode cX7_keep 32 = .ok (.getfield 26, 3) := by decide +kernel
theorem dX7_keep_35 : decode cX7_keep 35 = .ok (.getfield 194, 3) := by decide +kernel
theorem dX7_keep_38 : decode cX7_keep 38 = .ok (.ireturn, 1) := by decide +kernel
theorem dX7_back_0 : decode cX7_back 0 = .ok (.iload_n 1, 1) := by decide +kernel
theorem dX7_back_1 : decode cX7_back 1 = .ok (.iconst 1, 1) := by decide +kernel
theorem dX7_back_2 : decode cX7_back 2 = .ok (.invokestatic 73, 3) := by decide +kernel
theorem dX7_back_5 : decode cX7_back 5 = .ok (.ifCond .ne 6, 3) := by decide +kernel
theorem dX7_back_8 : decode cX7_back 8 = .ok (.bipush (-2), 2) := by decide +kernel
theorem dX7_back_10 : decode cX7_back 10 = .ok (.ireturn, 1) := by decide +kernel
theorem dX7_back_11 : decode cX7_back 11 = .ok (.aload_n 0, 1) := by decide +kernel
theorem dX7_back_12 : decode cX7_back 12 = .ok (.getfield 41, 3) := by decide +kernel
theorem dX7_back_15 : decode cX7_back 15 = .ok (.iload_n 1, 1) := by decide +kernel
theorem dX7_back_16 : decode cX7_back 16 = .ok (.baload, 1) := by decide +kernel
theorem dX7_back_17 : decode cX7_back 17 = .ok (.ifCond .ne 6, 3) := by decide +kernel
theorem dX7_back_20 : decode cX7_back 20 = .ok (.bipush (-4), 2) := by decide +kernel
theorem dX7_back_22 : decode cX7_back 22 = .ok (.ireturn, 1) := by decide +kernel
theorem dX7_back_23 : decode cX7_back 23 = .ok (.aload_n 0, 1) := by decide +kernel
theorem dX7_back_24 : decode cX7_back 24 = .ok (.getfield 26, 3) := by decide +kernel
theorem dX7_back_27 : decode cX7_back 27 = .ok (.aload_n 0, 1) := by decide +kernel
theorem dX7_back_28 : decode cX7_back 28 = .ok (.getfield 37, 3) := by decide +kernel
theorem dX7_back_31 : decode cX7_back 31 = .ok (.iload_n 1, 1) := by decide +kernel
theorem dX7_back_32 : decode cX7_back 32 = .ok (.aaload, 1) := by decide +kernel
theorem dX7_back_33 : decode cX7_back 33 = .ok (.invokevirtual 206, 3) := by decide +kernel
theorem dX7_back_36 : decode cX7_back 36 = .ok (.aload_n 0, 1) := by decide +kernel
theorem dX7_back_37 : decode cX7_back 37 = .ok (.getfield 33, 3) := by decide +kernel
theorem dX7_back_40 : decode cX7_back 40 = .ok (.iconst 0, 1) := by decide +kernel
theorem dX7_back_41 : decode cX7_back 41 = .ok (.putfield 115, 3) := by decide +kernel
theorem dX7_back_44 : decode cX7_back 44 = .ok (.aload_n 0, 1) := by decide +kernel
theorem dX7_back_45 : decode cX7_back 45 = .ok (.getfield 26, 3) := by decide +kernel
theorem dX7_back_48 : decode cX7_back 48 = .ok (.getfield 194, 3) := by decide +kernel
theorem dX7_back_51 : decode cX7_back 51 = .ok (.ireturn, 1) := by decide +kernel
theorem dX7_gain_0 : decode cX7_gain 0 = .ok (.aload_n 0, 1) := by decide +kernel
theorem dX7_gain_1 : decode cX7_gain 1 = .ok (.getfield 19, 3) := by decide +kernel
theorem dX7_gain_4 : decode cX7_gain 4 = .ok (.iload_n 1, 1) := by decide +kernel
theorem dX7_gain_5 : decode cX7_gain 5 = .ok (.invokevirtual 138, 3) := by decide +kernel
theorem dX7_gain_8 : decode cX7_gain 8 = .ok (.ifCond .eq 14, 3) := by decide +kernel
theorem dX7_gain_11 : decode cX7_gain 11 = .ok (.aload_n 0, 1) := by decide +kernel
theorem dX7_gain_12 : decode cX7_gain 12 = .ok (.getfield 19, 3) := by decide +kernel
theorem dX7_gain_15 : decode cX7_gain 15 = .ok (.iload_n 2, 1) := by decide +kernel
theorem dX7_gain_16 : decode cX7_gain 16 = .ok (.invokevirtual 116, 3) := by decide +kernel
theorem dX7_gain_19 : decode cX7_gain 19 = .ok (.ifCond .ne 6, 3) := by decide +kernel
theorem dX7_gain_22 : decode cX7_gain 22 = .ok (.bipush (-2), 2) := by decide +kernel
theorem dX7_gain_24 : decode cX7_gain 24 = .ok (.ireturn, 1) := by decide +kernel
theorem dX7_gain_25 : decode cX7_gain 25 = .ok (.iload_n 3, 1) := by decide +kernel
theorem dX7_gain_26 : decode cX7_gain 26 = .ok (.bipush 99, 2) := by decide +kernel
theorem dX7_gain_28 : decode cX7_gain 28 = .ok (.invokestatic 73, 3) := by decide +kernel
theorem dX7_gain_31 : decode cX7_gain 31 = .ok (.ifCond .ne 6, 3) := by decide +kernel
theorem dX7_gain_34 : decode cX7_gain 34 = .ok (.bipush (-3), 2) := by decide +kernel
theorem dX7_gain_36 : decode cX7_gain 36 = .ok (.ireturn, 1) := by decide +kernel
theorem dX7_gain_37 : decode cX7_gain 37 = .ok (.aload_n 0, 1) := by decide +kernel
theorem dX7_gain_38 : decode cX7_gain 38 = .ok (.getfield 19, 3) := by decide +kernel
theorem dX7_gain_41 : decode cX7_gain 41 = .ok (.iload_n 1, 1) := by decide +kernel
theorem dX7_gain_42 : decode cX7_gain 42 = .ok (.iload_n 2, 1) := by decide +kernel
theorem dX7_gain_43 : decode cX7_gain 43 = .ok (.iload_n 3, 1) := by decide +kernel
theorem dX7_gain_44 : decode cX7_gain 44 = .ok (.invokevirtual 209, 3) := by decide +kernel
theorem dX7_gain_47 : decode cX7_gain 47 = .ok (.ldc 213, 2) := by decide +kernel
theorem dX7_gain_49 : decode cX7_gain 49 = .ok (.iadd, 1) := by decide +kernel
theorem dX7_gain_50 : decode cX7_gain 50 = .ok (.ireturn, 1) := by decide +kernel
theorem dX7_limit_0 : decode cX7_limit 0 = .ok (.aload_n 0, 1) := by decide +kernel
theorem dX7_limit_1 : decode cX7_limit 1 = .ok (.getfield 19, 3) := by decide +kernel
theorem dX7_limit_4 : decode cX7_limit 4 = .ok (.iload_n 1, 1) := by decide +kernel
theorem dX7_limit_5 : decode cX7_limit 5 = .ok (.invokevirtual 138, 3) := by decide +kernel
theorem dX7_limit_8 : decode cX7_limit 8 = .ok (.ifCond .ne 6, 3) := by decide +kernel
theorem dX7_limit_11 : decode cX7_limit 11 = .ok (.bipush (-2), 2) := by decide +kernel
theorem dX7_limit_13 : decode cX7_limit 13 = .ok (.ireturn, 1) := by decide +kernel
theorem dX7_limit_14 : decode cX7_limit 14 = .ok (.aload_n 0, 1) := by decide +kernel
theorem dX7_limit_15 : decode cX7_limit 15 = .ok (.invokevirtual 176, 3) := by decide +kernel
theorem dX7_limit_18 : decode cX7_limit 18 = .ok (.ifCond .ne 6, 3) := by decide +kernel
theorem dX7_limit_21 : decode cX7_limit 21 = .ok (.bipush (-4), 2) := by decide +kernel
theorem dX7_limit_23 : decode cX7_limit 23 = .ok (.ireturn, 1) := by decide +kernel
theorem dX7_limit_24 : decode cX7_limit 24 = .ok (.aload_n 0, 1) := by decide +kernel
theorem dX7_limit_25 : decode cX7_limit 25 = .ok (.getfield 50, 3) := by decide +kernel
theorem dX7_limit_28 : decode cX7_limit 28 = .ok (.iload_n 1, 1) := by decide +kernel
theorem dX7_limit_29 : decode cX7_limit 29 = .ok (.invokevirtual 214, 3) := by decide +kernel
theorem dX7_limit_32 : decode cX7_limit 32 = .ok (.ireturn, 1) := by decide +kernel
theorem dX7_has_0 : decode cX7_has 0 = .ok (.aload_n 0, 1) := by decide +kernel
theorem dX7_has_1 : decode cX7_has 1 = .ok (.getfield 19, 3) := by decide +kernel
theorem dX7_has_4 : decode cX7_has 4 = .ok (.iload_n 1, 1) := by decide +kernel
theorem dX7_has_5 : decode cX7_has 5 = .ok (.invokevirtual 138, 3) := by decide +kernel
theorem dX7_has_8 : decode cX7_has 8 = .ok (.ifCond .ne 6, 3) := by decide +kernel
theorem dX7_has_11 : decode cX7_has 11 = .ok (.bipush (-2), 2) := by decide +kernel
theorem dX7_has_13 : decode cX7_has 13 = .ok (.ireturn, 1) := by decide +kernel
theorem dX7_has_14 : decode cX7_has 14 = .ok (.aload_n 0, 1) := by decide +kernel
theorem dX7_has_15 : decode cX7_has 15 = .ok (.invokevirtual 176, 3) := by decide +kernel
theorem dX7_has_18 : decode cX7_has 18 = .ok (.ifCond .ne 6, 3) := by decide +kernel
theorem dX7_has_21 : decode cX7_has 21 = .ok (.bipush (-4), 2) := by decide +kernel
theorem dX7_has_23 : decode cX7_has 23 = .ok (.ireturn, 1) := by decide +kernel
theorem dX7_has_24 : decode cX7_has 24 = .ok (.aload_n 0, 1) := by decide +kernel
theorem dX7_has_25 : decode cX7_has 25 = .ok (.getfield 50, 3) := by decide +kernel
theorem dX7_has_28 : decode cX7_has 28 = .ok (.aload_n 0, 1) := by decide +kernel
theorem dX7_has_29 : decode cX7_has 29 = .ok (.getfield 26, 3) := by decide +kernel
theorem dX7_has_32 : decode cX7_has 32 = .ok (.getfield 153, 3) := by decide +kernel
theorem dX7_has_35 : decode cX7_has 35 = .ok (.iload_n 1, 1) := by decide +kernel
theorem dX7_has_36 : decode cX7_has 36 = .ok (.invokevirtual 217, 3) := by decide +kernel
theorem dX7_has_39 : decode cX7_has 39 = .ok (.ldc 213, 2) := by decide +kernel
theorem dX7_has_41 : decode cX7_has 41 = .ok (.iadd, 1) := by decide +kernel
theorem dX7_has_42 : decode cX7_has 42 = .ok (.ireturn, 1) := by decide +kernel
theorem dX7_reply_0 : decode cX7_reply 0 = .ok (.aload_n 0, 1) := by decide +kernel
theorem dX7_reply_1 : decode cX7_reply 1 = .ok (.getfield 19, 3) := by decide +kernel
theorem dX7_reply_4 : decode cX7_reply 4 = .ok (.iload_n 1, 1) := by decide +kernel
theorem dX7_reply_5 : decode cX7_reply 5 = .ok (.invokevirtual 138, 3) := by decide +kernel
theorem dX7_reply_8 : decode cX7_reply 8 = .ok (.ifCond .ne 6, 3) := by decide +kernel
theorem dX7_reply_11 : decode cX7_reply 11 = .ok (.bipush (-2), 2) := by decide +kernel
theorem dX7_reply_13 : decode cX7_reply 13 = .ok (.ireturn, 1) := by decide +kernel
theorem dX7_reply_14 : decode cX7_reply 14 = .ok (.iload_n 2, 1) := by decide +kernel
theorem dX7_reply_15 : decode cX7_reply 15 = .ok (.iconst 1, 1) := by decide +kernel
theorem dX7_reply_16 : decode cX7_reply 16 = .ok (.invokestatic 73, 3) := by decide +kernel
theorem dX7_reply_19 : decode cX7_reply 19 = .ok (.ifCond .ne 6, 3) := by decide +kernel
theorem dX7_reply_22 : decode cX7_reply 22 = .ok (.bipush (-3), 2) := by decide +kernel
theorem dX7_reply_24 : decode cX7_reply 24 = .ok (.ireturn, 1) := by decide +kernel
theorem dX7_reply_25 : decode cX7_reply 25 = .ok (.aload_n 0, 1) := by decide +kernel
theorem dX7_reply_26 : decode cX7_reply 26 = .ok (.invokevirtual 176, 3) := by decide +kernel
theorem dX7_reply_29 : decode cX7_reply 29 = .ok (.ifCond .ne 6, 3) := by decide +kernel
theorem dX7_reply_32 : decode cX7_reply 32 = .ok (.bipush (-4), 2) := by decide +kernel
theorem dX7_reply_34 : decode cX7_reply 34 = .ok (.ireturn, 1) := by decide +kernel
theorem dX7_reply_35 : decode cX7_reply 35 = .ok (.aload_n 0, 1) := by decide +kernel
theorem dX7_reply_36 : decode cX7_reply 36 = .ok (.getfield 50, 3) := by decide +kernel
theorem dX7_reply_39 : decode cX7_reply 39 = .ok (.iload_n 1, 1) := by decide +kernel
theorem dX7_reply_40 : decode cX7_reply 40 = .ok (.invokevirtual 221, 3) := by decide +kernel
theorem dX7_reply_43 : decode cX7_reply 43 = .ok (.iload_n 2, 1) := by decide +kernel
theorem dX7_reply_44 : decode cX7_reply 44 = .ok (.ifCond .ne 13, 3) := by decide +kernel
theorem dX7_reply_47 : decode cX7_reply 47 = .ok (.aload_n 0, 1) := by decide +kernel
theorem dX7_reply_48 : decode cX7_reply 48 = .ok (.getfield 50, 3) := by decide +kernel
theorem dX7_reply_51 : decode cX7_reply 51 = .ok (.getfield 224, 3) := by decide +kernel
theorem dX7_reply_54 : decode cX7_reply 54 = .ok (.goto 13, 3) := by decide +kernel
theorem dX7_reply_57 : decode cX7_reply 57 = .ok (.aload_n 0, 1) := by decide +kernel
theorem dX7_reply_58 : decode cX7_reply 58 = .ok (.getfield 50, 3) := by decide +kernel
theorem dX7_reply_61 : decode cX7_reply 61 = .ok (.getfield 227, 3) := by decide +kernel
theorem dX7_reply_64 : decode cX7_reply 64 = .ok (.ldc 213, 2) := by decide +kernel
theorem dX7_reply_66 : decode cX7_reply 66 = .ok (.iadd, 1) := by decide +kernel
theorem dX7_reply_67 : decode cX7_reply 67 = .ok (.ireturn, 1) := by decide +kernel
theorem dX7_tempted_0 : decode cX7_tempted 0 = .ok (.aload_n 0, 1) := by decide +kernel
theorem dX7_tempted_1 : decode cX7_tempted 1 = .ok (.invokevirtual 176, 3) := by decide +kernel
theorem dX7_tempted_4 : decode cX7_tempted 4 = .ok (.ifCond .eq 13, 3) := by decide +kernel
theorem dX7_tempted_7 : decode cX7_tempted 7 = .ok (.aload_n 0, 1) := by decide +kernel
theorem dX7_tempted_8 : decode cX7_tempted 8 = .ok (.getfield 50, 3) := by decide +kernel
theorem dX7_tempted_11 : decode cX7_tempted 11 = .ok (.invokevirtual 230, 3) := by decide +kernel
theorem dX7_tempted_14 : decode cX7_tempted 14 = .ok (.goto 5, 3) := by decide +kernel
theorem dX7_tempted_17 : decode cX7_tempted 17 = .ok (.bipush (-4), 2) := by decide +kernel
theorem dX7_tempted_19 : decode cX7_tempted 19 = .ok (.ireturn, 1) := by decide +kernel
theorem dX7_cartel_0 : decode cX7_cartel 0 = .ok (.iload_n 1, 1) := by decide +kernel
theorem dX7_cartel_1 : decode cX7_cartel 1 = .ok (.iconst 1, 1) := by decide +kernel
theorem dX7_cartel_2 : decode cX7_cartel 2 = .ok (.invokestatic 73, 3) := by decide +kernel
theorem dX7_cartel_5 : decode cX7_cartel 5 = .ok (.ifCond .ne 6, 3) := by decide +kernel
theorem dX7_cartel_8 : decode cX7_cartel 8 = .ok (.bipush (-3), 2) := by decide +kernel
theorem dX7_cartel_10 : decode cX7_cartel 10 = .ok (.ireturn, 1) := by decide +kernel
theorem dX7_cartel_11 : decode cX7_cartel 11 = .ok (.aload_n 0, 1) := by decide +kernel
theorem dX7_cartel_12 : decode cX7_cartel 12 = .ok (.invokevirtual 176, 3) := by decide +kernel
theorem dX7_cartel_15 : decode cX7_cartel 15 = .ok (.ifCond .ne 6, 3) := by decide +kernel
theorem dX7_cartel_18 : decode cX7_cartel 18 = .ok (.bipush (-4), 2) := by decide +kernel
theorem dX7_cartel_20 : decode cX7_cartel 20 = .ok (.ireturn, 1) := by decide +kernel
theorem dX7_cartel_21 : decode cX7_cartel 21 = .ok (.aload_n 0, 1) := by decide +kernel
theorem dX7_cartel_22 : decode cX7_cartel 22 = .ok (.getfield 50, 3) := by decide +kernel
theorem dX7_cartel_25 : decode cX7_cartel 25 = .ok (.invokevirtual 233, 3) := by decide +kernel
theorem dX7_cartel_28 : decode cX7_cartel 28 = .ok (.iload_n 1, 1) := by decide +kernel
theorem dX7_cartel_29 : decode cX7_cartel 29 = .ok (.ifCond .ne 13, 3) := by decide +kernel
theorem dX7_cartel_32 : decode cX7_cartel 32 = .ok (.aload_n 0, 1) := by decide +kernel
theorem dX7_cartel_33 : decode cX7_cartel 33 = .ok (.getfield 50, 3) := by decide +kernel
theorem dX7_cartel_36 : decode cX7_cartel 36 = .ok (.getfield 236, 3) := by decide +kernel
theorem dX7_cartel_39 : decode cX7_cartel 39 = .ok (.goto 10, 3) := by decide +kernel
theorem dX7_cartel_42 : decode cX7_cartel 42 = .ok (.aload_n 0, 1) := by decide +kernel
theorem dX7_cartel_43 : decode cX7_cartel 43 = .ok (.getfield 50, 3) := by decide +kernel
theorem dX7_cartel_46 : decode cX7_cartel 46 = .ok (.getfield 239, 3) := by decide +kernel
theorem dX7_cartel_49 : decode cX7_cartel 49 = .ok (.ireturn, 1) := by decide +kernel
theorem dX7_otherwise_0 : decode cX7_otherwise 0 = .ok (.aload_n 0, 1) := by decide +kernel
theorem dX7_otherwise_1 : decode cX7_otherwise 1 = .ok (.invokevirtual 176, 3) := by decide +kernel
theorem dX7_otherwise_4 : decode cX7_otherwise 4 = .ok (.ifCond .ne 6, 3) := by decide +kernel
theorem dX7_otherwise_7 : decode cX7_otherwise 7 = .ok (.bipush (-4), 2) := by decide +kernel
theorem dX7_otherwise_9 : decode cX7_otherwise 9 = .ok (.ireturn, 1) := by decide +kernel
theorem dX7_otherwise_10 : decode cX7_otherwise 10 = .ok (.aload_n 0, 1) := by decide +kernel
theorem dX7_otherwise_11 : decode cX7_otherwise 11 = .ok (.getfield 50, 3) := by decide +kernel
theorem dX7_otherwise_14 : decode cX7_otherwise 14 = .ok (.aload_n 0, 1) := by decide +kernel
theorem dX7_otherwise_15 : decode cX7_otherwise 15 = .ok (.getfield 26, 3) := by decide +kernel
theorem dX7_otherwise_18 : decode cX7_otherwise 18 = .ok (.getfield 153, 3) := by decide +kernel
theorem dX7_otherwise_21 : decode cX7_otherwise 21 = .ok (.invokevirtual 242, 3) := by decide +kernel
theorem dX7_otherwise_24 : decode cX7_otherwise 24 = .ok (.istore_n 1, 1) := by decide +kernel
theorem dX7_otherwise_25 : decode cX7_otherwise 25 = .ok (.iload_n 1, 1) := by decide +kernel
theorem dX7_otherwise_26 : decode cX7_otherwise 26 = .ok (.iconst (-1), 1) := by decide +kernel
theorem dX7_otherwise_27 : decode cX7_otherwise 27 = .ok (.if_icmp .ne 5, 3) := by decide +kernel
theorem dX7_otherwise_30 : decode cX7_otherwise 30 = .ok (.iconst (-1), 1) := by decide +kernel
theorem dX7_otherwise_31 : decode cX7_otherwise 31 = .ok (.ireturn, 1) := by decide +kernel
theorem dX7_otherwise_32 : decode cX7_otherwise 32 = .ok (.aload_n 0, 1) := by decide +kernel
theorem dX7_otherwise_33 : decode cX7_otherwise 33 = .ok (.getfield 50, 3) := by decide +kernel
theorem dX7_otherwise_36 : decode cX7_otherwise 36 = .ok (.aload_n 0, 1) := by decide +kernel
theorem dX7_otherwise_37 : decode cX7_otherwise 37 = .ok (.getfield 26, 3) := by decide +kernel
theorem dX7_otherwise_40 : decode cX7_otherwise 40 = .ok (.getfield 153, 3) := by decide +kernel
theorem dX7_otherwise_43 : decode cX7_otherwise 43 = .ok (.iload_n 1, 1) := by decide +kernel
theorem dX7_otherwise_44 : decode cX7_otherwise 44 = .ok (.aload_n 0, 1) := by decide +kernel
theorem dX7_otherwise_45 : decode cX7_otherwise 45 = .ok (.getfield 19, 3) := by decide +kernel
theorem dX7_otherwise_48 : decode cX7_otherwise 48 = .ok (.getfield 246, 3) := by decide +kernel
theorem dX7_otherwise_51 : decode cX7_otherwise 51 = .ok (.ifCond .ne 7, 3) := by decide +kernel
theorem dX7_otherwise_54 : decode cX7_otherwise 54 = .ok (.iconst 1, 1) := by decide +kernel
theorem dX7_otherwise_55 : decode cX7_otherwise 55 = .ok (.goto 4, 3) := by decide +kernel
theorem dX7_otherwise_58 : decode cX7_otherwise 58 = .ok (.iconst 0, 1) := by decide +kernel
theorem dX7_otherwise_59 : decode cX7_otherwise 59 = .ok (.invokevirtual 249, 3) := by decide +kernel
theorem dX7_otherwise_62 : decode cX7_otherwise 62 = .ok (.ireturn, 1) := by decide +kernel
theorem dX7_season_0 : decode cX7_season 0 = .ok (.aload_n 0, 1) := by decide +kernel
theorem dX7_season_1 : decode cX7_season 1 = .ok (.getfield 19, 3) := by decide +kernel
theorem dX7_season_4 : decode cX7_season 4 = .ok (.iload_n 1, 1) := by decide +kernel
theorem dX7_season_5 : decode cX7_season 5 = .ok (.invokevirtual 138, 3) := by decide +kernel
theorem dX7_season_8 : decode cX7_season 8 = .ok (.ifCond .ne 6, 3) := by decide +kernel
theorem dX7_season_11 : decode cX7_season 11 = .ok (.bipush (-2), 2) := by decide +kernel
theorem dX7_season_13 : decode cX7_season 13 = .ok (.ireturn, 1) := by decide +kernel
theorem dX7_season_14 : decode cX7_season 14 = .ok (.iload_n 2, 1) := by decide +kernel
theorem dX7_season_15 : decode cX7_season 15 = .ok (.iconst 1, 1) := by decide +kernel
theorem dX7_season_16 : decode cX7_season 16 = .ok (.invokestatic 73, 3) := by decide +kernel
theorem dX7_season_19 : decode cX7_season 19 = .ok (.ifCond .ne 6, 3) := by decide +kernel
theorem dX7_season_22 : decode cX7_season 22 = .ok (.bipush (-3), 2) := by decide +kernel
theorem dX7_season_24 : decode cX7_season 24 = .ok (.ireturn, 1) := by decide +kernel
theorem dX7_season_25 : decode cX7_season 25 = .ok (.aload_n 0, 1) := by decide +kernel
theorem dX7_season_26 : decode cX7_season 26 = .ok (.getfield 57, 3) := by decide +kernel
theorem dX7_season_29 : decode cX7_season 29 = .ok (.iload_n 1, 1) := by decide +kernel
theorem dX7_season_30 : decode cX7_season 30 = .ok (.invokevirtual 253, 3) := by decide +kernel
theorem dX7_season_33 : decode cX7_season 33 = .ok (.iload_n 2, 1) := by decide +kernel
theorem dX7_season_34 : decode cX7_season 34 = .ok (.ifCond .ne 13, 3) := by decide +kernel
theorem dX7_season_37 : decode cX7_season 37 = .ok (.aload_n 0, 1) := by decide +kernel
theorem dX7_season_38 : decode cX7_season 38 = .ok (.getfield 57, 3) := by decide +kernel
theorem dX7_season_41 : decode cX7_season 41 = .ok (.getfield 256, 3) := by decide +kernel
theorem dX7_season_44 : decode cX7_season 44 = .ok (.goto 10, 3) := by decide +kernel
theorem dX7_season_47 : decode cX7_season 47 = .ok (.aload_n 0, 1) := by decide +kernel
theorem dX7_season_48 : decode cX7_season 48 = .ok (.getfield 57, 3) := by decide +kernel
theorem dX7_season_51 : decode cX7_season 51 = .ok (.getfield 259, 3) := by decide +kernel
theorem dX7_season_54 : decode cX7_season 54 = .ok (.ireturn, 1) := by decide +kernel
theorem dX7_bright_0 : decode cX7_bright 0 = .ok (.iload_n 1, 1) := by decide +kernel
theorem dX7_bright_1 : decode cX7_bright 1 = .ok (.bipush 7, 2) := by decide +kernel
theorem dX7_bright_3 : decode cX7_bright 3 = .ok (.invokestatic 73, 3) := by decide +kernel
theorem dX7_bright_6 : decode cX7_bright 6 = .ok (.ifCond .eq 11, 3) := by decide +kernel
theorem dX7_bright_9 : decode cX7_bright 9 = .ok (.iload_n 2, 1) := by decide +kernel
theorem dX7_bright_10 : decode cX7_bright 10 = .ok (.iconst 1, 1) := by decide +kernel
theorem dX7_bright_11 : decode cX7_bright 11 = .ok (.invokestatic 73, 3) := by decide +kernel
theorem dX7_bright_14 : decode cX7_bright 14 = .ok (.ifCond .ne 6, 3) := by decide +kernel
theorem dX7_bright_17 : decode cX7_bright 17 = .ok (.bipush (-3), 2) := by decide +kernel
theorem dX7_bright_19 : decode cX7_bright 19 = .ok (.ireturn, 1) := by decide +kernel
theorem dX7_bright_20 : decode cX7_bright 20 = .ok (.aload_n 0, 1) := by decide +kernel
theorem dX7_bright_21 : decode cX7_bright 21 = .ok (.getfield 57, 3) := by decide +kernel
theorem dX7_bright_24 : decode cX7_bright 24 = .ok (.iload_n 1, 1) := by decide +kernel
theorem dX7_bright_25 : decode cX7_bright 25 = .ok (.invokevirtual 262, 3) := by decide +kernel
theorem dX7_bright_28 : decode cX7_bright 28 = .ok (.iload_n 2, 1) := by decide +kernel
theorem dX7_bright_29 : decode cX7_bright 29 = .ok (.ifCond .ne 13, 3) := by decide +kernel
theorem dX7_bright_32 : decode cX7_bright 32 = .ok (.aload_n 0, 1) := by decide +kernel
theorem dX7_bright_33 : decode cX7_bright 33 = .ok (.getfield 57, 3) := by decide +kernel
theorem dX7_bright_36 : decode cX7_bright 36 = .ok (.getfield 265, 3) := by decide +kernel
theorem dX7_bright_39 : decode cX7_bright 39 = .ok (.goto 10, 3) := by decide +kernel
theorem dX7_bright_42 : decode cX7_bright 42 = .ok (.aload_n 0, 1) := by decide +kernel
theorem dX7_bright_43 : decode cX7_bright 43 = .ok (.getfield 57, 3) := by decide +kernel
theorem dX7_bright_46 : decode cX7_bright 46 = .ok (.getfield 268, 3) := by decide +kernel
theorem dX7_bright_49 : decode cX7_bright 49 = .ok (.ireturn, 1) := by decide +kernel
theorem dX7_score_0 : decode cX7_score 0 = .ok (.iload_n 1, 1) := by decide +kernel
theorem dX7_score_1 : decode cX7_score 1 = .ok (.invokestatic 191, 3) := by decide +kernel
theorem dX7_score_4 : decode cX7_score 4 = .ok (.ifCond .eq 14, 3) := by decide +kernel
theorem dX7_score_7 : decode cX7_score 7 = .ok (.aload_n 0, 1) := by decide +kernel
theorem dX7_score_8 : decode cX7_score 8 = .ok (.getfield 26, 3) := by decide +kernel
theorem dX7_score_11 : decode cX7_score 11 = .ok (.iload_n 1, 1) := by decide +kernel
theorem dX7_score_12 : decode cX7_score 12 = .ok (.invokevirtual 271, 3) := by decide +kernel
theorem dX7_score_15 : decode cX7_score 15 = .ok (.goto 5, 3) := by decide +kernel
theorem dX7_score_18 : decode cX7_score 18 = .ok (.bipush (-2), 2) := by decide +kernel
theorem dX7_score_20 : decode cX7_score 20 = .ok (.ireturn, 1) := by decide +kernel
theorem dX7_best_0 : decode cX7_best 0 = .ok (.aload_n 0, 1) := by decide +kernel
theorem dX7_best_1 : decode cX7_best 1 = .ok (.getfield 26, 3) := by decide +kernel
theorem dX7_best_4 : decode cX7_best 4 = .ok (.getfield 194, 3) := by decide +kernel
theorem dX7_best_7 : decode cX7_best 7 = .ok (.ifCond .ne 5, 3) := by decide +kernel
theorem dX7_best_10 : decode cX7_best 10 = .ok (.iconst (-1), 1) := by decide +kernel
theorem dX7_best_11 : decode cX7_best 11 = .ok (.ireturn, 1) := by decide +kernel
theorem dX7_best_12 : decode cX7_best 12 = .ok (.iconst 0, 1) := by decide +kernel
theorem dX7_best_13 : decode cX7_best 13 = .ok (.istore_n 1, 1) := by decide +kernel
theorem dX7_best_14 : decode cX7_best 14 = .ok (.iconst 1, 1) := by decide +kernel
theorem dX7_best_15 : decode cX7_best 15 = .ok (.istore_n 2, 1) := by decide +kernel
theorem dX7_best_16 : decode cX7_best 16 = .ok (.iload_n 2, 1) := by decide +kernel
theorem dX7_best_17 : decode cX7_best 17 = .ok (.iconst 3, 1) := by decide +kernel
theorem dX7_best_18 : decode cX7_best 18 = .ok (.if_icmp .ge 30, 3) := by decide +kernel
theorem dX7_best_21 : decode cX7_best 21 = .ok (.aload_n 0, 1) := by decide +kernel
theorem dX7_best_22 : decode cX7_best 22 = .ok (.getfield 26, 3) := by decide +kernel
theorem dX7_best_25 : decode cX7_best 25 = .ok (.iload_n 2, 1) := by decide +kernel
theorem dX7_best_26 : decode cX7_best 26 = .ok (.invokevirtual 271, 3) := by decide +kernel
theorem dX7_best_29 : decode cX7_best 29 = .ok (.aload_n 0, 1) := by decide +kernel
theorem dX7_best_30 : decode cX7_best 30 = .ok (.getfield 26, 3) := by decide +kernel
theorem dX7_best_33 : decode cX7_best 33 = .ok (.iload_n 1, 1) := by decide +kernel
theorem dX7_best_34 : decode cX7_best 34 = .ok (.invokevirtual 271, 3) := by decide +kernel
theorem dX7_best_37 : decode cX7_best 37 = .ok (.if_icmp .ge 5, 3) := by decide +kernel
theorem dX7_best_40 : decode cX7_best 40 = .ok (.iload_n 2, 1) := by decide +kernel
theorem dX7_best_41 : decode cX7_best 41 = .ok (.istore_n 1, 1) := by decide +kernel
theorem dX7_best_42 : decode cX7_best 42 = .ok (.iinc 2 1, 3) := by decide +kernel
theorem dX7_best_45 : decode cX7_best 45 = .ok (.goto (-29), 3) := by decide +kernel
theorem dX7_best_48 : decode cX7_best 48 = .ok (.iload_n 1, 1) := by decide +kernel
theorem dX7_best_49 : decode cX7_best 49 = .ok (.ireturn, 1) := by decide +kernel
theorem dX7_seen_0 : decode cX7_seen 0 = .ok (.aload_n 0, 1) := by decide +kernel
theorem dX7_seen_1 : decode cX7_seen 1 = .ok (.getfield 19, 3) := by decide +kernel
theorem dX7_seen_4 : decode cX7_seen 4 = .ok (.iload_n 1, 1) := by decide +kernel
theorem dX7_seen_5 : decode cX7_seen 5 = .ok (.invokevirtual 138, 3) := by decide +kernel
theorem dX7_seen_8 : decode cX7_seen 8 = .ok (.ifCond .ne 6, 3) := by decide +kernel
theorem dX7_seen_11 : decode cX7_seen 11 = .ok (.bipush (-2), 2) := by decide +kernel
theorem dX7_seen_13 : decode cX7_seen 13 = .ok (.ireturn, 1) := by decide +kernel
theorem dX7_seen_14 : decode cX7_seen 14 = .ok (.iload_n 2, 1) := by decide +kernel
theorem dX7_seen_15 : decode cX7_seen 15 = .ok (.iconst 1, 1) := by decide +kernel
theorem dX7_seen_16 : decode cX7_seen 16 = .ok (.invokestatic 73, 3) := by decide +kernel
theorem dX7_seen_19 : decode cX7_seen 19 = .ok (.ifCond .ne 6, 3) := by decide +kernel
theorem dX7_seen_22 : decode cX7_seen 22 = .ok (.bipush (-3), 2) := by decide +kernel
theorem dX7_seen_24 : decode cX7_seen 24 = .ok (.ireturn, 1) := by decide +kernel
theorem dX7_seen_25 : decode cX7_seen 25 = .ok (.aload_n 0, 1) := by decide +kernel
theorem dX7_seen_26 : decode cX7_seen 26 = .ok (.getfield 66, 3) := by decide +kernel
theorem dX7_seen_29 : decode cX7_seen 29 = .ok (.getfield 112, 3) := by decide +kernel
theorem dX7_seen_32 : decode cX7_seen 32 = .ok (.bipush 6, 2) := by decide +kernel
theorem dX7_seen_34 : decode cX7_seen 34 = .ok (.if_icmp .lt 6, 3) := by decide +kernel
theorem dX7_seen_37 : decode cX7_seen 37 = .ok (.bipush (-5), 2) := by decide +kernel
theorem dX7_seen_39 : decode cX7_seen 39 = .ok (.ireturn, 1) := by decide +kernel
theorem dX7_seen_40 : decode cX7_seen 40 = .ok (.aload_n 0, 1) := by decide +kernel
theorem dX7_seen_41 : decode cX7_seen 41 = .ok (.getfield 66, 3) := by decide +kernel
theorem dX7_seen_44 : decode cX7_seen 44 = .ok (.iload_n 1, 1) := by decide +kernel
theorem dX7_seen_45 : decode cX7_seen 45 = .ok (.iload_n 2, 1) := by decide +kernel
theorem dX7_seen_46 : decode cX7_seen 46 = .ok (.invokevirtual 274, 3) := by decide +kernel
theorem dX7_seen_49 : decode cX7_seen 49 = .ok (.aload_n 0, 1) := by decide +kernel
theorem dX7_seen_50 : decode cX7_seen 50 = .ok (.getfield 66, 3) := by decide +kernel
theorem dX7_seen_53 : decode cX7_seen 53 = .ok (.getfield 112, 3) := by decide +kernel
theorem dX7_seen_56 : decode cX7_seen 56 = .ok (.ireturn, 1) := by decide +kernel
theorem dX7_forget_0 : decode cX7_forget 0 = .ok (.aload_n 0, 1) := by decide +kernel
theorem dX7_forget_1 : decode cX7_forget 1 = .ok (.getfield 66, 3) := by decide +kernel
theorem dX7_forget_4 : decode cX7_forget 4 = .ok (.getfield 112, 3) := by decide +kernel
theorem dX7_forget_7 : decode cX7_forget 7 = .ok (.istore_n 1, 1) := by decide +kernel
theorem dX7_forget_8 : decode cX7_forget 8 = .ok (.aload_n 0, 1) := by decide +kernel
theorem dX7_forget_9 : decode cX7_forget 9 = .ok (.getfield 66, 3) := by decide +kernel
theorem dX7_forget_12 : decode cX7_forget 12 = .ok (.iconst 0, 1) := by decide +kernel
theorem dX7_forget_13 : decode cX7_forget 13 = .ok (.putfield 112, 3) := by decide +kernel
theorem dX7_forget_16 : decode cX7_forget 16 = .ok (.iload_n 1, 1) := by decide +kernel
theorem dX7_forget_17 : decode cX7_forget 17 = .ok (.ireturn, 1) := by decide +kernel
theorem dX7_buyers_0 : decode cX7_buyers 0 = .ok (.aload_n 0, 1) := by decide +kernel
theorem dX7_buyers_1 : decode cX7_buyers 1 = .ok (.getfield 66, 3) := by decide +kernel
theorem dX7_buyers_4 : decode cX7_buyers 4 = .ok (.invokevirtual 277, 3) := by decide +kernel
theorem dX7_buyers_7 : decode cX7_buyers 7 = .ok (.ireturn, 1) := by decide +kernel
theorem dX7_count_0 : decode cX7_count 0 = .ok (.iload_n 1, 1) := by decide +kernel
theorem dX7_count_1 : decode cX7_count 1 = .ok (.tableswitch 159 0 11 #[63, 71, 79, 87, 95, 103, 111, 119, 127, 135, 143, 151], 63) := by decide +kernel
theorem dX7_count_64 : decode cX7_count 64 = .ok (.aload_n 0, 1) := by decide +kernel
theorem dX7_count_65 : decode cX7_count 65 = .ok (.getfield 19, 3) := by decide +kernel
theorem dX7_count_68 : decode cX7_count 68 = .ok (.getfield 85, 3) := by decide +kernel
theorem dX7_count_71 : decode cX7_count 71 = .ok (.ireturn, 1) := by decide +kernel
theorem dX7_count_72 : decode cX7_count 72 = .ok (.aload_n 0, 1) := by decide +kernel
theorem dX7_count_73 : decode cX7_count 73 = .ok (.getfield 19, 3) := by decide +kernel
theorem dX7_count_76 : decode cX7_count 76 = .ok (.getfield 88, 3) := by decide +kernel
theorem dX7_count_79 : decode cX7_count 79 = .ok (.ireturn, 1) := by decide +kernel
theorem dX7_count_80 : decode cX7_count 80 = .ok (.aload_n 0, 1) := by decide +kernel
theorem dX7_count_81 : decode cX7_count 81 = .ok (.getfield 26, 3) := by decide +kernel
theorem dX7_count_84 : decode cX7_count 84 = .ok (.getfield 194, 3) := by decide +kernel
theorem dX7_count_87 : decode cX7_count 87 = .ok (.ireturn, 1) := by decide +kernel
theorem dX7_count_88 : decode cX7_count 88 = .ok (.aload_n 0, 1) := by decide +kernel
theorem dX7_count_89 : decode cX7_count 89 = .ok (.getfield 19, 3) := by decide +kernel
theorem dX7_count_92 : decode cX7_count 92 = .ok (.getfield 246, 3) := by decide +kernel
theorem dX7_count_95 : decode cX7_count 95 = .ok (.ireturn, 1) := by decide +kernel
theorem dX7_count_96 : decode cX7_count 96 = .ok (.aload_n 0, 1) := by decide +kernel
theorem dX7_count_97 : decode cX7_count 97 = .ok (.getfield 19, 3) := by decide +kernel
theorem dX7_count_100 : decode cX7_count 100 = .ok (.getfield 280, 3) := by decide +kernel
theorem dX7_count_103 : decode cX7_count 103 = .ok (.ireturn, 1) := by decide +kernel
theorem dX7_count_104 : decode cX7_count 104 = .ok (.aload_n 0, 1) := by decide +kernel
theorem dX7_count_105 : decode cX7_count 105 = .ok (.getfield 19, 3) := by decide +kernel
theorem dX7_count_108 : decode cX7_count 108 = .ok (.getfield 283, 3) := by decide +kernel
theorem dX7_count_111 : decode cX7_count 111 = .ok (.ireturn, 1) := by decide +kernel
theorem dX7_count_112 : decode cX7_count 112 = .ok (.aload_n 0, 1) := by decide +kernel
theorem dX7_count_113 : decode cX7_count 113 = .ok (.getfield 26, 3) := by decide +kernel
theorem dX7_count_116 : decode cX7_count 116 = .ok (.invokevirtual 184, 3) := by decide +kernel
theorem dX7_count_119 : decode cX7_count 119 = .ok (.ireturn, 1) := by decide +kernel
theorem dX7_count_120 : decode cX7_count 120 = .ok (.aload_n 0, 1) := by decide +kernel
theorem dX7_count_121 : decode cX7_count 121 = .ok (.getfield 26, 3) := by decide +kernel
theorem dX7_count_124 : decode cX7_count 124 = .ok (.getfield 286, 3) := by decide +kernel
theorem dX7_count_127 : decode cX7_count 127 = .ok (.ireturn, 1) := by decide +kernel
theorem dX7_count_128 : decode cX7_count 128 = .ok (.aload_n 0, 1) := by decide +kernel
theorem dX7_count_129 : decode cX7_count 129 = .ok (.getfield 26, 3) := by decide +kernel
theorem dX7_count_132 : decode cX7_count 132 = .ok (.invokevirtual 289, 3) := by decide +kernel
theorem dX7_count_135 : decode cX7_count 135 = .ok (.ireturn, 1) := by decide +kernel
theorem dX7_count_136 : decode cX7_count 136 = .ok (.aload_n 0, 1) := by decide +kernel
theorem dX7_count_137 : decode cX7_count 137 = .ok (.getfield 66, 3) := by decide +kernel
theorem dX7_count_140 : decode cX7_count 140 = .ok (.getfield 112, 3) := by decide +kernel
theorem dX7_count_143 : decode cX7_count 143 = .ok (.ireturn, 1) := by decide +kernel
theorem dX7_count_144 : decode cX7_count 144 = .ok (.aload_n 0, 1) := by decide +kernel
theorem dX7_count_145 : decode cX7_count 145 = .ok (.getfield 33, 3) := by decide +kernel
theorem dX7_count_148 : decode cX7_count 148 = .ok (.getfield 115, 3) := by decide +kernel
theorem dX7_count_151 : decode cX7_count 151 = .ok (.ireturn, 1) := by decide +kernel
theorem dX7_count_152 : decode cX7_count 152 = .ok (.aload_n 0, 1) := by decide +kernel
theorem dX7_count_153 : decode cX7_count 153 = .ok (.getfield 10, 3) := by decide +kernel
theorem dX7_count_156 : decode cX7_count 156 = .ok (.getfield 77, 3) := by decide +kernel
theorem dX7_count_159 : decode cX7_count 159 = .ok (.ireturn, 1) := by decide +kernel
theorem dX7_count_160 : decode cX7_count 160 = .ok (.bipush (-3), 2) := by decide +kernel
theorem dX7_count_162 : decode cX7_count 162 = .ok (.ireturn, 1) := by decide +kernel
theorem dX7_isTonight_0 : decode cX7_isTonight 0 = .ok (.aload_n 0, 1) := by decide +kernel
theorem dX7_isTonight_1 : decode cX7_isTonight 1 = .ok (.getfield 19, 3) := by decide +kernel
theorem dX7_isTonight_4 : decode cX7_isTonight 4 = .ok (.aload_n 0, 1) := by decide +kernel
theorem dX7_isTonight_5 : decode cX7_isTonight 5 = .ok (.getfield 26, 3) := by decide +kernel
theorem dX7_isTonight_8 : decode cX7_isTonight 8 = .ok (.getfield 194, 3) := by decide +kernel
theorem dX7_isTonight_11 : decode cX7_isTonight 11 = .ok (.invokevirtual 116, 3) := by decide +kernel
theorem dX7_isTonight_14 : decode cX7_isTonight 14 = .ok (.ireturn, 1) := by decide +kernel
theorem dX7_isTeller_0 : decode cX7_isTeller 0 = .ok (.iload_n 0, 1) := by decide +kernel
theorem dX7_isTeller_1 : decode cX7_isTeller 1 = .ok (.iconst 2, 1) := by decide +kernel
theorem dX7_isTeller_2 : decode cX7_isTeller 2 = .ok (.invokestatic 73, 3) := by decide +kernel
theorem dX7_isTeller_5 : decode cX7_isTeller 5 = .ok (.ireturn, 1) := by decide +kernel
theorem dX7_isWithin_0 : decode cX7_isWithin 0 = .ok (.iload_n 0, 1) := by decide +kernel
theorem dX7_isWithin_1 : decode cX7_isWithin 1 = .ok (.ifCond .lt 12, 3) := by decide +kernel
theorem dX7_isWithin_4 : decode cX7_isWithin 4 = .ok (.iload_n 0, 1) := by decide +kernel
theorem dX7_isWithin_5 : decode cX7_isWithin 5 = .ok (.iload_n 1, 1) := by decide +kernel
theorem dX7_isWithin_6 : decode cX7_isWithin 6 = .ok (.if_icmp .gt 7, 3) := by decide +kernel
theorem dX7_isWithin_9 : decode cX7_isWithin 9 = .ok (.iconst 1, 1) := by decide +kernel
theorem dX7_isWithin_10 : decode cX7_isWithin 10 = .ok (.goto 4, 3) := by decide +kernel
theorem dX7_isWithin_13 : decode cX7_isWithin 13 = .ok (.iconst 0, 1) := by decide +kernel
theorem dX7_isWithin_14 : decode cX7_isWithin 14 = .ok (.ireturn, 1) := by decide +kernel
theorem dX7_sayingPlace_0 : decode cX7_sayingPlace 0 = .ok (.iload_n 0, 1) := by decide +kernel
theorem dX7_sayingPlace_1 : decode cX7_sayingPlace 1 = .ok (.bipush 7, 2) := by decide +kernel
theorem dX7_sayingPlace_3 : decode cX7_sayingPlace 3 = .ok (.imul, 1) := by decide +kernel
theorem dX7_sayingPlace_4 : decode cX7_sayingPlace 4 = .ok (.iload_n 1, 1) := by decide +kernel
theorem dX7_sayingPlace_5 : decode cX7_sayingPlace 5 = .ok (.iadd, 1) := by decide +kernel
theorem dX7_sayingPlace_6 : decode cX7_sayingPlace 6 = .ok (.ireturn, 1) := by decide +kernel
theorem dX7_isUnder_0 : decode cX7_isUnder 0 = .ok (.iload_n 0, 1) := by decide +kernel
theorem dX7_isUnder_1 : decode cX7_isUnder 1 = .ok (.istore_n 3, 1) := by decide +kernel
theorem dX7_isUnder_2 : decode cX7_isUnder 2 = .ok (.iconst 0, 1) := by decide +kernel
theorem dX7_isUnder_3 : decode cX7_isUnder 3 = .ok (.istore 4, 2) := by decide +kernel
theorem dX7_isUnder_5 : decode cX7_isUnder 5 = .ok (.iload 4, 2) := by decide +kernel
theorem dX7_isUnder_7 : decode cX7_isUnder 7 = .ok (.aload_n 2, 1) := by decide +kernel
theorem dX7_isUnder_8 : decode cX7_isUnder 8 = .ok (.arraylength, 1) := by decide +kernel
theorem dX7_isUnder_9 : decode cX7_isUnder 9 = .ok (.if_icmp .ge 31, 3) := by decide +kernel
theorem dX7_isUnder_12 : decode cX7_isUnder 12 = .ok (.iload_n 3, 1) := by decide +kernel
theorem dX7_isUnder_13 : decode cX7_isUnder 13 = .ok (.aload_n 2, 1) := by decide +kernel
theorem dX7_isUnder_14 : decode cX7_isUnder 14 = .ok (.arraylength, 1) := by decide +kernel
theorem dX7_isUnder_15 : decode cX7_isUnder 15 = .ok (.iconst 1, 1) := by decide +kernel
theorem dX7_isUnder_16 : decode cX7_isUnder 16 = .ok (.isub, 1) := by decide +kernel
theorem dX7_isUnder_17 : decode cX7_isUnder 17 = .ok (.invokestatic 73, 3) := by decide +kernel
theorem dX7_isUnder_20 : decode cX7_isUnder 20 = .ok (.ifCond .eq 20, 3) := by decide +kernel
theorem dX7_isUnder_23 : decode cX7_isUnder 23 = .ok (.iload_n 3, 1) := by decide +kernel
theorem dX7_isUnder_24 : decode cX7_isUnder 24 = .ok (.iload_n 1, 1) := by decide +kernel
theorem dX7_isUnder_25 : decode cX7_isUnder 25 = .ok (.if_icmp .ne 5, 3) := by decide +kernel
theorem dX7_isUnder_28 : decode cX7_isUnder 28 = .ok (.iconst 1, 1) := by decide +kernel
theorem dX7_isUnder_29 : decode cX7_isUnder 29 = .ok (.ireturn, 1) := by decide +kernel
theorem dX7_isUnder_30 : decode cX7_isUnder 30 = .ok (.aload_n 2, 1) := by decide +kernel
theorem dX7_isUnder_31 : decode cX7_isUnder 31 = .ok (.iload_n 3, 1) := by decide +kernel
theorem dX7_isUnder_32 : decode cX7_isUnder 32 = .ok (.iaload, 1) := by decide +kernel
theorem dX7_isUnder_33 : decode cX7_isUnder 33 = .ok (.istore_n 3, 1) := by decide +kernel
theorem dX7_isUnder_34 : decode cX7_isUnder 34 = .ok (.iinc 4 1, 3) := by decide +kernel
theorem dX7_isUnder_37 : decode cX7_isUnder 37 = .ok (.goto (-32), 3) := by decide +kernel
theorem dX7_isUnder_40 : decode cX7_isUnder 40 = .ok (.iconst 0, 1) := by decide +kernel
theorem dX7_isUnder_41 : decode cX7_isUnder 41 = .ok (.ireturn, 1) := by decide +kernel
theorem dX7_isEveningWord_0 : decode cX7_isEveningWord 0 = .ok (.iload_n 0, 1) := by decide +kernel
theorem dX7_isEveningWord_1 : decode cX7_isEveningWord 1 = .ok (.iconst 1, 1) := by decide +kernel
theorem dX7_isEveningWord_2 : decode cX7_isEveningWord 2 = .ok (.if_icmp .lt 12, 3) := by decide +kernel
theorem dX7_isEveningWord_5 : decode cX7_isEveningWord 5 = .ok (.iload_n 0, 1) := by decide +kernel
theorem dX7_isEveningWord_6 : decode cX7_isEveningWord 6 = .ok (.iconst 3, 1) := by decide +kernel
theorem dX7_isEveningWord_7 : decode cX7_isEveningWord 7 = .ok (.if_icmp .gt 7, 3) := by decide +kernel
theorem dX7_isEveningWord_10 : decode cX7_isEveningWord 10 = .ok (.iconst 1, 1) := by decide +kernel
theorem dX7_isEveningWord_11 : decode cX7_isEveningWord 11 = .ok (.goto 4, 3) := by decide +kernel
theorem dX7_isEveningWord_14 : decode cX7_isEveningWord 14 = .ok (.iconst 0, 1) := by decide +kernel
theorem dX7_isEveningWord_15 : decode cX7_isEveningWord 15 = .ok (.ireturn, 1) := by decide +kernel
theorem dX7_isBidderWord_0 : decode cX7_isBidderWord 0 = .ok (.iload_n 0, 1) := by decide +kernel
theorem dX7_isBidderWord_1 : decode cX7_isBidderWord 1 = .ok (.iconst 4, 1) := by decide +kernel
theorem dX7_isBidderWord_2 : decode cX7_isBidderWord 2 = .ok (.if_icmp .lt 13, 3) := by decide +kernel
theorem dX7_isBidderWord_5 : decode cX7_isBidderWord 5 = .ok (.iload_n 0, 1) := by decide +kernel
theorem dX7_isBidderWord_6 : decode cX7_isBidderWord 6 = .ok (.bipush 7, 2) := by decide +kernel
theorem dX7_isBidderWord_8 : decode cX7_isBidderWord 8 = .ok (.if_icmp .gt 7, 3) := by decide +kernel
theorem dX7_isBidderWord_11 : decode cX7_isBidderWord 11 = .ok (.iconst 1, 1) := by decide +kernel
theorem dX7_isBidderWord_12 : decode cX7_isBidderWord 12 = .ok (.goto 4, 3) := by decide +kernel
theorem dX7_isBidderWord_15 : decode cX7_isBidderWord 15 = .ok (.iconst 0, 1) := by decide +kernel
theorem dX7_isBidderWord_16 : decode cX7_isBidderWord 16 = .ok (.ireturn, 1) := by decide +kernel
