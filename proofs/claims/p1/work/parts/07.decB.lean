theorem dX7_point_19 : decode cX7_point 19 = .ok (.invokevirtual 148, 3) := by decide +kernel
theorem dX7_point_22 : decode cX7_point 22 = .ok (.iconst 1, 1) := by decide +kernel
theorem dX7_point_23 : decode cX7_point 23 = .ok (.iadd, 1) := by decide +kernel
theorem dX7_point_24 : decode cX7_point 24 = .ok (.ldc 152, 2) := by decide +kernel
theorem dX7_point_26 : decode cX7_point 26 = .ok (.invokestatic 75, 3) := by decide +kernel
theorem dX7_point_29 : decode cX7_point 29 = .ok (.ifCond .ne 6, 3) := by decide +kernel
theorem dX7_point_32 : decode cX7_point 32 = .ok (.bipush (-2), 2) := by decide +kernel
theorem dX7_point_34 : decode cX7_point 34 = .ok (.ireturn, 1) := by decide +kernel
theorem dX7_point_35 : decode cX7_point 35 = .ok (.iload_n 3, 1) := by decide +kernel
theorem dX7_point_36 : decode cX7_point 36 = .ok (.invokestatic 79, 3) := by decide +kernel
theorem dX7_point_39 : decode cX7_point 39 = .ok (.ifCond .eq 17, 3) := by decide +kernel
theorem dX7_point_42 : decode cX7_point 42 = .ok (.iload 4, 2) := by decide +kernel
theorem dX7_point_44 : decode cX7_point 44 = .ok (.invokestatic 79, 3) := by decide +kernel
theorem dX7_point_47 : decode cX7_point 47 = .ok (.ifCond .eq 9, 3) := by decide +kernel
theorem dX7_point_50 : decode cX7_point 50 = .ok (.iload_n 3, 1) := by decide +kernel
theorem dX7_point_51 : decode cX7_point 51 = .ok (.iload 4, 2) := by decide +kernel
theorem dX7_point_53 : decode cX7_point 53 = .ok (.if_icmp .le 6, 3) := by decide +kernel
theorem dX7_point_56 : decode cX7_point 56 = .ok (.bipush (-2), 2) := by decide +kernel
theorem dX7_point_58 : decode cX7_point 58 = .ok (.ireturn, 1) := by decide +kernel
theorem dX7_point_59 : decode cX7_point 59 = .ok (.aload 5, 2) := by decide +kernel
theorem dX7_point_61 : decode cX7_point 61 = .ok (.iload_n 2, 1) := by decide +kernel
theorem dX7_point_62 : decode cX7_point 62 = .ok (.iload_n 3, 1) := by decide +kernel
theorem dX7_point_63 : decode cX7_point 63 = .ok (.iload 4, 2) := by decide +kernel
theorem dX7_point_65 : decode cX7_point 65 = .ok (.invokevirtual 153, 3) := by decide +kernel
theorem dX7_point_68 : decode cX7_point 68 = .ok (.ireturn, 1) := by decide +kernel
theorem dX8_point_0 : decode cX8_point 0 = .ok (.iload_n 1, 1) := by decide +kernel
theorem dX8_point_1 : decode cX8_point 1 = .ok (.iconst 0, 1) := by decide +kernel
theorem dX8_point_2 : decode cX8_point 2 = .ok (.iconst 1, 1) := by decide +kernel
theorem dX8_point_3 : decode cX8_point 3 = .ok (.invokestatic 95, 3) := by decide +kernel
theorem dX8_point_6 : decode cX8_point 6 = .ok (.ifCond .ne 5, 3) := by decide +kernel
theorem dX8_point_9 : decode cX8_point 9 = .ok (.iconst (-1), 1) := by decide +kernel
theorem dX8_point_10 : decode cX8_point 10 = .ok (.ireturn, 1) := by decide +kernel
theorem dX8_point_11 : decode cX8_point 11 = .ok (.aload_n 0, 1) := by decide +kernel
theorem dX8_point_12 : decode cX8_point 12 = .ok (.getfield 73, 3) := by decide +kernel
theorem dX8_point_15 : decode cX8_point 15 = .ok (.iload_n 1, 1) := by decide +kernel
theorem dX8_point_16 : decode cX8_point 16 = .ok (.iaload, 1) := by decide +kernel
theorem dX8_point_17 : decode cX8_point 17 = .ok (.istore 5, 2) := by decide +kernel
theorem dX8_point_19 : decode cX8_point 19 = .ok (.iload_n 2, 1) := by decide +kernel
theorem dX8_point_20 : decode cX8_point 20 = .ok (.iconst 1, 1) := by decide +kernel
theorem dX8_point_21 : decode cX8_point 21 = .ok (.ldc 122, 2) := by decide +kernel
theorem dX8_point_23 : decode cX8_point 23 = .ok (.invokestatic 95, 3) := by decide +kernel
theorem dX8_point_26 : decode cX8_point 26 = .ok (.ifCond .eq 47, 3) := by decide +kernel
theorem dX8_point_29 : decode cX8_point 29 = .ok (.iload 5, 2) := by decide +kernel
theorem dX8_point_31 : decode cX8_point 31 = .ok (.ifCond .le 21, 3) := by decide +kernel
theorem dX8_point_52 : decode cX8_point 52 = .ok (.iload_n 3, 1) := by decide +kernel
theorem dX8_point_53 : decode cX8_point 53 = .ok (.invokestatic 110, 3) := by decide +kernel
theorem dX8_point_56 : decode cX8_point 56 = .ok (.ifCond .eq 17, 3) := by decide +kernel
theorem dX8_point_59 : decode cX8_point 59 = .ok (.iload 4, 2) := by decide +kernel
theorem dX8_point_61 : decode cX8_point 61 = .ok (.invokestatic 110, 3) := by decide +kernel
theorem dX8_point_64 : decode cX8_point 64 = .ok (.ifCond .eq 9, 3) := by decide +kernel
theorem dX8_point_67 : decode cX8_point 67 = .ok (.iload_n 3, 1) := by decide +kernel
theorem dX8_point_68 : decode cX8_point 68 = .ok (.iload 4, 2) := by decide +kernel
theorem dX8_point_70 : decode cX8_point 70 = .ok (.if_icmp .le 6, 3) := by decide +kernel
theorem dX8_point_73 : decode cX8_point 73 = .ok (.bipush (-2), 2) := by decide +kernel
theorem dX8_point_75 : decode cX8_point 75 = .ok (.ireturn, 1) := by decide +kernel
theorem dX8_point_76 : decode cX8_point 76 = .ok (.iload 5, 2) := by decide +kernel
theorem dX8_point_78 : decode cX8_point 78 = .ok (.bipush 10, 2) := by decide +kernel
theorem dX8_point_80 : decode cX8_point 80 = .ok (.if_icmp .ne 6, 3) := by decide +kernel
theorem dX8_point_86 : decode cX8_point 86 = .ok (.aload_n 0, 1) := by decide +kernel
theorem dX8_point_87 : decode cX8_point 87 = .ok (.getfield 76, 3) := by decide +kernel
theorem dX8_point_90 : decode cX8_point 90 = .ok (.bipush 10, 2) := by decide +kernel
theorem dX8_point_92 : decode cX8_point 92 = .ok (.iload_n 1, 1) := by decide +kernel
theorem dX8_point_93 : decode cX8_point 93 = .ok (.imul, 1) := by decide +kernel
theorem dX8_point_94 : decode cX8_point 94 = .ok (.iload 5, 2) := by decide +kernel
theorem dX8_point_96 : decode cX8_point 96 = .ok (.iadd, 1) := by decide +kernel
theorem dX8_point_97 : decode cX8_point 97 = .ok (.iload_n 2, 1) := by decide +kernel
theorem dX8_point_98 : decode cX8_point 98 = .ok (.iastore, 1) := by decide +kernel
theorem dX8_point_99 : decode cX8_point 99 = .ok (.aload_n 0, 1) := by decide +kernel
theorem dX8_point_100 : decode cX8_point 100 = .ok (.getfield 79, 3) := by decide +kernel
theorem dX8_point_103 : decode cX8_point 103 = .ok (.bipush 10, 2) := by decide +kernel
theorem dX8_point_105 : decode cX8_point 105 = .ok (.iload_n 1, 1) := by decide +kernel
theorem dX8_point_106 : decode cX8_point 106 = .ok (.imul, 1) := by decide +kernel
theorem dX8_point_107 : decode cX8_point 107 = .ok (.iload 5, 2) := by decide +kernel
theorem dX8_point_109 : decode cX8_point 109 = .ok (.iadd, 1) := by decide +kernel
theorem dX8_point_110 : decode cX8_point 110 = .ok (.iload_n 3, 1) := by decide +kernel
theorem dX8_point_111 : decode cX8_point 111 = .ok (.iastore, 1) := by decide +kernel
theorem dX8_point_112 : decode cX8_point 112 = .ok (.aload_n 0, 1) := by decide +kernel
theorem dX8_point_113 : decode cX8_point 113 = .ok (.getfield 82, 3) := by decide +kernel
theorem dX8_point_116 : decode cX8_point 116 = .ok (.bipush 10, 2) := by decide +kernel
theorem dX8_point_118 : decode cX8_point 118 = .ok (.iload_n 1, 1) := by decide +kernel
theorem dX8_point_119 : decode cX8_point 119 = .ok (.imul, 1) := by decide +kernel
theorem dX8_point_120 : decode cX8_point 120 = .ok (.iload 5, 2) := by decide +kernel
theorem dX8_point_122 : decode cX8_point 122 = .ok (.iadd, 1) := by decide +kernel
theorem dX8_point_123 : decode cX8_point 123 = .ok (.iload 4, 2) := by decide +kernel
theorem dX8_point_125 : decode cX8_point 125 = .ok (.iastore, 1) := by decide +kernel
theorem dX8_point_126 : decode cX8_point 126 = .ok (.aload_n 0, 1) := by decide +kernel
theorem dX8_point_127 : decode cX8_point 127 = .ok (.getfield 73, 3) := by decide +kernel
theorem dX8_point_130 : decode cX8_point 130 = .ok (.iload_n 1, 1) := by decide +kernel
theorem dX8_point_131 : decode cX8_point 131 = .ok (.dup2, 1) := by decide +kernel
theorem dX8_point_132 : decode cX8_point 132 = .ok (.iaload, 1) := by decide +kernel
theorem dX8_point_133 : decode cX8_point 133 = .ok (.iconst 1, 1) := by decide +kernel
theorem dX8_point_134 : decode cX8_point 134 = .ok (.iadd, 1) := by decide +kernel
theorem dX8_point_135 : decode cX8_point 135 = .ok (.iastore, 1) := by decide +kernel
theorem dX8_point_136 : decode cX8_point 136 = .ok (.aload_n 0, 1) := by decide +kernel
theorem dX8_point_137 : decode cX8_point 137 = .ok (.getfield 73, 3) := by decide +kernel
theorem dX8_point_140 : decode cX8_point 140 = .ok (.iload_n 1, 1) := by decide +kernel
theorem dX8_point_141 : decode cX8_point 141 = .ok (.iaload, 1) := by decide +kernel
theorem dX8_point_142 : decode cX8_point 142 = .ok (.ireturn, 1) := by decide +kernel
theorem dX7_wipe_0 : decode cX7_wipe 0 = .ok (.iload_n 1, 1) := by decide +kernel
theorem dX7_wipe_1 : decode cX7_wipe 1 = .ok (.invokestatic 141, 3) := by decide +kernel
theorem dX7_wipe_4 : decode cX7_wipe 4 = .ok (.ifCond .ne 5, 3) := by decide +kernel
theorem dX7_wipe_7 : decode cX7_wipe 7 = .ok (.iconst (-1), 1) := by decide +kernel
theorem dX7_wipe_8 : decode cX7_wipe 8 = .ok (.ireturn, 1) := by decide +kernel
theorem dX7_wipe_9 : decode cX7_wipe 9 = .ok (.aload_n 0, 1) := by decide +kernel
theorem dX7_wipe_10 : decode cX7_wipe 10 = .ok (.iload_n 1, 1) := by decide +kernel
theorem dX7_wipe_11 : decode cX7_wipe 11 = .ok (.invokevirtual 144, 3) := by decide +kernel
theorem dX7_wipe_14 : decode cX7_wipe 14 = .ok (.astore_n 2, 1) := by decide +kernel
theorem dX7_wipe_15 : decode cX7_wipe 15 = .ok (.aload_n 2, 1) := by decide +kernel
theorem dX7_wipe_16 : decode cX7_wipe 16 = .ok (.getfield 156, 3) := by decide +kernel
theorem dX7_wipe_19 : decode cX7_wipe 19 = .ok (.istore_n 3, 1) := by decide +kernel
theorem dX7_wipe_20 : decode cX7_wipe 20 = .ok (.aload_n 2, 1) := by decide +kernel
theorem dX7_wipe_21 : decode cX7_wipe 21 = .ok (.iconst 0, 1) := by decide +kernel
theorem dX7_wipe_22 : decode cX7_wipe 22 = .ok (.putfield 156, 3) := by decide +kernel
theorem dX7_wipe_25 : decode cX7_wipe 25 = .ok (.iload_n 3, 1) := by decide +kernel
theorem dX7_wipe_26 : decode cX7_wipe 26 = .ok (.ireturn, 1) := by decide +kernel
theorem dX8_wipe_0 : decode cX8_wipe 0 = .ok (.iload_n 1, 1) := by decide +kernel
theorem dX8_wipe_1 : decode cX8_wipe 1 = .ok (.iconst 0, 1) := by decide +kernel
theorem dX8_wipe_2 : decode cX8_wipe 2 = .ok (.iconst 1, 1) := by decide +kernel
theorem dX8_wipe_3 : decode cX8_wipe 3 = .ok (.invokestatic 95, 3) := by decide +kernel
theorem dX8_wipe_6 : decode cX8_wipe 6 = .ok (.ifCond .ne 5, 3) := by decide +kernel
theorem dX8_wipe_9 : decode cX8_wipe 9 = .ok (.iconst (-1), 1) := by decide +kernel
theorem dX8_wipe_10 : decode cX8_wipe 10 = .ok (.ireturn, 1) := by decide +kernel
theorem dX8_wipe_11 : decode cX8_wipe 11 = .ok (.aload_n 0, 1) := by decide +kernel
theorem dX8_wipe_12 : decode cX8_wipe 12 = .ok (.getfield 73, 3) := by decide +kernel
theorem dX8_wipe_15 : decode cX8_wipe 15 = .ok (.iload_n 1, 1) := by decide +kernel
theorem dX8_wipe_16 : decode cX8_wipe 16 = .ok (.iaload, 1) := by decide +kernel
theorem dX8_wipe_17 : decode cX8_wipe 17 = .ok (.istore_n 2, 1) := by decide +kernel
theorem dX8_wipe_18 : decode cX8_wipe 18 = .ok (.aload_n 0, 1) := by decide +kernel
theorem dX8_wipe_19 : decode cX8_wipe 19 = .ok (.getfield 73, 3) := by decide +kernel
theorem dX8_wipe_22 : decode cX8_wipe 22 = .ok (.iload_n 1, 1) := by decide +kernel
theorem dX8_wipe_23 : decode cX8_wipe 23 = .ok (.iconst 0, 1) := by decide +kernel
theorem dX8_wipe_24 : decode cX8_wipe 24 = .ok (.iastore, 1) := by decide +kernel
theorem dX8_wipe_25 : decode cX8_wipe 25 = .ok (.iload_n 2, 1) := by decide +kernel
theorem dX8_wipe_26 : decode cX8_wipe 26 = .ok (.ireturn, 1) := by decide +kernel
theorem dX7_fits_0 : decode cX7_fits 0 = .ok (.aload_n 0, 1) := by decide +kernel
theorem dX7_fits_1 : decode cX7_fits 1 = .ok (.getfield 21, 3) := by decide +kernel
theorem dX7_fits_4 : decode cX7_fits 4 = .ok (.iload_n 1, 1) := by decide +kernel
theorem dX7_fits_5 : decode cX7_fits 5 = .ok (.invokevirtual 159, 3) := by decide +kernel
theorem dX7_fits_8 : decode cX7_fits 8 = .ok (.ifCond .eq 15, 3) := by decide +kernel
theorem dX7_fits_23 : decode cX7_fits 23 = .ok (.iconst (-1), 1) := by decide +kernel
theorem dX7_fits_24 : decode cX7_fits 24 = .ok (.ireturn, 1) := by decide +kernel
theorem dX8_fits_0 : decode cX8_fits 0 = .ok (.aload_n 0, 1) := by decide +kernel
theorem dX8_fits_1 : decode cX8_fits 1 = .ok (.iload_n 1, 1) := by decide +kernel
theorem dX8_fits_2 : decode cX8_fits 2 = .ok (.invokevirtual 130, 3) := by decide +kernel
theorem dX8_fits_5 : decode cX8_fits 5 = .ok (.ifCond .eq 12, 3) := by decide +kernel
theorem dX8_fits_17 : decode cX8_fits 17 = .ok (.iconst (-1), 1) := by decide +kernel
theorem dX8_fits_18 : decode cX8_fits 18 = .ok (.ireturn, 1) := by decide +kernel
theorem dX7_load_0 : decode cX7_load 0 = .ok (.aload_n 0, 1) := by decide +kernel
theorem dX7_load_1 : decode cX7_load 1 = .ok (.iload_n 1, 1) := by decide +kernel
theorem dX7_load_2 : decode cX7_load 2 = .ok (.iload_n 2, 1) := by decide +kernel
theorem dX7_load_3 : decode cX7_load 3 = .ok (.iload_n 3, 1) := by decide +kernel
theorem dX7_load_4 : decode cX7_load 4 = .ok (.invokevirtual 175, 3) := by decide +kernel
theorem dX7_load_7 : decode cX7_load 7 = .ok (.istore 4, 2) := by decide +kernel
theorem dX7_load_9 : decode cX7_load 9 = .ok (.iload 4, 2) := by decide +kernel
theorem dX7_load_11 : decode cX7_load 11 = .ok (.ifCond .ne 16, 3) := by decide +kernel
theorem dX7_load_27 : decode cX7_load 27 = .ok (.iload 4, 2) := by decide +kernel
theorem dX7_load_29 : decode cX7_load 29 = .ok (.ireturn, 1) := by decide +kernel
theorem dX8_load_0 : decode cX8_load 0 = .ok (.aload_n 0, 1) := by decide +kernel
theorem dX8_load_1 : decode cX8_load 1 = .ok (.iload_n 1, 1) := by decide +kernel
theorem dX8_load_2 : decode cX8_load 2 = .ok (.iload_n 2, 1) := by decide +kernel
theorem dX8_load_3 : decode cX8_load 3 = .ok (.iload_n 3, 1) := by decide +kernel
theorem dX8_load_4 : decode cX8_load 4 = .ok (.invokevirtual 141, 3) := by decide +kernel
theorem dX8_load_7 : decode cX8_load 7 = .ok (.istore 4, 2) := by decide +kernel
theorem dX8_load_9 : decode cX8_load 9 = .ok (.iload 4, 2) := by decide +kernel
theorem dX8_load_11 : decode cX8_load 11 = .ok (.ifCond .ne 14, 3) := by decide +kernel
theorem dX8_load_25 : decode cX8_load 25 = .ok (.iload 4, 2) := by decide +kernel
theorem dX8_load_27 : decode cX8_load 27 = .ok (.ireturn, 1) := by decide +kernel
theorem dX7_unload_0 : decode cX7_unload 0 = .ok (.aload_n 0, 1) := by decide +kernel
theorem dX7_unload_1 : decode cX7_unload 1 = .ok (.getfield 21, 3) := by decide +kernel
theorem dX7_unload_4 : decode cX7_unload 4 = .ok (.iload_n 1, 1) := by decide +kernel
theorem dX7_unload_5 : decode cX7_unload 5 = .ok (.invokevirtual 159, 3) := by decide +kernel
theorem dX7_unload_8 : decode cX7_unload 8 = .ok (.ifCond .ne 5, 3) := by decide +kernel
theorem dX7_unload_11 : decode cX7_unload 11 = .ok (.iconst (-1), 1) := by decide +kernel
theorem dX7_unload_12 : decode cX7_unload 12 = .ok (.ireturn, 1) := by decide +kernel
theorem dX8_unload_0 : decode cX8_unload 0 = .ok (.aload_n 0, 1) := by decide +kernel
theorem dX8_unload_1 : decode cX8_unload 1 = .ok (.iload_n 1, 1) := by decide +kernel
theorem dX8_unload_2 : decode cX8_unload 2 = .ok (.invokevirtual 130, 3) := by decide +kernel
theorem dX8_unload_5 : decode cX8_unload 5 = .ok (.ifCond .ne 5, 3) := by decide +kernel
theorem dX8_unload_8 : decode cX8_unload 8 = .ok (.iconst (-1), 1) := by decide +kernel
theorem dX8_unload_9 : decode cX8_unload 9 = .ok (.ireturn, 1) := by decide +kernel
theorem dX7_where_0 : decode cX7_where 0 = .ok (.aload_n 0, 1) := by decide +kernel
theorem dX7_where_1 : decode cX7_where 1 = .ok (.getfield 21, 3) := by decide +kernel
theorem dX7_where_4 : decode cX7_where 4 = .ok (.iload_n 1, 1) := by decide +kernel
theorem dX7_where_5 : decode cX7_where 5 = .ok (.invokevirtual 159, 3) := by decide +kernel
theorem dX7_where_8 : decode cX7_where 8 = .ok (.ifCond .eq 15, 3) := by decide +kernel
theorem dX7_where_23 : decode cX7_where 23 = .ok (.iconst (-1), 1) := by decide +kernel
theorem dX7_where_24 : decode cX7_where 24 = .ok (.ireturn, 1) := by decide +kernel
theorem dX8_where_0 : decode cX8_where 0 = .ok (.aload_n 0, 1) := by decide +kernel
theorem dX8_where_1 : decode cX8_where 1 = .ok (.iload_n 1, 1) := by decide +kernel
theorem dX8_where_2 : decode cX8_where 2 = .ok (.invokevirtual 130, 3) := by decide +kernel
theorem dX8_where_5 : decode cX8_where 5 = .ok (.ifCond .eq 12, 3) := by decide +kernel
theorem dX8_where_17 : decode cX8_where 17 = .ok (.iconst (-1), 1) := by decide +kernel
theorem dX8_where_18 : decode cX8_where 18 = .ok (.ireturn, 1) := by decide +kernel
theorem dX7_in_0 : decode cX7_in 0 = .ok (.aload_n 0, 1) := by decide +kernel
theorem dX7_in_1 : decode cX7_in 1 = .ok (.getfield 21, 3) := by decide +kernel
theorem dX7_in_4 : decode cX7_in 4 = .ok (.iload_n 1, 1) := by decide +kernel
theorem dX7_in_5 : decode cX7_in 5 = .ok (.iload_n 2, 1) := by decide +kernel
theorem dX7_in_6 : decode cX7_in 6 = .ok (.invokevirtual 162, 3) := by decide +kernel
theorem dX7_in_9 : decode cX7_in 9 = .ok (.ifCond .eq 19, 3) := by decide +kernel
theorem dX7_in_28 : decode cX7_in 28 = .ok (.iconst (-1), 1) := by decide +kernel
theorem dX7_in_29 : decode cX7_in 29 = .ok (.ireturn, 1) := by decide +kernel
theorem dX8_in_0 : decode cX8_in 0 = .ok (.aload_n 0, 1) := by decide +kernel
theorem dX8_in_1 : decode cX8_in 1 = .ok (.iload_n 1, 1) := by decide +kernel
theorem dX8_in_2 : decode cX8_in 2 = .ok (.iload_n 2, 1) := by decide +kernel
theorem dX8_in_3 : decode cX8_in 3 = .ok (.invokevirtual 133, 3) := by decide +kernel
theorem dX8_in_6 : decode cX8_in 6 = .ok (.ifCond .eq 17, 3) := by decide +kernel
theorem dX8_in_23 : decode cX8_in 23 = .ok (.iconst (-1), 1) := by decide +kernel
theorem dX8_in_24 : decode cX8_in 24 = .ok (.ireturn, 1) := by decide +kernel
theorem dX7_about_0 : decode cX7_about 0 = .ok (.aload_n 0, 1) := by decide +kernel
theorem dX7_about_1 : decode cX7_about 1 = .ok (.getfield 21, 3) := by decide +kernel
theorem dX7_about_4 : decode cX7_about 4 = .ok (.iload_n 1, 1) := by decide +kernel
theorem dX7_about_5 : decode cX7_about 5 = .ok (.invokevirtual 90, 3) := by decide +kernel
theorem dX7_about_8 : decode cX7_about 8 = .ok (.ifCond .ne 5, 3) := by decide +kernel
theorem dX7_about_11 : decode cX7_about 11 = .ok (.iconst (-1), 1) := by decide +kernel
theorem dX7_about_12 : decode cX7_about 12 = .ok (.ireturn, 1) := by decide +kernel
theorem dX8_about_0 : decode cX8_about 0 = .ok (.aload_n 0, 1) := by decide +kernel
theorem dX8_about_1 : decode cX8_about 1 = .ok (.iload_n 1, 1) := by decide +kernel
theorem dX8_about_2 : decode cX8_about 2 = .ok (.invokevirtual 102, 3) := by decide +kernel
theorem dX8_about_5 : decode cX8_about 5 = .ok (.ifCond .ne 5, 3) := by decide +kernel
theorem dX8_about_8 : decode cX8_about 8 = .ok (.iconst (-1), 1) := by decide +kernel
theorem dX8_about_9 : decode cX8_about 9 = .ok (.ireturn, 1) := by decide +kernel
theorem dX7_weight_0 : decode cX7_weight 0 = .ok (.iload_n 1, 1) := by decide +kernel
theorem dX7_weight_1 : decode cX7_weight 1 = .ok (.tableswitch 53 0 2 #[27, 32, 45], 27) := by decide +kernel
theorem dX7_weight_28 : decode cX7_weight 28 = .ok (.aload_n 0, 1) := by decide +kernel
theorem dX7_weight_29 : decode cX7_weight 29 = .ok (.invokevirtual 201, 3) := by decide +kernel
theorem dX7_weight_32 : decode cX7_weight 32 = .ok (.ireturn, 1) := by decide +kernel
theorem dX7_weight_33 : decode cX7_weight 33 = .ok (.aload_n 0, 1) := by decide +kernel
theorem dX7_weight_34 : decode cX7_weight 34 = .ok (.invokevirtual 201, 3) := by decide +kernel
theorem dX7_weight_37 : decode cX7_weight 37 = .ok (.aload_n 0, 1) := by decide +kernel
theorem dX7_weight_38 : decode cX7_weight 38 = .ok (.getfield 35, 3) := by decide +kernel
theorem dX7_weight_41 : decode cX7_weight 41 = .ok (.invokevirtual 204, 3) := by decide +kernel
theorem dX7_weight_44 : decode cX7_weight 44 = .ok (.iadd, 1) := by decide +kernel
theorem dX7_weight_45 : decode cX7_weight 45 = .ok (.ireturn, 1) := by decide +kernel
theorem dX7_weight_46 : decode cX7_weight 46 = .ok (.aload_n 0, 1) := by decide +kernel
theorem dX7_weight_47 : decode cX7_weight 47 = .ok (.getfield 35, 3) := by decide +kernel
theorem dX7_weight_50 : decode cX7_weight 50 = .ok (.invokevirtual 204, 3) := by decide +kernel
theorem dX7_weight_53 : decode cX7_weight 53 = .ok (.ireturn, 1) := by decide +kernel
theorem dX7_weight_54 : decode cX7_weight 54 = .ok (.iconst (-1), 1) := by decide +kernel
theorem dX7_weight_55 : decode cX7_weight 55 = .ok (.ireturn, 1) := by decide +kernel
theorem dX8_weight_0 : decode cX8_weight 0 = .ok (.iload_n 1, 1) := by decide +kernel
theorem dX8_weight_1 : decode cX8_weight 1 = .ok (.tableswitch 47 0 2 #[27, 32, 42], 27) := by decide +kernel
theorem dX8_weight_28 : decode cX8_weight 28 = .ok (.aload_n 0, 1) := by decide +kernel
theorem dX8_weight_29 : decode cX8_weight 29 = .ok (.invokevirtual 153, 3) := by decide +kernel
theorem dX8_weight_32 : decode cX8_weight 32 = .ok (.ireturn, 1) := by decide +kernel
theorem dX8_weight_33 : decode cX8_weight 33 = .ok (.aload_n 0, 1) := by decide +kernel
theorem dX8_weight_34 : decode cX8_weight 34 = .ok (.invokevirtual 153, 3) := by decide +kernel
theorem dX8_weight_37 : decode cX8_weight 37 = .ok (.aload_n 0, 1) := by decide +kernel
theorem dX8_weight_38 : decode cX8_weight 38 = .ok (.invokevirtual 157, 3) := by decide +kernel
theorem dX8_weight_41 : decode cX8_weight 41 = .ok (.iadd, 1) := by decide +kernel
theorem dX8_weight_42 : decode cX8_weight 42 = .ok (.ireturn, 1) := by decide +kernel
theorem dX8_weight_43 : decode cX8_weight 43 = .ok (.aload_n 0, 1) := by decide +kernel
theorem dX8_weight_44 : decode cX8_weight 44 = .ok (.invokevirtual 157, 3) := by decide +kernel
theorem dX8_weight_47 : decode cX8_weight 47 = .ok (.ireturn, 1) := by decide +kernel
theorem dX8_weight_48 : decode cX8_weight 48 = .ok (.iconst (-1), 1) := by decide +kernel
theorem dX8_weight_49 : decode cX8_weight 49 = .ok (.ireturn, 1) := by decide +kernel
theorem dX7_moment_0 : decode cX7_moment 0 = .ok (.iload_n 1, 1) := by decide +kernel
theorem dX7_moment_1 : decode cX7_moment 1 = .ok (.tableswitch 55 0 2 #[27, 32, 46], 27) := by decide +kernel
theorem dX7_moment_28 : decode cX7_moment 28 = .ok (.aload_n 0, 1) := by decide +kernel
theorem dX7_moment_29 : decode cX7_moment 29 = .ok (.invokevirtual 207, 3) := by decide +kernel
theorem dX7_moment_32 : decode cX7_moment 32 = .ok (.lreturn, 1) := by decide +kernel
theorem dX7_moment_33 : decode cX7_moment 33 = .ok (.aload_n 0, 1) := by decide +kernel
theorem dX7_moment_34 : decode cX7_moment 34 = .ok (.invokevirtual 207, 3) := by decide +kernel
theorem dX7_moment_37 : decode cX7_moment 37 = .ok (.aload_n 0, 1) := by decide +kernel
theorem dX7_moment_38 : decode cX7_moment 38 = .ok (.getfield 35, 3) := by decide +kernel
theorem dX7_moment_41 : decode cX7_moment 41 = .ok (.iconst 0, 1) := by decide +kernel
theorem dX7_moment_42 : decode cX7_moment 42 = .ok (.invokevirtual 211, 3) := by decide +kernel
theorem dX7_moment_45 : decode cX7_moment 45 = .ok (.ladd, 1) := by decide +kernel
theorem dX7_moment_46 : decode cX7_moment 46 = .ok (.lreturn, 1) := by decide +kernel
theorem dX7_moment_47 : decode cX7_moment 47 = .ok (.aload_n 0, 1) := by decide +kernel
theorem dX7_moment_48 : decode cX7_moment 48 = .ok (.getfield 35, 3) := by decide +kernel
theorem dX7_moment_51 : decode cX7_moment 51 = .ok (.iconst 0, 1) := by decide +kernel
theorem dX7_moment_52 : decode cX7_moment 52 = .ok (.invokevirtual 211, 3) := by decide +kernel
theorem dX7_moment_55 : decode cX7_moment 55 = .ok (.lreturn, 1) := by decide +kernel
theorem dX7_moment_56 : decode cX7_moment 56 = .ok (.ldc2_w 215, 3) := by decide +kernel
theorem dX7_moment_59 : decode cX7_moment 59 = .ok (.lreturn, 1) := by decide +kernel
theorem dX8_moment_0 : decode cX8_moment 0 = .ok (.iload_n 1, 1) := by decide +kernel
theorem dX8_moment_1 : decode cX8_moment 1 = .ok (.tableswitch 49 0 2 #[27, 32, 43], 27) := by decide +kernel
theorem dX8_moment_28 : decode cX8_moment 28 = .ok (.aload_n 0, 1) := by decide +kernel
theorem dX8_moment_29 : decode cX8_moment 29 = .ok (.invokevirtual 160, 3) := by decide +kernel
theorem dX8_moment_32 : decode cX8_moment 32 = .ok (.lreturn, 1) := by decide +kernel
theorem dX8_moment_33 : decode cX8_moment 33 = .ok (.aload_n 0, 1) := by decide +kernel
theorem dX8_moment_34 : decode cX8_moment 34 = .ok (.invokevirtual 160, 3) := by decide +kernel
theorem dX8_moment_37 : decode cX8_moment 37 = .ok (.aload_n 0, 1) := by decide +kernel
theorem dX8_moment_38 : decode cX8_moment 38 = .ok (.iconst 0, 1) := by decide +kernel
theorem dX8_moment_39 : decode cX8_moment 39 = .ok (.invokevirtual 164, 3) := by decide +kernel
theorem dX8_moment_42 : decode cX8_moment 42 = .ok (.ladd, 1) := by decide +kernel
theorem dX8_moment_43 : decode cX8_moment 43 = .ok (.lreturn, 1) := by decide +kernel
theorem dX8_moment_44 : decode cX8_moment 44 = .ok (.aload_n 0, 1) := by decide +kernel
theorem dX8_moment_45 : decode cX8_moment 45 = .ok (.iconst 0, 1) := by decide +kernel
theorem dX8_moment_46 : decode cX8_moment 46 = .ok (.invokevirtual 164, 3) := by decide +kernel
theorem dX8_moment_49 : decode cX8_moment 49 = .ok (.lreturn, 1) := by decide +kernel
theorem dX8_moment_50 : decode cX8_moment 50 = .ok (.ldc2_w 168, 3) := by decide +kernel
theorem dX8_moment_53 : decode cX8_moment 53 = .ok (.lreturn, 1) := by decide +kernel
theorem dX7_burnt_0 : decode cX7_burnt 0 = .ok (.iload_n 1, 1) := by decide +kernel
theorem dX7_burnt_1 : decode cX7_burnt 1 = .ok (.iconst 0, 1) := by decide +kernel
theorem dX7_burnt_2 : decode cX7_burnt 2 = .ok (.aload_n 0, 1) := by decide +kernel
theorem dX7_burnt_3 : decode cX7_burnt 3 = .ok (.getfield 35, 3) := by decide +kernel
theorem dX7_burnt_6 : decode cX7_burnt 6 = .ok (.invokevirtual 204, 3) := by decide +kernel
theorem dX7_burnt_9 : decode cX7_burnt 9 = .ok (.invokestatic 75, 3) := by decide +kernel
theorem dX7_burnt_12 : decode cX7_burnt 12 = .ok (.ifCond .ne 7, 3) := by decide +kernel
theorem dX7_burnt_15 : decode cX7_burnt 15 = .ok (.ldc2_w 215, 3) := by decide +kernel
theorem dX7_burnt_18 : decode cX7_burnt 18 = .ok (.lreturn, 1) := by decide +kernel
theorem dX7_burnt_19 : decode cX7_burnt 19 = .ok (.iload_n 2, 1) := by decide +kernel
theorem dX7_burnt_20 : decode cX7_burnt 20 = .ok (.lookupswitch 58 #[(0, 28), (1, 42)], 28) := by decide +kernel
theorem dX7_burnt_48 : decode cX7_burnt 48 = .ok (.aload_n 0, 1) := by decide +kernel
theorem dX7_burnt_49 : decode cX7_burnt 49 = .ok (.invokevirtual 207, 3) := by decide +kernel
theorem dX7_burnt_52 : decode cX7_burnt 52 = .ok (.aload_n 0, 1) := by decide +kernel
theorem dX7_burnt_53 : decode cX7_burnt 53 = .ok (.getfield 35, 3) := by decide +kernel
theorem dX7_burnt_56 : decode cX7_burnt 56 = .ok (.iload_n 1, 1) := by decide +kernel
theorem dX7_burnt_57 : decode cX7_burnt 57 = .ok (.invokevirtual 211, 3) := by decide +kernel
theorem dX7_burnt_60 : decode cX7_burnt 60 = .ok (.ladd, 1) := by decide +kernel
theorem dX7_burnt_61 : decode cX7_burnt 61 = .ok (.lreturn, 1) := by decide +kernel
theorem dX7_burnt_62 : decode cX7_burnt 62 = .ok (.aload_n 0, 1) := by decide +kernel
theorem dX7_burnt_63 : decode cX7_burnt 63 = .ok (.invokevirtual 201, 3) := by decide +kernel
theorem dX7_burnt_66 : decode cX7_burnt 66 = .ok (.aload_n 0, 1) := by decide +kernel
theorem dX7_burnt_67 : decode cX7_burnt 67 = .ok (.getfield 35, 3) := by decide +kernel
theorem dX7_burnt_70 : decode cX7_burnt 70 = .ok (.invokevirtual 204, 3) := by decide +kernel
theorem dX7_burnt_73 : decode cX7_burnt 73 = .ok (.iadd, 1) := by decide +kernel
theorem dX7_burnt_74 : decode cX7_burnt 74 = .ok (.iload_n 1, 1) := by decide +kernel
theorem dX7_burnt_75 : decode cX7_burnt 75 = .ok (.isub, 1) := by decide +kernel
theorem dX7_burnt_76 : decode cX7_burnt 76 = .ok (.i2l, 1) := by decide +kernel
theorem dX7_burnt_77 : decode cX7_burnt 77 = .ok (.lreturn, 1) := by decide +kernel
theorem dX7_burnt_78 : decode cX7_burnt 78 = .ok (.ldc2_w 215, 3) := by decide +kernel
theorem dX7_burnt_81 : decode cX7_burnt 81 = .ok (.lreturn, 1) := by decide +kernel
theorem dX8_burnt_0 : decode cX8_burnt 0 = .ok (.iload_n 1, 1) := by decide +kernel
theorem dX8_burnt_1 : decode cX8_burnt 1 = .ok (.iconst 0, 1) := by decide +kernel
theorem dX8_burnt_2 : decode cX8_burnt 2 = .ok (.aload_n 0, 1) := by decide +kernel
theorem dX8_burnt_3 : decode cX8_burnt 3 = .ok (.invokevirtual 157, 3) := by decide +kernel
theorem dX8_burnt_6 : decode cX8_burnt 6 = .ok (.invokestatic 95, 3) := by decide +kernel
theorem dX8_burnt_9 : decode cX8_burnt 9 = .ok (.ifCond .ne 7, 3) := by decide +kernel
theorem dX8_burnt_12 : decode cX8_burnt 12 = .ok (.ldc2_w 168, 3) := by decide +kernel
theorem dX8_burnt_15 : decode cX8_burnt 15 = .ok (.lreturn, 1) := by decide +kernel
theorem dX8_burnt_16 : decode cX8_burnt 16 = .ok (.iload_n 2, 1) := by decide +kernel
theorem dX8_burnt_17 : decode cX8_burnt 17 = .ok (.ifCond .ne 16, 3) := by decide +kernel
theorem dX8_burnt_20 : decode cX8_burnt 20 = .ok (.aload_n 0, 1) := by decide +kernel
theorem dX8_burnt_21 : decode cX8_burnt 21 = .ok (.invokevirtual 160, 3) := by decide +kernel
theorem dX8_burnt_24 : decode cX8_burnt 24 = .ok (.aload_n 0, 1) := by decide +kernel
theorem dX8_burnt_25 : decode cX8_burnt 25 = .ok (.iload_n 1, 1) := by decide +kernel
theorem dX8_burnt_26 : decode cX8_burnt 26 = .ok (.invokevirtual 164, 3) := by decide +kernel
theorem dX8_burnt_29 : decode cX8_burnt 29 = .ok (.ladd, 1) := by decide +kernel
theorem dX8_burnt_30 : decode cX8_burnt 30 = .ok (.goto 26, 3) := by decide +kernel
theorem dX8_burnt_33 : decode cX8_burnt 33 = .ok (.iload_n 2, 1) := by decide +kernel
theorem dX8_burnt_34 : decode cX8_burnt 34 = .ok (.iconst 1, 1) := by decide +kernel
theorem dX8_burnt_35 : decode cX8_burnt 35 = .ok (.if_icmp .ne 18, 3) := by decide +kernel
theorem dX8_burnt_38 : decode cX8_burnt 38 = .ok (.aload_n 0, 1) := by decide +kernel
theorem dX8_burnt_39 : decode cX8_burnt 39 = .ok (.invokevirtual 153, 3) := by decide +kernel
theorem dX8_burnt_42 : decode cX8_burnt 42 = .ok (.aload_n 0, 1) := by decide +kernel
theorem dX8_burnt_43 : decode cX8_burnt 43 = .ok (.invokevirtual 157, 3) := by decide +kernel
theorem dX8_burnt_46 : decode cX8_burnt 46 = .ok (.iadd, 1) := by decide +kernel
theorem dX8_burnt_47 : decode cX8_burnt 47 = .ok (.iload_n 1, 1) := by decide +kernel
theorem dX8_burnt_48 : decode cX8_burnt 48 = .ok (.isub, 1) := by decide +kernel
theorem dX8_burnt_49 : decode cX8_burnt 49 = .ok (.i2l, 1) := by decide +kernel
theorem dX8_burnt_50 : decode cX8_burnt 50 = .ok (.goto 6, 3) := by decide +kernel
theorem dX8_burnt_53 : decode cX8_burnt 53 = .ok (.ldc2_w 168, 3) := by decide +kernel
theorem dX8_burnt_56 : decode cX8_burnt 56 = .ok (.lreturn, 1) := by decide +kernel
theorem dX7_within_0 : decode cX7_within 0 = .ok (.iload_n 1, 1) := by decide +kernel
theorem dX7_within_1 : decode cX7_within 1 = .ok (.invokestatic 141, 3) := by decide +kernel
theorem dX7_within_4 : decode cX7_within 4 = .ok (.ifCond .ne 5, 3) := by decide +kernel
theorem dX7_within_7 : decode cX7_within 7 = .ok (.iconst (-1), 1) := by decide +kernel
theorem dX7_within_8 : decode cX7_within 8 = .ok (.ireturn, 1) := by decide +kernel
theorem dX7_within_9 : decode cX7_within 9 = .ok (.aload_n 0, 1) := by decide +kernel
theorem dX7_within_10 : decode cX7_within 10 = .ok (.iload_n 1, 1) := by decide +kernel
theorem dX7_within_11 : decode cX7_within 11 = .ok (.invokevirtual 144, 3) := by decide +kernel
theorem dX7_within_14 : decode cX7_within 14 = .ok (.astore_n 2, 1) := by decide +kernel
theorem dX7_within_15 : decode cX7_within 15 = .ok (.aload_n 2, 1) := by decide +kernel
theorem dX7_within_16 : decode cX7_within 16 = .ok (.getfield 156, 3) := by decide +kernel
theorem dX7_within_19 : decode cX7_within 19 = .ok (.ifCond .ne 6, 3) := by decide +kernel
theorem dX7_within_22 : decode cX7_within 22 = .ok (.bipush (-3), 2) := by decide +kernel
theorem dX7_within_24 : decode cX7_within 24 = .ok (.ireturn, 1) := by decide +kernel
theorem dX8_within_0 : decode cX8_within 0 = .ok (.iload_n 1, 1) := by decide +kernel
theorem dX8_within_1 : decode cX8_within 1 = .ok (.iconst 0, 1) := by decide +kernel
theorem dX8_within_2 : decode cX8_within 2 = .ok (.iconst 1, 1) := by decide +kernel
theorem dX8_within_3 : decode cX8_within 3 = .ok (.invokestatic 95, 3) := by decide +kernel
theorem dX8_within_6 : decode cX8_within 6 = .ok (.ifCond .ne 5, 3) := by decide +kernel
theorem dX8_within_9 : decode cX8_within 9 = .ok (.iconst (-1), 1) := by decide +kernel
theorem dX8_within_10 : decode cX8_within 10 = .ok (.ireturn, 1) := by decide +kernel
theorem dX8_within_11 : decode cX8_within 11 = .ok (.aload_n 0, 1) := by decide +kernel
theorem dX8_within_12 : decode cX8_within 12 = .ok (.getfield 73, 3) := by decide +kernel
theorem dX8_within_15 : decode cX8_within 15 = .ok (.iload_n 1, 1) := by decide +kernel
theorem dX8_within_16 : decode cX8_within 16 = .ok (.iaload, 1) := by decide +kernel
theorem dX8_within_17 : decode cX8_within 17 = .ok (.ifCond .ne 6, 3) := by decide +kernel
theorem dX8_within_20 : decode cX8_within 20 = .ok (.bipush (-3), 2) := by decide +kernel
theorem dX8_within_22 : decode cX8_within 22 = .ok (.ireturn, 1) := by decide +kernel
theorem dX7_safe_0 : decode cX7_safe 0 = .ok (.iload_n 1, 1) := by decide +kernel
theorem dX7_safe_1 : decode cX7_safe 1 = .ok (.ifCond .ge 6, 3) := by decide +kernel
theorem dX7_safe_4 : decode cX7_safe 4 = .ok (.bipush (-2), 2) := by decide +kernel
theorem dX7_safe_6 : decode cX7_safe 6 = .ok (.ireturn, 1) := by decide +kernel
theorem dX7_safe_7 : decode cX7_safe 7 = .ok (.aload_n 0, 1) := by decide +kernel
theorem dX7_safe_8 : decode cX7_safe 8 = .ok (.getfield 42, 3) := by decide +kernel
theorem dX7_safe_11 : decode cX7_safe 11 = .ok (.getfield 156, 3) := by decide +kernel
theorem dX7_safe_14 : decode cX7_safe 14 = .ok (.ifCond .eq 13, 3) := by decide +kernel
theorem dX7_safe_27 : decode cX7_safe 27 = .ok (.bipush (-3), 2) := by decide +kernel
theorem dX7_safe_29 : decode cX7_safe 29 = .ok (.ireturn, 1) := by decide +kernel
theorem dX8_safe_0 : decode cX8_safe 0 = .ok (.iload_n 1, 1) := by decide +kernel
theorem dX8_safe_1 : decode cX8_safe 1 = .ok (.ifCond .ge 6, 3) := by decide +kernel
theorem dX8_safe_4 : decode cX8_safe 4 = .ok (.bipush (-2), 2) := by decide +kernel
theorem dX8_safe_6 : decode cX8_safe 6 = .ok (.ireturn, 1) := by decide +kernel
theorem dX8_safe_7 : decode cX8_safe 7 = .ok (.aload_n 0, 1) := by decide +kernel
theorem dX8_safe_8 : decode cX8_safe 8 = .ok (.getfield 73, 3) := by decide +kernel
theorem dX8_safe_11 : decode cX8_safe 11 = .ok (.iconst 0, 1) := by decide +kernel
theorem dX8_safe_12 : decode cX8_safe 12 = .ok (.iaload, 1) := by decide +kernel
theorem dX8_safe_13 : decode cX8_safe 13 = .ok (.ifCond .eq 12, 3) := by decide +kernel
theorem dX8_safe_25 : decode cX8_safe 25 = .ok (.bipush (-3), 2) := by decide +kernel
theorem dX8_safe_27 : decode cX8_safe 27 = .ok (.ireturn, 1) := by decide +kernel
theorem dX7_wrong_0 : decode cX7_wrong 0 = .ok (.iload_n 1, 1) := by decide +kernel
theorem dX7_wrong_1 : decode cX7_wrong 1 = .ok (.ifCond .ge 6, 3) := by decide +kernel
theorem dX7_wrong_4 : decode cX7_wrong 4 = .ok (.bipush (-2), 2) := by decide +kernel
theorem dX7_wrong_6 : decode cX7_wrong 6 = .ok (.ireturn, 1) := by decide +kernel
theorem dX7_wrong_7 : decode cX7_wrong 7 = .ok (.aload_n 0, 1) := by decide +kernel
theorem dX7_wrong_8 : decode cX7_wrong 8 = .ok (.getfield 46, 3) := by decide +kernel
theorem dX7_wrong_11 : decode cX7_wrong 11 = .ok (.getfield 156, 3) := by decide +kernel
theorem dX7_wrong_14 : decode cX7_wrong 14 = .ok (.ifCond .ne 6, 3) := by decide +kernel
theorem dX7_wrong_17 : decode cX7_wrong 17 = .ok (.bipush (-3), 2) := by decide +kernel
theorem dX7_wrong_19 : decode cX7_wrong 19 = .ok (.ireturn, 1) := by decide +kernel
theorem dX8_wrong_0 : decode cX8_wrong 0 = .ok (.iload_n 1, 1) := by decide +kernel
theorem dX8_wrong_1 : decode cX8_wrong 1 = .ok (.ifCond .ge 6, 3) := by decide +kernel
theorem dX8_wrong_4 : decode cX8_wrong 4 = .ok (.bipush (-2), 2) := by decide +kernel
theorem dX8_wrong_6 : decode cX8_wrong 6 = .ok (.ireturn, 1) := by decide +kernel
theorem dX8_wrong_7 : decode cX8_wrong 7 = .ok (.aload_n 0, 1) := by decide +kernel
theorem dX8_wrong_8 : decode cX8_wrong 8 = .ok (.getfield 73, 3) := by decide +kernel
theorem dX8_wrong_11 : decode cX8_wrong 11 = .ok (.iconst 1, 1) := by decide +kernel
theorem dX8_wrong_12 : decode cX8_wrong 12 = .ok (.iaload, 1) := by decide +kernel
theorem dX8_wrong_13 : decode cX8_wrong 13 = .ok (.ifCond .ne 8, 3) := by decide +kernel
theorem dX8_wrong_16 : decode cX8_wrong 16 = .ok (.bipush (-3), 2) := by decide +kernel
theorem dX8_wrong_18 : decode cX8_wrong 18 = .ok (.goto 8, 3) := by decide +kernel
theorem dX8_wrong_26 : decode cX8_wrong 26 = .ok (.ireturn, 1) := by decide +kernel
theorem dX7_pushed_0 : decode cX7_pushed 0 = .ok (.iload_n 1, 1) := by decide +kernel
theorem dX7_pushed_1 : decode cX7_pushed 1 = .ok (.ifCond .ne 13, 3) := by decide +kernel
theorem dX7_pushed_4 : decode cX7_pushed 4 = .ok (.aload_n 0, 1) := by decide +kernel
theorem dX7_pushed_5 : decode cX7_pushed 5 = .ok (.getfield 21, 3) := by decide +kernel
theorem dX7_pushed_8 : decode cX7_pushed 8 = .ok (.bipush 30, 2) := by decide +kernel
theorem dX7_pushed_10 : decode cX7_pushed 10 = .ok (.invokevirtual 231, 3) := by decide +kernel
theorem dX7_pushed_13 : decode cX7_pushed 13 = .ok (.ireturn, 1) := by decide +kernel
theorem dX7_pushed_14 : decode cX7_pushed 14 = .ok (.iload_n 1, 1) := by decide +kernel
theorem dX7_pushed_15 : decode cX7_pushed 15 = .ok (.invokestatic 107, 3) := by decide +kernel
theorem dX7_pushed_18 : decode cX7_pushed 18 = .ok (.ifCond .eq 16, 3) := by decide +kernel
theorem dX7_pushed_21 : decode cX7_pushed 21 = .ok (.aload_n 0, 1) := by decide +kernel
theorem dX7_pushed_22 : decode cX7_pushed 22 = .ok (.getfield 21, 3) := by decide +kernel
theorem dX7_pushed_25 : decode cX7_pushed 25 = .ok (.iconst 1, 1) := by decide +kernel
theorem dX7_pushed_26 : decode cX7_pushed 26 = .ok (.iload_n 1, 1) := by decide +kernel
theorem dX7_pushed_27 : decode cX7_pushed 27 = .ok (.ishl, 1) := by decide +kernel
theorem dX7_pushed_28 : decode cX7_pushed 28 = .ok (.invokevirtual 231, 3) := by decide +kernel
theorem dX7_pushed_31 : decode cX7_pushed 31 = .ok (.goto 4, 3) := by decide +kernel
theorem dX7_pushed_34 : decode cX7_pushed 34 = .ok (.iconst (-1), 1) := by decide +kernel
theorem dX7_pushed_35 : decode cX7_pushed 35 = .ok (.ireturn, 1) := by decide +kernel
theorem dX8_pushed_0 : decode cX8_pushed 0 = .ok (.iload_n 1, 1) := by decide +kernel
theorem dX8_pushed_1 : decode cX8_pushed 1 = .ok (.iconst 0, 1) := by decide +kernel
theorem dX8_pushed_2 : decode cX8_pushed 2 = .ok (.iconst 4, 1) := by decide +kernel
theorem dX8_pushed_3 : decode cX8_pushed 3 = .ok (.invokestatic 95, 3) := by decide +kernel
theorem dX8_pushed_6 : decode cX8_pushed 6 = .ok (.ifCond .ne 7, 3) := by decide +kernel
theorem dX8_pushed_9 : decode cX8_pushed 9 = .ok (.iconst (-1), 1) := by decide +kernel
theorem dX8_pushed_10 : decode cX8_pushed 10 = .ok (.goto 19, 3) := by decide +kernel
theorem dX8_pushed_13 : decode cX8_pushed 13 = .ok (.iload_n 1, 1) := by decide +kernel
theorem dX8_pushed_14 : decode cX8_pushed 14 = .ok (.ifCond .ne 10, 3) := by decide +kernel
theorem dX8_pushed_17 : decode cX8_pushed 17 = .ok (.aload_n 0, 1) := by decide +kernel
theorem dX8_pushed_18 : decode cX8_pushed 18 = .ok (.invokevirtual 182, 3) := by decide +kernel
theorem dX8_pushed_21 : decode cX8_pushed 21 = .ok (.goto 8, 3) := by decide +kernel
theorem dX8_pushed_24 : decode cX8_pushed 24 = .ok (.aload_n 0, 1) := by decide +kernel
theorem dX8_pushed_25 : decode cX8_pushed 25 = .ok (.iload_n 1, 1) := by decide +kernel
theorem dX8_pushed_26 : decode cX8_pushed 26 = .ok (.invokevirtual 179, 3) := by decide +kernel
theorem dX8_pushed_29 : decode cX8_pushed 29 = .ok (.ireturn, 1) := by decide +kernel
theorem dX7_arrive_0 : decode cX7_arrive 0 = .ok (.iload_n 1, 1) := by decide +kernel
theorem dX7_arrive_1 : decode cX7_arrive 1 = .ok (.invokestatic 107, 3) := by decide +kernel
theorem dX7_arrive_4 : decode cX7_arrive 4 = .ok (.ifCond .eq 14, 3) := by decide +kernel
theorem dX7_arrive_7 : decode cX7_arrive 7 = .ok (.aload_n 0, 1) := by decide +kernel
theorem dX7_arrive_8 : decode cX7_arrive 8 = .ok (.getfield 21, 3) := by decide +kernel
theorem dX7_arrive_11 : decode cX7_arrive 11 = .ok (.iload_n 1, 1) := by decide +kernel
theorem dX7_arrive_12 : decode cX7_arrive 12 = .ok (.invokevirtual 234, 3) := by decide +kernel
theorem dX7_arrive_15 : decode cX7_arrive 15 = .ok (.goto 4, 3) := by decide +kernel
theorem dX7_arrive_18 : decode cX7_arrive 18 = .ok (.iconst (-1), 1) := by decide +kernel
theorem dX7_arrive_19 : decode cX7_arrive 19 = .ok (.ireturn, 1) := by decide +kernel
theorem dX8_arrive_0 : decode cX8_arrive 0 = .ok (.iload_n 1, 1) := by decide +kernel
theorem dX8_arrive_1 : decode cX8_arrive 1 = .ok (.iconst 1, 1) := by decide +kernel
theorem dX8_arrive_2 : decode cX8_arrive 2 = .ok (.iconst 4, 1) := by decide +kernel
theorem dX8_arrive_3 : decode cX8_arrive 3 = .ok (.invokestatic 95, 3) := by decide +kernel
theorem dX8_arrive_6 : decode cX8_arrive 6 = .ok (.ifCond .ne 5, 3) := by decide +kernel
theorem dX8_arrive_9 : decode cX8_arrive 9 = .ok (.iconst (-1), 1) := by decide +kernel
theorem dX8_arrive_10 : decode cX8_arrive 10 = .ok (.ireturn, 1) := by decide +kernel
theorem dX8_arrive_11 : decode cX8_arrive 11 = .ok (.iconst 0, 1) := by decide +kernel
theorem dX8_arrive_12 : decode cX8_arrive 12 = .ok (.istore_n 2, 1) := by decide +kernel
theorem dX8_arrive_13 : decode cX8_arrive 13 = .ok (.iconst 0, 1) := by decide +kernel
theorem dX8_arrive_14 : decode cX8_arrive 14 = .ok (.istore_n 3, 1) := by decide +kernel
theorem dX8_arrive_15 : decode cX8_arrive 15 = .ok (.iload_n 3, 1) := by decide +kernel
theorem dX8_arrive_16 : decode cX8_arrive 16 = .ok (.aload_n 0, 1) := by decide +kernel
theorem dX8_arrive_17 : decode cX8_arrive 17 = .ok (.getfield 106, 3) := by decide +kernel
theorem dX8_arrive_20 : decode cX8_arrive 20 = .ok (.if_icmp .ge 40, 3) := by decide +kernel
theorem dX8_arrive_60 : decode cX8_arrive 60 = .ok (.iload_n 2, 1) := by decide +kernel
theorem dX8_arrive_61 : decode cX8_arrive 61 = .ok (.ireturn, 1) := by decide +kernel
theorem dX7_loadAll_0 : decode cX7_loadAll 0 = .ok (.iload_n 1, 1) := by decide +kernel
theorem dX7_loadAll_1 : decode cX7_loadAll 1 = .ok (.invokestatic 79, 3) := by decide +kernel
theorem dX7_loadAll_4 : decode cX7_loadAll 4 = .ok (.ifCond .eq 19, 3) := by decide +kernel
theorem dX7_loadAll_7 : decode cX7_loadAll 7 = .ok (.aload_n 0, 1) := by decide +kernel
theorem dX7_loadAll_8 : decode cX7_loadAll 8 = .ok (.getfield 21, 3) := by decide +kernel
theorem dX7_loadAll_11 : decode cX7_loadAll 11 = .ok (.iload_n 1, 1) := by decide +kernel
theorem dX7_loadAll_12 : decode cX7_loadAll 12 = .ok (.aload_n 0, 1) := by decide +kernel
theorem dX7_loadAll_13 : decode cX7_loadAll 13 = .ok (.iload_n 1, 1) := by decide +kernel
theorem dX7_loadAll_14 : decode cX7_loadAll 14 = .ok (.invokevirtual 237, 3) := by decide +kernel
theorem dX7_loadAll_17 : decode cX7_loadAll 17 = .ok (.invokevirtual 240, 3) := by decide +kernel
theorem dX7_loadAll_20 : decode cX7_loadAll 20 = .ok (.goto 5, 3) := by decide +kernel
theorem dX7_loadAll_23 : decode cX7_loadAll 23 = .ok (.bipush (-2), 2) := by decide +kernel
theorem dX7_loadAll_25 : decode cX7_loadAll 25 = .ok (.ireturn, 1) := by decide +kernel
theorem dX8_loadAll_0 : decode cX8_loadAll 0 = .ok (.iload_n 1, 1) := by decide +kernel
theorem dX8_loadAll_1 : decode cX8_loadAll 1 = .ok (.invokestatic 110, 3) := by decide +kernel
theorem dX8_loadAll_4 : decode cX8_loadAll 4 = .ok (.ifCond .ne 6, 3) := by decide +kernel
theorem dX8_loadAll_7 : decode cX8_loadAll 7 = .ok (.bipush (-2), 2) := by decide +kernel
theorem dX8_loadAll_9 : decode cX8_loadAll 9 = .ok (.ireturn, 1) := by decide +kernel
theorem dX8_loadAll_10 : decode cX8_loadAll 10 = .ok (.iconst 0, 1) := by decide +kernel
theorem dX8_loadAll_11 : decode cX8_loadAll 11 = .ok (.istore_n 2, 1) := by decide +kernel
theorem dX8_loadAll_12 : decode cX8_loadAll 12 = .ok (.iconst 0, 1) := by decide +kernel
theorem dX8_loadAll_13 : decode cX8_loadAll 13 = .ok (.istore_n 3, 1) := by decide +kernel
theorem dX8_loadAll_14 : decode cX8_loadAll 14 = .ok (.iload_n 3, 1) := by decide +kernel
theorem dX8_loadAll_15 : decode cX8_loadAll 15 = .ok (.aload_n 0, 1) := by decide +kernel
theorem dX8_loadAll_16 : decode cX8_loadAll 16 = .ok (.getfield 106, 3) := by decide +kernel
theorem dX8_loadAll_19 : decode cX8_loadAll 19 = .ok (.if_icmp .ge 30, 3) := by decide +kernel
theorem dX8_loadAll_49 : decode cX8_loadAll 49 = .ok (.iconst 0, 1) := by decide +kernel
theorem dX8_loadAll_50 : decode cX8_loadAll 50 = .ok (.istore_n 3, 1) := by decide +kernel
theorem dX8_loadAll_51 : decode cX8_loadAll 51 = .ok (.iload_n 3, 1) := by decide +kernel
theorem dX8_loadAll_52 : decode cX8_loadAll 52 = .ok (.aload_n 0, 1) := by decide +kernel
theorem dX8_loadAll_53 : decode cX8_loadAll 53 = .ok (.getfield 106, 3) := by decide +kernel
theorem dX8_loadAll_56 : decode cX8_loadAll 56 = .ok (.if_icmp .ge 112, 3) := by decide +kernel
theorem dX8_loadAll_168 : decode cX8_loadAll 168 = .ok (.iload_n 2, 1) := by decide +kernel
theorem dX8_loadAll_169 : decode cX8_loadAll 169 = .ok (.ireturn, 1) := by decide +kernel
theorem dX7_better_0 : decode cX7_better 0 = .ok (.iload_n 1, 1) := by decide +kernel
theorem dX7_better_1 : decode cX7_better 1 = .ok (.invokestatic 79, 3) := by decide +kernel
theorem dX7_better_4 : decode cX7_better 4 = .ok (.ifCond .ne 6, 3) := by decide +kernel
theorem dX7_better_7 : decode cX7_better 7 = .ok (.bipush (-2), 2) := by decide +kernel
theorem dX7_better_9 : decode cX7_better 9 = .ok (.ireturn, 1) := by decide +kernel
theorem dX7_better_10 : decode cX7_better 10 = .ok (.iconst 0, 1) := by decide +kernel
theorem dX7_better_11 : decode cX7_better 11 = .ok (.istore_n 2, 1) := by decide +kernel
theorem dX7_better_12 : decode cX7_better 12 = .ok (.iload_n 2, 1) := by decide +kernel
theorem dX7_better_13 : decode cX7_better 13 = .ok (.bipush 50, 2) := by decide +kernel
theorem dX7_better_15 : decode cX7_better 15 = .ok (.if_icmp .ge 40, 3) := by decide +kernel
theorem dX7_better_18 : decode cX7_better 18 = .ok (.aload_n 0, 1) := by decide +kernel
theorem dX7_better_19 : decode cX7_better 19 = .ok (.iload_n 1, 1) := by decide +kernel
theorem dX7_better_20 : decode cX7_better 20 = .ok (.invokevirtual 237, 3) := by decide +kernel
theorem dX7_better_23 : decode cX7_better 23 = .ok (.lstore_n 3, 1) := by decide +kernel
theorem dX7_better_24 : decode cX7_better 24 = .ok (.aload_n 0, 1) := by decide +kernel
theorem dX7_better_25 : decode cX7_better 25 = .ok (.getfield 63, 3) := by decide +kernel
theorem dX7_better_28 : decode cX7_better 28 = .ok (.lload_n 3, 1) := by decide +kernel
theorem dX7_better_29 : decode cX7_better 29 = .ok (.invokevirtual 243, 3) := by decide +kernel
theorem dX7_better_32 : decode cX7_better 32 = .ok (.ifCond .ne 17, 3) := by decide +kernel
theorem dX7_better_35 : decode cX7_better 35 = .ok (.aload_n 0, 1) := by decide +kernel
theorem dX7_better_36 : decode cX7_better 36 = .ok (.getfield 63, 3) := by decide +kernel
theorem dX7_better_39 : decode cX7_better 39 = .ok (.iload_n 1, 1) := by decide +kernel
theorem dX7_better_40 : decode cX7_better 40 = .ok (.lload_n 3, 1) := by decide +kernel
theorem dX7_better_41 : decode cX7_better 41 = .ok (.invokevirtual 247, 3) := by decide +kernel
theorem dX7_better_44 : decode cX7_better 44 = .ok (.ifCond .ne 5, 3) := by decide +kernel
theorem dX7_better_47 : decode cX7_better 47 = .ok (.iload_n 2, 1) := by decide +kernel
theorem dX7_better_48 : decode cX7_better 48 = .ok (.ireturn, 1) := by decide +kernel
theorem dX8_better_0 : decode cX8_better 0 = .ok (.iload_n 1, 1) := by decide +kernel
theorem dX8_better_1 : decode cX8_better 1 = .ok (.invokestatic 110, 3) := by decide +kernel
theorem dX8_better_4 : decode cX8_better 4 = .ok (.ifCond .ne 6, 3) := by decide +kernel
theorem dX8_better_7 : decode cX8_better 7 = .ok (.bipush (-2), 2) := by decide +kernel
theorem dX8_better_9 : decode cX8_better 9 = .ok (.ireturn, 1) := by decide +kernel
theorem dX8_better_10 : decode cX8_better 10 = .ok (.iconst 0, 1) := by decide +kernel
theorem dX8_better_11 : decode cX8_better 11 = .ok (.istore_n 2, 1) := by decide +kernel
theorem dX8_better_12 : decode cX8_better 12 = .ok (.iload_n 2, 1) := by decide +kernel
theorem dX8_better_13 : decode cX8_better 13 = .ok (.bipush 50, 2) := by decide +kernel
theorem dX8_better_15 : decode cX8_better 15 = .ok (.if_icmp .ge 17, 3) := by decide +kernel
theorem dX8_better_18 : decode cX8_better 18 = .ok (.aload_n 0, 1) := by decide +kernel
theorem dX8_better_19 : decode cX8_better 19 = .ok (.iload_n 1, 1) := by decide +kernel
theorem dX8_better_20 : decode cX8_better 20 = .ok (.invokevirtual 218, 3) := by decide +kernel
theorem dX8_better_23 : decode cX8_better 23 = .ok (.ifCond .eq 9, 3) := by decide +kernel
theorem dX8_better_32 : decode cX8_better 32 = .ok (.iload_n 2, 1) := by decide +kernel
theorem dX8_better_33 : decode cX8_better 33 = .ok (.ireturn, 1) := by decide +kernel
theorem dX7_best_0 : decode cX7_best 0 = .ok (.iload_n 1, 1) := by decide +kernel
theorem dX7_best_1 : decode cX7_best 1 = .ok (.invokestatic 79, 3) := by decide +kernel
theorem dX7_best_4 : decode cX7_best 4 = .ok (.ifCond .ne 6, 3) := by decide +kernel
theorem dX7_best_7 : decode cX7_best 7 = .ok (.bipush (-2), 2) := by decide +kernel
theorem dX7_best_9 : decode cX7_best 9 = .ok (.ireturn, 1) := by decide +kernel
theorem dX7_best_10 : decode cX7_best 10 = .ok (.aload_n 0, 1) := by decide +kernel
theorem dX7_best_11 : decode cX7_best 11 = .ok (.getfield 70, 3) := by decide +kernel
theorem dX7_best_14 : decode cX7_best 14 = .ok (.invokevirtual 251, 3) := by decide +kernel
theorem dX7_best_17 : decode cX7_best 17 = .ok (.ifCond .ne 6, 3) := by decide +kernel
theorem dX7_best_20 : decode cX7_best 20 = .ok (.bipush (-3), 2) := by decide +kernel
theorem dX7_best_22 : decode cX7_best 22 = .ok (.ireturn, 1) := by decide +kernel
theorem dX8_best_0 : decode cX8_best 0 = .ok (.iload_n 1, 1) := by decide +kernel
theorem dX8_best_1 : decode cX8_best 1 = .ok (.invokestatic 110, 3) := by decide +kernel
theorem dX8_best_4 : decode cX8_best 4 = .ok (.ifCond .ne 6, 3) := by decide +kernel
theorem dX8_best_7 : decode cX8_best 7 = .ok (.bipush (-2), 2) := by decide +kernel
theorem dX8_best_9 : decode cX8_best 9 = .ok (.ireturn, 1) := by decide +kernel
theorem dX8_best_10 : decode cX8_best 10 = .ok (.iconst 0, 1) := by decide +kernel
theorem dX8_best_11 : decode cX8_best 11 = .ok (.istore_n 2, 1) := by decide +kernel
theorem dX8_best_12 : decode cX8_best 12 = .ok (.iconst 0, 1) := by decide +kernel
theorem dX8_best_13 : decode cX8_best 13 = .ok (.istore_n 3, 1) := by decide +kernel
theorem dX8_best_14 : decode cX8_best 14 = .ok (.iload_n 3, 1) := by decide +kernel
theorem dX8_best_15 : decode cX8_best 15 = .ok (.bipush 32, 2) := by decide +kernel
theorem dX8_best_17 : decode cX8_best 17 = .ok (.if_icmp .ge 42, 3) := by decide +kernel
theorem dX8_best_20 : decode cX8_best 20 = .ok (.iload_n 2, 1) := by decide +kernel
theorem dX8_best_21 : decode cX8_best 21 = .ok (.aload_n 0, 1) := by decide +kernel
theorem dX8_best_22 : decode cX8_best 22 = .ok (.iload_n 3, 1) := by decide +kernel
theorem dX8_best_23 : decode cX8_best 23 = .ok (.bipush 8, 2) := by decide +kernel
theorem dX8_best_25 : decode cX8_best 25 = .ok (.idiv, 1) := by decide +kernel
theorem dX8_best_26 : decode cX8_best 26 = .ok (.iload_n 3, 1) := by decide +kernel
theorem dX8_best_27 : decode cX8_best 27 = .ok (.bipush 8, 2) := by decide +kernel
theorem dX8_best_29 : decode cX8_best 29 = .ok (.irem, 1) := by decide +kernel
theorem dX8_best_30 : decode cX8_best 30 = .ok (.invokevirtual 133, 3) := by decide +kernel
theorem dX8_best_33 : decode cX8_best 33 = .ok (.ifCond .eq 17, 3) := by decide +kernel
theorem dX8_best_50 : decode cX8_best 50 = .ok (.iconst 0, 1) := by decide +kernel
theorem dX8_best_51 : decode cX8_best 51 = .ok (.iadd, 1) := by decide +kernel
theorem dX8_best_52 : decode cX8_best 52 = .ok (.istore_n 2, 1) := by decide +kernel
theorem dX8_best_53 : decode cX8_best 53 = .ok (.iinc 3 1, 3) := by decide +kernel
theorem dX8_best_56 : decode cX8_best 56 = .ok (.goto (-42), 3) := by decide +kernel
theorem dX8_best_59 : decode cX8_best 59 = .ok (.aload_n 0, 1) := by decide +kernel
theorem dX8_best_60 : decode cX8_best 60 = .ok (.iconst 0, 1) := by decide +kernel
theorem dX8_best_61 : decode cX8_best 61 = .ok (.putfield 221, 3) := by decide +kernel
theorem dX8_best_64 : decode cX8_best 64 = .ok (.iconst 0, 1) := by decide +kernel
theorem dX8_best_65 : decode cX8_best 65 = .ok (.istore_n 3, 1) := by decide +kernel
theorem dX8_best_66 : decode cX8_best 66 = .ok (.iload_n 3, 1) := by decide +kernel
theorem dX8_best_67 : decode cX8_best 67 = .ok (.aload_n 0, 1) := by decide +kernel
theorem dX8_best_68 : decode cX8_best 68 = .ok (.getfield 106, 3) := by decide +kernel
theorem dX8_best_71 : decode cX8_best 71 = .ok (.if_icmp .ge 53, 3) := by decide +kernel
theorem dX8_best_124 : decode cX8_best 124 = .ok (.aload_n 0, 1) := by decide +kernel
theorem dX8_best_125 : decode cX8_best 125 = .ok (.getfield 221, 3) := by decide +kernel
theorem dX8_best_128 : decode cX8_best 128 = .ok (.ifCond .eq 9, 3) := by decide +kernel
theorem dX8_best_137 : decode cX8_best 137 = .ok (.bipush (-3), 2) := by decide +kernel
theorem dX8_best_139 : decode cX8_best 139 = .ok (.ireturn, 1) := by decide +kernel
theorem dX7_late_0 : decode cX7_late 0 = .ok (.iload_n 1, 1) := by decide +kernel
theorem dX7_late_1 : decode cX7_late 1 = .ok (.iconst 0, 1) := by decide +kernel
theorem dX7_late_2 : decode cX7_late 2 = .ok (.bipush 80, 2) := by decide +kernel
theorem dX7_late_4 : decode cX7_late 4 = .ok (.invokestatic 75, 3) := by decide +kernel
theorem dX7_late_7 : decode cX7_late 7 = .ok (.ifCond .eq 10, 3) := by decide +kernel
theorem dX7_late_10 : decode cX7_late 10 = .ok (.iload_n 2, 1) := by decide +kernel
theorem dX7_late_11 : decode cX7_late 11 = .ok (.invokestatic 79, 3) := by decide +kernel
theorem dX7_late_14 : decode cX7_late 14 = .ok (.ifCond .ne 6, 3) := by decide +kernel
theorem dX7_late_17 : decode cX7_late 17 = .ok (.bipush (-2), 2) := by decide +kernel
theorem dX7_late_19 : decode cX7_late 19 = .ok (.ireturn, 1) := by decide +kernel
theorem dX7_late_20 : decode cX7_late 20 = .ok (.aload_n 0, 1) := by decide +kernel
theorem dX7_late_21 : decode cX7_late 21 = .ok (.getfield 28, 3) := by decide +kernel
theorem dX7_late_24 : decode cX7_late 24 = .ok (.iload_n 1, 1) := by decide +kernel
theorem dX7_late_25 : decode cX7_late 25 = .ok (.iload_n 2, 1) := by decide +kernel
theorem dX7_late_26 : decode cX7_late 26 = .ok (.aload_n 0, 1) := by decide +kernel
theorem dX7_late_27 : decode cX7_late 27 = .ok (.iload_n 2, 1) := by decide +kernel
theorem dX7_late_28 : decode cX7_late 28 = .ok (.invokevirtual 237, 3) := by decide +kernel
theorem dX7_late_31 : decode cX7_late 31 = .ok (.invokevirtual 258, 3) := by decide +kernel
theorem dX7_late_34 : decode cX7_late 34 = .ok (.ireturn, 1) := by decide +kernel
theorem dX8_late_0 : decode cX8_late 0 = .ok (.iload_n 1, 1) := by decide +kernel
theorem dX8_late_1 : decode cX8_late 1 = .ok (.iconst 0, 1) := by decide +kernel
theorem dX8_late_2 : decode cX8_late 2 = .ok (.bipush 80, 2) := by decide +kernel
theorem dX8_late_4 : decode cX8_late 4 = .ok (.invokestatic 95, 3) := by decide +kernel
theorem dX8_late_7 : decode cX8_late 7 = .ok (.ifCond .eq 10, 3) := by decide +kernel
theorem dX8_late_10 : decode cX8_late 10 = .ok (.iload_n 2, 1) := by decide +kernel
theorem dX8_late_11 : decode cX8_late 11 = .ok (.invokestatic 110, 3) := by decide +kernel
theorem dX8_late_14 : decode cX8_late 14 = .ok (.ifCond .ne 6, 3) := by decide +kernel
theorem dX8_late_17 : decode cX8_late 17 = .ok (.bipush (-2), 2) := by decide +kernel
theorem dX8_late_19 : decode cX8_late 19 = .ok (.ireturn, 1) := by decide +kernel
theorem dX8_late_20 : decode cX8_late 20 = .ok (.iconst 0, 1) := by decide +kernel
theorem dX8_late_21 : decode cX8_late 21 = .ok (.istore_n 3, 1) := by decide +kernel
theorem dX8_late_22 : decode cX8_late 22 = .ok (.iconst 0, 1) := by decide +kernel
theorem dX8_late_23 : decode cX8_late 23 = .ok (.istore 4, 2) := by decide +kernel
theorem dX8_late_25 : decode cX8_late 25 = .ok (.iload 4, 2) := by decide +kernel
theorem dX8_late_27 : decode cX8_late 27 = .ok (.iload_n 1, 1) := by decide +kernel
theorem dX8_late_28 : decode cX8_late 28 = .ok (.if_icmp .ge 137, 3) := by decide +kernel
theorem dX8_late_31 : decode cX8_late 31 = .ok (.iconst (-1), 1) := by decide +kernel
theorem dX8_late_32 : decode cX8_late 32 = .ok (.istore 5, 2) := by decide +kernel
theorem dX8_late_34 : decode cX8_late 34 = .ok (.lconst 0, 1) := by decide +kernel
theorem dX8_late_35 : decode cX8_late 35 = .ok (.lstore 6, 2) := by decide +kernel
theorem dX8_late_37 : decode cX8_late 37 = .ok (.iconst 0, 1) := by decide +kernel
theorem dX8_late_38 : decode cX8_late 38 = .ok (.istore 8, 2) := by decide +kernel
theorem dX8_late_40 : decode cX8_late 40 = .ok (.iload 8, 2) := by decide +kernel
theorem dX8_late_42 : decode cX8_late 42 = .ok (.aload_n 0, 1) := by decide +kernel
theorem dX8_late_43 : decode cX8_late 43 = .ok (.getfield 116, 3) := by decide +kernel
theorem dX8_late_46 : decode cX8_late 46 = .ok (.if_icmp .ge 91, 3) := by decide +kernel
theorem dX8_late_137 : decode cX8_late 137 = .ok (.iload 5, 2) := by decide +kernel
theorem dX8_late_139 : decode cX8_late 139 = .ok (.iconst (-1), 1) := by decide +kernel
theorem dX8_late_140 : decode cX8_late 140 = .ok (.if_icmp .ne 5, 3) := by decide +kernel
theorem dX8_late_143 : decode cX8_late 143 = .ok (.iload_n 3, 1) := by decide +kernel
theorem dX8_late_144 : decode cX8_late 144 = .ok (.ireturn, 1) := by decide +kernel
theorem dX8_late_165 : decode cX8_late 165 = .ok (.iload_n 3, 1) := by decide +kernel
theorem dX8_late_166 : decode cX8_late 166 = .ok (.ireturn, 1) := by decide +kernel
theorem dX7_count_0 : decode cX7_count 0 = .ok (.iload_n 1, 1) := by decide +kernel
theorem dX7_count_1 : decode cX7_count 1 = .ok (.tableswitch 111 0 7 #[47, 55, 63, 71, 79, 87, 95, 103], 47) := by decide +kernel
theorem dX7_count_48 : decode cX7_count 48 = .ok (.aload_n 0, 1) := by decide +kernel
theorem dX7_count_49 : decode cX7_count 49 = .ok (.getfield 21, 3) := by decide +kernel
theorem dX7_count_52 : decode cX7_count 52 = .ok (.getfield 262, 3) := by decide +kernel
theorem dX7_count_55 : decode cX7_count 55 = .ok (.ireturn, 1) := by decide +kernel
theorem dX7_count_56 : decode cX7_count 56 = .ok (.aload_n 0, 1) := by decide +kernel
theorem dX7_count_57 : decode cX7_count 57 = .ok (.getfield 21, 3) := by decide +kernel
theorem dX7_count_60 : decode cX7_count 60 = .ok (.invokevirtual 265, 3) := by decide +kernel
theorem dX7_count_63 : decode cX7_count 63 = .ok (.ireturn, 1) := by decide +kernel
theorem dX7_count_64 : decode cX7_count 64 = .ok (.aload_n 0, 1) := by decide +kernel
theorem dX7_count_65 : decode cX7_count 65 = .ok (.getfield 21, 3) := by decide +kernel
theorem dX7_count_68 : decode cX7_count 68 = .ok (.getfield 268, 3) := by decide +kernel
theorem dX7_count_71 : decode cX7_count 71 = .ok (.ireturn, 1) := by decide +kernel
theorem dX7_count_72 : decode cX7_count 72 = .ok (.aload_n 0, 1) := by decide +kernel
theorem dX7_count_73 : decode cX7_count 73 = .ok (.getfield 21, 3) := by decide +kernel
theorem dX7_count_76 : decode cX7_count 76 = .ok (.invokevirtual 271, 3) := by decide +kernel
theorem dX7_count_79 : decode cX7_count 79 = .ok (.ireturn, 1) := by decide +kernel
theorem dX7_count_80 : decode cX7_count 80 = .ok (.aload_n 0, 1) := by decide +kernel
theorem dX7_count_81 : decode cX7_count 81 = .ok (.getfield 28, 3) := by decide +kernel
theorem dX7_count_84 : decode cX7_count 84 = .ok (.getfield 122, 3) := by decide +kernel
theorem dX7_count_87 : decode cX7_count 87 = .ok (.ireturn, 1) := by decide +kernel
theorem dX7_count_88 : decode cX7_count 88 = .ok (.aload_n 0, 1) := by decide +kernel
theorem dX7_count_89 : decode cX7_count 89 = .ok (.getfield 28, 3) := by decide +kernel
theorem dX7_count_92 : decode cX7_count 92 = .ok (.invokevirtual 274, 3) := by decide +kernel
theorem dX7_count_95 : decode cX7_count 95 = .ok (.ireturn, 1) := by decide +kernel
theorem dX7_count_96 : decode cX7_count 96 = .ok (.aload_n 0, 1) := by decide +kernel
theorem dX7_count_97 : decode cX7_count 97 = .ok (.getfield 35, 3) := by decide +kernel
theorem dX7_count_100 : decode cX7_count 100 = .ok (.getfield 132, 3) := by decide +kernel
theorem dX7_count_103 : decode cX7_count 103 = .ok (.ireturn, 1) := by decide +kernel
theorem dX7_count_104 : decode cX7_count 104 = .ok (.aload_n 0, 1) := by decide +kernel
theorem dX7_count_105 : decode cX7_count 105 = .ok (.getfield 28, 3) := by decide +kernel
theorem dX7_count_108 : decode cX7_count 108 = .ok (.getfield 119, 3) := by decide +kernel
theorem dX7_count_111 : decode cX7_count 111 = .ok (.ireturn, 1) := by decide +kernel
theorem dX7_count_112 : decode cX7_count 112 = .ok (.iconst (-1), 1) := by decide +kernel
theorem dX7_count_113 : decode cX7_count 113 = .ok (.ireturn, 1) := by decide +kernel
theorem dX8_count_0 : decode cX8_count 0 = .ok (.iconst 0, 1) := by decide +kernel
theorem dX8_count_1 : decode cX8_count 1 = .ok (.istore_n 2, 1) := by decide +kernel
theorem dX8_count_2 : decode cX8_count 2 = .ok (.iload_n 1, 1) := by decide +kernel
theorem dX8_count_3 : decode cX8_count 3 = .ok (.tableswitch 160 0 7 #[45, 50, 77, 82, 118, 123, 150, 155], 45) := by decide +kernel
theorem dX8_count_48 : decode cX8_count 48 = .ok (.aload_n 0, 1) := by decide +kernel
theorem dX8_count_49 : decode cX8_count 49 = .ok (.getfield 99, 3) := by decide +kernel
theorem dX8_count_52 : decode cX8_count 52 = .ok (.ireturn, 1) := by decide +kernel
theorem dX8_count_53 : decode cX8_count 53 = .ok (.iconst 0, 1) := by decide +kernel
theorem dX8_count_54 : decode cX8_count 54 = .ok (.istore_n 3, 1) := by decide +kernel
theorem dX8_count_55 : decode cX8_count 55 = .ok (.iload_n 3, 1) := by decide +kernel
theorem dX8_count_56 : decode cX8_count 56 = .ok (.aload_n 0, 1) := by decide +kernel
theorem dX8_count_57 : decode cX8_count 57 = .ok (.getfield 99, 3) := by decide +kernel
theorem dX8_count_60 : decode cX8_count 60 = .ok (.if_icmp .ge 18, 3) := by decide +kernel
theorem dX8_count_78 : decode cX8_count 78 = .ok (.iload_n 2, 1) := by decide +kernel
theorem dX8_count_79 : decode cX8_count 79 = .ok (.ireturn, 1) := by decide +kernel
theorem dX8_count_80 : decode cX8_count 80 = .ok (.aload_n 0, 1) := by decide +kernel
theorem dX8_count_81 : decode cX8_count 81 = .ok (.getfield 106, 3) := by decide +kernel
theorem dX8_count_84 : decode cX8_count 84 = .ok (.ireturn, 1) := by decide +kernel
theorem dX8_count_85 : decode cX8_count 85 = .ok (.iconst 0, 1) := by decide +kernel
theorem dX8_count_86 : decode cX8_count 86 = .ok (.istore_n 3, 1) := by decide +kernel
theorem dX8_count_87 : decode cX8_count 87 = .ok (.iload_n 3, 1) := by decide +kernel
theorem dX8_count_88 : decode cX8_count 88 = .ok (.aload_n 0, 1) := by decide +kernel
theorem dX8_count_89 : decode cX8_count 89 = .ok (.getfield 106, 3) := by decide +kernel
theorem dX8_count_92 : decode cX8_count 92 = .ok (.if_icmp .ge 27, 3) := by decide +kernel
theorem dX8_count_119 : decode cX8_count 119 = .ok (.iload_n 2, 1) := by decide +kernel
theorem dX8_count_120 : decode cX8_count 120 = .ok (.ireturn, 1) := by decide +kernel
theorem dX8_count_121 : decode cX8_count 121 = .ok (.aload_n 0, 1) := by decide +kernel
theorem dX8_count_122 : decode cX8_count 122 = .ok (.getfield 116, 3) := by decide +kernel
theorem dX8_count_125 : decode cX8_count 125 = .ok (.ireturn, 1) := by decide +kernel
theorem dX8_count_126 : decode cX8_count 126 = .ok (.iconst 0, 1) := by decide +kernel
theorem dX8_count_127 : decode cX8_count 127 = .ok (.istore_n 3, 1) := by decide +kernel
theorem dX8_count_128 : decode cX8_count 128 = .ok (.iload_n 3, 1) := by decide +kernel
theorem dX8_count_129 : decode cX8_count 129 = .ok (.aload_n 0, 1) := by decide +kernel
theorem dX8_count_130 : decode cX8_count 130 = .ok (.getfield 116, 3) := by decide +kernel
theorem dX8_count_133 : decode cX8_count 133 = .ok (.if_icmp .ge 18, 3) := by decide +kernel
theorem dX8_count_151 : decode cX8_count 151 = .ok (.iload_n 2, 1) := by decide +kernel
theorem dX8_count_152 : decode cX8_count 152 = .ok (.ireturn, 1) := by decide +kernel
theorem dX8_count_153 : decode cX8_count 153 = .ok (.aload_n 0, 1) := by decide +kernel
theorem dX8_count_154 : decode cX8_count 154 = .ok (.getfield 119, 3) := by decide +kernel
theorem dX8_count_157 : decode cX8_count 157 = .ok (.ireturn, 1) := by decide +kernel
theorem dX8_count_158 : decode cX8_count 158 = .ok (.aload_n 0, 1) := by decide +kernel
theorem dX8_count_159 : decode cX8_count 159 = .ok (.getfield 70, 3) := by decide +kernel
theorem dX8_count_162 : decode cX8_count 162 = .ok (.ireturn, 1) := by decide +kernel
theorem dX8_count_163 : decode cX8_count 163 = .ok (.iconst (-1), 1) := by decide +kernel
theorem dX8_count_164 : decode cX8_count 164 = .ok (.ireturn, 1) := by decide +kernel
theorem dJ7_fill_53178_0 : decode cJ7_fill_53178 0 = .ok (.iconst 0, 1) := by decide +kernel
theorem dJ7_fill_53178_1 : decode cJ7_fill_53178 1 = .ok (.istore_n 2, 1) := by decide +kernel
theorem dJ7_fill_53178_2 : decode cJ7_fill_53178 2 = .ok (.aload_n 0, 1) := by decide +kernel
theorem dJ7_fill_53178_3 : decode cJ7_fill_53178 3 = .ok (.arraylength, 1) := by decide +kernel
theorem dJ7_fill_53178_4 : decode cJ7_fill_53178 4 = .ok (.istore_n 3, 1) := by decide +kernel
theorem dJ7_fill_53178_5 : decode cJ7_fill_53178 5 = .ok (.iload_n 2, 1) := by decide +kernel
theorem dJ7_fill_53178_6 : decode cJ7_fill_53178 6 = .ok (.iload_n 3, 1) := by decide +kernel
theorem dJ7_fill_53178_7 : decode cJ7_fill_53178 7 = .ok (.if_icmp .ge 13, 3) := by decide +kernel
theorem dJ7_fill_53178_10 : decode cJ7_fill_53178 10 = .ok (.aload_n 0, 1) := by decide +kernel
theorem dJ7_fill_53178_11 : decode cJ7_fill_53178 11 = .ok (.iload_n 2, 1) := by decide +kernel
theorem dJ7_fill_53178_12 : decode cJ7_fill_53178 12 = .ok (.iload_n 1, 1) := by decide +kernel
theorem dJ7_fill_53178_13 : decode cJ7_fill_53178 13 = .ok (.iastore, 1) := by decide +kernel
theorem dJ7_fill_53178_14 : decode cJ7_fill_53178 14 = .ok (.iinc 2 1, 3) := by decide +kernel
theorem dJ7_fill_53178_17 : decode cJ7_fill_53178 17 = .ok (.goto (-12), 3) := by decide +kernel
theorem dJ7_fill_53178_20 : decode cJ7_fill_53178 20 = .ok (.return_, 1) := by decide +kernel
theorem dX0_init_0 : decode cX0_init 0 = .ok (.aload_n 0, 1) := by decide +kernel
theorem dX0_init_1 : decode cX0_init 1 = .ok (.invokespecial 3, 3) := by decide +kernel
theorem dX0_init_4 : decode cX0_init 4 = .ok (.aload_n 0, 1) := by decide +kernel
theorem dX0_init_5 : decode cX0_init 5 = .ok (.bipush 10, 2) := by decide +kernel
theorem dX0_init_7 : decode cX0_init 7 = .ok (.newarray .int, 2) := by decide +kernel
theorem dX0_init_9 : decode cX0_init 9 = .ok (.putfield 11, 3) := by decide +kernel
theorem dX0_init_12 : decode cX0_init 12 = .ok (.aload_n 0, 1) := by decide +kernel
theorem dX0_init_13 : decode cX0_init 13 = .ok (.bipush 10, 2) := by decide +kernel
theorem dX0_init_15 : decode cX0_init 15 = .ok (.newarray .int, 2) := by decide +kernel
theorem dX0_init_17 : decode cX0_init 17 = .ok (.putfield 15, 3) := by decide +kernel
theorem dX0_init_20 : decode cX0_init 20 = .ok (.aload_n 0, 1) := by decide +kernel
theorem dX0_init_21 : decode cX0_init 21 = .ok (.bipush 10, 2) := by decide +kernel
theorem dX0_init_23 : decode cX0_init 23 = .ok (.newarray .int, 2) := by decide +kernel
theorem dX0_init_25 : decode cX0_init 25 = .ok (.putfield 18, 3) := by decide +kernel
theorem dX0_init_28 : decode cX0_init 28 = .ok (.aload_n 0, 1) := by decide +kernel
theorem dX0_init_29 : decode cX0_init 29 = .ok (.iconst 0, 1) := by decide +kernel
theorem dX0_init_30 : decode cX0_init 30 = .ok (.putfield 21, 3) := by decide +kernel
theorem dX0_init_33 : decode cX0_init 33 = .ok (.aload_n 0, 1) := by decide +kernel
theorem dX0_init_34 : decode cX0_init 34 = .ok (.bipush 80, 2) := by decide +kernel
theorem dX0_init_36 : decode cX0_init 36 = .ok (.putfield 25, 3) := by decide +kernel
theorem dX0_init_39 : decode cX0_init 39 = .ok (.return_, 1) := by decide +kernel
theorem dX6_init_0 : decode cX6_init 0 = .ok (.aload_n 0, 1) := by decide +kernel
theorem dX6_init_1 : decode cX6_init 1 = .ok (.invokespecial 3, 3) := by decide +kernel
theorem dX6_init_4 : decode cX6_init 4 = .ok (.aload_n 0, 1) := by decide +kernel
theorem dX6_init_5 : decode cX6_init 5 = .ok (.iconst 4, 1) := by decide +kernel
theorem dX6_init_6 : decode cX6_init 6 = .ok (.newarray .int, 2) := by decide +kernel
theorem dX6_init_8 : decode cX6_init 8 = .ok (.putfield 11, 3) := by decide +kernel
theorem dX6_init_11 : decode cX6_init 11 = .ok (.aload_n 0, 1) := by decide +kernel
theorem dX6_init_12 : decode cX6_init 12 = .ok (.iconst 4, 1) := by decide +kernel
theorem dX6_init_13 : decode cX6_init 13 = .ok (.newarray .int, 2) := by decide +kernel
theorem dX6_init_15 : decode cX6_init 15 = .ok (.putfield 15, 3) := by decide +kernel
theorem dX6_init_18 : decode cX6_init 18 = .ok (.aload_n 0, 1) := by decide +kernel
theorem dX6_init_19 : decode cX6_init 19 = .ok (.iconst 4, 1) := by decide +kernel
theorem dX6_init_20 : decode cX6_init 20 = .ok (.newarray .int, 2) := by decide +kernel
theorem dX6_init_22 : decode cX6_init 22 = .ok (.putfield 18, 3) := by decide +kernel
theorem dX6_init_25 : decode cX6_init 25 = .ok (.aload_n 0, 1) := by decide +kernel
theorem dX6_init_26 : decode cX6_init 26 = .ok (.iconst 0, 1) := by decide +kernel
theorem dX6_init_27 : decode cX6_init 27 = .ok (.putfield 21, 3) := by decide +kernel
theorem dX6_init_30 : decode cX6_init 30 = .ok (.return_, 1) := by decide +kernel
theorem dX3_init_0 : decode cX3_init 0 = .ok (.aload_n 0, 1) := by decide +kernel
theorem dX3_init_1 : decode cX3_init 1 = .ok (.invokespecial 3, 3) := by decide +kernel
theorem dX3_init_4 : decode cX3_init 4 = .ok (.aload_n 0, 1) := by decide +kernel
theorem dX3_init_5 : decode cX3_init 5 = .ok (.bipush 10, 2) := by decide +kernel
theorem dX3_init_7 : decode cX3_init 7 = .ok (.newarray .int, 2) := by decide +kernel
theorem dX3_init_9 : decode cX3_init 9 = .ok (.putfield 11, 3) := by decide +kernel
theorem dX3_init_12 : decode cX3_init 12 = .ok (.aload_n 0, 1) := by decide +kernel
theorem dX3_init_13 : decode cX3_init 13 = .ok (.bipush 10, 2) := by decide +kernel
theorem dX3_init_15 : decode cX3_init 15 = .ok (.newarray .int, 2) := by decide +kernel
theorem dX3_init_17 : decode cX3_init 17 = .ok (.putfield 15, 3) := by decide +kernel
theorem dX3_init_20 : decode cX3_init 20 = .ok (.aload_n 0, 1) := by decide +kernel
theorem dX3_init_21 : decode cX3_init 21 = .ok (.bipush 10, 2) := by decide +kernel
theorem dX3_init_23 : decode cX3_init 23 = .ok (.newarray .int, 2) := by decide +kernel
theorem dX3_init_25 : decode cX3_init 25 = .ok (.putfield 18, 3) := by decide +kernel
theorem dX3_init_28 : decode cX3_init 28 = .ok (.aload_n 0, 1) := by decide +kernel
theorem dX3_init_29 : decode cX3_init 29 = .ok (.iconst 0, 1) := by decide +kernel
theorem dX3_init_30 : decode cX3_init 30 = .ok (.putfield 21, 3) := by decide +kernel
theorem dX3_init_33 : decode cX3_init 33 = .ok (.return_, 1) := by decide +kernel
theorem dX1_init_0 : decode cX1_init 0 = .ok (.aload_n 0, 1) := by decide +kernel
theorem dX1_init_1 : decode cX1_init 1 = .ok (.invokespecial 3, 3) := by decide +kernel
theorem dX1_init_4 : decode cX1_init 4 = .ok (.aload_n 0, 1) := by decide +kernel
theorem dX1_init_5 : decode cX1_init 5 = .ok (.iconst 4, 1) := by decide +kernel
theorem dX1_init_6 : decode cX1_init 6 = .ok (.newarray .int, 2) := by decide +kernel
theorem dX1_init_8 : decode cX1_init 8 = .ok (.putfield 11, 3) := by decide +kernel
theorem dX1_init_11 : decode cX1_init 11 = .ok (.aload_n 0, 1) := by decide +kernel
theorem dX1_init_12 : decode cX1_init 12 = .ok (.iconst 4, 1) := by decide +kernel
theorem dX1_init_13 : decode cX1_init 13 = .ok (.newarray .int, 2) := by decide +kernel
theorem dX1_init_15 : decode cX1_init 15 = .ok (.putfield 15, 3) := by decide +kernel
theorem dX1_init_18 : decode cX1_init 18 = .ok (.aload_n 0, 1) := by decide +kernel
theorem dX1_init_19 : decode cX1_init 19 = .ok (.iconst 4, 1) := by decide +kernel
theorem dX1_init_20 : decode cX1_init 20 = .ok (.newarray .int, 2) := by decide +kernel
theorem dX1_init_22 : decode cX1_init 22 = .ok (.putfield 18, 3) := by decide +kernel
theorem dX1_init_25 : decode cX1_init 25 = .ok (.aload_n 0, 1) := by decide +kernel
theorem dX1_init_26 : decode cX1_init 26 = .ok (.iconst 0, 1) := by decide +kernel
theorem dX1_init_27 : decode cX1_init 27 = .ok (.putfield 21, 3) := by decide +kernel
theorem dX1_init_30 : decode cX1_init 30 = .ok (.aload_n 0, 1) := by decide +kernel
theorem dX1_init_31 : decode cX1_init 31 = .ok (.bipush 32, 2) := by decide +kernel
theorem dX1_init_33 : decode cX1_init 33 = .ok (.newarray .int, 2) := by decide +kernel
theorem dX1_init_35 : decode cX1_init 35 = .ok (.putfield 25, 3) := by decide +kernel
theorem dX1_init_38 : decode cX1_init 38 = .ok (.aload_n 0, 1) := by decide +kernel
theorem dX1_init_39 : decode cX1_init 39 = .ok (.bipush 32, 2) := by decide +kernel
theorem dX1_init_41 : decode cX1_init 41 = .ok (.newarray .int, 2) := by decide +kernel
theorem dX1_init_43 : decode cX1_init 43 = .ok (.putfield 28, 3) := by decide +kernel
theorem dX1_init_46 : decode cX1_init 46 = .ok (.aload_n 0, 1) := by decide +kernel
theorem dX1_init_47 : decode cX1_init 47 = .ok (.bipush 32, 2) := by decide +kernel
theorem dX1_init_49 : decode cX1_init 49 = .ok (.newarray .int, 2) := by decide +kernel
theorem dX1_init_51 : decode cX1_init 51 = .ok (.putfield 31, 3) := by decide +kernel
theorem dX1_init_54 : decode cX1_init 54 = .ok (.aload_n 0, 1) := by decide +kernel
theorem dX1_init_55 : decode cX1_init 55 = .ok (.bipush 40, 2) := by decide +kernel
theorem dX1_init_57 : decode cX1_init 57 = .ok (.newarray .int, 2) := by decide +kernel
theorem dX1_init_59 : decode cX1_init 59 = .ok (.putfield 34, 3) := by decide +kernel
theorem dX1_init_62 : decode cX1_init 62 = .ok (.aload_n 0, 1) := by decide +kernel
theorem dX1_init_63 : decode cX1_init 63 = .ok (.bipush 40, 2) := by decide +kernel
theorem dX1_init_65 : decode cX1_init 65 = .ok (.newarray .int, 2) := by decide +kernel
theorem dX1_init_67 : decode cX1_init 67 = .ok (.putfield 37, 3) := by decide +kernel
theorem dX1_init_70 : decode cX1_init 70 = .ok (.aload_n 0, 1) := by decide +kernel
theorem dX1_init_71 : decode cX1_init 71 = .ok (.bipush 40, 2) := by decide +kernel
theorem dX1_init_73 : decode cX1_init 73 = .ok (.newarray .int, 2) := by decide +kernel
theorem dX1_init_75 : decode cX1_init 75 = .ok (.putfield 40, 3) := by decide +kernel
theorem dX1_init_78 : decode cX1_init 78 = .ok (.aload_n 0, 1) := by decide +kernel
theorem dX1_init_79 : decode cX1_init 79 = .ok (.bipush 40, 2) := by decide +kernel
theorem dX1_init_81 : decode cX1_init 81 = .ok (.newarray .int, 2) := by decide +kernel
theorem dX1_init_83 : decode cX1_init 83 = .ok (.putfield 43, 3) := by decide +kernel
theorem dX1_init_86 : decode cX1_init 86 = .ok (.aload_n 0, 1) := by decide +kernel
theorem dX1_init_87 : decode cX1_init 87 = .ok (.bipush 40, 2) := by decide +kernel
theorem dX1_init_89 : decode cX1_init 89 = .ok (.newarray .int, 2) := by decide +kernel
theorem dX1_init_91 : decode cX1_init 91 = .ok (.putfield 46, 3) := by decide +kernel
theorem dX1_init_94 : decode cX1_init 94 = .ok (.aload_n 0, 1) := by decide +kernel
theorem dX1_init_95 : decode cX1_init 95 = .ok (.iconst 0, 1) := by decide +kernel
theorem dX1_init_96 : decode cX1_init 96 = .ok (.putfield 49, 3) := by decide +kernel
theorem dX1_init_99 : decode cX1_init 99 = .ok (.aload_n 0, 1) := by decide +kernel
theorem dX1_init_100 : decode cX1_init 100 = .ok (.bipush 64, 2) := by decide +kernel
theorem dX1_init_102 : decode cX1_init 102 = .ok (.newarray .int, 2) := by decide +kernel
theorem dX1_init_104 : decode cX1_init 104 = .ok (.putfield 52, 3) := by decide +kernel
theorem dX1_init_107 : decode cX1_init 107 = .ok (.aload_n 0, 1) := by decide +kernel
theorem dX1_init_108 : decode cX1_init 108 = .ok (.getfield 31, 3) := by decide +kernel
theorem dX1_init_111 : decode cX1_init 111 = .ok (.iconst (-1), 1) := by decide +kernel
theorem dX1_init_112 : decode cX1_init 112 = .ok (.invokestatic 55, 3) := by decide +kernel
theorem dX1_init_115 : decode cX1_init 115 = .ok (.aload_n 0, 1) := by decide +kernel
theorem dX1_init_116 : decode cX1_init 116 = .ok (.getfield 43, 3) := by decide +kernel
theorem dX1_init_119 : decode cX1_init 119 = .ok (.iconst (-1), 1) := by decide +kernel
theorem dX1_init_120 : decode cX1_init 120 = .ok (.invokestatic 55, 3) := by decide +kernel
theorem dX1_init_123 : decode cX1_init 123 = .ok (.return_, 1) := by decide +kernel
theorem dX2_init_0 : decode cX2_init 0 = .ok (.aload_n 0, 1) := by decide +kernel
theorem dX2_init_1 : decode cX2_init 1 = .ok (.invokespecial 3, 3) := by decide +kernel
theorem dX2_init_4 : decode cX2_init 4 = .ok (.aload_n 0, 1) := by decide +kernel
theorem dX2_init_5 : decode cX2_init 5 = .ok (.iconst 0, 1) := by decide +kernel
theorem dX2_init_6 : decode cX2_init 6 = .ok (.putfield 9, 3) := by decide +kernel
theorem dX2_init_9 : decode cX2_init 9 = .ok (.aload_n 0, 1) := by decide +kernel
theorem dX2_init_10 : decode cX2_init 10 = .ok (.lconst 0, 1) := by decide +kernel
theorem dX2_init_11 : decode cX2_init 11 = .ok (.putfield 15, 3) := by decide +kernel
theorem dX2_init_14 : decode cX2_init 14 = .ok (.aload_n 0, 1) := by decide +kernel
theorem dX2_init_15 : decode cX2_init 15 = .ok (.aload_n 1, 1) := by decide +kernel
theorem dX2_init_16 : decode cX2_init 16 = .ok (.putfield 19, 3) := by decide +kernel
theorem dX2_init_19 : decode cX2_init 19 = .ok (.aload_n 0, 1) := by decide +kernel
theorem dX2_init_20 : decode cX2_init 20 = .ok (.aload_n 2, 1) := by decide +kernel
theorem dX2_init_21 : decode cX2_init 21 = .ok (.putfield 23, 3) := by decide +kernel
theorem dX2_init_24 : decode cX2_init 24 = .ok (.return_, 1) := by decide +kernel
theorem dX5_init_0 : decode cX5_init 0 = .ok (.aload_n 0, 1) := by decide +kernel
theorem dX5_init_1 : decode cX5_init 1 = .ok (.invokespecial 3, 3) := by decide +kernel
theorem dX5_init_4 : decode cX5_init 4 = .ok (.aload_n 0, 1) := by decide +kernel
theorem dX5_init_5 : decode cX5_init 5 = .ok (.aload_n 1, 1) := by decide +kernel
theorem dX5_init_6 : decode cX5_init 6 = .ok (.putfield 9, 3) := by decide +kernel
theorem dX5_init_9 : decode cX5_init 9 = .ok (.return_, 1) := by decide +kernel
theorem dX4_init_0 : decode cX4_init 0 = .ok (.aload_n 0, 1) := by decide +kernel
theorem dX4_init_1 : decode cX4_init 1 = .ok (.invokespecial 3, 3) := by decide +kernel
theorem dX4_init_4 : decode cX4_init 4 = .ok (.aload_n 0, 1) := by decide +kernel
theorem dX4_init_5 : decode cX4_init 5 = .ok (.iconst 4, 1) := by decide +kernel
theorem dX4_init_6 : decode cX4_init 6 = .ok (.newarray .int, 2) := by decide +kernel
theorem dX4_init_8 : decode cX4_init 8 = .ok (.putfield 11, 3) := by decide +kernel
theorem dX4_init_11 : decode cX4_init 11 = .ok (.aload_n 0, 1) := by decide +kernel
theorem dX4_init_12 : decode cX4_init 12 = .ok (.iconst 4, 1) := by decide +kernel
theorem dX4_init_13 : decode cX4_init 13 = .ok (.newarray .int, 2) := by decide +kernel
theorem dX4_init_15 : decode cX4_init 15 = .ok (.putfield 15, 3) := by decide +kernel
theorem dX4_init_18 : decode cX4_init 18 = .ok (.aload_n 0, 1) := by decide +kernel
theorem dX4_init_19 : decode cX4_init 19 = .ok (.bipush 10, 2) := by decide +kernel
theorem dX4_init_21 : decode cX4_init 21 = .ok (.newarray .int, 2) := by decide +kernel
theorem dX4_init_23 : decode cX4_init 23 = .ok (.putfield 18, 3) := by decide +kernel
theorem dX4_init_26 : decode cX4_init 26 = .ok (.aload_n 0, 1) := by decide +kernel
theorem dX4_init_27 : decode cX4_init 27 = .ok (.iconst 0, 1) := by decide +kernel
theorem dX4_init_28 : decode cX4_init 28 = .ok (.putfield 21, 3) := by decide +kernel
theorem dX4_init_31 : decode cX4_init 31 = .ok (.aload_n 0, 1) := by decide +kernel
theorem dX4_init_32 : decode cX4_init 32 = .ok (.iconst 0, 1) := by decide +kernel
theorem dX4_init_33 : decode cX4_init 33 = .ok (.putfield 25, 3) := by decide +kernel
theorem dX4_init_36 : decode cX4_init 36 = .ok (.aload_n 0, 1) := by decide +kernel
theorem dX4_init_37 : decode cX4_init 37 = .ok (.iconst 0, 1) := by decide +kernel
theorem dX4_init_38 : decode cX4_init 38 = .ok (.putfield 28, 3) := by decide +kernel
theorem dX4_init_41 : decode cX4_init 41 = .ok (.aload_n 0, 1) := by decide +kernel
theorem dX4_init_42 : decode cX4_init 42 = .ok (.iconst 0, 1) := by decide +kernel
theorem dX4_init_43 : decode cX4_init 43 = .ok (.putfield 31, 3) := by decide +kernel
theorem dX4_init_46 : decode cX4_init 46 = .ok (.aload_n 0, 1) := by decide +kernel
theorem dX4_init_47 : decode cX4_init 47 = .ok (.iconst 0, 1) := by decide +kernel
theorem dX4_init_48 : decode cX4_init 48 = .ok (.putfield 35, 3) := by decide +kernel
theorem dX4_init_51 : decode cX4_init 51 = .ok (.aload_n 0, 1) := by decide +kernel
theorem dX4_init_52 : decode cX4_init 52 = .ok (.lconst 0, 1) := by decide +kernel
theorem dX4_init_53 : decode cX4_init 53 = .ok (.putfield 38, 3) := by decide +kernel
theorem dX4_init_56 : decode cX4_init 56 = .ok (.aload_n 0, 1) := by decide +kernel
theorem dX4_init_57 : decode cX4_init 57 = .ok (.aload_n 1, 1) := by decide +kernel
theorem dX4_init_58 : decode cX4_init 58 = .ok (.putfield 42, 3) := by decide +kernel
theorem dX4_init_61 : decode cX4_init 61 = .ok (.return_, 1) := by decide +kernel
theorem dX7_init_0 : decode cX7_init 0 = .ok (.aload_n 0, 1) := by decide +kernel
theorem dX7_init_1 : decode cX7_init 1 = .ok (.invokespecial 3, 3) := by decide +kernel
theorem dX7_init_4 : decode cX7_init 4 = .ok (.aload_n 0, 1) := by decide +kernel
theorem dX7_init_5 : decode cX7_init 5 = .ok (.sipush 1000, 3) := by decide +kernel
theorem dX7_init_8 : decode cX7_init 8 = .ok (.putfield 9, 3) := by decide +kernel
theorem dX7_init_11 : decode cX7_init 11 = .ok (.aload_n 0, 1) := by decide +kernel
theorem dX7_init_12 : decode cX7_init 12 = .ok (.iconst 0, 1) := by decide +kernel
theorem dX7_init_13 : decode cX7_init 13 = .ok (.putfield 15, 3) := by decide +kernel
theorem dX7_init_16 : decode cX7_init 16 = .ok (.aload_n 0, 1) := by decide +kernel
theorem dX7_init_17 : decode cX7_init 17 = .ok (.new 18, 3) := by decide +kernel
theorem dX7_init_20 : decode cX7_init 20 = .ok (.dup, 1) := by decide +kernel
theorem dX7_init_21 : decode cX7_init 21 = .ok (.invokespecial 20, 3) := by decide +kernel
theorem dX7_init_24 : decode cX7_init 24 = .ok (.putfield 21, 3) := by decide +kernel
theorem dX7_init_27 : decode cX7_init 27 = .ok (.aload_n 0, 1) := by decide +kernel
theorem dX7_init_28 : decode cX7_init 28 = .ok (.new 25, 3) := by decide +kernel
theorem dX7_init_31 : decode cX7_init 31 = .ok (.dup, 1) := by decide +kernel
theorem dX7_init_32 : decode cX7_init 32 = .ok (.invokespecial 27, 3) := by decide +kernel
theorem dX7_init_35 : decode cX7_init 35 = .ok (.putfield 28, 3) := by decide +kernel
theorem dX7_init_38 : decode cX7_init 38 = .ok (.aload_n 0, 1) := by decide +kernel
theorem dX7_init_39 : decode cX7_init 39 = .ok (.new 32, 3) := by decide +kernel
theorem dX7_init_42 : decode cX7_init 42 = .ok (.dup, 1) := by decide +kernel
theorem dX7_init_43 : decode cX7_init 43 = .ok (.invokespecial 34, 3) := by decide +kernel
theorem dX7_init_46 : decode cX7_init 46 = .ok (.putfield 35, 3) := by decide +kernel
theorem dX7_init_49 : decode cX7_init 49 = .ok (.aload_n 0, 1) := by decide +kernel
theorem dX7_init_50 : decode cX7_init 50 = .ok (.new 39, 3) := by decide +kernel
theorem dX7_init_53 : decode cX7_init 53 = .ok (.dup, 1) := by decide +kernel
theorem dX7_init_54 : decode cX7_init 54 = .ok (.invokespecial 41, 3) := by decide +kernel
theorem dX7_init_57 : decode cX7_init 57 = .ok (.putfield 42, 3) := by decide +kernel
theorem dX7_init_60 : decode cX7_init 60 = .ok (.aload_n 0, 1) := by decide +kernel
theorem dX7_init_61 : decode cX7_init 61 = .ok (.new 39, 3) := by decide +kernel
theorem dX7_init_64 : decode cX7_init 64 = .ok (.dup, 1) := by decide +kernel
theorem dX7_init_65 : decode cX7_init 65 = .ok (.invokespecial 41, 3) := by decide +kernel
theorem dX7_init_68 : decode cX7_init 68 = .ok (.putfield 46, 3) := by decide +kernel
theorem dX7_init_71 : decode cX7_init 71 = .ok (.aload_n 0, 1) := by decide +kernel
theorem dX7_init_72 : decode cX7_init 72 = .ok (.new 49, 3) := by decide +kernel
theorem dX7_init_75 : decode cX7_init 75 = .ok (.dup, 1) := by decide +kernel
theorem dX7_init_76 : decode cX7_init 76 = .ok (.aload_n 0, 1) := by decide +kernel
theorem dX7_init_77 : decode cX7_init 77 = .ok (.getfield 35, 3) := by decide +kernel
theorem dX7_init_80 : decode cX7_init 80 = .ok (.aload_n 0, 1) := by decide +kernel
theorem dX7_init_81 : decode cX7_init 81 = .ok (.getfield 46, 3) := by decide +kernel
theorem dX7_init_84 : decode cX7_init 84 = .ok (.invokespecial 51, 3) := by decide +kernel
theorem dX7_init_87 : decode cX7_init 87 = .ok (.putfield 54, 3) := by decide +kernel
theorem dX7_init_90 : decode cX7_init 90 = .ok (.aload_n 0, 1) := by decide +kernel
theorem dX7_init_91 : decode cX7_init 91 = .ok (.new 58, 3) := by decide +kernel
theorem dX7_init_94 : decode cX7_init 94 = .ok (.dup, 1) := by decide +kernel
theorem dX7_init_95 : decode cX7_init 95 = .ok (.aload_n 0, 1) := by decide +kernel
theorem dX7_init_96 : decode cX7_init 96 = .ok (.getfield 21, 3) := by decide +kernel
theorem dX7_init_99 : decode cX7_init 99 = .ok (.invokespecial 60, 3) := by decide +kernel
theorem dX7_init_102 : decode cX7_init 102 = .ok (.putfield 63, 3) := by decide +kernel
theorem dX7_init_105 : decode cX7_init 105 = .ok (.aload_n 0, 1) := by decide +kernel
theorem dX7_init_106 : decode cX7_init 106 = .ok (.new 67, 3) := by decide +kernel
theorem dX7_init_109 : decode cX7_init 109 = .ok (.dup, 1) := by decide +kernel
theorem dX7_init_110 : decode cX7_init 110 = .ok (.aload_n 0, 1) := by decide +kernel
theorem dX7_init_111 : decode cX7_init 111 = .ok (.getfield 21, 3) := by decide +kernel
theorem dX7_init_114 : decode cX7_init 114 = .ok (.invokespecial 69, 3) := by decide +kernel
theorem dX7_init_117 : decode cX7_init 117 = .ok (.putfield 70, 3) := by decide +kernel
theorem dX7_init_120 : decode cX7_init 120 = .ok (.return_, 1) := by decide +kernel
theorem dX8_init_0 : decode cX8_init 0 = .ok (.aload_n 0, 1) := by decide +kernel
theorem dX8_init_1 : decode cX8_init 1 = .ok (.invokespecial 9, 3) := by decide +kernel
theorem dX8_init_4 : decode cX8_init 4 = .ok (.aload_n 0, 1) := by decide +kernel
theorem dX8_init_5 : decode cX8_init 5 = .ok (.sipush 1000, 3) := by decide +kernel
theorem dX8_init_8 : decode cX8_init 8 = .ok (.putfield 15, 3) := by decide +kernel
theorem dX8_init_11 : decode cX8_init 11 = .ok (.aload_n 0, 1) := by decide +kernel
theorem dX8_init_12 : decode cX8_init 12 = .ok (.iconst 4, 1) := by decide +kernel
theorem dX8_init_13 : decode cX8_init 13 = .ok (.newarray .int, 2) := by decide +kernel
theorem dX8_init_15 : decode cX8_init 15 = .ok (.putfield 18, 3) := by decide +kernel
theorem dX8_init_18 : decode cX8_init 18 = .ok (.aload_n 0, 1) := by decide +kernel
theorem dX8_init_19 : decode cX8_init 19 = .ok (.iconst 4, 1) := by decide +kernel
theorem dX8_init_20 : decode cX8_init 20 = .ok (.newarray .int, 2) := by decide +kernel
theorem dX8_init_22 : decode cX8_init 22 = .ok (.putfield 22, 3) := by decide +kernel
theorem dX8_init_25 : decode cX8_init 25 = .ok (.aload_n 0, 1) := by decide +kernel
theorem dX8_init_26 : decode cX8_init 26 = .ok (.iconst 4, 1) := by decide +kernel
theorem dX8_init_27 : decode cX8_init 27 = .ok (.newarray .int, 2) := by decide +kernel
theorem dX8_init_29 : decode cX8_init 29 = .ok (.putfield 25, 3) := by decide +kernel
theorem dX8_init_32 : decode cX8_init 32 = .ok (.aload_n 0, 1) := by decide +kernel
theorem dX8_init_33 : decode cX8_init 33 = .ok (.bipush 32, 2) := by decide +kernel
theorem dX8_init_35 : decode cX8_init 35 = .ok (.newarray .int, 2) := by decide +kernel
theorem dX8_init_37 : decode cX8_init 37 = .ok (.putfield 28, 3) := by decide +kernel
theorem dX8_init_40 : decode cX8_init 40 = .ok (.aload_n 0, 1) := by decide +kernel
theorem dX8_init_41 : decode cX8_init 41 = .ok (.bipush 32, 2) := by decide +kernel
theorem dX8_init_43 : decode cX8_init 43 = .ok (.newarray .int, 2) := by decide +kernel
theorem dX8_init_45 : decode cX8_init 45 = .ok (.putfield 31, 3) := by decide +kernel
theorem dX8_init_48 : decode cX8_init 48 = .ok (.aload_n 0, 1) := by decide +kernel
theorem dX8_init_49 : decode cX8_init 49 = .ok (.bipush 32, 2) := by decide +kernel
theorem dX8_init_51 : decode cX8_init 51 = .ok (.newarray .int, 2) := by decide +kernel
theorem dX8_init_53 : decode cX8_init 53 = .ok (.putfield 34, 3) := by decide +kernel
theorem dX8_init_56 : decode cX8_init 56 = .ok (.aload_n 0, 1) := by decide +kernel
theorem dX8_init_57 : decode cX8_init 57 = .ok (.bipush 64, 2) := by decide +kernel
theorem dX8_init_59 : decode cX8_init 59 = .ok (.newarray .int, 2) := by decide +kernel
theorem dX8_init_61 : decode cX8_init 61 = .ok (.putfield 37, 3) := by decide +kernel
theorem dX8_init_64 : decode cX8_init 64 = .ok (.aload_n 0, 1) := by decide +kernel
theorem dX8_init_65 : decode cX8_init 65 = .ok (.bipush 40, 2) := by decide +kernel
theorem dX8_init_67 : decode cX8_init 67 = .ok (.newarray .int, 2) := by decide +kernel
theorem dX8_init_69 : decode cX8_init 69 = .ok (.putfield 40, 3) := by decide +kernel
theorem dX8_init_72 : decode cX8_init 72 = .ok (.aload_n 0, 1) := by decide +kernel
theorem dX8_init_73 : decode cX8_init 73 = .ok (.bipush 40, 2) := by decide +kernel
theorem dX8_init_75 : decode cX8_init 75 = .ok (.newarray .int, 2) := by decide +kernel
theorem dX8_init_77 : decode cX8_init 77 = .ok (.putfield 43, 3) := by decide +kernel
theorem dX8_init_80 : decode cX8_init 80 = .ok (.aload_n 0, 1) := by decide +kernel
theorem dX8_init_81 : decode cX8_init 81 = .ok (.bipush 40, 2) := by decide +kernel
theorem dX8_init_83 : decode cX8_init 83 = .ok (.newarray .int, 2) := by decide +kernel
theorem dX8_init_85 : decode cX8_init 85 = .ok (.putfield 46, 3) := by decide +kernel
theorem dX8_init_88 : decode cX8_init 88 = .ok (.aload_n 0, 1) := by decide +kernel
theorem dX8_init_89 : decode cX8_init 89 = .ok (.bipush 40, 2) := by decide +kernel
theorem dX8_init_91 : decode cX8_init 91 = .ok (.newarray .int, 2) := by decide +kernel
theorem dX8_init_93 : decode cX8_init 93 = .ok (.putfield 49, 3) := by decide +kernel
theorem dX8_init_96 : decode cX8_init 96 = .ok (.aload_n 0, 1) := by decide +kernel
theorem dX8_init_97 : decode cX8_init 97 = .ok (.bipush 10, 2) := by decide +kernel
theorem dX8_init_99 : decode cX8_init 99 = .ok (.newarray .int, 2) := by decide +kernel
theorem dX8_init_101 : decode cX8_init 101 = .ok (.putfield 52, 3) := by decide +kernel
theorem dX8_init_104 : decode cX8_init 104 = .ok (.aload_n 0, 1) := by decide +kernel
theorem dX8_init_105 : decode cX8_init 105 = .ok (.bipush 10, 2) := by decide +kernel
theorem dX8_init_107 : decode cX8_init 107 = .ok (.newarray .int, 2) := by decide +kernel
theorem dX8_init_109 : decode cX8_init 109 = .ok (.putfield 55, 3) := by decide +kernel
theorem dX8_init_112 : decode cX8_init 112 = .ok (.aload_n 0, 1) := by decide +kernel
theorem dX8_init_113 : decode cX8_init 113 = .ok (.bipush 10, 2) := by decide +kernel
theorem dX8_init_115 : decode cX8_init 115 = .ok (.newarray .int, 2) := by decide +kernel
theorem dX8_init_117 : decode cX8_init 117 = .ok (.putfield 58, 3) := by decide +kernel
theorem dX8_init_120 : decode cX8_init 120 = .ok (.aload_n 0, 1) := by decide +kernel
theorem dX8_init_121 : decode cX8_init 121 = .ok (.iconst 4, 1) := by decide +kernel
theorem dX8_init_122 : decode cX8_init 122 = .ok (.newarray .int, 2) := by decide +kernel
theorem dX8_init_124 : decode cX8_init 124 = .ok (.putfield 61, 3) := by decide +kernel
theorem dX8_init_127 : decode cX8_init 127 = .ok (.aload_n 0, 1) := by decide +kernel
theorem dX8_init_128 : decode cX8_init 128 = .ok (.iconst 4, 1) := by decide +kernel
theorem dX8_init_129 : decode cX8_init 129 = .ok (.newarray .int, 2) := by decide +kernel
theorem dX8_init_131 : decode cX8_init 131 = .ok (.putfield 64, 3) := by decide +kernel
theorem dX8_init_134 : decode cX8_init 134 = .ok (.aload_n 0, 1) := by decide +kernel
theorem dX8_init_135 : decode cX8_init 135 = .ok (.iconst 4, 1) := by decide +kernel
theorem dX8_init_136 : decode cX8_init 136 = .ok (.newarray .int, 2) := by decide +kernel
theorem dX8_init_138 : decode cX8_init 138 = .ok (.putfield 67, 3) := by decide +kernel
theorem dX8_init_141 : decode cX8_init 141 = .ok (.aload_n 0, 1) := by decide +kernel
theorem dX8_init_142 : decode cX8_init 142 = .ok (.bipush 80, 2) := by decide +kernel
theorem dX8_init_144 : decode cX8_init 144 = .ok (.putfield 70, 3) := by decide +kernel
theorem dX8_init_147 : decode cX8_init 147 = .ok (.aload_n 0, 1) := by decide +kernel
theorem dX8_init_148 : decode cX8_init 148 = .ok (.iconst 2, 1) := by decide +kernel
theorem dX8_init_149 : decode cX8_init 149 = .ok (.newarray .int, 2) := by decide +kernel
theorem dX8_init_151 : decode cX8_init 151 = .ok (.putfield 73, 3) := by decide +kernel
theorem dX8_init_154 : decode cX8_init 154 = .ok (.aload_n 0, 1) := by decide +kernel
theorem dX8_init_155 : decode cX8_init 155 = .ok (.bipush 20, 2) := by decide +kernel
theorem dX8_init_157 : decode cX8_init 157 = .ok (.newarray .int, 2) := by decide +kernel
theorem dX8_init_159 : decode cX8_init 159 = .ok (.putfield 76, 3) := by decide +kernel
theorem dX8_init_162 : decode cX8_init 162 = .ok (.aload_n 0, 1) := by decide +kernel
theorem dX8_init_163 : decode cX8_init 163 = .ok (.bipush 20, 2) := by decide +kernel
theorem dX8_init_165 : decode cX8_init 165 = .ok (.newarray .int, 2) := by decide +kernel
theorem dX8_init_167 : decode cX8_init 167 = .ok (.putfield 79, 3) := by decide +kernel
theorem dX8_init_170 : decode cX8_init 170 = .ok (.aload_n 0, 1) := by decide +kernel
theorem dX8_init_171 : decode cX8_init 171 = .ok (.bipush 20, 2) := by decide +kernel
theorem dX8_init_173 : decode cX8_init 173 = .ok (.newarray .int, 2) := by decide +kernel
theorem dX8_init_175 : decode cX8_init 175 = .ok (.putfield 82, 3) := by decide +kernel
theorem dX8_init_178 : decode cX8_init 178 = .ok (.aload_n 0, 1) := by decide +kernel
theorem dX8_init_179 : decode cX8_init 179 = .ok (.bipush 40, 2) := by decide +kernel
theorem dX8_init_181 : decode cX8_init 181 = .ok (.newarray .boolean, 2) := by decide +kernel
theorem dX8_init_183 : decode cX8_init 183 = .ok (.putfield 85, 3) := by decide +kernel
theorem dX8_init_186 : decode cX8_init 186 = .ok (.aload_n 0, 1) := by decide +kernel
theorem dX8_init_187 : decode cX8_init 187 = .ok (.iconst 4, 1) := by decide +kernel
theorem dX8_init_188 : decode cX8_init 188 = .ok (.newarray .int, 2) := by decide +kernel
theorem dX8_init_190 : decode cX8_init 190 = .ok (.putfield 89, 3) := by decide +kernel
theorem dX8_init_193 : decode cX8_init 193 = .ok (.aload_n 0, 1) := by decide +kernel
theorem dX8_init_194 : decode cX8_init 194 = .ok (.iconst 4, 1) := by decide +kernel
theorem dX8_init_195 : decode cX8_init 195 = .ok (.newarray .int, 2) := by decide +kernel
theorem dX8_init_197 : decode cX8_init 197 = .ok (.putfield 92, 3) := by decide +kernel
theorem dX8_init_200 : decode cX8_init 200 = .ok (.iconst 0, 1) := by decide +kernel
theorem dX8_init_201 : decode cX8_init 201 = .ok (.istore_n 1, 1) := by decide +kernel
theorem dX8_init_202 : decode cX8_init 202 = .ok (.iload_n 1, 1) := by decide +kernel
theorem dX8_init_203 : decode cX8_init 203 = .ok (.bipush 32, 2) := by decide +kernel
theorem dX8_init_205 : decode cX8_init 205 = .ok (.if_icmp .ge 16, 3) := by decide +kernel
theorem dX8_init_208 : decode cX8_init 208 = .ok (.aload_n 0, 1) := by decide +kernel
theorem dX8_init_209 : decode cX8_init 209 = .ok (.getfield 34, 3) := by decide +kernel
theorem dX8_init_212 : decode cX8_init 212 = .ok (.iload_n 1, 1) := by decide +kernel
theorem dX8_init_213 : decode cX8_init 213 = .ok (.iconst (-1), 1) := by decide +kernel
theorem dX8_init_214 : decode cX8_init 214 = .ok (.iastore, 1) := by decide +kernel
theorem dX8_init_215 : decode cX8_init 215 = .ok (.iinc 1 1, 3) := by decide +kernel
theorem dX8_init_218 : decode cX8_init 218 = .ok (.goto (-16), 3) := by decide +kernel
theorem dX8_init_221 : decode cX8_init 221 = .ok (.return_, 1) := by decide +kernel
