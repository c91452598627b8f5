theorem dX8_about_128 : decode cX8_about 128 = .ok (.iadd, 1) := by decide +kernel
theorem dX8_about_129 : decode cX8_about 129 = .ok (.invokevirtual 123, 3) := by decide +kernel
theorem dX8_about_132 : decode cX8_about 132 = .ok (.iadd, 1) := by decide +kernel
theorem dX8_about_133 : decode cX8_about 133 = .ok (.istore 5, 2) := by decide +kernel
theorem dX8_about_135 : decode cX8_about 135 = .ok (.iload 5, 2) := by decide +kernel
theorem dX8_about_137 : decode cX8_about 137 = .ok (.iload_n 3, 1) := by decide +kernel
theorem dX8_about_138 : decode cX8_about 138 = .ok (.if_icmp .le 8, 3) := by decide +kernel
theorem dX8_about_141 : decode cX8_about 141 = .ok (.iload 5, 2) := by decide +kernel
theorem dX8_about_143 : decode cX8_about 143 = .ok (.goto 4, 3) := by decide +kernel
theorem dX8_about_146 : decode cX8_about 146 = .ok (.iload_n 3, 1) := by decide +kernel
theorem dX8_about_147 : decode cX8_about 147 = .ok (.istore_n 3, 1) := by decide +kernel
theorem dX8_about_148 : decode cX8_about 148 = .ok (.iinc 4 1, 3) := by decide +kernel
theorem dX8_about_151 : decode cX8_about 151 = .ok (.goto (-56), 3) := by decide +kernel
theorem dX8_about_154 : decode cX8_about 154 = .ok (.iload_n 3, 1) := by decide +kernel
theorem dX8_about_155 : decode cX8_about 155 = .ok (.ireturn, 1) := by decide +kernel
theorem dX8_about_156 : decode cX8_about 156 = .ok (.iconst (-1), 1) := by decide +kernel
theorem dX8_about_157 : decode cX8_about 157 = .ok (.ireturn, 1) := by decide +kernel
theorem dX8_allFuel_0 : decode cX8_allFuel 0 = .ok (.iconst 0, 1) := by decide +kernel
theorem dX8_allFuel_1 : decode cX8_allFuel 1 = .ok (.istore_n 1, 1) := by decide +kernel
theorem dX8_allFuel_2 : decode cX8_allFuel 2 = .ok (.iconst 0, 1) := by decide +kernel
theorem dX8_allFuel_3 : decode cX8_allFuel 3 = .ok (.istore_n 2, 1) := by decide +kernel
theorem dX8_allFuel_4 : decode cX8_allFuel 4 = .ok (.iload_n 2, 1) := by decide +kernel
theorem dX8_allFuel_5 : decode cX8_allFuel 5 = .ok (.aload_n 0, 1) := by decide +kernel
theorem dX8_allFuel_6 : decode cX8_allFuel 6 = .ok (.getfield 119, 3) := by decide +kernel
theorem dX8_allFuel_9 : decode cX8_allFuel 9 = .ok (.if_icmp .ge 18, 3) := by decide +kernel
theorem dX8_allFuel_12 : decode cX8_allFuel 12 = .ok (.iload_n 1, 1) := by decide +kernel
theorem dX8_allFuel_13 : decode cX8_allFuel 13 = .ok (.aload_n 0, 1) := by decide +kernel
theorem dX8_allFuel_14 : decode cX8_allFuel 14 = .ok (.getfield 67, 3) := by decide +kernel
theorem dX8_allFuel_17 : decode cX8_allFuel 17 = .ok (.iload_n 2, 1) := by decide +kernel
theorem dX8_allFuel_18 : decode cX8_allFuel 18 = .ok (.iaload, 1) := by decide +kernel
theorem dX8_allFuel_19 : decode cX8_allFuel 19 = .ok (.iadd, 1) := by decide +kernel
theorem dX8_allFuel_20 : decode cX8_allFuel 20 = .ok (.istore_n 1, 1) := by decide +kernel
theorem dX8_allFuel_21 : decode cX8_allFuel 21 = .ok (.iinc 2 1, 3) := by decide +kernel
theorem dX8_allFuel_24 : decode cX8_allFuel 24 = .ok (.goto (-20), 3) := by decide +kernel
theorem dX8_allFuel_27 : decode cX8_allFuel 27 = .ok (.iload_n 1, 1) := by decide +kernel
theorem dX8_allFuel_28 : decode cX8_allFuel 28 = .ok (.ireturn, 1) := by decide +kernel
theorem dX8_apart_0 : decode cX8_apart 0 = .ok (.iload_n 1, 1) := by decide +kernel
theorem dX8_apart_1 : decode cX8_apart 1 = .ok (.iconst 0, 1) := by decide +kernel
theorem dX8_apart_2 : decode cX8_apart 2 = .ok (.bipush 7, 2) := by decide +kernel
theorem dX8_apart_4 : decode cX8_apart 4 = .ok (.invokestatic 95, 3) := by decide +kernel
theorem dX8_apart_7 : decode cX8_apart 7 = .ok (.ifCond .eq 13, 3) := by decide +kernel
theorem dX8_apart_10 : decode cX8_apart 10 = .ok (.iload_n 2, 1) := by decide +kernel
theorem dX8_apart_11 : decode cX8_apart 11 = .ok (.iconst 0, 1) := by decide +kernel
theorem dX8_apart_12 : decode cX8_apart 12 = .ok (.bipush 7, 2) := by decide +kernel
theorem dX8_apart_14 : decode cX8_apart 14 = .ok (.invokestatic 95, 3) := by decide +kernel
theorem dX8_apart_17 : decode cX8_apart 17 = .ok (.ifCond .ne 5, 3) := by decide +kernel
theorem dX8_apart_20 : decode cX8_apart 20 = .ok (.iconst (-1), 1) := by decide +kernel
theorem dX8_apart_21 : decode cX8_apart 21 = .ok (.ireturn, 1) := by decide +kernel
theorem dX8_apart_22 : decode cX8_apart 22 = .ok (.iload_n 3, 1) := by decide +kernel
theorem dX8_apart_23 : decode cX8_apart 23 = .ok (.iconst 0, 1) := by decide +kernel
theorem dX8_apart_24 : decode cX8_apart 24 = .ok (.bipush 8, 2) := by decide +kernel
theorem dX8_apart_26 : decode cX8_apart 26 = .ok (.invokestatic 95, 3) := by decide +kernel
theorem dX8_apart_29 : decode cX8_apart 29 = .ok (.ifCond .ne 6, 3) := by decide +kernel
theorem dX8_apart_32 : decode cX8_apart 32 = .ok (.bipush (-2), 2) := by decide +kernel
theorem dX8_apart_34 : decode cX8_apart 34 = .ok (.ireturn, 1) := by decide +kernel
theorem dX8_apart_35 : decode cX8_apart 35 = .ok (.aload_n 0, 1) := by decide +kernel
theorem dX8_apart_36 : decode cX8_apart 36 = .ok (.getfield 37, 3) := by decide +kernel
theorem dX8_apart_39 : decode cX8_apart 39 = .ok (.bipush 8, 2) := by decide +kernel
theorem dX8_apart_41 : decode cX8_apart 41 = .ok (.iload_n 1, 1) := by decide +kernel
theorem dX8_apart_42 : decode cX8_apart 42 = .ok (.imul, 1) := by decide +kernel
theorem dX8_apart_43 : decode cX8_apart 43 = .ok (.iload_n 2, 1) := by decide +kernel
theorem dX8_apart_44 : decode cX8_apart 44 = .ok (.iadd, 1) := by decide +kernel
theorem dX8_apart_45 : decode cX8_apart 45 = .ok (.iaload, 1) := by decide +kernel
theorem dX8_apart_46 : decode cX8_apart 46 = .ok (.istore 4, 2) := by decide +kernel
theorem dX8_apart_48 : decode cX8_apart 48 = .ok (.aload_n 0, 1) := by decide +kernel
theorem dX8_apart_49 : decode cX8_apart 49 = .ok (.getfield 37, 3) := by decide +kernel
theorem dX8_apart_52 : decode cX8_apart 52 = .ok (.bipush 8, 2) := by decide +kernel
theorem dX8_apart_54 : decode cX8_apart 54 = .ok (.iload_n 1, 1) := by decide +kernel
theorem dX8_apart_55 : decode cX8_apart 55 = .ok (.imul, 1) := by decide +kernel
theorem dX8_apart_56 : decode cX8_apart 56 = .ok (.iload_n 2, 1) := by decide +kernel
theorem dX8_apart_57 : decode cX8_apart 57 = .ok (.iadd, 1) := by decide +kernel
theorem dX8_apart_58 : decode cX8_apart 58 = .ok (.iload_n 3, 1) := by decide +kernel
theorem dX8_apart_59 : decode cX8_apart 59 = .ok (.iastore, 1) := by decide +kernel
theorem dX8_apart_60 : decode cX8_apart 60 = .ok (.aload_n 0, 1) := by decide +kernel
theorem dX8_apart_61 : decode cX8_apart 61 = .ok (.getfield 37, 3) := by decide +kernel
theorem dX8_apart_64 : decode cX8_apart 64 = .ok (.bipush 8, 2) := by decide +kernel
theorem dX8_apart_66 : decode cX8_apart 66 = .ok (.iload_n 2, 1) := by decide +kernel
theorem dX8_apart_67 : decode cX8_apart 67 = .ok (.imul, 1) := by decide +kernel
theorem dX8_apart_68 : decode cX8_apart 68 = .ok (.iload_n 1, 1) := by decide +kernel
theorem dX8_apart_69 : decode cX8_apart 69 = .ok (.iadd, 1) := by decide +kernel
theorem dX8_apart_70 : decode cX8_apart 70 = .ok (.iload_n 3, 1) := by decide +kernel
theorem dX8_apart_71 : decode cX8_apart 71 = .ok (.iastore, 1) := by decide +kernel
theorem dX8_apart_72 : decode cX8_apart 72 = .ok (.iload 4, 2) := by decide +kernel
theorem dX8_apart_74 : decode cX8_apart 74 = .ok (.ireturn, 1) := by decide +kernel
theorem dX8_arrive_0 : decode cX8_arrive 0 = .ok (.iload_n 1, 1) := by decide +kernel
theorem dX8_arrive_1 : decode cX8_arrive 1 = .ok (.iconst 1, 1) := by decide +kernel
theorem dX8_arrive_2 : decode cX8_arrive 2 = .ok (.iconst 4, 1) := by decide +kernel
theorem dX8_arrive_3 : decode cX8_arrive 3 = .ok (.invokestatic 95, 3) := by decide +kernel
theorem dX8_arrive_6 : decode cX8_arrive 6 = .ok (.ifCond .ne 5, 3) := by decide +kernel
theorem dX8_arrive_9 : decode cX8_arrive 9 = .ok (.iconst (-1), 1) := by decide +kernel
theorem dX8_arrive_10 : decode cX8_arrive 10 = .ok (.ireturn, 1) := by decide +kernel
theorem dX8_arrive_11 : decode cX8_arrive 11 = .ok (.iconst 0, 1) := by decide +kernel
theorem dX8_arrive_12 : decode cX8_arrive 12 = .ok (.istore_n 2, 1) := by decide +kernel
theorem dX8_arrive_13 : decode cX8_arrive 13 = .ok (.iconst 0, 1) := by decide +kernel
theorem dX8_arrive_14 : decode cX8_arrive 14 = .ok (.istore_n 3, 1) := by decide +kernel
theorem dX8_arrive_15 : decode cX8_arrive 15 = .ok (.iload_n 3, 1) := by decide +kernel
theorem dX8_arrive_16 : decode cX8_arrive 16 = .ok (.aload_n 0, 1) := by decide +kernel
theorem dX8_arrive_17 : decode cX8_arrive 17 = .ok (.getfield 106, 3) := by decide +kernel
theorem dX8_arrive_20 : decode cX8_arrive 20 = .ok (.if_icmp .ge 40, 3) := by decide +kernel
theorem dX8_arrive_23 : decode cX8_arrive 23 = .ok (.aload_n 0, 1) := by decide +kernel
theorem dX8_arrive_24 : decode cX8_arrive 24 = .ok (.getfield 46, 3) := by decide +kernel
theorem dX8_arrive_27 : decode cX8_arrive 27 = .ok (.iload_n 3, 1) := by decide +kernel
theorem dX8_arrive_28 : decode cX8_arrive 28 = .ok (.iaload, 1) := by decide +kernel
theorem dX8_arrive_29 : decode cX8_arrive 29 = .ok (.iload_n 1, 1) := by decide +kernel
theorem dX8_arrive_30 : decode cX8_arrive 30 = .ok (.if_icmp .ne 24, 3) := by decide +kernel
theorem dX8_arrive_33 : decode cX8_arrive 33 = .ok (.aload_n 0, 1) := by decide +kernel
theorem dX8_arrive_34 : decode cX8_arrive 34 = .ok (.getfield 49, 3) := by decide +kernel
theorem dX8_arrive_37 : decode cX8_arrive 37 = .ok (.iload_n 3, 1) := by decide +kernel
theorem dX8_arrive_38 : decode cX8_arrive 38 = .ok (.iaload, 1) := by decide +kernel
theorem dX8_arrive_39 : decode cX8_arrive 39 = .ok (.iconst (-1), 1) := by decide +kernel
theorem dX8_arrive_40 : decode cX8_arrive 40 = .ok (.if_icmp .ne 6, 3) := by decide +kernel
theorem dX8_arrive_43 : decode cX8_arrive 43 = .ok (.goto 11, 3) := by decide +kernel
theorem dX8_arrive_46 : decode cX8_arrive 46 = .ok (.aload_n 0, 1) := by decide +kernel
theorem dX8_arrive_47 : decode cX8_arrive 47 = .ok (.iload_n 3, 1) := by decide +kernel
theorem dX8_arrive_48 : decode cX8_arrive 48 = .ok (.invokevirtual 149, 3) := by decide +kernel
theorem dX8_arrive_51 : decode cX8_arrive 51 = .ok (.iinc 2 1, 3) := by decide +kernel
theorem dX8_arrive_54 : decode cX8_arrive 54 = .ok (.iinc 3 1, 3) := by decide +kernel
theorem dX8_arrive_57 : decode cX8_arrive 57 = .ok (.goto (-42), 3) := by decide +kernel
theorem dX8_arrive_60 : decode cX8_arrive 60 = .ok (.iload_n 2, 1) := by decide +kernel
theorem dX8_arrive_61 : decode cX8_arrive 61 = .ok (.ireturn, 1) := by decide +kernel
theorem dX8_best_0 : decode cX8_best 0 = .ok (.iload_n 1, 1) := by decide +kernel
theorem dX8_best_1 : decode cX8_best 1 = .ok (.invokestatic 110, 3) := by decide +kernel
theorem dX8_best_4 : decode cX8_best 4 = .ok (.ifCond .ne 6, 3) := by decide +kernel
theorem dX8_best_7 : decode cX8_best 7 = .ok (.bipush (-2), 2) := by decide +kernel
theorem dX8_best_9 : decode cX8_best 9 = .ok (.ireturn, 1) := by decide +kernel
theorem dX8_best_10 : decode cX8_best 10 = .ok (.iconst 0, 1) := by decide +kernel
theorem dX8_best_11 : decode cX8_best 11 = .ok (.istore_n 2, 1) := by decide +kernel
theorem dX8_best_12 : decode cX8_best 12 = .ok (.iconst 0, 1) := by decide +kernel
theorem dX8_best_13 : decode cX8_best 13 = .ok (.istore_n 3, 1) := by decide +kernel
theorem dX8_best_14 : decode cX8_best 14 = .ok (.iload_n 3, 1) := by decide +kernel
theorem dX8_best_15 : decode cX8_best 15 = .ok (.bipush 32, 2) := by decide +kernel
theorem dX8_best_17 : decode cX8_best 17 = .ok (.if_icmp .ge 42, 3) := by decide +kernel
theorem dX8_best_20 : decode cX8_best 20 = .ok (.iload_n 2, 1) := by decide +kernel
theorem dX8_best_21 : decode cX8_best 21 = .ok (.aload_n 0, 1) := by decide +kernel
theorem dX8_best_22 : decode cX8_best 22 = .ok (.iload_n 3, 1) := by decide +kernel
theorem dX8_best_23 : decode cX8_best 23 = .ok (.bipush 8, 2) := by decide +kernel
theorem dX8_best_25 : decode cX8_best 25 = .ok (.idiv, 1) := by decide +kernel
theorem dX8_best_26 : decode cX8_best 26 = .ok (.iload_n 3, 1) := by decide +kernel
theorem dX8_best_27 : decode cX8_best 27 = .ok (.bipush 8, 2) := by decide +kernel
theorem dX8_best_29 : decode cX8_best 29 = .ok (.irem, 1) := by decide +kernel
theorem dX8_best_30 : decode cX8_best 30 = .ok (.invokevirtual 133, 3) := by decide +kernel
theorem dX8_best_33 : decode cX8_best 33 = .ok (.ifCond .eq 17, 3) := by decide +kernel
theorem dX8_best_36 : decode cX8_best 36 = .ok (.aload_n 0, 1) := by decide +kernel
theorem dX8_best_37 : decode cX8_best 37 = .ok (.getfield 34, 3) := by decide +kernel
theorem dX8_best_40 : decode cX8_best 40 = .ok (.iload_n 3, 1) := by decide +kernel
theorem dX8_best_41 : decode cX8_best 41 = .ok (.iaload, 1) := by decide +kernel
theorem dX8_best_42 : decode cX8_best 42 = .ok (.iconst (-1), 1) := by decide +kernel
theorem dX8_best_43 : decode cX8_best 43 = .ok (.if_icmp .ne 7, 3) := by decide +kernel
theorem dX8_best_46 : decode cX8_best 46 = .ok (.iconst 1, 1) := by decide +kernel
theorem dX8_best_47 : decode cX8_best 47 = .ok (.goto 4, 3) := by decide +kernel
theorem dX8_best_50 : decode cX8_best 50 = .ok (.iconst 0, 1) := by decide +kernel
theorem dX8_best_51 : decode cX8_best 51 = .ok (.iadd, 1) := by decide +kernel
theorem dX8_best_52 : decode cX8_best 52 = .ok (.istore_n 2, 1) := by decide +kernel
theorem dX8_best_53 : decode cX8_best 53 = .ok (.iinc 3 1, 3) := by decide +kernel
theorem dX8_best_56 : decode cX8_best 56 = .ok (.goto (-42), 3) := by decide +kernel
theorem dX8_best_59 : decode cX8_best 59 = .ok (.aload_n 0, 1) := by decide +kernel
theorem dX8_best_60 : decode cX8_best 60 = .ok (.iconst 0, 1) := by decide +kernel
theorem dX8_best_61 : decode cX8_best 61 = .ok (.putfield 221, 3) := by decide +kernel
theorem dX8_best_64 : decode cX8_best 64 = .ok (.iconst 0, 1) := by decide +kernel
theorem dX8_best_65 : decode cX8_best 65 = .ok (.istore_n 3, 1) := by decide +kernel
theorem dX8_best_66 : decode cX8_best 66 = .ok (.iload_n 3, 1) := by decide +kernel
theorem dX8_best_67 : decode cX8_best 67 = .ok (.aload_n 0, 1) := by decide +kernel
theorem dX8_best_68 : decode cX8_best 68 = .ok (.getfield 106, 3) := by decide +kernel
theorem dX8_best_71 : decode cX8_best 71 = .ok (.if_icmp .ge 53, 3) := by decide +kernel
theorem dX8_best_74 : decode cX8_best 74 = .ok (.aload_n 0, 1) := by decide +kernel
theorem dX8_best_75 : decode cX8_best 75 = .ok (.getfield 49, 3) := by decide +kernel
theorem dX8_best_78 : decode cX8_best 78 = .ok (.iload_n 3, 1) := by decide +kernel
theorem dX8_best_79 : decode cX8_best 79 = .ok (.iaload, 1) := by decide +kernel
theorem dX8_best_80 : decode cX8_best 80 = .ok (.iconst (-1), 1) := by decide +kernel
theorem dX8_best_81 : decode cX8_best 81 = .ok (.if_icmp .eq 6, 3) := by decide +kernel
theorem dX8_best_84 : decode cX8_best 84 = .ok (.goto 34, 3) := by decide +kernel
theorem dX8_best_87 : decode cX8_best 87 = .ok (.aload_n 0, 1) := by decide +kernel
theorem dX8_best_88 : decode cX8_best 88 = .ok (.getfield 221, 3) := by decide +kernel
theorem dX8_best_91 : decode cX8_best 91 = .ok (.iconst 4, 1) := by decide +kernel
theorem dX8_best_92 : decode cX8_best 92 = .ok (.if_icmp .ne 6, 3) := by decide +kernel
theorem dX8_best_95 : decode cX8_best 95 = .ok (.bipush (-3), 2) := by decide +kernel
theorem dX8_best_97 : decode cX8_best 97 = .ok (.ireturn, 1) := by decide +kernel
theorem dX8_best_98 : decode cX8_best 98 = .ok (.aload_n 0, 1) := by decide +kernel
theorem dX8_best_99 : decode cX8_best 99 = .ok (.getfield 89, 3) := by decide +kernel
theorem dX8_best_102 : decode cX8_best 102 = .ok (.aload_n 0, 1) := by decide +kernel
theorem dX8_best_103 : decode cX8_best 103 = .ok (.getfield 221, 3) := by decide +kernel
theorem dX8_best_106 : decode cX8_best 106 = .ok (.iload_n 3, 1) := by decide +kernel
theorem dX8_best_107 : decode cX8_best 107 = .ok (.iastore, 1) := by decide +kernel
theorem dX8_best_108 : decode cX8_best 108 = .ok (.aload_n 0, 1) := by decide +kernel
theorem dX8_best_109 : decode cX8_best 109 = .ok (.dup, 1) := by decide +kernel
theorem dX8_best_110 : decode cX8_best 110 = .ok (.getfield 221, 3) := by decide +kernel
theorem dX8_best_113 : decode cX8_best 113 = .ok (.iconst 1, 1) := by decide +kernel
theorem dX8_best_114 : decode cX8_best 114 = .ok (.iadd, 1) := by decide +kernel
theorem dX8_best_115 : decode cX8_best 115 = .ok (.putfield 221, 3) := by decide +kernel
theorem dX8_best_118 : decode cX8_best 118 = .ok (.iinc 3 1, 3) := by decide +kernel
theorem dX8_best_121 : decode cX8_best 121 = .ok (.goto (-55), 3) := by decide +kernel
theorem dX8_best_124 : decode cX8_best 124 = .ok (.aload_n 0, 1) := by decide +kernel
theorem dX8_best_125 : decode cX8_best 125 = .ok (.getfield 221, 3) := by decide +kernel
theorem dX8_best_128 : decode cX8_best 128 = .ok (.ifCond .eq 9, 3) := by decide +kernel
theorem dX8_best_131 : decode cX8_best 131 = .ok (.iload_n 2, 1) := by decide +kernel
theorem dX8_best_132 : decode cX8_best 132 = .ok (.bipush 10, 2) := by decide +kernel
theorem dX8_best_134 : decode cX8_best 134 = .ok (.if_icmp .le 6, 3) := by decide +kernel
theorem dX8_best_137 : decode cX8_best 137 = .ok (.bipush (-3), 2) := by decide +kernel
theorem dX8_best_139 : decode cX8_best 139 = .ok (.ireturn, 1) := by decide +kernel
theorem dX8_best_140 : decode cX8_best 140 = .ok (.aload_n 0, 1) := by decide +kernel
theorem dX8_best_141 : decode cX8_best 141 = .ok (.iconst (-1), 1) := by decide +kernel
theorem dX8_best_142 : decode cX8_best 142 = .ok (.putfield 224, 3) := by decide +kernel
theorem dX8_best_145 : decode cX8_best 145 = .ok (.aload_n 0, 1) := by decide +kernel
theorem dX8_best_146 : decode cX8_best 146 = .ok (.iconst 0, 1) := by decide +kernel
theorem dX8_best_147 : decode cX8_best 147 = .ok (.iload_n 1, 1) := by decide +kernel
theorem dX8_best_148 : decode cX8_best 148 = .ok (.invokevirtual 230, 3) := by decide +kernel
theorem dX8_best_151 : decode cX8_best 151 = .ok (.aload_n 0, 1) := by decide +kernel
theorem dX8_best_152 : decode cX8_best 152 = .ok (.getfield 224, 3) := by decide +kernel
theorem dX8_best_155 : decode cX8_best 155 = .ok (.iconst (-1), 1) := by decide +kernel
theorem dX8_best_156 : decode cX8_best 156 = .ok (.if_icmp .ne 6, 3) := by decide +kernel
theorem dX8_best_159 : decode cX8_best 159 = .ok (.bipush (-5), 2) := by decide +kernel
theorem dX8_best_161 : decode cX8_best 161 = .ok (.ireturn, 1) := by decide +kernel
theorem dX8_best_162 : decode cX8_best 162 = .ok (.iconst 0, 1) := by decide +kernel
theorem dX8_best_163 : decode cX8_best 163 = .ok (.istore_n 3, 1) := by decide +kernel
theorem dX8_best_164 : decode cX8_best 164 = .ok (.iload_n 3, 1) := by decide +kernel
theorem dX8_best_165 : decode cX8_best 165 = .ok (.aload_n 0, 1) := by decide +kernel
theorem dX8_best_166 : decode cX8_best 166 = .ok (.getfield 221, 3) := by decide +kernel
theorem dX8_best_169 : decode cX8_best 169 = .ok (.if_icmp .ge 25, 3) := by decide +kernel
theorem dX8_best_172 : decode cX8_best 172 = .ok (.aload_n 0, 1) := by decide +kernel
theorem dX8_best_173 : decode cX8_best 173 = .ok (.aload_n 0, 1) := by decide +kernel
theorem dX8_best_174 : decode cX8_best 174 = .ok (.getfield 89, 3) := by decide +kernel
theorem dX8_best_177 : decode cX8_best 177 = .ok (.iload_n 3, 1) := by decide +kernel
theorem dX8_best_178 : decode cX8_best 178 = .ok (.iaload, 1) := by decide +kernel
theorem dX8_best_179 : decode cX8_best 179 = .ok (.aload_n 0, 1) := by decide +kernel
theorem dX8_best_180 : decode cX8_best 180 = .ok (.getfield 92, 3) := by decide +kernel
theorem dX8_best_183 : decode cX8_best 183 = .ok (.iload_n 3, 1) := by decide +kernel
theorem dX8_best_184 : decode cX8_best 184 = .ok (.iaload, 1) := by decide +kernel
theorem dX8_best_185 : decode cX8_best 185 = .ok (.invokevirtual 145, 3) := by decide +kernel
theorem dX8_best_188 : decode cX8_best 188 = .ok (.iinc 3 1, 3) := by decide +kernel
theorem dX8_best_191 : decode cX8_best 191 = .ok (.goto (-27), 3) := by decide +kernel
theorem dX8_best_194 : decode cX8_best 194 = .ok (.aload_n 0, 1) := by decide +kernel
theorem dX8_best_195 : decode cX8_best 195 = .ok (.getfield 224, 3) := by decide +kernel
theorem dX8_best_198 : decode cX8_best 198 = .ok (.ireturn, 1) := by decide +kernel
theorem dX8_better_0 : decode cX8_better 0 = .ok (.iload_n 1, 1) := by decide +kernel
theorem dX8_better_1 : decode cX8_better 1 = .ok (.invokestatic 110, 3) := by decide +kernel
theorem dX8_better_4 : decode cX8_better 4 = .ok (.ifCond .ne 6, 3) := by decide +kernel
theorem dX8_better_7 : decode cX8_better 7 = .ok (.bipush (-2), 2) := by decide +kernel
theorem dX8_better_9 : decode cX8_better 9 = .ok (.ireturn, 1) := by decide +kernel
theorem dX8_better_10 : decode cX8_better 10 = .ok (.iconst 0, 1) := by decide +kernel
theorem dX8_better_11 : decode cX8_better 11 = .ok (.istore_n 2, 1) := by decide +kernel
theorem dX8_better_12 : decode cX8_better 12 = .ok (.iload_n 2, 1) := by decide +kernel
theorem dX8_better_13 : decode cX8_better 13 = .ok (.bipush 50, 2) := by decide +kernel
theorem dX8_better_15 : decode cX8_better 15 = .ok (.if_icmp .ge 17, 3) := by decide +kernel
theorem dX8_better_18 : decode cX8_better 18 = .ok (.aload_n 0, 1) := by decide +kernel
theorem dX8_better_19 : decode cX8_better 19 = .ok (.iload_n 1, 1) := by decide +kernel
theorem dX8_better_20 : decode cX8_better 20 = .ok (.invokevirtual 218, 3) := by decide +kernel
theorem dX8_better_23 : decode cX8_better 23 = .ok (.ifCond .eq 9, 3) := by decide +kernel
theorem dX8_better_26 : decode cX8_better 26 = .ok (.iinc 2 1, 3) := by decide +kernel
theorem dX8_better_29 : decode cX8_better 29 = .ok (.goto (-17), 3) := by decide +kernel
theorem dX8_better_32 : decode cX8_better 32 = .ok (.iload_n 2, 1) := by decide +kernel
theorem dX8_better_33 : decode cX8_better 33 = .ok (.ireturn, 1) := by decide +kernel
theorem dX8_betters_0 : decode cX8_betters 0 = .ok (.aload_n 0, 1) := by decide +kernel
theorem dX8_betters_1 : decode cX8_betters 1 = .ok (.iload_n 1, 1) := by decide +kernel
theorem dX8_betters_2 : decode cX8_betters 2 = .ok (.aload_n 0, 1) := by decide +kernel
theorem dX8_betters_3 : decode cX8_betters 3 = .ok (.invokevirtual 153, 3) := by decide +kernel
theorem dX8_betters_6 : decode cX8_betters 6 = .ok (.aload_n 0, 1) := by decide +kernel
theorem dX8_betters_7 : decode cX8_betters 7 = .ok (.invokevirtual 160, 3) := by decide +kernel
theorem dX8_betters_10 : decode cX8_betters 10 = .ok (.invokevirtual 192, 3) := by decide +kernel
theorem dX8_betters_13 : decode cX8_betters 13 = .ok (.aload_n 0, 1) := by decide +kernel
theorem dX8_betters_14 : decode cX8_betters 14 = .ok (.aload_n 0, 1) := by decide +kernel
theorem dX8_betters_15 : decode cX8_betters 15 = .ok (.getfield 188, 3) := by decide +kernel
theorem dX8_betters_18 : decode cX8_betters 18 = .ok (.putfield 199, 3) := by decide +kernel
theorem dX8_betters_21 : decode cX8_betters 21 = .ok (.aload_n 0, 1) := by decide +kernel
theorem dX8_betters_22 : decode cX8_betters 22 = .ok (.aload_n 0, 1) := by decide +kernel
theorem dX8_betters_23 : decode cX8_betters 23 = .ok (.getfield 185, 3) := by decide +kernel
theorem dX8_betters_26 : decode cX8_betters 26 = .ok (.putfield 202, 3) := by decide +kernel
theorem dX8_betters_29 : decode cX8_betters 29 = .ok (.iconst 0, 1) := by decide +kernel
theorem dX8_betters_30 : decode cX8_betters 30 = .ok (.istore_n 2, 1) := by decide +kernel
theorem dX8_betters_31 : decode cX8_betters 31 = .ok (.iload_n 2, 1) := by decide +kernel
theorem dX8_betters_32 : decode cX8_betters 32 = .ok (.aload_n 0, 1) := by decide +kernel
theorem dX8_betters_33 : decode cX8_betters 33 = .ok (.getfield 106, 3) := by decide +kernel
theorem dX8_betters_36 : decode cX8_betters 36 = .ok (.if_icmp .ge 59, 3) := by decide +kernel
theorem dX8_betters_39 : decode cX8_betters 39 = .ok (.iload_n 2, 1) := by decide +kernel
theorem dX8_betters_40 : decode cX8_betters 40 = .ok (.iconst 1, 1) := by decide +kernel
theorem dX8_betters_41 : decode cX8_betters 41 = .ok (.iadd, 1) := by decide +kernel
theorem dX8_betters_42 : decode cX8_betters 42 = .ok (.istore_n 3, 1) := by decide +kernel
theorem dX8_betters_43 : decode cX8_betters 43 = .ok (.iload_n 3, 1) := by decide +kernel
theorem dX8_betters_44 : decode cX8_betters 44 = .ok (.aload_n 0, 1) := by decide +kernel
theorem dX8_betters_45 : decode cX8_betters 45 = .ok (.getfield 106, 3) := by decide +kernel
theorem dX8_betters_48 : decode cX8_betters 48 = .ok (.if_icmp .ge 41, 3) := by decide +kernel
theorem dX8_betters_51 : decode cX8_betters 51 = .ok (.aload_n 0, 1) := by decide +kernel
theorem dX8_betters_52 : decode cX8_betters 52 = .ok (.getfield 49, 3) := by decide +kernel
theorem dX8_betters_55 : decode cX8_betters 55 = .ok (.iload_n 2, 1) := by decide +kernel
theorem dX8_betters_56 : decode cX8_betters 56 = .ok (.iaload, 1) := by decide +kernel
theorem dX8_betters_57 : decode cX8_betters 57 = .ok (.iconst (-1), 1) := by decide +kernel
theorem dX8_betters_58 : decode cX8_betters 58 = .ok (.if_icmp .eq 25, 3) := by decide +kernel
theorem dX8_betters_61 : decode cX8_betters 61 = .ok (.aload_n 0, 1) := by decide +kernel
theorem dX8_betters_62 : decode cX8_betters 62 = .ok (.getfield 49, 3) := by decide +kernel
theorem dX8_betters_65 : decode cX8_betters 65 = .ok (.iload_n 3, 1) := by decide +kernel
theorem dX8_betters_66 : decode cX8_betters 66 = .ok (.iaload, 1) := by decide +kernel
theorem dX8_betters_67 : decode cX8_betters 67 = .ok (.iconst (-1), 1) := by decide +kernel
theorem dX8_betters_68 : decode cX8_betters 68 = .ok (.if_icmp .eq 15, 3) := by decide +kernel
theorem dX8_betters_71 : decode cX8_betters 71 = .ok (.aload_n 0, 1) := by decide +kernel
theorem dX8_betters_72 : decode cX8_betters 72 = .ok (.iload_n 2, 1) := by decide +kernel
theorem dX8_betters_73 : decode cX8_betters 73 = .ok (.iload_n 3, 1) := by decide +kernel
theorem dX8_betters_74 : decode cX8_betters 74 = .ok (.iload_n 1, 1) := by decide +kernel
theorem dX8_betters_75 : decode cX8_betters 75 = .ok (.invokevirtual 212, 3) := by decide +kernel
theorem dX8_betters_78 : decode cX8_betters 78 = .ok (.ifCond .eq 5, 3) := by decide +kernel
theorem dX8_betters_81 : decode cX8_betters 81 = .ok (.iconst 1, 1) := by decide +kernel
theorem dX8_betters_82 : decode cX8_betters 82 = .ok (.ireturn, 1) := by decide +kernel
theorem dX8_betters_83 : decode cX8_betters 83 = .ok (.iinc 3 1, 3) := by decide +kernel
theorem dX8_betters_86 : decode cX8_betters 86 = .ok (.goto (-43), 3) := by decide +kernel
theorem dX8_betters_89 : decode cX8_betters 89 = .ok (.iinc 2 1, 3) := by decide +kernel
theorem dX8_betters_92 : decode cX8_betters 92 = .ok (.goto (-61), 3) := by decide +kernel
theorem dX8_betters_95 : decode cX8_betters 95 = .ok (.iconst 0, 1) := by decide +kernel
theorem dX8_betters_96 : decode cX8_betters 96 = .ok (.istore_n 2, 1) := by decide +kernel
theorem dX8_betters_97 : decode cX8_betters 97 = .ok (.iload_n 2, 1) := by decide +kernel
theorem dX8_betters_98 : decode cX8_betters 98 = .ok (.aload_n 0, 1) := by decide +kernel
theorem dX8_betters_99 : decode cX8_betters 99 = .ok (.getfield 106, 3) := by decide +kernel
theorem dX8_betters_102 : decode cX8_betters 102 = .ok (.if_icmp .ge 60, 3) := by decide +kernel
theorem dX8_betters_105 : decode cX8_betters 105 = .ok (.iconst 0, 1) := by decide +kernel
theorem dX8_betters_106 : decode cX8_betters 106 = .ok (.istore_n 3, 1) := by decide +kernel
theorem dX8_betters_107 : decode cX8_betters 107 = .ok (.iload_n 3, 1) := by decide +kernel
theorem dX8_betters_108 : decode cX8_betters 108 = .ok (.bipush 32, 2) := by decide +kernel
theorem dX8_betters_110 : decode cX8_betters 110 = .ok (.if_icmp .ge 46, 3) := by decide +kernel
theorem dX8_betters_113 : decode cX8_betters 113 = .ok (.aload_n 0, 1) := by decide +kernel
theorem dX8_betters_114 : decode cX8_betters 114 = .ok (.getfield 49, 3) := by decide +kernel
theorem dX8_betters_117 : decode cX8_betters 117 = .ok (.iload_n 2, 1) := by decide +kernel
theorem dX8_betters_118 : decode cX8_betters 118 = .ok (.iaload, 1) := by decide +kernel
theorem dX8_betters_119 : decode cX8_betters 119 = .ok (.iconst (-1), 1) := by decide +kernel
theorem dX8_betters_120 : decode cX8_betters 120 = .ok (.if_icmp .eq 30, 3) := by decide +kernel
theorem dX8_betters_123 : decode cX8_betters 123 = .ok (.aload_n 0, 1) := by decide +kernel
theorem dX8_betters_124 : decode cX8_betters 124 = .ok (.iload_n 3, 1) := by decide +kernel
theorem dX8_betters_125 : decode cX8_betters 125 = .ok (.bipush 8, 2) := by decide +kernel
theorem dX8_betters_127 : decode cX8_betters 127 = .ok (.idiv, 1) := by decide +kernel
theorem dX8_betters_128 : decode cX8_betters 128 = .ok (.iload_n 3, 1) := by decide +kernel
theorem dX8_betters_129 : decode cX8_betters 129 = .ok (.bipush 8, 2) := by decide +kernel
theorem dX8_betters_131 : decode cX8_betters 131 = .ok (.irem, 1) := by decide +kernel
theorem dX8_betters_132 : decode cX8_betters 132 = .ok (.invokevirtual 133, 3) := by decide +kernel
theorem dX8_betters_135 : decode cX8_betters 135 = .ok (.ifCond .eq 15, 3) := by decide +kernel
theorem dX8_betters_138 : decode cX8_betters 138 = .ok (.aload_n 0, 1) := by decide +kernel
theorem dX8_betters_139 : decode cX8_betters 139 = .ok (.iload_n 2, 1) := by decide +kernel
theorem dX8_betters_140 : decode cX8_betters 140 = .ok (.iload_n 3, 1) := by decide +kernel
theorem dX8_betters_141 : decode cX8_betters 141 = .ok (.iload_n 1, 1) := by decide +kernel
theorem dX8_betters_142 : decode cX8_betters 142 = .ok (.invokevirtual 215, 3) := by decide +kernel
theorem dX8_betters_145 : decode cX8_betters 145 = .ok (.ifCond .eq 5, 3) := by decide +kernel
theorem dX8_betters_148 : decode cX8_betters 148 = .ok (.iconst 1, 1) := by decide +kernel
theorem dX8_betters_149 : decode cX8_betters 149 = .ok (.ireturn, 1) := by decide +kernel
theorem dX8_betters_150 : decode cX8_betters 150 = .ok (.iinc 3 1, 3) := by decide +kernel
theorem dX8_betters_153 : decode cX8_betters 153 = .ok (.goto (-46), 3) := by decide +kernel
theorem dX8_betters_156 : decode cX8_betters 156 = .ok (.iinc 2 1, 3) := by decide +kernel
theorem dX8_betters_159 : decode cX8_betters 159 = .ok (.goto (-62), 3) := by decide +kernel
theorem dX8_betters_162 : decode cX8_betters 162 = .ok (.iconst 0, 1) := by decide +kernel
theorem dX8_betters_163 : decode cX8_betters 163 = .ok (.ireturn, 1) := by decide +kernel
theorem dX8_burnt_0 : decode cX8_burnt 0 = .ok (.iload_n 1, 1) := by decide +kernel
theorem dX8_burnt_1 : decode cX8_burnt 1 = .ok (.iconst 0, 1) := by decide +kernel
theorem dX8_burnt_2 : decode cX8_burnt 2 = .ok (.aload_n 0, 1) := by decide +kernel
theorem dX8_burnt_3 : decode cX8_burnt 3 = .ok (.invokevirtual 157, 3) := by decide +kernel
theorem dX8_burnt_6 : decode cX8_burnt 6 = .ok (.invokestatic 95, 3) := by decide +kernel
theorem dX8_burnt_9 : decode cX8_burnt 9 = .ok (.ifCond .ne 7, 3) := by decide +kernel
theorem dX8_burnt_12 : decode cX8_burnt 12 = .ok (.ldc2_w 168, 3) := by decide +kernel
theorem dX8_burnt_15 : decode cX8_burnt 15 = .ok (.lreturn, 1) := by decide +kernel
theorem dX8_burnt_16 : decode cX8_burnt 16 = .ok (.iload_n 2, 1) := by decide +kernel
theorem dX8_burnt_17 : decode cX8_burnt 17 = .ok (.ifCond .ne 16, 3) := by decide +kernel
theorem dX8_burnt_20 : decode cX8_burnt 20 = .ok (.aload_n 0, 1) := by decide +kernel
theorem dX8_burnt_21 : decode cX8_burnt 21 = .ok (.invokevirtual 160, 3) := by decide +kernel
theorem dX8_burnt_24 : decode cX8_burnt 24 = .ok (.aload_n 0, 1) := by decide +kernel
theorem dX8_burnt_25 : decode cX8_burnt 25 = .ok (.iload_n 1, 1) := by decide +kernel
theorem dX8_burnt_26 : decode cX8_burnt 26 = .ok (.invokevirtual 164, 3) := by decide +kernel
theorem dX8_burnt_29 : decode cX8_burnt 29 = .ok (.ladd, 1) := by decide +kernel
theorem dX8_burnt_30 : decode cX8_burnt 30 = .ok (.goto 26, 3) := by decide +kernel
theorem dX8_burnt_33 : decode cX8_burnt 33 = .ok (.iload_n 2, 1) := by decide +kernel
theorem dX8_burnt_34 : decode cX8_burnt 34 = .ok (.iconst 1, 1) := by decide +kernel
theorem dX8_burnt_35 : decode cX8_burnt 35 = .ok (.if_icmp .ne 18, 3) := by decide +kernel
theorem dX8_burnt_38 : decode cX8_burnt 38 = .ok (.aload_n 0, 1) := by decide +kernel
theorem dX8_burnt_39 : decode cX8_burnt 39 = .ok (.invokevirtual 153, 3) := by decide +kernel
theorem dX8_burnt_42 : decode cX8_burnt 42 = .ok (.aload_n 0, 1) := by decide +kernel
theorem dX8_burnt_43 : decode cX8_burnt 43 = .ok (.invokevirtual 157, 3) := by decide +kernel
theorem dX8_burnt_46 : decode cX8_burnt 46 = .ok (.iadd, 1) := by decide +kernel
theorem dX8_burnt_47 : decode cX8_burnt 47 = .ok (.iload_n 1, 1) := by decide +kernel
theorem dX8_burnt_48 : decode cX8_burnt 48 = .ok (.isub, 1) := by decide +kernel
theorem dX8_burnt_49 : decode cX8_burnt 49 = .ok (.i2l, 1) := by decide +kernel
theorem dX8_burnt_50 : decode cX8_burnt 50 = .ok (.goto 6, 3) := by decide +kernel
theorem dX8_burnt_53 : decode cX8_burnt 53 = .ok (.ldc2_w 168, 3) := by decide +kernel
theorem dX8_burnt_56 : decode cX8_burnt 56 = .ok (.lreturn, 1) := by decide +kernel
theorem dX8_count_0 : decode cX8_count 0 = .ok (.iconst 0, 1) := by decide +kernel
theorem dX8_count_1 : decode cX8_count 1 = .ok (.istore_n 2, 1) := by decide +kernel
theorem dX8_count_2 : decode cX8_count 2 = .ok (.iload_n 1, 1) := by decide +kernel
theorem dX8_count_3 : decode cX8_count 3 = .ok (.tableswitch 160 0 7 #[45, 50, 77, 82, 118, 123, 150, 155], 45) := by decide +kernel
theorem dX8_count_48 : decode cX8_count 48 = .ok (.aload_n 0, 1) := by decide +kernel
theorem dX8_count_49 : decode cX8_count 49 = .ok (.getfield 99, 3) := by decide +kernel
theorem dX8_count_52 : decode cX8_count 52 = .ok (.ireturn, 1) := by decide +kernel
theorem dX8_count_53 : decode cX8_count 53 = .ok (.iconst 0, 1) := by decide +kernel
theorem dX8_count_54 : decode cX8_count 54 = .ok (.istore_n 3, 1) := by decide +kernel
theorem dX8_count_55 : decode cX8_count 55 = .ok (.iload_n 3, 1) := by decide +kernel
theorem dX8_count_56 : decode cX8_count 56 = .ok (.aload_n 0, 1) := by decide +kernel
theorem dX8_count_57 : decode cX8_count 57 = .ok (.getfield 99, 3) := by decide +kernel
theorem dX8_count_60 : decode cX8_count 60 = .ok (.if_icmp .ge 18, 3) := by decide +kernel
theorem dX8_count_63 : decode cX8_count 63 = .ok (.iload_n 2, 1) := by decide +kernel
theorem dX8_count_64 : decode cX8_count 64 = .ok (.aload_n 0, 1) := by decide +kernel
theorem dX8_count_65 : decode cX8_count 65 = .ok (.getfield 25, 3) := by decide +kernel
theorem dX8_count_68 : decode cX8_count 68 = .ok (.iload_n 3, 1) := by decide +kernel
theorem dX8_count_69 : decode cX8_count 69 = .ok (.iaload, 1) := by decide +kernel
theorem dX8_count_70 : decode cX8_count 70 = .ok (.iadd, 1) := by decide +kernel
theorem dX8_count_71 : decode cX8_count 71 = .ok (.istore_n 2, 1) := by decide +kernel
theorem dX8_count_72 : decode cX8_count 72 = .ok (.iinc 3 1, 3) := by decide +kernel
theorem dX8_count_75 : decode cX8_count 75 = .ok (.goto (-20), 3) := by decide +kernel
theorem dX8_count_78 : decode cX8_count 78 = .ok (.iload_n 2, 1) := by decide +kernel
theorem dX8_count_79 : decode cX8_count 79 = .ok (.ireturn, 1) := by decide +kernel
theorem dX8_count_80 : decode cX8_count 80 = .ok (.aload_n 0, 1) := by decide +kernel
theorem dX8_count_81 : decode cX8_count 81 = .ok (.getfield 106, 3) := by decide +kernel
theorem dX8_count_84 : decode cX8_count 84 = .ok (.ireturn, 1) := by decide +kernel
theorem dX8_count_85 : decode cX8_count 85 = .ok (.iconst 0, 1) := by decide +kernel
theorem dX8_count_86 : decode cX8_count 86 = .ok (.istore_n 3, 1) := by decide +kernel
theorem dX8_count_87 : decode cX8_count 87 = .ok (.iload_n 3, 1) := by decide +kernel
theorem dX8_count_88 : decode cX8_count 88 = .ok (.aload_n 0, 1) := by decide +kernel
theorem dX8_count_89 : decode cX8_count 89 = .ok (.getfield 106, 3) := by decide +kernel
theorem dX8_count_92 : decode cX8_count 92 = .ok (.if_icmp .ge 27, 3) := by decide +kernel
theorem dX8_count_95 : decode cX8_count 95 = .ok (.iload_n 2, 1) := by decide +kernel
theorem dX8_count_96 : decode cX8_count 96 = .ok (.aload_n 0, 1) := by decide +kernel
theorem dX8_count_97 : decode cX8_count 97 = .ok (.getfield 49, 3) := by decide +kernel
theorem dX8_count_100 : decode cX8_count 100 = .ok (.iload_n 3, 1) := by decide +kernel
theorem dX8_count_101 : decode cX8_count 101 = .ok (.iaload, 1) := by decide +kernel
theorem dX8_count_102 : decode cX8_count 102 = .ok (.iconst (-1), 1) := by decide +kernel
theorem dX8_count_103 : decode cX8_count 103 = .ok (.if_icmp .ne 7, 3) := by decide +kernel
theorem dX8_count_106 : decode cX8_count 106 = .ok (.iconst 0, 1) := by decide +kernel
theorem dX8_count_107 : decode cX8_count 107 = .ok (.goto 4, 3) := by decide +kernel
theorem dX8_count_110 : decode cX8_count 110 = .ok (.iconst 1, 1) := by decide +kernel
theorem dX8_count_111 : decode cX8_count 111 = .ok (.iadd, 1) := by decide +kernel
theorem dX8_count_112 : decode cX8_count 112 = .ok (.istore_n 2, 1) := by decide +kernel
theorem dX8_count_113 : decode cX8_count 113 = .ok (.iinc 3 1, 3) := by decide +kernel
theorem dX8_count_116 : decode cX8_count 116 = .ok (.goto (-29), 3) := by decide +kernel
theorem dX8_count_119 : decode cX8_count 119 = .ok (.iload_n 2, 1) := by decide +kernel
theorem dX8_count_120 : decode cX8_count 120 = .ok (.ireturn, 1) := by decide +kernel
theorem dX8_count_121 : decode cX8_count 121 = .ok (.aload_n 0, 1) := by decide +kernel
theorem dX8_count_122 : decode cX8_count 122 = .ok (.getfield 116, 3) := by decide +kernel
theorem dX8_count_125 : decode cX8_count 125 = .ok (.ireturn, 1) := by decide +kernel
theorem dX8_count_126 : decode cX8_count 126 = .ok (.iconst 0, 1) := by decide +kernel
theorem dX8_count_127 : decode cX8_count 127 = .ok (.istore_n 3, 1) := by decide +kernel
theorem dX8_count_128 : decode cX8_count 128 = .ok (.iload_n 3, 1) := by decide +kernel
theorem dX8_count_129 : decode cX8_count 129 = .ok (.aload_n 0, 1) := by decide +kernel
theorem dX8_count_130 : decode cX8_count 130 = .ok (.getfield 116, 3) := by decide +kernel
theorem dX8_count_133 : decode cX8_count 133 = .ok (.if_icmp .ge 18, 3) := by decide +kernel
theorem dX8_count_136 : decode cX8_count 136 = .ok (.iload_n 2, 1) := by decide +kernel
theorem dX8_count_137 : decode cX8_count 137 = .ok (.aload_n 0, 1) := by decide +kernel
theorem dX8_count_138 : decode cX8_count 138 = .ok (.getfield 58, 3) := by decide +kernel
theorem dX8_count_141 : decode cX8_count 141 = .ok (.iload_n 3, 1) := by decide +kernel
theorem dX8_count_142 : decode cX8_count 142 = .ok (.iaload, 1) := by decide +kernel
theorem dX8_count_143 : decode cX8_count 143 = .ok (.iadd, 1) := by decide +kernel
theorem dX8_count_144 : decode cX8_count 144 = .ok (.istore_n 2, 1) := by decide +kernel
theorem dX8_count_145 : decode cX8_count 145 = .ok (.iinc 3 1, 3) := by decide +kernel
theorem dX8_count_148 : decode cX8_count 148 = .ok (.goto (-20), 3) := by decide +kernel
theorem dX8_count_151 : decode cX8_count 151 = .ok (.iload_n 2, 1) := by decide +kernel
theorem dX8_count_152 : decode cX8_count 152 = .ok (.ireturn, 1) := by decide +kernel
theorem dX8_count_153 : decode cX8_count 153 = .ok (.aload_n 0, 1) := by decide +kernel
theorem dX8_count_154 : decode cX8_count 154 = .ok (.getfield 119, 3) := by decide +kernel
theorem dX8_count_157 : decode cX8_count 157 = .ok (.ireturn, 1) := by decide +kernel
theorem dX8_count_158 : decode cX8_count 158 = .ok (.aload_n 0, 1) := by decide +kernel
theorem dX8_count_159 : decode cX8_count 159 = .ok (.getfield 70, 3) := by decide +kernel
theorem dX8_count_162 : decode cX8_count 162 = .ok (.ireturn, 1) := by decide +kernel
theorem dX8_count_163 : decode cX8_count 163 = .ok (.iconst (-1), 1) := by decide +kernel
theorem dX8_count_164 : decode cX8_count 164 = .ok (.ireturn, 1) := by decide +kernel
theorem dX8_dryMoment_0 : decode cX8_dryMoment 0 = .ok (.aload_n 0, 1) := by decide +kernel
theorem dX8_dryMoment_1 : decode cX8_dryMoment 1 = .ok (.getfield 15, 3) := by decide +kernel
theorem dX8_dryMoment_4 : decode cX8_dryMoment 4 = .ok (.i2l, 1) := by decide +kernel
theorem dX8_dryMoment_5 : decode cX8_dryMoment 5 = .ok (.aload_n 0, 1) := by decide +kernel
theorem dX8_dryMoment_6 : decode cX8_dryMoment 6 = .ok (.getfield 113, 3) := by decide +kernel
theorem dX8_dryMoment_9 : decode cX8_dryMoment 9 = .ok (.i2l, 1) := by decide +kernel
theorem dX8_dryMoment_10 : decode cX8_dryMoment 10 = .ok (.lmul, 1) := by decide +kernel
theorem dX8_dryMoment_11 : decode cX8_dryMoment 11 = .ok (.lstore_n 1, 1) := by decide +kernel
theorem dX8_dryMoment_12 : decode cX8_dryMoment 12 = .ok (.iconst 0, 1) := by decide +kernel
theorem dX8_dryMoment_13 : decode cX8_dryMoment 13 = .ok (.istore_n 3, 1) := by decide +kernel
theorem dX8_dryMoment_14 : decode cX8_dryMoment 14 = .ok (.iload_n 3, 1) := by decide +kernel
theorem dX8_dryMoment_15 : decode cX8_dryMoment 15 = .ok (.aload_n 0, 1) := by decide +kernel
theorem dX8_dryMoment_16 : decode cX8_dryMoment 16 = .ok (.getfield 99, 3) := by decide +kernel
theorem dX8_dryMoment_19 : decode cX8_dryMoment 19 = .ok (.if_icmp .ge 58, 3) := by decide +kernel
theorem dX8_dryMoment_22 : decode cX8_dryMoment 22 = .ok (.iconst 0, 1) := by decide +kernel
theorem dX8_dryMoment_23 : decode cX8_dryMoment 23 = .ok (.istore 4, 2) := by decide +kernel
theorem dX8_dryMoment_25 : decode cX8_dryMoment 25 = .ok (.iload 4, 2) := by decide +kernel
theorem dX8_dryMoment_27 : decode cX8_dryMoment 27 = .ok (.aload_n 0, 1) := by decide +kernel
theorem dX8_dryMoment_28 : decode cX8_dryMoment 28 = .ok (.getfield 25, 3) := by decide +kernel
theorem dX8_dryMoment_31 : decode cX8_dryMoment 31 = .ok (.iload_n 3, 1) := by decide +kernel
theorem dX8_dryMoment_32 : decode cX8_dryMoment 32 = .ok (.iaload, 1) := by decide +kernel
theorem dX8_dryMoment_33 : decode cX8_dryMoment 33 = .ok (.if_icmp .ge 38, 3) := by decide +kernel
theorem dX8_dryMoment_36 : decode cX8_dryMoment 36 = .ok (.lload_n 1, 1) := by decide +kernel
theorem dX8_dryMoment_37 : decode cX8_dryMoment 37 = .ok (.aload_n 0, 1) := by decide +kernel
theorem dX8_dryMoment_38 : decode cX8_dryMoment 38 = .ok (.bipush 8, 2) := by decide +kernel
theorem dX8_dryMoment_40 : decode cX8_dryMoment 40 = .ok (.iload_n 3, 1) := by decide +kernel
theorem dX8_dryMoment_41 : decode cX8_dryMoment 41 = .ok (.imul, 1) := by decide +kernel
theorem dX8_dryMoment_42 : decode cX8_dryMoment 42 = .ok (.iload 4, 2) := by decide +kernel
theorem dX8_dryMoment_44 : decode cX8_dryMoment 44 = .ok (.iadd, 1) := by decide +kernel
theorem dX8_dryMoment_45 : decode cX8_dryMoment 45 = .ok (.invokevirtual 123, 3) := by decide +kernel
theorem dX8_dryMoment_48 : decode cX8_dryMoment 48 = .ok (.i2l, 1) := by decide +kernel
theorem dX8_dryMoment_49 : decode cX8_dryMoment 49 = .ok (.aload_n 0, 1) := by decide +kernel
theorem dX8_dryMoment_50 : decode cX8_dryMoment 50 = .ok (.getfield 28, 3) := by decide +kernel
theorem dX8_dryMoment_53 : decode cX8_dryMoment 53 = .ok (.bipush 8, 2) := by decide +kernel
theorem dX8_dryMoment_55 : decode cX8_dryMoment 55 = .ok (.iload_n 3, 1) := by decide +kernel
theorem dX8_dryMoment_56 : decode cX8_dryMoment 56 = .ok (.imul, 1) := by decide +kernel
theorem dX8_dryMoment_57 : decode cX8_dryMoment 57 = .ok (.iload 4, 2) := by decide +kernel
theorem dX8_dryMoment_59 : decode cX8_dryMoment 59 = .ok (.iadd, 1) := by decide +kernel
theorem dX8_dryMoment_60 : decode cX8_dryMoment 60 = .ok (.iaload, 1) := by decide +kernel
theorem dX8_dryMoment_61 : decode cX8_dryMoment 61 = .ok (.i2l, 1) := by decide +kernel
theorem dX8_dryMoment_62 : decode cX8_dryMoment 62 = .ok (.lmul, 1) := by decide +kernel
theorem dX8_dryMoment_63 : decode cX8_dryMoment 63 = .ok (.ladd, 1) := by decide +kernel
theorem dX8_dryMoment_64 : decode cX8_dryMoment 64 = .ok (.lstore_n 1, 1) := by decide +kernel
theorem dX8_dryMoment_65 : decode cX8_dryMoment 65 = .ok (.iinc 4 1, 3) := by decide +kernel
theorem dX8_dryMoment_68 : decode cX8_dryMoment 68 = .ok (.goto (-43), 3) := by decide +kernel
theorem dX8_dryMoment_71 : decode cX8_dryMoment 71 = .ok (.iinc 3 1, 3) := by decide +kernel
theorem dX8_dryMoment_74 : decode cX8_dryMoment 74 = .ok (.goto (-60), 3) := by decide +kernel
theorem dX8_dryMoment_77 : decode cX8_dryMoment 77 = .ok (.iconst 0, 1) := by decide +kernel
theorem dX8_dryMoment_78 : decode cX8_dryMoment 78 = .ok (.istore_n 3, 1) := by decide +kernel
theorem dX8_dryMoment_79 : decode cX8_dryMoment 79 = .ok (.iload_n 3, 1) := by decide +kernel
theorem dX8_dryMoment_80 : decode cX8_dryMoment 80 = .ok (.aload_n 0, 1) := by decide +kernel
theorem dX8_dryMoment_81 : decode cX8_dryMoment 81 = .ok (.getfield 116, 3) := by decide +kernel
theorem dX8_dryMoment_84 : decode cX8_dryMoment 84 = .ok (.if_icmp .ge 33, 3) := by decide +kernel
theorem dX8_dryMoment_87 : decode cX8_dryMoment 87 = .ok (.lload_n 1, 1) := by decide +kernel
theorem dX8_dryMoment_88 : decode cX8_dryMoment 88 = .ok (.aload_n 0, 1) := by decide +kernel
theorem dX8_dryMoment_89 : decode cX8_dryMoment 89 = .ok (.getfield 58, 3) := by decide +kernel
theorem dX8_dryMoment_92 : decode cX8_dryMoment 92 = .ok (.iload_n 3, 1) := by decide +kernel
theorem dX8_dryMoment_93 : decode cX8_dryMoment 93 = .ok (.iaload, 1) := by decide +kernel
theorem dX8_dryMoment_94 : decode cX8_dryMoment 94 = .ok (.i2l, 1) := by decide +kernel
theorem dX8_dryMoment_95 : decode cX8_dryMoment 95 = .ok (.aload_n 0, 1) := by decide +kernel
theorem dX8_dryMoment_96 : decode cX8_dryMoment 96 = .ok (.getfield 70, 3) := by decide +kernel
theorem dX8_dryMoment_99 : decode cX8_dryMoment 99 = .ok (.i2l, 1) := by decide +kernel
theorem dX8_dryMoment_100 : decode cX8_dryMoment 100 = .ok (.lmul, 1) := by decide +kernel
theorem dX8_dryMoment_101 : decode cX8_dryMoment 101 = .ok (.aload_n 0, 1) := by decide +kernel
theorem dX8_dryMoment_102 : decode cX8_dryMoment 102 = .ok (.getfield 52, 3) := by decide +kernel
theorem dX8_dryMoment_105 : decode cX8_dryMoment 105 = .ok (.iload_n 3, 1) := by decide +kernel
theorem dX8_dryMoment_106 : decode cX8_dryMoment 106 = .ok (.iaload, 1) := by decide +kernel
theorem dX8_dryMoment_107 : decode cX8_dryMoment 107 = .ok (.i2l, 1) := by decide +kernel
theorem dX8_dryMoment_108 : decode cX8_dryMoment 108 = .ok (.lmul, 1) := by decide +kernel
theorem dX8_dryMoment_109 : decode cX8_dryMoment 109 = .ok (.ladd, 1) := by decide +kernel
theorem dX8_dryMoment_110 : decode cX8_dryMoment 110 = .ok (.lstore_n 1, 1) := by decide +kernel
theorem dX8_dryMoment_111 : decode cX8_dryMoment 111 = .ok (.iinc 3 1, 3) := by decide +kernel
theorem dX8_dryMoment_114 : decode cX8_dryMoment 114 = .ok (.goto (-35), 3) := by decide +kernel
theorem dX8_dryMoment_117 : decode cX8_dryMoment 117 = .ok (.lload_n 1, 1) := by decide +kernel
theorem dX8_dryMoment_118 : decode cX8_dryMoment 118 = .ok (.lreturn, 1) := by decide +kernel
theorem dX8_dryWeight_0 : decode cX8_dryWeight 0 = .ok (.aload_n 0, 1) := by decide +kernel
theorem dX8_dryWeight_1 : decode cX8_dryWeight 1 = .ok (.getfield 15, 3) := by decide +kernel
theorem dX8_dryWeight_4 : decode cX8_dryWeight 4 = .ok (.istore_n 1, 1) := by decide +kernel
theorem dX8_dryWeight_5 : decode cX8_dryWeight 5 = .ok (.iconst 0, 1) := by decide +kernel
theorem dX8_dryWeight_6 : decode cX8_dryWeight 6 = .ok (.istore_n 2, 1) := by decide +kernel
theorem dX8_dryWeight_7 : decode cX8_dryWeight 7 = .ok (.iload_n 2, 1) := by decide +kernel
theorem dX8_dryWeight_8 : decode cX8_dryWeight 8 = .ok (.aload_n 0, 1) := by decide +kernel
theorem dX8_dryWeight_9 : decode cX8_dryWeight 9 = .ok (.getfield 99, 3) := by decide +kernel
theorem dX8_dryWeight_12 : decode cX8_dryWeight 12 = .ok (.if_icmp .ge 17, 3) := by decide +kernel
theorem dX8_dryWeight_15 : decode cX8_dryWeight 15 = .ok (.iload_n 1, 1) := by decide +kernel
theorem dX8_dryWeight_16 : decode cX8_dryWeight 16 = .ok (.aload_n 0, 1) := by decide +kernel
theorem dX8_dryWeight_17 : decode cX8_dryWeight 17 = .ok (.iload_n 2, 1) := by decide +kernel
theorem dX8_dryWeight_18 : decode cX8_dryWeight 18 = .ok (.invokevirtual 127, 3) := by decide +kernel
theorem dX8_dryWeight_21 : decode cX8_dryWeight 21 = .ok (.iadd, 1) := by decide +kernel
theorem dX8_dryWeight_22 : decode cX8_dryWeight 22 = .ok (.istore_n 1, 1) := by decide +kernel
theorem dX8_dryWeight_23 : decode cX8_dryWeight 23 = .ok (.iinc 2 1, 3) := by decide +kernel
theorem dX8_dryWeight_26 : decode cX8_dryWeight 26 = .ok (.goto (-19), 3) := by decide +kernel
theorem dX8_dryWeight_29 : decode cX8_dryWeight 29 = .ok (.iconst 0, 1) := by decide +kernel
theorem dX8_dryWeight_30 : decode cX8_dryWeight 30 = .ok (.istore_n 2, 1) := by decide +kernel
theorem dX8_dryWeight_31 : decode cX8_dryWeight 31 = .ok (.iload_n 2, 1) := by decide +kernel
theorem dX8_dryWeight_32 : decode cX8_dryWeight 32 = .ok (.aload_n 0, 1) := by decide +kernel
theorem dX8_dryWeight_33 : decode cX8_dryWeight 33 = .ok (.getfield 116, 3) := by decide +kernel
theorem dX8_dryWeight_36 : decode cX8_dryWeight 36 = .ok (.if_icmp .ge 23, 3) := by decide +kernel
theorem dX8_dryWeight_39 : decode cX8_dryWeight 39 = .ok (.iload_n 1, 1) := by decide +kernel
theorem dX8_dryWeight_40 : decode cX8_dryWeight 40 = .ok (.aload_n 0, 1) := by decide +kernel
theorem dX8_dryWeight_41 : decode cX8_dryWeight 41 = .ok (.getfield 58, 3) := by decide +kernel
theorem dX8_dryWeight_44 : decode cX8_dryWeight 44 = .ok (.iload_n 2, 1) := by decide +kernel
theorem dX8_dryWeight_45 : decode cX8_dryWeight 45 = .ok (.iaload, 1) := by decide +kernel
theorem dX8_dryWeight_46 : decode cX8_dryWeight 46 = .ok (.aload_n 0, 1) := by decide +kernel
theorem dX8_dryWeight_47 : decode cX8_dryWeight 47 = .ok (.getfield 70, 3) := by decide +kernel
theorem dX8_dryWeight_50 : decode cX8_dryWeight 50 = .ok (.imul, 1) := by decide +kernel
theorem dX8_dryWeight_51 : decode cX8_dryWeight 51 = .ok (.iadd, 1) := by decide +kernel
theorem dX8_dryWeight_52 : decode cX8_dryWeight 52 = .ok (.istore_n 1, 1) := by decide +kernel
theorem dX8_dryWeight_53 : decode cX8_dryWeight 53 = .ok (.iinc 2 1, 3) := by decide +kernel
theorem dX8_dryWeight_56 : decode cX8_dryWeight 56 = .ok (.goto (-25), 3) := by decide +kernel
theorem dX8_dryWeight_59 : decode cX8_dryWeight 59 = .ok (.iload_n 1, 1) := by decide +kernel
theorem dX8_dryWeight_60 : decode cX8_dryWeight 60 = .ok (.ireturn, 1) := by decide +kernel
theorem dX8_empty_0 : decode cX8_empty 0 = .ok (.iload_n 1, 1) := by decide +kernel
theorem dX8_empty_1 : decode cX8_empty 1 = .ok (.sipush 1000, 3) := by decide +kernel
theorem dX8_empty_4 : decode cX8_empty 4 = .ok (.ldc 109, 2) := by decide +kernel
theorem dX8_empty_6 : decode cX8_empty 6 = .ok (.invokestatic 95, 3) := by decide +kernel
theorem dX8_empty_9 : decode cX8_empty 9 = .ok (.ifCond .eq 10, 3) := by decide +kernel
theorem dX8_empty_12 : decode cX8_empty 12 = .ok (.iload_n 2, 1) := by decide +kernel
theorem dX8_empty_13 : decode cX8_empty 13 = .ok (.invokestatic 110, 3) := by decide +kernel
theorem dX8_empty_16 : decode cX8_empty 16 = .ok (.ifCond .ne 6, 3) := by decide +kernel
theorem dX8_empty_19 : decode cX8_empty 19 = .ok (.bipush (-2), 2) := by decide +kernel
theorem dX8_empty_21 : decode cX8_empty 21 = .ok (.ireturn, 1) := by decide +kernel
theorem dX8_empty_22 : decode cX8_empty 22 = .ok (.aload_n 0, 1) := by decide +kernel
theorem dX8_empty_23 : decode cX8_empty 23 = .ok (.iload_n 1, 1) := by decide +kernel
theorem dX8_empty_24 : decode cX8_empty 24 = .ok (.putfield 15, 3) := by decide +kernel
theorem dX8_empty_27 : decode cX8_empty 27 = .ok (.aload_n 0, 1) := by decide +kernel
theorem dX8_empty_28 : decode cX8_empty 28 = .ok (.iload_n 2, 1) := by decide +kernel
theorem dX8_empty_29 : decode cX8_empty 29 = .ok (.putfield 113, 3) := by decide +kernel
theorem dX8_empty_32 : decode cX8_empty 32 = .ok (.iconst 0, 1) := by decide +kernel
theorem dX8_empty_33 : decode cX8_empty 33 = .ok (.ireturn, 1) := by decide +kernel
theorem dX8_far_0 : decode cX8_far 0 = .ok (.aload_n 0, 1) := by decide +kernel
theorem dX8_far_1 : decode cX8_far 1 = .ok (.iload_n 2, 1) := by decide +kernel
theorem dX8_far_2 : decode cX8_far 2 = .ok (.putfield 185, 3) := by decide +kernel
theorem dX8_far_5 : decode cX8_far 5 = .ok (.aload_n 0, 1) := by decide +kernel
theorem dX8_far_6 : decode cX8_far 6 = .ok (.lload_n 3, 1) := by decide +kernel
theorem dX8_far_7 : decode cX8_far 7 = .ok (.iload_n 1, 1) := by decide +kernel
theorem dX8_far_8 : decode cX8_far 8 = .ok (.i2l, 1) := by decide +kernel
theorem dX8_far_9 : decode cX8_far 9 = .ok (.iload_n 2, 1) := by decide +kernel
theorem dX8_far_10 : decode cX8_far 10 = .ok (.i2l, 1) := by decide +kernel
theorem dX8_far_11 : decode cX8_far 11 = .ok (.lmul, 1) := by decide +kernel
theorem dX8_far_12 : decode cX8_far 12 = .ok (.lsub, 1) := by decide +kernel
theorem dX8_far_13 : decode cX8_far 13 = .ok (.putfield 188, 3) := by decide +kernel
theorem dX8_far_16 : decode cX8_far 16 = .ok (.aload_n 0, 1) := by decide +kernel
theorem dX8_far_17 : decode cX8_far 17 = .ok (.aload_n 0, 1) := by decide +kernel
theorem dX8_far_18 : decode cX8_far 18 = .ok (.getfield 188, 3) := by decide +kernel
theorem dX8_far_21 : decode cX8_far 21 = .ok (.lconst 0, 1) := by decide +kernel
theorem dX8_far_22 : decode cX8_far 22 = .ok (.lcmp, 1) := by decide +kernel
theorem dX8_far_23 : decode cX8_far 23 = .ok (.ifCond .ge 11, 3) := by decide +kernel
theorem dX8_far_26 : decode cX8_far 26 = .ok (.aload_n 0, 1) := by decide +kernel
theorem dX8_far_27 : decode cX8_far 27 = .ok (.getfield 188, 3) := by decide +kernel
theorem dX8_far_30 : decode cX8_far 30 = .ok (.lneg, 1) := by decide +kernel
theorem dX8_far_31 : decode cX8_far 31 = .ok (.goto 7, 3) := by decide +kernel
theorem dX8_far_34 : decode cX8_far 34 = .ok (.aload_n 0, 1) := by decide +kernel
theorem dX8_far_35 : decode cX8_far 35 = .ok (.getfield 188, 3) := by decide +kernel
theorem dX8_far_38 : decode cX8_far 38 = .ok (.putfield 188, 3) := by decide +kernel
theorem dX8_far_41 : decode cX8_far 41 = .ok (.return_, 1) := by decide +kernel
theorem dX8_firstWrong_0 : decode cX8_firstWrong 0 = .ok (.aload_n 0, 1) := by decide +kernel
theorem dX8_firstWrong_1 : decode cX8_firstWrong 1 = .ok (.invokevirtual 157, 3) := by decide +kernel
theorem dX8_firstWrong_4 : decode cX8_firstWrong 4 = .ok (.istore_n 2, 1) := by decide +kernel
theorem dX8_firstWrong_5 : decode cX8_firstWrong 5 = .ok (.iload_n 1, 1) := by decide +kernel
theorem dX8_firstWrong_6 : decode cX8_firstWrong 6 = .ok (.iload_n 2, 1) := by decide +kernel
theorem dX8_firstWrong_7 : decode cX8_firstWrong 7 = .ok (.if_icmp .ge 7, 3) := by decide +kernel
theorem dX8_firstWrong_10 : decode cX8_firstWrong 10 = .ok (.iload_n 1, 1) := by decide +kernel
theorem dX8_firstWrong_11 : decode cX8_firstWrong 11 = .ok (.goto 4, 3) := by decide +kernel
theorem dX8_firstWrong_14 : decode cX8_firstWrong 14 = .ok (.iload_n 2, 1) := by decide +kernel
theorem dX8_firstWrong_15 : decode cX8_firstWrong 15 = .ok (.istore_n 3, 1) := by decide +kernel
theorem dX8_firstWrong_16 : decode cX8_firstWrong 16 = .ok (.aload_n 0, 1) := by decide +kernel
theorem dX8_firstWrong_17 : decode cX8_firstWrong 17 = .ok (.invokevirtual 153, 3) := by decide +kernel
theorem dX8_firstWrong_20 : decode cX8_firstWrong 20 = .ok (.istore 4, 2) := by decide +kernel
theorem dX8_firstWrong_22 : decode cX8_firstWrong 22 = .ok (.aload_n 0, 1) := by decide +kernel
theorem dX8_firstWrong_23 : decode cX8_firstWrong 23 = .ok (.invokevirtual 160, 3) := by decide +kernel
theorem dX8_firstWrong_26 : decode cX8_firstWrong 26 = .ok (.lstore 5, 2) := by decide +kernel
theorem dX8_firstWrong_28 : decode cX8_firstWrong 28 = .ok (.iconst 0, 1) := by decide +kernel
theorem dX8_firstWrong_29 : decode cX8_firstWrong 29 = .ok (.istore 7, 2) := by decide +kernel
theorem dX8_firstWrong_31 : decode cX8_firstWrong 31 = .ok (.iload 7, 2) := by decide +kernel
theorem dX8_firstWrong_33 : decode cX8_firstWrong 33 = .ok (.iload_n 3, 1) := by decide +kernel
theorem dX8_firstWrong_34 : decode cX8_firstWrong 34 = .ok (.if_icmp .gt 37, 3) := by decide +kernel
theorem dX8_firstWrong_37 : decode cX8_firstWrong 37 = .ok (.aload_n 0, 1) := by decide +kernel
theorem dX8_firstWrong_38 : decode cX8_firstWrong 38 = .ok (.iconst 1, 1) := by decide +kernel
theorem dX8_firstWrong_39 : decode cX8_firstWrong 39 = .ok (.iload 4, 2) := by decide +kernel
theorem dX8_firstWrong_41 : decode cX8_firstWrong 41 = .ok (.iload_n 2, 1) := by decide +kernel
theorem dX8_firstWrong_42 : decode cX8_firstWrong 42 = .ok (.iadd, 1) := by decide +kernel
theorem dX8_firstWrong_43 : decode cX8_firstWrong 43 = .ok (.iload 7, 2) := by decide +kernel
theorem dX8_firstWrong_45 : decode cX8_firstWrong 45 = .ok (.isub, 1) := by decide +kernel
theorem dX8_firstWrong_46 : decode cX8_firstWrong 46 = .ok (.i2l, 1) := by decide +kernel
theorem dX8_firstWrong_47 : decode cX8_firstWrong 47 = .ok (.lload 5, 2) := by decide +kernel
theorem dX8_firstWrong_49 : decode cX8_firstWrong 49 = .ok (.aload_n 0, 1) := by decide +kernel
theorem dX8_firstWrong_50 : decode cX8_firstWrong 50 = .ok (.iload 7, 2) := by decide +kernel
theorem dX8_firstWrong_52 : decode cX8_firstWrong 52 = .ok (.invokevirtual 164, 3) := by decide +kernel
theorem dX8_firstWrong_55 : decode cX8_firstWrong 55 = .ok (.ladd, 1) := by decide +kernel
theorem dX8_firstWrong_56 : decode cX8_firstWrong 56 = .ok (.invokevirtual 170, 3) := by decide +kernel
theorem dX8_firstWrong_59 : decode cX8_firstWrong 59 = .ok (.ifCond .eq 6, 3) := by decide +kernel
theorem dX8_firstWrong_62 : decode cX8_firstWrong 62 = .ok (.iload 7, 2) := by decide +kernel
theorem dX8_firstWrong_64 : decode cX8_firstWrong 64 = .ok (.ireturn, 1) := by decide +kernel
theorem dX8_firstWrong_65 : decode cX8_firstWrong 65 = .ok (.iinc 7 1, 3) := by decide +kernel
theorem dX8_firstWrong_68 : decode cX8_firstWrong 68 = .ok (.goto (-37), 3) := by decide +kernel
theorem dX8_firstWrong_71 : decode cX8_firstWrong 71 = .ok (.iconst (-1), 1) := by decide +kernel
theorem dX8_firstWrong_72 : decode cX8_firstWrong 72 = .ok (.ireturn, 1) := by decide +kernel
theorem dX8_fits_0 : decode cX8_fits 0 = .ok (.aload_n 0, 1) := by decide +kernel
theorem dX8_fits_1 : decode cX8_fits 1 = .ok (.iload_n 1, 1) := by decide +kernel
theorem dX8_fits_2 : decode cX8_fits 2 = .ok (.invokevirtual 130, 3) := by decide +kernel
theorem dX8_fits_5 : decode cX8_fits 5 = .ok (.ifCond .eq 12, 3) := by decide +kernel
theorem dX8_fits_8 : decode cX8_fits 8 = .ok (.aload_n 0, 1) := by decide +kernel
theorem dX8_fits_9 : decode cX8_fits 9 = .ok (.iload_n 2, 1) := by decide +kernel
theorem dX8_fits_10 : decode cX8_fits 10 = .ok (.iload_n 3, 1) := by decide +kernel
theorem dX8_fits_11 : decode cX8_fits 11 = .ok (.invokevirtual 133, 3) := by decide +kernel
theorem dX8_fits_14 : decode cX8_fits 14 = .ok (.ifCond .ne 5, 3) := by decide +kernel
theorem dX8_fits_17 : decode cX8_fits 17 = .ok (.iconst (-1), 1) := by decide +kernel
theorem dX8_fits_18 : decode cX8_fits 18 = .ok (.ireturn, 1) := by decide +kernel
theorem dX8_fits_19 : decode cX8_fits 19 = .ok (.aload_n 0, 1) := by decide +kernel
theorem dX8_fits_20 : decode cX8_fits 20 = .ok (.getfield 49, 3) := by decide +kernel
theorem dX8_fits_23 : decode cX8_fits 23 = .ok (.iload_n 1, 1) := by decide +kernel
theorem dX8_fits_24 : decode cX8_fits 24 = .ok (.iaload, 1) := by decide +kernel
theorem dX8_fits_25 : decode cX8_fits 25 = .ok (.iconst (-1), 1) := by decide +kernel
theorem dX8_fits_26 : decode cX8_fits 26 = .ok (.if_icmp .eq 8, 3) := by decide +kernel
theorem dX8_fits_29 : decode cX8_fits 29 = .ok (.bipush (-3), 2) := by decide +kernel
theorem dX8_fits_31 : decode cX8_fits 31 = .ok (.goto 14, 3) := by decide +kernel
theorem dX8_fits_34 : decode cX8_fits 34 = .ok (.aload_n 0, 1) := by decide +kernel
theorem dX8_fits_35 : decode cX8_fits 35 = .ok (.iload_n 1, 1) := by decide +kernel
theorem dX8_fits_36 : decode cX8_fits 36 = .ok (.bipush 8, 2) := by decide +kernel
theorem dX8_fits_38 : decode cX8_fits 38 = .ok (.iload_n 2, 1) := by decide +kernel
theorem dX8_fits_39 : decode cX8_fits 39 = .ok (.imul, 1) := by decide +kernel
theorem dX8_fits_40 : decode cX8_fits 40 = .ok (.iload_n 3, 1) := by decide +kernel
theorem dX8_fits_41 : decode cX8_fits 41 = .ok (.iadd, 1) := by decide +kernel
theorem dX8_fits_42 : decode cX8_fits 42 = .ok (.invokevirtual 137, 3) := by decide +kernel
theorem dX8_fits_45 : decode cX8_fits 45 = .ok (.ireturn, 1) := by decide +kernel
theorem dX8_fitsAt_0 : decode cX8_fitsAt 0 = .ok (.iload_n 2, 1) := by decide +kernel
theorem dX8_fitsAt_1 : decode cX8_fitsAt 1 = .ok (.bipush 8, 2) := by decide +kernel
theorem dX8_fitsAt_3 : decode cX8_fitsAt 3 = .ok (.idiv, 1) := by decide +kernel
theorem dX8_fitsAt_4 : decode cX8_fitsAt 4 = .ok (.istore_n 3, 1) := by decide +kernel
theorem dX8_fitsAt_5 : decode cX8_fitsAt 5 = .ok (.iload_n 2, 1) := by decide +kernel
theorem dX8_fitsAt_6 : decode cX8_fitsAt 6 = .ok (.bipush 8, 2) := by decide +kernel
theorem dX8_fitsAt_8 : decode cX8_fitsAt 8 = .ok (.irem, 1) := by decide +kernel
theorem dX8_fitsAt_9 : decode cX8_fitsAt 9 = .ok (.istore 4, 2) := by decide +kernel
theorem dX8_fitsAt_11 : decode cX8_fitsAt 11 = .ok (.aload_n 0, 1) := by decide +kernel
theorem dX8_fitsAt_12 : decode cX8_fitsAt 12 = .ok (.getfield 34, 3) := by decide +kernel
theorem dX8_fitsAt_15 : decode cX8_fitsAt 15 = .ok (.iload_n 2, 1) := by decide +kernel
theorem dX8_fitsAt_16 : decode cX8_fitsAt 16 = .ok (.iaload, 1) := by decide +kernel
theorem dX8_fitsAt_17 : decode cX8_fitsAt 17 = .ok (.iconst (-1), 1) := by decide +kernel
theorem dX8_fitsAt_18 : decode cX8_fitsAt 18 = .ok (.if_icmp .eq 5, 3) := by decide +kernel
theorem dX8_fitsAt_21 : decode cX8_fitsAt 21 = .ok (.iconst 1, 1) := by decide +kernel
theorem dX8_fitsAt_22 : decode cX8_fitsAt 22 = .ok (.ireturn, 1) := by decide +kernel
theorem dX8_fitsAt_23 : decode cX8_fitsAt 23 = .ok (.aload_n 0, 1) := by decide +kernel
theorem dX8_fitsAt_24 : decode cX8_fitsAt 24 = .ok (.getfield 40, 3) := by decide +kernel
theorem dX8_fitsAt_27 : decode cX8_fitsAt 27 = .ok (.iload_n 1, 1) := by decide +kernel
theorem dX8_fitsAt_28 : decode cX8_fitsAt 28 = .ok (.iaload, 1) := by decide +kernel
theorem dX8_fitsAt_29 : decode cX8_fitsAt 29 = .ok (.aload_n 0, 1) := by decide +kernel
theorem dX8_fitsAt_30 : decode cX8_fitsAt 30 = .ok (.getfield 31, 3) := by decide +kernel
theorem dX8_fitsAt_33 : decode cX8_fitsAt 33 = .ok (.iload_n 2, 1) := by decide +kernel
theorem dX8_fitsAt_34 : decode cX8_fitsAt 34 = .ok (.iaload, 1) := by decide +kernel
theorem dX8_fitsAt_35 : decode cX8_fitsAt 35 = .ok (.if_icmp .le 5, 3) := by decide +kernel
theorem dX8_fitsAt_38 : decode cX8_fitsAt 38 = .ok (.iconst 2, 1) := by decide +kernel
theorem dX8_fitsAt_39 : decode cX8_fitsAt 39 = .ok (.ireturn, 1) := by decide +kernel
theorem dX8_fitsAt_40 : decode cX8_fitsAt 40 = .ok (.aload_n 0, 1) := by decide +kernel
theorem dX8_fitsAt_41 : decode cX8_fitsAt 41 = .ok (.iload_n 3, 1) := by decide +kernel
theorem dX8_fitsAt_42 : decode cX8_fitsAt 42 = .ok (.invokevirtual 127, 3) := by decide +kernel
theorem dX8_fitsAt_45 : decode cX8_fitsAt 45 = .ok (.aload_n 0, 1) := by decide +kernel
theorem dX8_fitsAt_46 : decode cX8_fitsAt 46 = .ok (.getfield 40, 3) := by decide +kernel
theorem dX8_fitsAt_49 : decode cX8_fitsAt 49 = .ok (.iload_n 1, 1) := by decide +kernel
theorem dX8_fitsAt_50 : decode cX8_fitsAt 50 = .ok (.iaload, 1) := by decide +kernel
theorem dX8_fitsAt_51 : decode cX8_fitsAt 51 = .ok (.iadd, 1) := by decide +kernel
theorem dX8_fitsAt_52 : decode cX8_fitsAt 52 = .ok (.aload_n 0, 1) := by decide +kernel
theorem dX8_fitsAt_53 : decode cX8_fitsAt 53 = .ok (.getfield 18, 3) := by decide +kernel
theorem dX8_fitsAt_56 : decode cX8_fitsAt 56 = .ok (.iload_n 3, 1) := by decide +kernel
theorem dX8_fitsAt_57 : decode cX8_fitsAt 57 = .ok (.iaload, 1) := by decide +kernel
theorem dX8_fitsAt_58 : decode cX8_fitsAt 58 = .ok (.if_icmp .le 5, 3) := by decide +kernel
theorem dX8_fitsAt_61 : decode cX8_fitsAt 61 = .ok (.iconst 3, 1) := by decide +kernel
theorem dX8_fitsAt_62 : decode cX8_fitsAt 62 = .ok (.ireturn, 1) := by decide +kernel
theorem dX8_fitsAt_63 : decode cX8_fitsAt 63 = .ok (.iload 4, 2) := by decide +kernel
theorem dX8_fitsAt_65 : decode cX8_fitsAt 65 = .ok (.ifCond .le 26, 3) := by decide +kernel
theorem dX8_fitsAt_68 : decode cX8_fitsAt 68 = .ok (.aload_n 0, 1) := by decide +kernel
theorem dX8_fitsAt_69 : decode cX8_fitsAt 69 = .ok (.iload_n 2, 1) := by decide +kernel
theorem dX8_fitsAt_70 : decode cX8_fitsAt 70 = .ok (.iconst 1, 1) := by decide +kernel
theorem dX8_fitsAt_71 : decode cX8_fitsAt 71 = .ok (.isub, 1) := by decide +kernel
theorem dX8_fitsAt_72 : decode cX8_fitsAt 72 = .ok (.invokevirtual 123, 3) := by decide +kernel
theorem dX8_fitsAt_75 : decode cX8_fitsAt 75 = .ok (.aload_n 0, 1) := by decide +kernel
theorem dX8_fitsAt_76 : decode cX8_fitsAt 76 = .ok (.getfield 40, 3) := by decide +kernel
theorem dX8_fitsAt_79 : decode cX8_fitsAt 79 = .ok (.iload_n 1, 1) := by decide +kernel
theorem dX8_fitsAt_80 : decode cX8_fitsAt 80 = .ok (.iaload, 1) := by decide +kernel
theorem dX8_fitsAt_81 : decode cX8_fitsAt 81 = .ok (.iadd, 1) := by decide +kernel
theorem dX8_fitsAt_82 : decode cX8_fitsAt 82 = .ok (.aload_n 0, 1) := by decide +kernel
theorem dX8_fitsAt_83 : decode cX8_fitsAt 83 = .ok (.getfield 22, 3) := by decide +kernel
theorem dX8_fitsAt_86 : decode cX8_fitsAt 86 = .ok (.iload_n 3, 1) := by decide +kernel
theorem dX8_fitsAt_87 : decode cX8_fitsAt 87 = .ok (.iaload, 1) := by decide +kernel
theorem dX8_fitsAt_88 : decode cX8_fitsAt 88 = .ok (.if_icmp .gt 39, 3) := by decide +kernel
theorem dX8_fitsAt_91 : decode cX8_fitsAt 91 = .ok (.iload 4, 2) := by decide +kernel
theorem dX8_fitsAt_93 : decode cX8_fitsAt 93 = .ok (.iconst 1, 1) := by decide +kernel
theorem dX8_fitsAt_94 : decode cX8_fitsAt 94 = .ok (.iadd, 1) := by decide +kernel
theorem dX8_fitsAt_95 : decode cX8_fitsAt 95 = .ok (.aload_n 0, 1) := by decide +kernel
theorem dX8_fitsAt_96 : decode cX8_fitsAt 96 = .ok (.getfield 25, 3) := by decide +kernel
theorem dX8_fitsAt_99 : decode cX8_fitsAt 99 = .ok (.iload_n 3, 1) := by decide +kernel
theorem dX8_fitsAt_100 : decode cX8_fitsAt 100 = .ok (.iaload, 1) := by decide +kernel
theorem dX8_fitsAt_101 : decode cX8_fitsAt 101 = .ok (.if_icmp .ge 28, 3) := by decide +kernel
theorem dX8_fitsAt_104 : decode cX8_fitsAt 104 = .ok (.aload_n 0, 1) := by decide +kernel
theorem dX8_fitsAt_105 : decode cX8_fitsAt 105 = .ok (.iload_n 2, 1) := by decide +kernel
theorem dX8_fitsAt_106 : decode cX8_fitsAt 106 = .ok (.iconst 1, 1) := by decide +kernel
theorem dX8_fitsAt_107 : decode cX8_fitsAt 107 = .ok (.iadd, 1) := by decide +kernel
theorem dX8_fitsAt_108 : decode cX8_fitsAt 108 = .ok (.invokevirtual 123, 3) := by decide +kernel
theorem dX8_fitsAt_111 : decode cX8_fitsAt 111 = .ok (.aload_n 0, 1) := by decide +kernel
theorem dX8_fitsAt_112 : decode cX8_fitsAt 112 = .ok (.getfield 40, 3) := by decide +kernel
theorem dX8_fitsAt_115 : decode cX8_fitsAt 115 = .ok (.iload_n 1, 1) := by decide +kernel
theorem dX8_fitsAt_116 : decode cX8_fitsAt 116 = .ok (.iaload, 1) := by decide +kernel
theorem dX8_fitsAt_117 : decode cX8_fitsAt 117 = .ok (.iadd, 1) := by decide +kernel
theorem dX8_fitsAt_118 : decode cX8_fitsAt 118 = .ok (.aload_n 0, 1) := by decide +kernel
theorem dX8_fitsAt_119 : decode cX8_fitsAt 119 = .ok (.getfield 22, 3) := by decide +kernel
theorem dX8_fitsAt_122 : decode cX8_fitsAt 122 = .ok (.iload_n 3, 1) := by decide +kernel
theorem dX8_fitsAt_123 : decode cX8_fitsAt 123 = .ok (.iaload, 1) := by decide +kernel
theorem dX8_fitsAt_124 : decode cX8_fitsAt 124 = .ok (.if_icmp .le 5, 3) := by decide +kernel
theorem dX8_fitsAt_127 : decode cX8_fitsAt 127 = .ok (.iconst 4, 1) := by decide +kernel
theorem dX8_fitsAt_128 : decode cX8_fitsAt 128 = .ok (.ireturn, 1) := by decide +kernel
theorem dX8_fitsAt_129 : decode cX8_fitsAt 129 = .ok (.iconst 0, 1) := by decide +kernel
theorem dX8_fitsAt_130 : decode cX8_fitsAt 130 = .ok (.istore 5, 2) := by decide +kernel
theorem dX8_fitsAt_132 : decode cX8_fitsAt 132 = .ok (.iload 5, 2) := by decide +kernel
theorem dX8_fitsAt_134 : decode cX8_fitsAt 134 = .ok (.aload_n 0, 1) := by decide +kernel
theorem dX8_fitsAt_135 : decode cX8_fitsAt 135 = .ok (.getfield 25, 3) := by decide +kernel
theorem dX8_fitsAt_138 : decode cX8_fitsAt 138 = .ok (.iload_n 3, 1) := by decide +kernel
theorem dX8_fitsAt_139 : decode cX8_fitsAt 139 = .ok (.iaload, 1) := by decide +kernel
theorem dX8_fitsAt_140 : decode cX8_fitsAt 140 = .ok (.if_icmp .ge 76, 3) := by decide +kernel
theorem dX8_fitsAt_143 : decode cX8_fitsAt 143 = .ok (.aload_n 0, 1) := by decide +kernel
theorem dX8_fitsAt_144 : decode cX8_fitsAt 144 = .ok (.getfield 34, 3) := by decide +kernel
theorem dX8_fitsAt_147 : decode cX8_fitsAt 147 = .ok (.bipush 8, 2) := by decide +kernel
theorem dX8_fitsAt_149 : decode cX8_fitsAt 149 = .ok (.iload_n 3, 1) := by decide +kernel
theorem dX8_fitsAt_150 : decode cX8_fitsAt 150 = .ok (.imul, 1) := by decide +kernel
theorem dX8_fitsAt_151 : decode cX8_fitsAt 151 = .ok (.iload 5, 2) := by decide +kernel
theorem dX8_fitsAt_153 : decode cX8_fitsAt 153 = .ok (.iadd, 1) := by decide +kernel
theorem dX8_fitsAt_154 : decode cX8_fitsAt 154 = .ok (.iaload, 1) := by decide +kernel
theorem dX8_fitsAt_155 : decode cX8_fitsAt 155 = .ok (.istore 6, 2) := by decide +kernel
theorem dX8_fitsAt_157 : decode cX8_fitsAt 157 = .ok (.iload 6, 2) := by decide +kernel
theorem dX8_fitsAt_159 : decode cX8_fitsAt 159 = .ok (.iconst (-1), 1) := by decide +kernel
theorem dX8_fitsAt_160 : decode cX8_fitsAt 160 = .ok (.if_icmp .eq 50, 3) := by decide +kernel
theorem dX8_fitsAt_163 : decode cX8_fitsAt 163 = .ok (.iload 5, 2) := by decide +kernel
theorem dX8_fitsAt_165 : decode cX8_fitsAt 165 = .ok (.iload 4, 2) := by decide +kernel
theorem dX8_fitsAt_167 : decode cX8_fitsAt 167 = .ok (.if_icmp .ge 11, 3) := by decide +kernel
theorem dX8_fitsAt_170 : decode cX8_fitsAt 170 = .ok (.iload 4, 2) := by decide +kernel
theorem dX8_fitsAt_172 : decode cX8_fitsAt 172 = .ok (.iload 5, 2) := by decide +kernel
theorem dX8_fitsAt_174 : decode cX8_fitsAt 174 = .ok (.isub, 1) := by decide +kernel
theorem dX8_fitsAt_175 : decode cX8_fitsAt 175 = .ok (.goto 8, 3) := by decide +kernel
theorem dX8_fitsAt_178 : decode cX8_fitsAt 178 = .ok (.iload 5, 2) := by decide +kernel
theorem dX8_fitsAt_180 : decode cX8_fitsAt 180 = .ok (.iload 4, 2) := by decide +kernel
theorem dX8_fitsAt_182 : decode cX8_fitsAt 182 = .ok (.isub, 1) := by decide +kernel
theorem dX8_fitsAt_183 : decode cX8_fitsAt 183 = .ok (.aload_n 0, 1) := by decide +kernel
theorem dX8_fitsAt_184 : decode cX8_fitsAt 184 = .ok (.getfield 37, 3) := by decide +kernel
theorem dX8_fitsAt_187 : decode cX8_fitsAt 187 = .ok (.bipush 8, 2) := by decide +kernel
theorem dX8_fitsAt_189 : decode cX8_fitsAt 189 = .ok (.aload_n 0, 1) := by decide +kernel
theorem dX8_fitsAt_190 : decode cX8_fitsAt 190 = .ok (.getfield 43, 3) := by decide +kernel
theorem dX8_fitsAt_193 : decode cX8_fitsAt 193 = .ok (.iload_n 1, 1) := by decide +kernel
theorem dX8_fitsAt_194 : decode cX8_fitsAt 194 = .ok (.iaload, 1) := by decide +kernel
theorem dX8_fitsAt_195 : decode cX8_fitsAt 195 = .ok (.imul, 1) := by decide +kernel
theorem dX8_fitsAt_196 : decode cX8_fitsAt 196 = .ok (.aload_n 0, 1) := by decide +kernel
theorem dX8_fitsAt_197 : decode cX8_fitsAt 197 = .ok (.getfield 43, 3) := by decide +kernel
theorem dX8_fitsAt_200 : decode cX8_fitsAt 200 = .ok (.iload 6, 2) := by decide +kernel
theorem dX8_fitsAt_202 : decode cX8_fitsAt 202 = .ok (.iaload, 1) := by decide +kernel
theorem dX8_fitsAt_203 : decode cX8_fitsAt 203 = .ok (.iadd, 1) := by decide +kernel
theorem dX8_fitsAt_204 : decode cX8_fitsAt 204 = .ok (.iaload, 1) := by decide +kernel
theorem dX8_fitsAt_205 : decode cX8_fitsAt 205 = .ok (.if_icmp .ge 5, 3) := by decide +kernel
theorem dX8_fitsAt_208 : decode cX8_fitsAt 208 = .ok (.iconst 5, 1) := by decide +kernel
theorem dX8_fitsAt_209 : decode cX8_fitsAt 209 = .ok (.ireturn, 1) := by decide +kernel
theorem dX8_fitsAt_210 : decode cX8_fitsAt 210 = .ok (.iinc 5 1, 3) := by decide +kernel
theorem dX8_fitsAt_213 : decode cX8_fitsAt 213 = .ok (.goto (-81), 3) := by decide +kernel
theorem dX8_fitsAt_216 : decode cX8_fitsAt 216 = .ok (.iconst 0, 1) := by decide +kernel
theorem dX8_fitsAt_217 : decode cX8_fitsAt 217 = .ok (.ireturn, 1) := by decide +kernel
theorem dX8_fuel_0 : decode cX8_fuel 0 = .ok (.iload_n 1, 1) := by decide +kernel
theorem dX8_fuel_1 : decode cX8_fuel 1 = .ok (.iconst 0, 1) := by decide +kernel
theorem dX8_fuel_2 : decode cX8_fuel 2 = .ok (.aload_n 0, 1) := by decide +kernel
