theorem dX8_person_22 : decode cX8_person 22 = .ok (.putfield 70, 3) := by decide +kernel
theorem dX8_person_25 : decode cX8_person 25 = .ok (.iload_n 2, 1) := by decide +kernel
theorem dX8_person_26 : decode cX8_person 26 = .ok (.ireturn, 1) := by decide +kernel
theorem dX8_placeFor_0 : decode cX8_placeFor 0 = .ok (.aload_n 0, 1) := by decide +kernel
theorem dX8_placeFor_1 : decode cX8_placeFor 1 = .ok (.invokevirtual 153, 3) := by decide +kernel
theorem dX8_placeFor_4 : decode cX8_placeFor 4 = .ok (.aload_n 0, 1) := by decide +kernel
theorem dX8_placeFor_5 : decode cX8_placeFor 5 = .ok (.getfield 40, 3) := by decide +kernel
theorem dX8_placeFor_8 : decode cX8_placeFor 8 = .ok (.iload_n 1, 1) := by decide +kernel
theorem dX8_placeFor_9 : decode cX8_placeFor 9 = .ok (.iaload, 1) := by decide +kernel
theorem dX8_placeFor_10 : decode cX8_placeFor 10 = .ok (.iadd, 1) := by decide +kernel
theorem dX8_placeFor_11 : decode cX8_placeFor 11 = .ok (.istore_n 3, 1) := by decide +kernel
theorem dX8_placeFor_12 : decode cX8_placeFor 12 = .ok (.aload_n 0, 1) := by decide +kernel
theorem dX8_placeFor_13 : decode cX8_placeFor 13 = .ok (.invokevirtual 160, 3) := by decide +kernel
theorem dX8_placeFor_16 : decode cX8_placeFor 16 = .ok (.lstore 4, 2) := by decide +kernel
theorem dX8_placeFor_18 : decode cX8_placeFor 18 = .ok (.iconst (-1), 1) := by decide +kernel
theorem dX8_placeFor_19 : decode cX8_placeFor 19 = .ok (.istore 6, 2) := by decide +kernel
theorem dX8_placeFor_21 : decode cX8_placeFor 21 = .ok (.lconst 0, 1) := by decide +kernel
theorem dX8_placeFor_22 : decode cX8_placeFor 22 = .ok (.lstore 7, 2) := by decide +kernel
theorem dX8_placeFor_24 : decode cX8_placeFor 24 = .ok (.iconst 0, 1) := by decide +kernel
theorem dX8_placeFor_25 : decode cX8_placeFor 25 = .ok (.istore 9, 2) := by decide +kernel
theorem dX8_placeFor_27 : decode cX8_placeFor 27 = .ok (.iload 9, 2) := by decide +kernel
theorem dX8_placeFor_29 : decode cX8_placeFor 29 = .ok (.bipush 32, 2) := by decide +kernel
theorem dX8_placeFor_31 : decode cX8_placeFor 31 = .ok (.if_icmp .ge 93, 3) := by decide +kernel
theorem dX8_placeFor_34 : decode cX8_placeFor 34 = .ok (.aload_n 0, 1) := by decide +kernel
theorem dX8_placeFor_35 : decode cX8_placeFor 35 = .ok (.iload 9, 2) := by decide +kernel
theorem dX8_placeFor_37 : decode cX8_placeFor 37 = .ok (.bipush 8, 2) := by decide +kernel
theorem dX8_placeFor_39 : decode cX8_placeFor 39 = .ok (.idiv, 1) := by decide +kernel
theorem dX8_placeFor_40 : decode cX8_placeFor 40 = .ok (.iload 9, 2) := by decide +kernel
theorem dX8_placeFor_42 : decode cX8_placeFor 42 = .ok (.bipush 8, 2) := by decide +kernel
theorem dX8_placeFor_44 : decode cX8_placeFor 44 = .ok (.irem, 1) := by decide +kernel
theorem dX8_placeFor_45 : decode cX8_placeFor 45 = .ok (.invokevirtual 133, 3) := by decide +kernel
theorem dX8_placeFor_48 : decode cX8_placeFor 48 = .ok (.ifCond .eq 70, 3) := by decide +kernel
theorem dX8_placeFor_51 : decode cX8_placeFor 51 = .ok (.aload_n 0, 1) := by decide +kernel
theorem dX8_placeFor_52 : decode cX8_placeFor 52 = .ok (.iload_n 1, 1) := by decide +kernel
theorem dX8_placeFor_53 : decode cX8_placeFor 53 = .ok (.iload 9, 2) := by decide +kernel
theorem dX8_placeFor_55 : decode cX8_placeFor 55 = .ok (.invokevirtual 137, 3) := by decide +kernel
theorem dX8_placeFor_58 : decode cX8_placeFor 58 = .ok (.ifCond .eq 6, 3) := by decide +kernel
theorem dX8_placeFor_61 : decode cX8_placeFor 61 = .ok (.goto 57, 3) := by decide +kernel
theorem dX8_placeFor_64 : decode cX8_placeFor 64 = .ok (.aload_n 0, 1) := by decide +kernel
theorem dX8_placeFor_65 : decode cX8_placeFor 65 = .ok (.iload_n 2, 1) := by decide +kernel
theorem dX8_placeFor_66 : decode cX8_placeFor 66 = .ok (.iload_n 3, 1) := by decide +kernel
theorem dX8_placeFor_67 : decode cX8_placeFor 67 = .ok (.lload 4, 2) := by decide +kernel
theorem dX8_placeFor_69 : decode cX8_placeFor 69 = .ok (.aload_n 0, 1) := by decide +kernel
theorem dX8_placeFor_70 : decode cX8_placeFor 70 = .ok (.getfield 40, 3) := by decide +kernel
theorem dX8_placeFor_73 : decode cX8_placeFor 73 = .ok (.iload_n 1, 1) := by decide +kernel
theorem dX8_placeFor_74 : decode cX8_placeFor 74 = .ok (.iaload, 1) := by decide +kernel
theorem dX8_placeFor_75 : decode cX8_placeFor 75 = .ok (.i2l, 1) := by decide +kernel
theorem dX8_placeFor_76 : decode cX8_placeFor 76 = .ok (.aload_n 0, 1) := by decide +kernel
theorem dX8_placeFor_77 : decode cX8_placeFor 77 = .ok (.getfield 28, 3) := by decide +kernel
theorem dX8_placeFor_80 : decode cX8_placeFor 80 = .ok (.iload 9, 2) := by decide +kernel
theorem dX8_placeFor_82 : decode cX8_placeFor 82 = .ok (.iaload, 1) := by decide +kernel
theorem dX8_placeFor_83 : decode cX8_placeFor 83 = .ok (.i2l, 1) := by decide +kernel
theorem dX8_placeFor_84 : decode cX8_placeFor 84 = .ok (.lmul, 1) := by decide +kernel
theorem dX8_placeFor_85 : decode cX8_placeFor 85 = .ok (.ladd, 1) := by decide +kernel
theorem dX8_placeFor_86 : decode cX8_placeFor 86 = .ok (.invokevirtual 192, 3) := by decide +kernel
theorem dX8_placeFor_89 : decode cX8_placeFor 89 = .ok (.iload 6, 2) := by decide +kernel
theorem dX8_placeFor_91 : decode cX8_placeFor 91 = .ok (.iconst (-1), 1) := by decide +kernel
theorem dX8_placeFor_92 : decode cX8_placeFor 92 = .ok (.if_icmp .eq 16, 3) := by decide +kernel
theorem dX8_placeFor_95 : decode cX8_placeFor 95 = .ok (.aload_n 0, 1) := by decide +kernel
theorem dX8_placeFor_96 : decode cX8_placeFor 96 = .ok (.getfield 188, 3) := by decide +kernel
theorem dX8_placeFor_99 : decode cX8_placeFor 99 = .ok (.lload 7, 2) := by decide +kernel
theorem dX8_placeFor_101 : decode cX8_placeFor 101 = .ok (.lcmp, 1) := by decide +kernel
theorem dX8_placeFor_102 : decode cX8_placeFor 102 = .ok (.ifCond .lt 6, 3) := by decide +kernel
theorem dX8_placeFor_105 : decode cX8_placeFor 105 = .ok (.goto 13, 3) := by decide +kernel
theorem dX8_placeFor_108 : decode cX8_placeFor 108 = .ok (.iload 9, 2) := by decide +kernel
theorem dX8_placeFor_110 : decode cX8_placeFor 110 = .ok (.istore 6, 2) := by decide +kernel
theorem dX8_placeFor_112 : decode cX8_placeFor 112 = .ok (.aload_n 0, 1) := by decide +kernel
theorem dX8_placeFor_113 : decode cX8_placeFor 113 = .ok (.getfield 188, 3) := by decide +kernel
theorem dX8_placeFor_116 : decode cX8_placeFor 116 = .ok (.lstore 7, 2) := by decide +kernel
theorem dX8_placeFor_118 : decode cX8_placeFor 118 = .ok (.iinc 9 1, 3) := by decide +kernel
theorem dX8_placeFor_121 : decode cX8_placeFor 121 = .ok (.goto (-94), 3) := by decide +kernel
theorem dX8_placeFor_124 : decode cX8_placeFor 124 = .ok (.iload 6, 2) := by decide +kernel
theorem dX8_placeFor_126 : decode cX8_placeFor 126 = .ok (.ireturn, 1) := by decide +kernel
theorem dX8_point_0 : decode cX8_point 0 = .ok (.iload_n 1, 1) := by decide +kernel
theorem dX8_point_1 : decode cX8_point 1 = .ok (.iconst 0, 1) := by decide +kernel
theorem dX8_point_2 : decode cX8_point 2 = .ok (.iconst 1, 1) := by decide +kernel
theorem dX8_point_3 : decode cX8_point 3 = .ok (.invokestatic 95, 3) := by decide +kernel
theorem dX8_point_6 : decode cX8_point 6 = .ok (.ifCond .ne 5, 3) := by decide +kernel
theorem dX8_point_9 : decode cX8_point 9 = .ok (.iconst (-1), 1) := by decide +kernel
theorem dX8_point_10 : decode cX8_point 10 = .ok (.ireturn, 1) := by decide +kernel
theorem dX8_point_11 : decode cX8_point 11 = .ok (.aload_n 0, 1) := by decide +kernel
theorem dX8_point_12 : decode cX8_point 12 = .ok (.getfield 73, 3) := by decide +kernel
theorem dX8_point_15 : decode cX8_point 15 = .ok (.iload_n 1, 1) := by decide +kernel
theorem dX8_point_16 : decode cX8_point 16 = .ok (.iaload, 1) := by decide +kernel
theorem dX8_point_17 : decode cX8_point 17 = .ok (.istore 5, 2) := by decide +kernel
theorem dX8_point_19 : decode cX8_point 19 = .ok (.iload_n 2, 1) := by decide +kernel
theorem dX8_point_20 : decode cX8_point 20 = .ok (.iconst 1, 1) := by decide +kernel
theorem dX8_point_21 : decode cX8_point 21 = .ok (.ldc 122, 2) := by decide +kernel
theorem dX8_point_23 : decode cX8_point 23 = .ok (.invokestatic 95, 3) := by decide +kernel
theorem dX8_point_26 : decode cX8_point 26 = .ok (.ifCond .eq 47, 3) := by decide +kernel
theorem dX8_point_29 : decode cX8_point 29 = .ok (.iload 5, 2) := by decide +kernel
theorem dX8_point_31 : decode cX8_point 31 = .ok (.ifCond .le 21, 3) := by decide +kernel
theorem dX8_point_34 : decode cX8_point 34 = .ok (.iload_n 2, 1) := by decide +kernel
theorem dX8_point_35 : decode cX8_point 35 = .ok (.aload_n 0, 1) := by decide +kernel
theorem dX8_point_36 : decode cX8_point 36 = .ok (.getfield 76, 3) := by decide +kernel
theorem dX8_point_39 : decode cX8_point 39 = .ok (.bipush 10, 2) := by decide +kernel
theorem dX8_point_41 : decode cX8_point 41 = .ok (.iload_n 1, 1) := by decide +kernel
theorem dX8_point_42 : decode cX8_point 42 = .ok (.imul, 1) := by decide +kernel
theorem dX8_point_43 : decode cX8_point 43 = .ok (.iload 5, 2) := by decide +kernel
theorem dX8_point_45 : decode cX8_point 45 = .ok (.iadd, 1) := by decide +kernel
theorem dX8_point_46 : decode cX8_point 46 = .ok (.iconst 1, 1) := by decide +kernel
theorem dX8_point_47 : decode cX8_point 47 = .ok (.isub, 1) := by decide +kernel
theorem dX8_point_48 : decode cX8_point 48 = .ok (.iaload, 1) := by decide +kernel
theorem dX8_point_49 : decode cX8_point 49 = .ok (.if_icmp .le 24, 3) := by decide +kernel
theorem dX8_point_52 : decode cX8_point 52 = .ok (.iload_n 3, 1) := by decide +kernel
theorem dX8_point_53 : decode cX8_point 53 = .ok (.invokestatic 110, 3) := by decide +kernel
theorem dX8_point_56 : decode cX8_point 56 = .ok (.ifCond .eq 17, 3) := by decide +kernel
theorem dX8_point_59 : decode cX8_point 59 = .ok (.iload 4, 2) := by decide +kernel
theorem dX8_point_61 : decode cX8_point 61 = .ok (.invokestatic 110, 3) := by decide +kernel
theorem dX8_point_64 : decode cX8_point 64 = .ok (.ifCond .eq 9, 3) := by decide +kernel
theorem dX8_point_67 : decode cX8_point 67 = .ok (.iload_n 3, 1) := by decide +kernel
theorem dX8_point_68 : decode cX8_point 68 = .ok (.iload 4, 2) := by decide +kernel
theorem dX8_point_70 : decode cX8_point 70 = .ok (.if_icmp .le 6, 3) := by decide +kernel
theorem dX8_point_73 : decode cX8_point 73 = .ok (.bipush (-2), 2) := by decide +kernel
theorem dX8_point_75 : decode cX8_point 75 = .ok (.ireturn, 1) := by decide +kernel
theorem dX8_point_76 : decode cX8_point 76 = .ok (.iload 5, 2) := by decide +kernel
theorem dX8_point_78 : decode cX8_point 78 = .ok (.bipush 10, 2) := by decide +kernel
theorem dX8_point_80 : decode cX8_point 80 = .ok (.if_icmp .ne 6, 3) := by decide +kernel
theorem dX8_point_83 : decode cX8_point 83 = .ok (.bipush (-4), 2) := by decide +kernel
theorem dX8_point_85 : decode cX8_point 85 = .ok (.ireturn, 1) := by decide +kernel
theorem dX8_point_86 : decode cX8_point 86 = .ok (.aload_n 0, 1) := by decide +kernel
theorem dX8_point_87 : decode cX8_point 87 = .ok (.getfield 76, 3) := by decide +kernel
theorem dX8_point_90 : decode cX8_point 90 = .ok (.bipush 10, 2) := by decide +kernel
theorem dX8_point_92 : decode cX8_point 92 = .ok (.iload_n 1, 1) := by decide +kernel
theorem dX8_point_93 : decode cX8_point 93 = .ok (.imul, 1) := by decide +kernel
theorem dX8_point_94 : decode cX8_point 94 = .ok (.iload 5, 2) := by decide +kernel
theorem dX8_point_96 : decode cX8_point 96 = .ok (.iadd, 1) := by decide +kernel
theorem dX8_point_97 : decode cX8_point 97 = .ok (.iload_n 2, 1) := by decide +kernel
theorem dX8_point_98 : decode cX8_point 98 = .ok (.iastore, 1) := by decide +kernel
theorem dX8_point_99 : decode cX8_point 99 = .ok (.aload_n 0, 1) := by decide +kernel
theorem dX8_point_100 : decode cX8_point 100 = .ok (.getfield 79, 3) := by decide +kernel
theorem dX8_point_103 : decode cX8_point 103 = .ok (.bipush 10, 2) := by decide +kernel
theorem dX8_point_105 : decode cX8_point 105 = .ok (.iload_n 1, 1) := by decide +kernel
theorem dX8_point_106 : decode cX8_point 106 = .ok (.imul, 1) := by decide +kernel
theorem dX8_point_107 : decode cX8_point 107 = .ok (.iload 5, 2) := by decide +kernel
theorem dX8_point_109 : decode cX8_point 109 = .ok (.iadd, 1) := by decide +kernel
theorem dX8_point_110 : decode cX8_point 110 = .ok (.iload_n 3, 1) := by decide +kernel
theorem dX8_point_111 : decode cX8_point 111 = .ok (.iastore, 1) := by decide +kernel
theorem dX8_point_112 : decode cX8_point 112 = .ok (.aload_n 0, 1) := by decide +kernel
theorem dX8_point_113 : decode cX8_point 113 = .ok (.getfield 82, 3) := by decide +kernel
theorem dX8_point_116 : decode cX8_point 116 = .ok (.bipush 10, 2) := by decide +kernel
theorem dX8_point_118 : decode cX8_point 118 = .ok (.iload_n 1, 1) := by decide +kernel
theorem dX8_point_119 : decode cX8_point 119 = .ok (.imul, 1) := by decide +kernel
theorem dX8_point_120 : decode cX8_point 120 = .ok (.iload 5, 2) := by decide +kernel
theorem dX8_point_122 : decode cX8_point 122 = .ok (.iadd, 1) := by decide +kernel
theorem dX8_point_123 : decode cX8_point 123 = .ok (.iload 4, 2) := by decide +kernel
theorem dX8_point_125 : decode cX8_point 125 = .ok (.iastore, 1) := by decide +kernel
theorem dX8_point_126 : decode cX8_point 126 = .ok (.aload_n 0, 1) := by decide +kernel
theorem dX8_point_127 : decode cX8_point 127 = .ok (.getfield 73, 3) := by decide +kernel
theorem dX8_point_130 : decode cX8_point 130 = .ok (.iload_n 1, 1) := by decide +kernel
theorem dX8_point_131 : decode cX8_point 131 = .ok (.dup2, 1) := by decide +kernel
theorem dX8_point_132 : decode cX8_point 132 = .ok (.iaload, 1) := by decide +kernel
theorem dX8_point_133 : decode cX8_point 133 = .ok (.iconst 1, 1) := by decide +kernel
theorem dX8_point_134 : decode cX8_point 134 = .ok (.iadd, 1) := by decide +kernel
theorem dX8_point_135 : decode cX8_point 135 = .ok (.iastore, 1) := by decide +kernel
theorem dX8_point_136 : decode cX8_point 136 = .ok (.aload_n 0, 1) := by decide +kernel
theorem dX8_point_137 : decode cX8_point 137 = .ok (.getfield 73, 3) := by decide +kernel
theorem dX8_point_140 : decode cX8_point 140 = .ok (.iload_n 1, 1) := by decide +kernel
theorem dX8_point_141 : decode cX8_point 141 = .ok (.iaload, 1) := by decide +kernel
theorem dX8_point_142 : decode cX8_point 142 = .ok (.ireturn, 1) := by decide +kernel
theorem dX8_pushed_0 : decode cX8_pushed 0 = .ok (.iload_n 1, 1) := by decide +kernel
theorem dX8_pushed_1 : decode cX8_pushed 1 = .ok (.iconst 0, 1) := by decide +kernel
theorem dX8_pushed_2 : decode cX8_pushed 2 = .ok (.iconst 4, 1) := by decide +kernel
theorem dX8_pushed_3 : decode cX8_pushed 3 = .ok (.invokestatic 95, 3) := by decide +kernel
theorem dX8_pushed_6 : decode cX8_pushed 6 = .ok (.ifCond .ne 7, 3) := by decide +kernel
theorem dX8_pushed_9 : decode cX8_pushed 9 = .ok (.iconst (-1), 1) := by decide +kernel
theorem dX8_pushed_10 : decode cX8_pushed 10 = .ok (.goto 19, 3) := by decide +kernel
theorem dX8_pushed_13 : decode cX8_pushed 13 = .ok (.iload_n 1, 1) := by decide +kernel
theorem dX8_pushed_14 : decode cX8_pushed 14 = .ok (.ifCond .ne 10, 3) := by decide +kernel
theorem dX8_pushed_17 : decode cX8_pushed 17 = .ok (.aload_n 0, 1) := by decide +kernel
theorem dX8_pushed_18 : decode cX8_pushed 18 = .ok (.invokevirtual 182, 3) := by decide +kernel
theorem dX8_pushed_21 : decode cX8_pushed 21 = .ok (.goto 8, 3) := by decide +kernel
theorem dX8_pushed_24 : decode cX8_pushed 24 = .ok (.aload_n 0, 1) := by decide +kernel
theorem dX8_pushed_25 : decode cX8_pushed 25 = .ok (.iload_n 1, 1) := by decide +kernel
theorem dX8_pushed_26 : decode cX8_pushed 26 = .ok (.invokevirtual 179, 3) := by decide +kernel
theorem dX8_pushed_29 : decode cX8_pushed 29 = .ok (.ireturn, 1) := by decide +kernel
theorem dX8_pushedAll_0 : decode cX8_pushedAll 0 = .ok (.iconst 0, 1) := by decide +kernel
theorem dX8_pushedAll_1 : decode cX8_pushedAll 1 = .ok (.istore_n 1, 1) := by decide +kernel
theorem dX8_pushedAll_2 : decode cX8_pushedAll 2 = .ok (.iconst 1, 1) := by decide +kernel
theorem dX8_pushedAll_3 : decode cX8_pushedAll 3 = .ok (.istore_n 2, 1) := by decide +kernel
theorem dX8_pushedAll_4 : decode cX8_pushedAll 4 = .ok (.iload_n 2, 1) := by decide +kernel
theorem dX8_pushedAll_5 : decode cX8_pushedAll 5 = .ok (.iconst 5, 1) := by decide +kernel
theorem dX8_pushedAll_6 : decode cX8_pushedAll 6 = .ok (.if_icmp .ge 17, 3) := by decide +kernel
theorem dX8_pushedAll_9 : decode cX8_pushedAll 9 = .ok (.iload_n 1, 1) := by decide +kernel
theorem dX8_pushedAll_10 : decode cX8_pushedAll 10 = .ok (.aload_n 0, 1) := by decide +kernel
theorem dX8_pushedAll_11 : decode cX8_pushedAll 11 = .ok (.iload_n 2, 1) := by decide +kernel
theorem dX8_pushedAll_12 : decode cX8_pushedAll 12 = .ok (.invokevirtual 179, 3) := by decide +kernel
theorem dX8_pushedAll_15 : decode cX8_pushedAll 15 = .ok (.iadd, 1) := by decide +kernel
theorem dX8_pushedAll_16 : decode cX8_pushedAll 16 = .ok (.istore_n 1, 1) := by decide +kernel
theorem dX8_pushedAll_17 : decode cX8_pushedAll 17 = .ok (.iinc 2 1, 3) := by decide +kernel
theorem dX8_pushedAll_20 : decode cX8_pushedAll 20 = .ok (.goto (-16), 3) := by decide +kernel
theorem dX8_pushedAll_23 : decode cX8_pushedAll 23 = .ok (.iload_n 1, 1) := by decide +kernel
theorem dX8_pushedAll_24 : decode cX8_pushedAll 24 = .ok (.ireturn, 1) := by decide +kernel
theorem dX8_pushedAt_0 : decode cX8_pushedAt 0 = .ok (.iconst 0, 1) := by decide +kernel
theorem dX8_pushedAt_1 : decode cX8_pushedAt 1 = .ok (.istore_n 2, 1) := by decide +kernel
theorem dX8_pushedAt_2 : decode cX8_pushedAt 2 = .ok (.iconst 0, 1) := by decide +kernel
theorem dX8_pushedAt_3 : decode cX8_pushedAt 3 = .ok (.istore_n 3, 1) := by decide +kernel
theorem dX8_pushedAt_4 : decode cX8_pushedAt 4 = .ok (.iload_n 3, 1) := by decide +kernel
theorem dX8_pushedAt_5 : decode cX8_pushedAt 5 = .ok (.aload_n 0, 1) := by decide +kernel
theorem dX8_pushedAt_6 : decode cX8_pushedAt 6 = .ok (.getfield 99, 3) := by decide +kernel
theorem dX8_pushedAt_9 : decode cX8_pushedAt 9 = .ok (.if_icmp .ge 97, 3) := by decide +kernel
theorem dX8_pushedAt_12 : decode cX8_pushedAt 12 = .ok (.iconst 0, 1) := by decide +kernel
theorem dX8_pushedAt_13 : decode cX8_pushedAt 13 = .ok (.istore 4, 2) := by decide +kernel
theorem dX8_pushedAt_15 : decode cX8_pushedAt 15 = .ok (.aload_n 0, 1) := by decide +kernel
theorem dX8_pushedAt_16 : decode cX8_pushedAt 16 = .ok (.getfield 25, 3) := by decide +kernel
theorem dX8_pushedAt_19 : decode cX8_pushedAt 19 = .ok (.iload_n 3, 1) := by decide +kernel
theorem dX8_pushedAt_20 : decode cX8_pushedAt 20 = .ok (.iaload, 1) := by decide +kernel
theorem dX8_pushedAt_21 : decode cX8_pushedAt 21 = .ok (.iconst 1, 1) := by decide +kernel
theorem dX8_pushedAt_22 : decode cX8_pushedAt 22 = .ok (.isub, 1) := by decide +kernel
theorem dX8_pushedAt_23 : decode cX8_pushedAt 23 = .ok (.istore 5, 2) := by decide +kernel
theorem dX8_pushedAt_25 : decode cX8_pushedAt 25 = .ok (.iload 5, 2) := by decide +kernel
theorem dX8_pushedAt_27 : decode cX8_pushedAt 27 = .ok (.ifCond .lt 73, 3) := by decide +kernel
theorem dX8_pushedAt_30 : decode cX8_pushedAt 30 = .ok (.aload_n 0, 1) := by decide +kernel
theorem dX8_pushedAt_31 : decode cX8_pushedAt 31 = .ok (.getfield 34, 3) := by decide +kernel
theorem dX8_pushedAt_34 : decode cX8_pushedAt 34 = .ok (.bipush 8, 2) := by decide +kernel
theorem dX8_pushedAt_36 : decode cX8_pushedAt 36 = .ok (.iload_n 3, 1) := by decide +kernel
theorem dX8_pushedAt_37 : decode cX8_pushedAt 37 = .ok (.imul, 1) := by decide +kernel
theorem dX8_pushedAt_38 : decode cX8_pushedAt 38 = .ok (.iload 5, 2) := by decide +kernel
theorem dX8_pushedAt_40 : decode cX8_pushedAt 40 = .ok (.iadd, 1) := by decide +kernel
theorem dX8_pushedAt_41 : decode cX8_pushedAt 41 = .ok (.iaload, 1) := by decide +kernel
theorem dX8_pushedAt_42 : decode cX8_pushedAt 42 = .ok (.istore 6, 2) := by decide +kernel
theorem dX8_pushedAt_44 : decode cX8_pushedAt 44 = .ok (.iload 6, 2) := by decide +kernel
theorem dX8_pushedAt_46 : decode cX8_pushedAt 46 = .ok (.iconst (-1), 1) := by decide +kernel
theorem dX8_pushedAt_47 : decode cX8_pushedAt 47 = .ok (.if_icmp .eq 47, 3) := by decide +kernel
theorem dX8_pushedAt_50 : decode cX8_pushedAt 50 = .ok (.aload_n 0, 1) := by decide +kernel
theorem dX8_pushedAt_51 : decode cX8_pushedAt 51 = .ok (.getfield 46, 3) := by decide +kernel
theorem dX8_pushedAt_54 : decode cX8_pushedAt 54 = .ok (.iload 6, 2) := by decide +kernel
theorem dX8_pushedAt_56 : decode cX8_pushedAt 56 = .ok (.iaload, 1) := by decide +kernel
theorem dX8_pushedAt_57 : decode cX8_pushedAt 57 = .ok (.iload_n 1, 1) := by decide +kernel
theorem dX8_pushedAt_58 : decode cX8_pushedAt 58 = .ok (.if_icmp .ge 6, 3) := by decide +kernel
theorem dX8_pushedAt_61 : decode cX8_pushedAt 61 = .ok (.goto 33, 3) := by decide +kernel
theorem dX8_pushedAt_64 : decode cX8_pushedAt 64 = .ok (.aload_n 0, 1) := by decide +kernel
theorem dX8_pushedAt_65 : decode cX8_pushedAt 65 = .ok (.getfield 46, 3) := by decide +kernel
theorem dX8_pushedAt_68 : decode cX8_pushedAt 68 = .ok (.iload 6, 2) := by decide +kernel
theorem dX8_pushedAt_70 : decode cX8_pushedAt 70 = .ok (.iaload, 1) := by decide +kernel
theorem dX8_pushedAt_71 : decode cX8_pushedAt 71 = .ok (.iload_n 1, 1) := by decide +kernel
theorem dX8_pushedAt_72 : decode cX8_pushedAt 72 = .ok (.if_icmp .ne 9, 3) := by decide +kernel
theorem dX8_pushedAt_75 : decode cX8_pushedAt 75 = .ok (.iconst 1, 1) := by decide +kernel
theorem dX8_pushedAt_76 : decode cX8_pushedAt 76 = .ok (.istore 4, 2) := by decide +kernel
theorem dX8_pushedAt_78 : decode cX8_pushedAt 78 = .ok (.goto 16, 3) := by decide +kernel
theorem dX8_pushedAt_81 : decode cX8_pushedAt 81 = .ok (.iload_n 2, 1) := by decide +kernel
theorem dX8_pushedAt_82 : decode cX8_pushedAt 82 = .ok (.iload 4, 2) := by decide +kernel
theorem dX8_pushedAt_84 : decode cX8_pushedAt 84 = .ok (.ifCond .eq 7, 3) := by decide +kernel
theorem dX8_pushedAt_87 : decode cX8_pushedAt 87 = .ok (.iconst 1, 1) := by decide +kernel
theorem dX8_pushedAt_88 : decode cX8_pushedAt 88 = .ok (.goto 4, 3) := by decide +kernel
theorem dX8_pushedAt_91 : decode cX8_pushedAt 91 = .ok (.iconst 0, 1) := by decide +kernel
theorem dX8_pushedAt_92 : decode cX8_pushedAt 92 = .ok (.iadd, 1) := by decide +kernel
theorem dX8_pushedAt_93 : decode cX8_pushedAt 93 = .ok (.istore_n 2, 1) := by decide +kernel
theorem dX8_pushedAt_94 : decode cX8_pushedAt 94 = .ok (.iinc 5 (-1), 3) := by decide +kernel
theorem dX8_pushedAt_97 : decode cX8_pushedAt 97 = .ok (.goto (-72), 3) := by decide +kernel
theorem dX8_pushedAt_100 : decode cX8_pushedAt 100 = .ok (.iinc 3 1, 3) := by decide +kernel
theorem dX8_pushedAt_103 : decode cX8_pushedAt 103 = .ok (.goto (-99), 3) := by decide +kernel
theorem dX8_pushedAt_106 : decode cX8_pushedAt 106 = .ok (.iload_n 2, 1) := by decide +kernel
theorem dX8_pushedAt_107 : decode cX8_pushedAt 107 = .ok (.ireturn, 1) := by decide +kernel
theorem dX8_put_0 : decode cX8_put 0 = .ok (.aload_n 0, 1) := by decide +kernel
theorem dX8_put_1 : decode cX8_put 1 = .ok (.getfield 34, 3) := by decide +kernel
theorem dX8_put_4 : decode cX8_put 4 = .ok (.iload_n 2, 1) := by decide +kernel
theorem dX8_put_5 : decode cX8_put 5 = .ok (.iload_n 1, 1) := by decide +kernel
theorem dX8_put_6 : decode cX8_put 6 = .ok (.iastore, 1) := by decide +kernel
theorem dX8_put_7 : decode cX8_put 7 = .ok (.aload_n 0, 1) := by decide +kernel
theorem dX8_put_8 : decode cX8_put 8 = .ok (.getfield 49, 3) := by decide +kernel
theorem dX8_put_11 : decode cX8_put 11 = .ok (.iload_n 1, 1) := by decide +kernel
theorem dX8_put_12 : decode cX8_put 12 = .ok (.iload_n 2, 1) := by decide +kernel
theorem dX8_put_13 : decode cX8_put 13 = .ok (.iastore, 1) := by decide +kernel
theorem dX8_put_14 : decode cX8_put 14 = .ok (.return_, 1) := by decide +kernel
theorem dX8_row_0 : decode cX8_row 0 = .ok (.iload_n 1, 1) := by decide +kernel
theorem dX8_row_1 : decode cX8_row 1 = .ok (.invokestatic 110, 3) := by decide +kernel
theorem dX8_row_4 : decode cX8_row 4 = .ok (.ifCond .eq 13, 3) := by decide +kernel
theorem dX8_row_7 : decode cX8_row 7 = .ok (.iload_n 2, 1) := by decide +kernel
theorem dX8_row_8 : decode cX8_row 8 = .ok (.iconst 1, 1) := by decide +kernel
theorem dX8_row_9 : decode cX8_row 9 = .ok (.bipush 8, 2) := by decide +kernel
theorem dX8_row_11 : decode cX8_row 11 = .ok (.invokestatic 95, 3) := by decide +kernel
theorem dX8_row_14 : decode cX8_row 14 = .ok (.ifCond .ne 6, 3) := by decide +kernel
theorem dX8_row_17 : decode cX8_row 17 = .ok (.bipush (-2), 2) := by decide +kernel
theorem dX8_row_19 : decode cX8_row 19 = .ok (.ireturn, 1) := by decide +kernel
theorem dX8_row_20 : decode cX8_row 20 = .ok (.aload_n 0, 1) := by decide +kernel
theorem dX8_row_21 : decode cX8_row 21 = .ok (.getfield 116, 3) := by decide +kernel
theorem dX8_row_24 : decode cX8_row 24 = .ok (.bipush 10, 2) := by decide +kernel
theorem dX8_row_26 : decode cX8_row 26 = .ok (.if_icmp .ne 6, 3) := by decide +kernel
theorem dX8_row_29 : decode cX8_row 29 = .ok (.bipush (-4), 2) := by decide +kernel
theorem dX8_row_31 : decode cX8_row 31 = .ok (.ireturn, 1) := by decide +kernel
theorem dX8_row_32 : decode cX8_row 32 = .ok (.aload_n 0, 1) := by decide +kernel
theorem dX8_row_33 : decode cX8_row 33 = .ok (.getfield 52, 3) := by decide +kernel
theorem dX8_row_36 : decode cX8_row 36 = .ok (.aload_n 0, 1) := by decide +kernel
theorem dX8_row_37 : decode cX8_row 37 = .ok (.getfield 116, 3) := by decide +kernel
theorem dX8_row_40 : decode cX8_row 40 = .ok (.iload_n 1, 1) := by decide +kernel
theorem dX8_row_41 : decode cX8_row 41 = .ok (.iastore, 1) := by decide +kernel
theorem dX8_row_42 : decode cX8_row 42 = .ok (.aload_n 0, 1) := by decide +kernel
theorem dX8_row_43 : decode cX8_row 43 = .ok (.getfield 55, 3) := by decide +kernel
theorem dX8_row_46 : decode cX8_row 46 = .ok (.aload_n 0, 1) := by decide +kernel
theorem dX8_row_47 : decode cX8_row 47 = .ok (.getfield 116, 3) := by decide +kernel
theorem dX8_row_50 : decode cX8_row 50 = .ok (.iload_n 2, 1) := by decide +kernel
theorem dX8_row_51 : decode cX8_row 51 = .ok (.iastore, 1) := by decide +kernel
theorem dX8_row_52 : decode cX8_row 52 = .ok (.aload_n 0, 1) := by decide +kernel
theorem dX8_row_53 : decode cX8_row 53 = .ok (.dup, 1) := by decide +kernel
theorem dX8_row_54 : decode cX8_row 54 = .ok (.getfield 116, 3) := by decide +kernel
theorem dX8_row_57 : decode cX8_row 57 = .ok (.iconst 1, 1) := by decide +kernel
theorem dX8_row_58 : decode cX8_row 58 = .ok (.iadd, 1) := by decide +kernel
theorem dX8_row_59 : decode cX8_row 59 = .ok (.putfield 116, 3) := by decide +kernel
theorem dX8_row_62 : decode cX8_row 62 = .ok (.aload_n 0, 1) := by decide +kernel
theorem dX8_row_63 : decode cX8_row 63 = .ok (.getfield 116, 3) := by decide +kernel
theorem dX8_row_66 : decode cX8_row 66 = .ok (.iconst 1, 1) := by decide +kernel
theorem dX8_row_67 : decode cX8_row 67 = .ok (.isub, 1) := by decide +kernel
theorem dX8_row_68 : decode cX8_row 68 = .ok (.ireturn, 1) := by decide +kernel
theorem dX8_safe_0 : decode cX8_safe 0 = .ok (.iload_n 1, 1) := by decide +kernel
theorem dX8_safe_1 : decode cX8_safe 1 = .ok (.ifCond .ge 6, 3) := by decide +kernel
theorem dX8_safe_4 : decode cX8_safe 4 = .ok (.bipush (-2), 2) := by decide +kernel
theorem dX8_safe_6 : decode cX8_safe 6 = .ok (.ireturn, 1) := by decide +kernel
theorem dX8_safe_7 : decode cX8_safe 7 = .ok (.aload_n 0, 1) := by decide +kernel
theorem dX8_safe_8 : decode cX8_safe 8 = .ok (.getfield 73, 3) := by decide +kernel
theorem dX8_safe_11 : decode cX8_safe 11 = .ok (.iconst 0, 1) := by decide +kernel
theorem dX8_safe_12 : decode cX8_safe 12 = .ok (.iaload, 1) := by decide +kernel
theorem dX8_safe_13 : decode cX8_safe 13 = .ok (.ifCond .eq 12, 3) := by decide +kernel
theorem dX8_safe_16 : decode cX8_safe 16 = .ok (.aload_n 0, 1) := by decide +kernel
theorem dX8_safe_17 : decode cX8_safe 17 = .ok (.getfield 73, 3) := by decide +kernel
theorem dX8_safe_20 : decode cX8_safe 20 = .ok (.iconst 1, 1) := by decide +kernel
theorem dX8_safe_21 : decode cX8_safe 21 = .ok (.iaload, 1) := by decide +kernel
theorem dX8_safe_22 : decode cX8_safe 22 = .ok (.ifCond .ne 6, 3) := by decide +kernel
theorem dX8_safe_25 : decode cX8_safe 25 = .ok (.bipush (-3), 2) := by decide +kernel
theorem dX8_safe_27 : decode cX8_safe 27 = .ok (.ireturn, 1) := by decide +kernel
theorem dX8_safe_28 : decode cX8_safe 28 = .ok (.aload_n 0, 1) := by decide +kernel
theorem dX8_safe_29 : decode cX8_safe 29 = .ok (.iconst 0, 1) := by decide +kernel
theorem dX8_safe_30 : decode cX8_safe 30 = .ok (.invokevirtual 173, 3) := by decide +kernel
theorem dX8_safe_33 : decode cX8_safe 33 = .ok (.ifCond .ne 16, 3) := by decide +kernel
theorem dX8_safe_36 : decode cX8_safe 36 = .ok (.aload_n 0, 1) := by decide +kernel
theorem dX8_safe_37 : decode cX8_safe 37 = .ok (.iload_n 1, 1) := by decide +kernel
theorem dX8_safe_38 : decode cX8_safe 38 = .ok (.invokevirtual 176, 3) := by decide +kernel
theorem dX8_safe_41 : decode cX8_safe 41 = .ok (.iconst (-1), 1) := by decide +kernel
theorem dX8_safe_42 : decode cX8_safe 42 = .ok (.if_icmp .ne 7, 3) := by decide +kernel
theorem dX8_safe_45 : decode cX8_safe 45 = .ok (.iconst 1, 1) := by decide +kernel
theorem dX8_safe_46 : decode cX8_safe 46 = .ok (.goto 4, 3) := by decide +kernel
theorem dX8_safe_49 : decode cX8_safe 49 = .ok (.iconst 0, 1) := by decide +kernel
theorem dX8_safe_50 : decode cX8_safe 50 = .ok (.ireturn, 1) := by decide +kernel
theorem dX8_seat_0 : decode cX8_seat 0 = .ok (.iload_n 1, 1) := by decide +kernel
theorem dX8_seat_1 : decode cX8_seat 1 = .ok (.iconst 0, 1) := by decide +kernel
theorem dX8_seat_2 : decode cX8_seat 2 = .ok (.aload_n 0, 1) := by decide +kernel
theorem dX8_seat_3 : decode cX8_seat 3 = .ok (.getfield 116, 3) := by decide +kernel
theorem dX8_seat_6 : decode cX8_seat 6 = .ok (.iconst 1, 1) := by decide +kernel
theorem dX8_seat_7 : decode cX8_seat 7 = .ok (.isub, 1) := by decide +kernel
theorem dX8_seat_8 : decode cX8_seat 8 = .ok (.invokestatic 95, 3) := by decide +kernel
theorem dX8_seat_11 : decode cX8_seat 11 = .ok (.ifCond .ne 5, 3) := by decide +kernel
theorem dX8_seat_14 : decode cX8_seat 14 = .ok (.iconst (-1), 1) := by decide +kernel
theorem dX8_seat_15 : decode cX8_seat 15 = .ok (.ireturn, 1) := by decide +kernel
theorem dX8_seat_16 : decode cX8_seat 16 = .ok (.iload_n 2, 1) := by decide +kernel
theorem dX8_seat_17 : decode cX8_seat 17 = .ok (.iconst 0, 1) := by decide +kernel
theorem dX8_seat_18 : decode cX8_seat 18 = .ok (.aload_n 0, 1) := by decide +kernel
theorem dX8_seat_19 : decode cX8_seat 19 = .ok (.getfield 55, 3) := by decide +kernel
theorem dX8_seat_22 : decode cX8_seat 22 = .ok (.iload_n 1, 1) := by decide +kernel
theorem dX8_seat_23 : decode cX8_seat 23 = .ok (.iaload, 1) := by decide +kernel
theorem dX8_seat_24 : decode cX8_seat 24 = .ok (.invokestatic 95, 3) := by decide +kernel
theorem dX8_seat_27 : decode cX8_seat 27 = .ok (.ifCond .ne 6, 3) := by decide +kernel
theorem dX8_seat_30 : decode cX8_seat 30 = .ok (.bipush (-2), 2) := by decide +kernel
theorem dX8_seat_32 : decode cX8_seat 32 = .ok (.ireturn, 1) := by decide +kernel
theorem dX8_seat_33 : decode cX8_seat 33 = .ok (.aload_n 0, 1) := by decide +kernel
theorem dX8_seat_34 : decode cX8_seat 34 = .ok (.getfield 58, 3) := by decide +kernel
theorem dX8_seat_37 : decode cX8_seat 37 = .ok (.iload_n 1, 1) := by decide +kernel
theorem dX8_seat_38 : decode cX8_seat 38 = .ok (.iaload, 1) := by decide +kernel
theorem dX8_seat_39 : decode cX8_seat 39 = .ok (.istore_n 3, 1) := by decide +kernel
theorem dX8_seat_40 : decode cX8_seat 40 = .ok (.aload_n 0, 1) := by decide +kernel
theorem dX8_seat_41 : decode cX8_seat 41 = .ok (.getfield 58, 3) := by decide +kernel
theorem dX8_seat_44 : decode cX8_seat 44 = .ok (.iload_n 1, 1) := by decide +kernel
theorem dX8_seat_45 : decode cX8_seat 45 = .ok (.iload_n 2, 1) := by decide +kernel
theorem dX8_seat_46 : decode cX8_seat 46 = .ok (.iastore, 1) := by decide +kernel
theorem dX8_seat_47 : decode cX8_seat 47 = .ok (.iload_n 3, 1) := by decide +kernel
theorem dX8_seat_48 : decode cX8_seat 48 = .ok (.ireturn, 1) := by decide +kernel
theorem dX8_slot_0 : decode cX8_slot 0 = .ok (.aload_n 0, 1) := by decide +kernel
theorem dX8_slot_1 : decode cX8_slot 1 = .ok (.iload_n 1, 1) := by decide +kernel
theorem dX8_slot_2 : decode cX8_slot 2 = .ok (.invokevirtual 102, 3) := by decide +kernel
theorem dX8_slot_5 : decode cX8_slot 5 = .ok (.ifCond .ne 5, 3) := by decide +kernel
theorem dX8_slot_8 : decode cX8_slot 8 = .ok (.iconst (-1), 1) := by decide +kernel
theorem dX8_slot_9 : decode cX8_slot 9 = .ok (.ireturn, 1) := by decide +kernel
theorem dX8_slot_10 : decode cX8_slot 10 = .ok (.aload_n 0, 1) := by decide +kernel
theorem dX8_slot_11 : decode cX8_slot 11 = .ok (.getfield 25, 3) := by decide +kernel
theorem dX8_slot_14 : decode cX8_slot 14 = .ok (.iload_n 1, 1) := by decide +kernel
theorem dX8_slot_15 : decode cX8_slot 15 = .ok (.iaload, 1) := by decide +kernel
theorem dX8_slot_16 : decode cX8_slot 16 = .ok (.istore 4, 2) := by decide +kernel
theorem dX8_slot_18 : decode cX8_slot 18 = .ok (.iload_n 2, 1) := by decide +kernel
theorem dX8_slot_19 : decode cX8_slot 19 = .ok (.invokestatic 110, 3) := by decide +kernel
theorem dX8_slot_22 : decode cX8_slot 22 = .ok (.ifCond .eq 37, 3) := by decide +kernel
theorem dX8_slot_25 : decode cX8_slot 25 = .ok (.iload_n 3, 1) := by decide +kernel
theorem dX8_slot_26 : decode cX8_slot 26 = .ok (.iconst 0, 1) := by decide +kernel
theorem dX8_slot_27 : decode cX8_slot 27 = .ok (.sipush 20000, 3) := by decide +kernel
theorem dX8_slot_30 : decode cX8_slot 30 = .ok (.invokestatic 95, 3) := by decide +kernel
theorem dX8_slot_33 : decode cX8_slot 33 = .ok (.ifCond .eq 26, 3) := by decide +kernel
theorem dX8_slot_36 : decode cX8_slot 36 = .ok (.iload 4, 2) := by decide +kernel
theorem dX8_slot_38 : decode cX8_slot 38 = .ok (.ifCond .le 24, 3) := by decide +kernel
theorem dX8_slot_41 : decode cX8_slot 41 = .ok (.iload_n 2, 1) := by decide +kernel
theorem dX8_slot_42 : decode cX8_slot 42 = .ok (.aload_n 0, 1) := by decide +kernel
theorem dX8_slot_43 : decode cX8_slot 43 = .ok (.getfield 28, 3) := by decide +kernel
theorem dX8_slot_46 : decode cX8_slot 46 = .ok (.bipush 8, 2) := by decide +kernel
theorem dX8_slot_48 : decode cX8_slot 48 = .ok (.iload_n 1, 1) := by decide +kernel
theorem dX8_slot_49 : decode cX8_slot 49 = .ok (.imul, 1) := by decide +kernel
theorem dX8_slot_50 : decode cX8_slot 50 = .ok (.iload 4, 2) := by decide +kernel
theorem dX8_slot_52 : decode cX8_slot 52 = .ok (.iadd, 1) := by decide +kernel
theorem dX8_slot_53 : decode cX8_slot 53 = .ok (.iconst 1, 1) := by decide +kernel
theorem dX8_slot_54 : decode cX8_slot 54 = .ok (.isub, 1) := by decide +kernel
theorem dX8_slot_55 : decode cX8_slot 55 = .ok (.iaload, 1) := by decide +kernel
theorem dX8_slot_56 : decode cX8_slot 56 = .ok (.if_icmp .gt 6, 3) := by decide +kernel
theorem dX8_slot_59 : decode cX8_slot 59 = .ok (.bipush (-2), 2) := by decide +kernel
theorem dX8_slot_61 : decode cX8_slot 61 = .ok (.ireturn, 1) := by decide +kernel
theorem dX8_slot_62 : decode cX8_slot 62 = .ok (.iload 4, 2) := by decide +kernel
theorem dX8_slot_64 : decode cX8_slot 64 = .ok (.bipush 8, 2) := by decide +kernel
theorem dX8_slot_66 : decode cX8_slot 66 = .ok (.if_icmp .ne 6, 3) := by decide +kernel
theorem dX8_slot_69 : decode cX8_slot 69 = .ok (.bipush (-4), 2) := by decide +kernel
theorem dX8_slot_71 : decode cX8_slot 71 = .ok (.ireturn, 1) := by decide +kernel
theorem dX8_slot_72 : decode cX8_slot 72 = .ok (.aload_n 0, 1) := by decide +kernel
theorem dX8_slot_73 : decode cX8_slot 73 = .ok (.getfield 28, 3) := by decide +kernel
theorem dX8_slot_76 : decode cX8_slot 76 = .ok (.bipush 8, 2) := by decide +kernel
theorem dX8_slot_78 : decode cX8_slot 78 = .ok (.iload_n 1, 1) := by decide +kernel
theorem dX8_slot_79 : decode cX8_slot 79 = .ok (.imul, 1) := by decide +kernel
theorem dX8_slot_80 : decode cX8_slot 80 = .ok (.iload 4, 2) := by decide +kernel
theorem dX8_slot_82 : decode cX8_slot 82 = .ok (.iadd, 1) := by decide +kernel
theorem dX8_slot_83 : decode cX8_slot 83 = .ok (.iload_n 2, 1) := by decide +kernel
theorem dX8_slot_84 : decode cX8_slot 84 = .ok (.iastore, 1) := by decide +kernel
theorem dX8_slot_85 : decode cX8_slot 85 = .ok (.aload_n 0, 1) := by decide +kernel
theorem dX8_slot_86 : decode cX8_slot 86 = .ok (.getfield 31, 3) := by decide +kernel
theorem dX8_slot_89 : decode cX8_slot 89 = .ok (.bipush 8, 2) := by decide +kernel
theorem dX8_slot_91 : decode cX8_slot 91 = .ok (.iload_n 1, 1) := by decide +kernel
theorem dX8_slot_92 : decode cX8_slot 92 = .ok (.imul, 1) := by decide +kernel
theorem dX8_slot_93 : decode cX8_slot 93 = .ok (.iload 4, 2) := by decide +kernel
theorem dX8_slot_95 : decode cX8_slot 95 = .ok (.iadd, 1) := by decide +kernel
theorem dX8_slot_96 : decode cX8_slot 96 = .ok (.iload_n 3, 1) := by decide +kernel
theorem dX8_slot_97 : decode cX8_slot 97 = .ok (.iastore, 1) := by decide +kernel
theorem dX8_slot_98 : decode cX8_slot 98 = .ok (.aload_n 0, 1) := by decide +kernel
theorem dX8_slot_99 : decode cX8_slot 99 = .ok (.getfield 25, 3) := by decide +kernel
theorem dX8_slot_102 : decode cX8_slot 102 = .ok (.iload_n 1, 1) := by decide +kernel
theorem dX8_slot_103 : decode cX8_slot 103 = .ok (.dup2, 1) := by decide +kernel
theorem dX8_slot_104 : decode cX8_slot 104 = .ok (.iaload, 1) := by decide +kernel
theorem dX8_slot_105 : decode cX8_slot 105 = .ok (.iconst 1, 1) := by decide +kernel
theorem dX8_slot_106 : decode cX8_slot 106 = .ok (.iadd, 1) := by decide +kernel
theorem dX8_slot_107 : decode cX8_slot 107 = .ok (.iastore, 1) := by decide +kernel
theorem dX8_slot_108 : decode cX8_slot 108 = .ok (.iload 4, 2) := by decide +kernel
theorem dX8_slot_110 : decode cX8_slot 110 = .ok (.ireturn, 1) := by decide +kernel
theorem dX8_swaps_0 : decode cX8_swaps 0 = .ok (.aload_n 0, 1) := by decide +kernel
theorem dX8_swaps_1 : decode cX8_swaps 1 = .ok (.getfield 49, 3) := by decide +kernel
theorem dX8_swaps_4 : decode cX8_swaps 4 = .ok (.iload_n 1, 1) := by decide +kernel
theorem dX8_swaps_5 : decode cX8_swaps 5 = .ok (.iaload, 1) := by decide +kernel
theorem dX8_swaps_6 : decode cX8_swaps 6 = .ok (.istore 4, 2) := by decide +kernel
theorem dX8_swaps_8 : decode cX8_swaps 8 = .ok (.aload_n 0, 1) := by decide +kernel
theorem dX8_swaps_9 : decode cX8_swaps 9 = .ok (.getfield 49, 3) := by decide +kernel
theorem dX8_swaps_12 : decode cX8_swaps 12 = .ok (.iload_n 2, 1) := by decide +kernel
theorem dX8_swaps_13 : decode cX8_swaps 13 = .ok (.iaload, 1) := by decide +kernel
theorem dX8_swaps_14 : decode cX8_swaps 14 = .ok (.istore 5, 2) := by decide +kernel
theorem dX8_swaps_16 : decode cX8_swaps 16 = .ok (.aload_n 0, 1) := by decide +kernel
theorem dX8_swaps_17 : decode cX8_swaps 17 = .ok (.iload_n 1, 1) := by decide +kernel
theorem dX8_swaps_18 : decode cX8_swaps 18 = .ok (.invokevirtual 149, 3) := by decide +kernel
theorem dX8_swaps_21 : decode cX8_swaps 21 = .ok (.aload_n 0, 1) := by decide +kernel
theorem dX8_swaps_22 : decode cX8_swaps 22 = .ok (.iload_n 2, 1) := by decide +kernel
theorem dX8_swaps_23 : decode cX8_swaps 23 = .ok (.invokevirtual 149, 3) := by decide +kernel
theorem dX8_swaps_26 : decode cX8_swaps 26 = .ok (.aload_n 0, 1) := by decide +kernel
theorem dX8_swaps_27 : decode cX8_swaps 27 = .ok (.iload_n 1, 1) := by decide +kernel
theorem dX8_swaps_28 : decode cX8_swaps 28 = .ok (.iload 5, 2) := by decide +kernel
theorem dX8_swaps_30 : decode cX8_swaps 30 = .ok (.invokevirtual 137, 3) := by decide +kernel
theorem dX8_swaps_33 : decode cX8_swaps 33 = .ok (.ifCond .ne 47, 3) := by decide +kernel
theorem dX8_swaps_36 : decode cX8_swaps 36 = .ok (.aload_n 0, 1) := by decide +kernel
theorem dX8_swaps_37 : decode cX8_swaps 37 = .ok (.iload_n 1, 1) := by decide +kernel
theorem dX8_swaps_38 : decode cX8_swaps 38 = .ok (.iload 5, 2) := by decide +kernel
theorem dX8_swaps_40 : decode cX8_swaps 40 = .ok (.invokevirtual 145, 3) := by decide +kernel
theorem dX8_swaps_43 : decode cX8_swaps 43 = .ok (.aload_n 0, 1) := by decide +kernel
theorem dX8_swaps_44 : decode cX8_swaps 44 = .ok (.iload_n 2, 1) := by decide +kernel
theorem dX8_swaps_45 : decode cX8_swaps 45 = .ok (.iload 4, 2) := by decide +kernel
theorem dX8_swaps_47 : decode cX8_swaps 47 = .ok (.invokevirtual 137, 3) := by decide +kernel
theorem dX8_swaps_50 : decode cX8_swaps 50 = .ok (.ifCond .ne 25, 3) := by decide +kernel
theorem dX8_swaps_53 : decode cX8_swaps 53 = .ok (.aload_n 0, 1) := by decide +kernel
theorem dX8_swaps_54 : decode cX8_swaps 54 = .ok (.iload_n 2, 1) := by decide +kernel
theorem dX8_swaps_55 : decode cX8_swaps 55 = .ok (.iload 4, 2) := by decide +kernel
theorem dX8_swaps_57 : decode cX8_swaps 57 = .ok (.invokevirtual 145, 3) := by decide +kernel
theorem dX8_swaps_60 : decode cX8_swaps 60 = .ok (.aload_n 0, 1) := by decide +kernel
theorem dX8_swaps_61 : decode cX8_swaps 61 = .ok (.iload_n 3, 1) := by decide +kernel
theorem dX8_swaps_62 : decode cX8_swaps 62 = .ok (.invokevirtual 209, 3) := by decide +kernel
theorem dX8_swaps_65 : decode cX8_swaps 65 = .ok (.ifCond .eq 5, 3) := by decide +kernel
theorem dX8_swaps_68 : decode cX8_swaps 68 = .ok (.iconst 1, 1) := by decide +kernel
theorem dX8_swaps_69 : decode cX8_swaps 69 = .ok (.ireturn, 1) := by decide +kernel
theorem dX8_swaps_70 : decode cX8_swaps 70 = .ok (.aload_n 0, 1) := by decide +kernel
theorem dX8_swaps_71 : decode cX8_swaps 71 = .ok (.iload_n 2, 1) := by decide +kernel
theorem dX8_swaps_72 : decode cX8_swaps 72 = .ok (.invokevirtual 149, 3) := by decide +kernel
theorem dX8_swaps_75 : decode cX8_swaps 75 = .ok (.aload_n 0, 1) := by decide +kernel
theorem dX8_swaps_76 : decode cX8_swaps 76 = .ok (.iload_n 1, 1) := by decide +kernel
theorem dX8_swaps_77 : decode cX8_swaps 77 = .ok (.invokevirtual 149, 3) := by decide +kernel
theorem dX8_swaps_80 : decode cX8_swaps 80 = .ok (.aload_n 0, 1) := by decide +kernel
theorem dX8_swaps_81 : decode cX8_swaps 81 = .ok (.iload_n 1, 1) := by decide +kernel
theorem dX8_swaps_82 : decode cX8_swaps 82 = .ok (.iload 4, 2) := by decide +kernel
theorem dX8_swaps_84 : decode cX8_swaps 84 = .ok (.invokevirtual 145, 3) := by decide +kernel
theorem dX8_swaps_87 : decode cX8_swaps 87 = .ok (.aload_n 0, 1) := by decide +kernel
theorem dX8_swaps_88 : decode cX8_swaps 88 = .ok (.iload_n 2, 1) := by decide +kernel
theorem dX8_swaps_89 : decode cX8_swaps 89 = .ok (.iload 5, 2) := by decide +kernel
theorem dX8_swaps_91 : decode cX8_swaps 91 = .ok (.invokevirtual 145, 3) := by decide +kernel
theorem dX8_swaps_94 : decode cX8_swaps 94 = .ok (.iconst 0, 1) := by decide +kernel
theorem dX8_swaps_95 : decode cX8_swaps 95 = .ok (.ireturn, 1) := by decide +kernel
theorem dX8_take_0 : decode cX8_take 0 = .ok (.aload_n 0, 1) := by decide +kernel
theorem dX8_take_1 : decode cX8_take 1 = .ok (.getfield 34, 3) := by decide +kernel
theorem dX8_take_4 : decode cX8_take 4 = .ok (.aload_n 0, 1) := by decide +kernel
theorem dX8_take_5 : decode cX8_take 5 = .ok (.getfield 49, 3) := by decide +kernel
theorem dX8_take_8 : decode cX8_take 8 = .ok (.iload_n 1, 1) := by decide +kernel
theorem dX8_take_9 : decode cX8_take 9 = .ok (.iaload, 1) := by decide +kernel
theorem dX8_take_10 : decode cX8_take 10 = .ok (.iconst (-1), 1) := by decide +kernel
theorem dX8_take_11 : decode cX8_take 11 = .ok (.iastore, 1) := by decide +kernel
theorem dX8_take_12 : decode cX8_take 12 = .ok (.aload_n 0, 1) := by decide +kernel
theorem dX8_take_13 : decode cX8_take 13 = .ok (.getfield 49, 3) := by decide +kernel
theorem dX8_take_16 : decode cX8_take 16 = .ok (.iload_n 1, 1) := by decide +kernel
theorem dX8_take_17 : decode cX8_take 17 = .ok (.iconst (-1), 1) := by decide +kernel
theorem dX8_take_18 : decode cX8_take 18 = .ok (.iastore, 1) := by decide +kernel
theorem dX8_take_19 : decode cX8_take 19 = .ok (.return_, 1) := by decide +kernel
theorem dX8_tank_0 : decode cX8_tank 0 = .ok (.iload_n 1, 1) := by decide +kernel
theorem dX8_tank_1 : decode cX8_tank 1 = .ok (.invokestatic 110, 3) := by decide +kernel
theorem dX8_tank_4 : decode cX8_tank 4 = .ok (.ifCond .eq 14, 3) := by decide +kernel
theorem dX8_tank_7 : decode cX8_tank 7 = .ok (.iload_n 2, 1) := by decide +kernel
theorem dX8_tank_8 : decode cX8_tank 8 = .ok (.iconst 0, 1) := by decide +kernel
theorem dX8_tank_9 : decode cX8_tank 9 = .ok (.sipush 20000, 3) := by decide +kernel
theorem dX8_tank_12 : decode cX8_tank 12 = .ok (.invokestatic 95, 3) := by decide +kernel
theorem dX8_tank_15 : decode cX8_tank 15 = .ok (.ifCond .ne 6, 3) := by decide +kernel
theorem dX8_tank_18 : decode cX8_tank 18 = .ok (.bipush (-2), 2) := by decide +kernel
theorem dX8_tank_20 : decode cX8_tank 20 = .ok (.ireturn, 1) := by decide +kernel
theorem dX8_tank_21 : decode cX8_tank 21 = .ok (.aload_n 0, 1) := by decide +kernel
theorem dX8_tank_22 : decode cX8_tank 22 = .ok (.getfield 119, 3) := by decide +kernel
theorem dX8_tank_25 : decode cX8_tank 25 = .ok (.iconst 4, 1) := by decide +kernel
theorem dX8_tank_26 : decode cX8_tank 26 = .ok (.if_icmp .ne 6, 3) := by decide +kernel
theorem dX8_tank_29 : decode cX8_tank 29 = .ok (.bipush (-4), 2) := by decide +kernel
theorem dX8_tank_31 : decode cX8_tank 31 = .ok (.ireturn, 1) := by decide +kernel
theorem dX8_tank_32 : decode cX8_tank 32 = .ok (.aload_n 0, 1) := by decide +kernel
theorem dX8_tank_33 : decode cX8_tank 33 = .ok (.getfield 61, 3) := by decide +kernel
theorem dX8_tank_36 : decode cX8_tank 36 = .ok (.aload_n 0, 1) := by decide +kernel
theorem dX8_tank_37 : decode cX8_tank 37 = .ok (.getfield 119, 3) := by decide +kernel
theorem dX8_tank_40 : decode cX8_tank 40 = .ok (.iload_n 1, 1) := by decide +kernel
theorem dX8_tank_41 : decode cX8_tank 41 = .ok (.iastore, 1) := by decide +kernel
theorem dX8_tank_42 : decode cX8_tank 42 = .ok (.aload_n 0, 1) := by decide +kernel
theorem dX8_tank_43 : decode cX8_tank 43 = .ok (.getfield 64, 3) := by decide +kernel
theorem dX8_tank_46 : decode cX8_tank 46 = .ok (.aload_n 0, 1) := by decide +kernel
theorem dX8_tank_47 : decode cX8_tank 47 = .ok (.getfield 119, 3) := by decide +kernel
theorem dX8_tank_50 : decode cX8_tank 50 = .ok (.iload_n 2, 1) := by decide +kernel
theorem dX8_tank_51 : decode cX8_tank 51 = .ok (.iastore, 1) := by decide +kernel
theorem dX8_tank_52 : decode cX8_tank 52 = .ok (.aload_n 0, 1) := by decide +kernel
theorem dX8_tank_53 : decode cX8_tank 53 = .ok (.dup, 1) := by decide +kernel
theorem dX8_tank_54 : decode cX8_tank 54 = .ok (.getfield 119, 3) := by decide +kernel
theorem dX8_tank_57 : decode cX8_tank 57 = .ok (.iconst 1, 1) := by decide +kernel
theorem dX8_tank_58 : decode cX8_tank 58 = .ok (.iadd, 1) := by decide +kernel
theorem dX8_tank_59 : decode cX8_tank 59 = .ok (.putfield 119, 3) := by decide +kernel
theorem dX8_tank_62 : decode cX8_tank 62 = .ok (.aload_n 0, 1) := by decide +kernel
theorem dX8_tank_63 : decode cX8_tank 63 = .ok (.getfield 119, 3) := by decide +kernel
theorem dX8_tank_66 : decode cX8_tank 66 = .ok (.iconst 1, 1) := by decide +kernel
theorem dX8_tank_67 : decode cX8_tank 67 = .ok (.isub, 1) := by decide +kernel
theorem dX8_tank_68 : decode cX8_tank 68 = .ok (.ireturn, 1) := by decide +kernel
theorem dX8_tries_0 : decode cX8_tries 0 = .ok (.iload_n 1, 1) := by decide +kernel
theorem dX8_tries_1 : decode cX8_tries 1 = .ok (.aload_n 0, 1) := by decide +kernel
theorem dX8_tries_2 : decode cX8_tries 2 = .ok (.getfield 221, 3) := by decide +kernel
theorem dX8_tries_5 : decode cX8_tries 5 = .ok (.if_icmp .ne 118, 3) := by decide +kernel
theorem dX8_tries_8 : decode cX8_tries 8 = .ok (.aload_n 0, 1) := by decide +kernel
theorem dX8_tries_9 : decode cX8_tries 9 = .ok (.invokevirtual 182, 3) := by decide +kernel
theorem dX8_tries_12 : decode cX8_tries 12 = .ok (.istore_n 3, 1) := by decide +kernel
theorem dX8_tries_13 : decode cX8_tries 13 = .ok (.aload_n 0, 1) := by decide +kernel
theorem dX8_tries_14 : decode cX8_tries 14 = .ok (.getfield 224, 3) := by decide +kernel
theorem dX8_tries_17 : decode cX8_tries 17 = .ok (.iconst (-1), 1) := by decide +kernel
theorem dX8_tries_18 : decode cX8_tries 18 = .ok (.if_icmp .eq 12, 3) := by decide +kernel
theorem dX8_tries_21 : decode cX8_tries 21 = .ok (.iload_n 3, 1) := by decide +kernel
theorem dX8_tries_22 : decode cX8_tries 22 = .ok (.aload_n 0, 1) := by decide +kernel
theorem dX8_tries_23 : decode cX8_tries 23 = .ok (.getfield 224, 3) := by decide +kernel
theorem dX8_tries_26 : decode cX8_tries 26 = .ok (.if_icmp .le 4, 3) := by decide +kernel
theorem dX8_tries_29 : decode cX8_tries 29 = .ok (.return_, 1) := by decide +kernel
theorem dX8_tries_30 : decode cX8_tries 30 = .ok (.aload_n 0, 1) := by decide +kernel
theorem dX8_tries_31 : decode cX8_tries 31 = .ok (.iload_n 2, 1) := by decide +kernel
theorem dX8_tries_32 : decode cX8_tries 32 = .ok (.aload_n 0, 1) := by decide +kernel
theorem dX8_tries_33 : decode cX8_tries 33 = .ok (.invokevirtual 153, 3) := by decide +kernel
theorem dX8_tries_36 : decode cX8_tries 36 = .ok (.aload_n 0, 1) := by decide +kernel
theorem dX8_tries_37 : decode cX8_tries 37 = .ok (.invokevirtual 160, 3) := by decide +kernel
theorem dX8_tries_40 : decode cX8_tries 40 = .ok (.invokevirtual 192, 3) := by decide +kernel
theorem dX8_tries_43 : decode cX8_tries 43 = .ok (.aload_n 0, 1) := by decide +kernel
theorem dX8_tries_44 : decode cX8_tries 44 = .ok (.getfield 224, 3) := by decide +kernel
theorem dX8_tries_47 : decode cX8_tries 47 = .ok (.iconst (-1), 1) := by decide +kernel
theorem dX8_tries_48 : decode cX8_tries 48 = .ok (.if_icmp .eq 24, 3) := by decide +kernel
theorem dX8_tries_51 : decode cX8_tries 51 = .ok (.iload_n 3, 1) := by decide +kernel
theorem dX8_tries_52 : decode cX8_tries 52 = .ok (.aload_n 0, 1) := by decide +kernel
theorem dX8_tries_53 : decode cX8_tries 53 = .ok (.getfield 224, 3) := by decide +kernel
theorem dX8_tries_56 : decode cX8_tries 56 = .ok (.if_icmp .ne 16, 3) := by decide +kernel
theorem dX8_tries_59 : decode cX8_tries 59 = .ok (.aload_n 0, 1) := by decide +kernel
theorem dX8_tries_60 : decode cX8_tries 60 = .ok (.getfield 188, 3) := by decide +kernel
theorem dX8_tries_63 : decode cX8_tries 63 = .ok (.aload_n 0, 1) := by decide +kernel
theorem dX8_tries_64 : decode cX8_tries 64 = .ok (.getfield 227, 3) := by decide +kernel
theorem dX8_tries_67 : decode cX8_tries 67 = .ok (.lcmp, 1) := by decide +kernel
theorem dX8_tries_68 : decode cX8_tries 68 = .ok (.ifCond .lt 4, 3) := by decide +kernel
theorem dX8_tries_71 : decode cX8_tries 71 = .ok (.return_, 1) := by decide +kernel
theorem dX8_tries_72 : decode cX8_tries 72 = .ok (.aload_n 0, 1) := by decide +kernel
theorem dX8_tries_73 : decode cX8_tries 73 = .ok (.iload_n 3, 1) := by decide +kernel
theorem dX8_tries_74 : decode cX8_tries 74 = .ok (.putfield 224, 3) := by decide +kernel
theorem dX8_tries_77 : decode cX8_tries 77 = .ok (.aload_n 0, 1) := by decide +kernel
theorem dX8_tries_78 : decode cX8_tries 78 = .ok (.aload_n 0, 1) := by decide +kernel
theorem dX8_tries_79 : decode cX8_tries 79 = .ok (.getfield 188, 3) := by decide +kernel
theorem dX8_tries_82 : decode cX8_tries 82 = .ok (.putfield 227, 3) := by decide +kernel
theorem dX8_tries_85 : decode cX8_tries 85 = .ok (.iconst 0, 1) := by decide +kernel
theorem dX8_tries_86 : decode cX8_tries 86 = .ok (.istore 4, 2) := by decide +kernel
theorem dX8_tries_88 : decode cX8_tries 88 = .ok (.iload 4, 2) := by decide +kernel
theorem dX8_tries_90 : decode cX8_tries 90 = .ok (.aload_n 0, 1) := by decide +kernel
theorem dX8_tries_91 : decode cX8_tries 91 = .ok (.getfield 221, 3) := by decide +kernel
theorem dX8_tries_94 : decode cX8_tries 94 = .ok (.if_icmp .ge 28, 3) := by decide +kernel
theorem dX8_tries_97 : decode cX8_tries 97 = .ok (.aload_n 0, 1) := by decide +kernel
theorem dX8_tries_98 : decode cX8_tries 98 = .ok (.getfield 92, 3) := by decide +kernel
theorem dX8_tries_101 : decode cX8_tries 101 = .ok (.iload 4, 2) := by decide +kernel
theorem dX8_tries_103 : decode cX8_tries 103 = .ok (.aload_n 0, 1) := by decide +kernel
theorem dX8_tries_104 : decode cX8_tries 104 = .ok (.getfield 49, 3) := by decide +kernel
theorem dX8_tries_107 : decode cX8_tries 107 = .ok (.aload_n 0, 1) := by decide +kernel
theorem dX8_tries_108 : decode cX8_tries 108 = .ok (.getfield 89, 3) := by decide +kernel
theorem dX8_tries_111 : decode cX8_tries 111 = .ok (.iload 4, 2) := by decide +kernel
theorem dX8_tries_113 : decode cX8_tries 113 = .ok (.iaload, 1) := by decide +kernel
theorem dX8_tries_114 : decode cX8_tries 114 = .ok (.iaload, 1) := by decide +kernel
theorem dX8_tries_115 : decode cX8_tries 115 = .ok (.iastore, 1) := by decide +kernel
theorem dX8_tries_116 : decode cX8_tries 116 = .ok (.iinc 4 1, 3) := by decide +kernel
theorem dX8_tries_119 : decode cX8_tries 119 = .ok (.goto (-31), 3) := by decide +kernel
theorem dX8_tries_122 : decode cX8_tries 122 = .ok (.return_, 1) := by decide +kernel
theorem dX8_tries_123 : decode cX8_tries 123 = .ok (.iconst 0, 1) := by decide +kernel
theorem dX8_tries_124 : decode cX8_tries 124 = .ok (.istore_n 3, 1) := by decide +kernel
theorem dX8_tries_125 : decode cX8_tries 125 = .ok (.iload_n 3, 1) := by decide +kernel
theorem dX8_tries_126 : decode cX8_tries 126 = .ok (.bipush 32, 2) := by decide +kernel
theorem dX8_tries_128 : decode cX8_tries 128 = .ok (.if_icmp .ge 70, 3) := by decide +kernel
theorem dX8_tries_131 : decode cX8_tries 131 = .ok (.aload_n 0, 1) := by decide +kernel
theorem dX8_tries_132 : decode cX8_tries 132 = .ok (.iload_n 3, 1) := by decide +kernel
theorem dX8_tries_133 : decode cX8_tries 133 = .ok (.bipush 8, 2) := by decide +kernel
theorem dX8_tries_135 : decode cX8_tries 135 = .ok (.idiv, 1) := by decide +kernel
theorem dX8_tries_136 : decode cX8_tries 136 = .ok (.iload_n 3, 1) := by decide +kernel
theorem dX8_tries_137 : decode cX8_tries 137 = .ok (.bipush 8, 2) := by decide +kernel
theorem dX8_tries_139 : decode cX8_tries 139 = .ok (.irem, 1) := by decide +kernel
theorem dX8_tries_140 : decode cX8_tries 140 = .ok (.invokevirtual 133, 3) := by decide +kernel
theorem dX8_tries_143 : decode cX8_tries 143 = .ok (.ifCond .eq 49, 3) := by decide +kernel
theorem dX8_tries_146 : decode cX8_tries 146 = .ok (.aload_n 0, 1) := by decide +kernel
theorem dX8_tries_147 : decode cX8_tries 147 = .ok (.aload_n 0, 1) := by decide +kernel
theorem dX8_tries_148 : decode cX8_tries 148 = .ok (.getfield 89, 3) := by decide +kernel
theorem dX8_tries_151 : decode cX8_tries 151 = .ok (.iload_n 1, 1) := by decide +kernel
theorem dX8_tries_152 : decode cX8_tries 152 = .ok (.iaload, 1) := by decide +kernel
theorem dX8_tries_153 : decode cX8_tries 153 = .ok (.iload_n 3, 1) := by decide +kernel
theorem dX8_tries_154 : decode cX8_tries 154 = .ok (.invokevirtual 137, 3) := by decide +kernel
theorem dX8_tries_157 : decode cX8_tries 157 = .ok (.ifCond .eq 6, 3) := by decide +kernel
theorem dX8_tries_160 : decode cX8_tries 160 = .ok (.goto 32, 3) := by decide +kernel
theorem dX8_tries_163 : decode cX8_tries 163 = .ok (.aload_n 0, 1) := by decide +kernel
theorem dX8_tries_164 : decode cX8_tries 164 = .ok (.aload_n 0, 1) := by decide +kernel
theorem dX8_tries_165 : decode cX8_tries 165 = .ok (.getfield 89, 3) := by decide +kernel
theorem dX8_tries_168 : decode cX8_tries 168 = .ok (.iload_n 1, 1) := by decide +kernel
theorem dX8_tries_169 : decode cX8_tries 169 = .ok (.iaload, 1) := by decide +kernel
theorem dX8_tries_170 : decode cX8_tries 170 = .ok (.iload_n 3, 1) := by decide +kernel
theorem dX8_tries_171 : decode cX8_tries 171 = .ok (.invokevirtual 145, 3) := by decide +kernel
theorem dX8_tries_174 : decode cX8_tries 174 = .ok (.aload_n 0, 1) := by decide +kernel
theorem dX8_tries_175 : decode cX8_tries 175 = .ok (.iload_n 1, 1) := by decide +kernel
theorem dX8_tries_176 : decode cX8_tries 176 = .ok (.iconst 1, 1) := by decide +kernel
theorem dX8_tries_177 : decode cX8_tries 177 = .ok (.iadd, 1) := by decide +kernel
theorem dX8_tries_178 : decode cX8_tries 178 = .ok (.iload_n 2, 1) := by decide +kernel
theorem dX8_tries_179 : decode cX8_tries 179 = .ok (.invokevirtual 230, 3) := by decide +kernel
theorem dX8_tries_182 : decode cX8_tries 182 = .ok (.aload_n 0, 1) := by decide +kernel
theorem dX8_tries_183 : decode cX8_tries 183 = .ok (.aload_n 0, 1) := by decide +kernel
theorem dX8_tries_184 : decode cX8_tries 184 = .ok (.getfield 89, 3) := by decide +kernel
theorem dX8_tries_187 : decode cX8_tries 187 = .ok (.iload_n 1, 1) := by decide +kernel
theorem dX8_tries_188 : decode cX8_tries 188 = .ok (.iaload, 1) := by decide +kernel
theorem dX8_tries_189 : decode cX8_tries 189 = .ok (.invokevirtual 149, 3) := by decide +kernel
theorem dX8_tries_192 : decode cX8_tries 192 = .ok (.iinc 3 1, 3) := by decide +kernel
theorem dX8_tries_195 : decode cX8_tries 195 = .ok (.goto (-70), 3) := by decide +kernel
theorem dX8_tries_198 : decode cX8_tries 198 = .ok (.return_, 1) := by decide +kernel
theorem dX8_unload_0 : decode cX8_unload 0 = .ok (.aload_n 0, 1) := by decide +kernel
theorem dX8_unload_1 : decode cX8_unload 1 = .ok (.iload_n 1, 1) := by decide +kernel
theorem dX8_unload_2 : decode cX8_unload 2 = .ok (.invokevirtual 130, 3) := by decide +kernel
theorem dX8_unload_5 : decode cX8_unload 5 = .ok (.ifCond .ne 5, 3) := by decide +kernel
theorem dX8_unload_8 : decode cX8_unload 8 = .ok (.iconst (-1), 1) := by decide +kernel
theorem dX8_unload_9 : decode cX8_unload 9 = .ok (.ireturn, 1) := by decide +kernel
theorem dX8_unload_10 : decode cX8_unload 10 = .ok (.aload_n 0, 1) := by decide +kernel
theorem dX8_unload_11 : decode cX8_unload 11 = .ok (.getfield 49, 3) := by decide +kernel
theorem dX8_unload_14 : decode cX8_unload 14 = .ok (.iload_n 1, 1) := by decide +kernel
theorem dX8_unload_15 : decode cX8_unload 15 = .ok (.iaload, 1) := by decide +kernel
theorem dX8_unload_16 : decode cX8_unload 16 = .ok (.iconst (-1), 1) := by decide +kernel
theorem dX8_unload_17 : decode cX8_unload 17 = .ok (.if_icmp .ne 6, 3) := by decide +kernel
theorem dX8_unload_20 : decode cX8_unload 20 = .ok (.bipush (-3), 2) := by decide +kernel
theorem dX8_unload_22 : decode cX8_unload 22 = .ok (.ireturn, 1) := by decide +kernel
theorem dX8_unload_23 : decode cX8_unload 23 = .ok (.aload_n 0, 1) := by decide +kernel
theorem dX8_unload_24 : decode cX8_unload 24 = .ok (.iload_n 1, 1) := by decide +kernel
theorem dX8_unload_25 : decode cX8_unload 25 = .ok (.invokevirtual 149, 3) := by decide +kernel
theorem dX8_unload_28 : decode cX8_unload 28 = .ok (.iconst 0, 1) := by decide +kernel
theorem dX8_unload_29 : decode cX8_unload 29 = .ok (.ireturn, 1) := by decide +kernel
theorem dX8_weight_0 : decode cX8_weight 0 = .ok (.iload_n 1, 1) := by decide +kernel
theorem dX8_weight_1 : decode cX8_weight 1 = .ok (.tableswitch 47 0 2 #[27, 32, 42], 27) := by decide +kernel
theorem dX8_weight_28 : decode cX8_weight 28 = .ok (.aload_n 0, 1) := by decide +kernel
theorem dX8_weight_29 : decode cX8_weight 29 = .ok (.invokevirtual 153, 3) := by decide +kernel
theorem dX8_weight_32 : decode cX8_weight 32 = .ok (.ireturn, 1) := by decide +kernel
theorem dX8_weight_33 : decode cX8_weight 33 = .ok (.aload_n 0, 1) := by decide +kernel
theorem dX8_weight_34 : decode cX8_weight 34 = .ok (.invokevirtual 153, 3) := by decide +kernel
theorem dX8_weight_37 : decode cX8_weight 37 = .ok (.aload_n 0, 1) := by decide +kernel
theorem dX8_weight_38 : decode cX8_weight 38 = .ok (.invokevirtual 157, 3) := by decide +kernel
theorem dX8_weight_41 : decode cX8_weight 41 = .ok (.iadd, 1) := by decide +kernel
theorem dX8_weight_42 : decode cX8_weight 42 = .ok (.ireturn, 1) := by decide +kernel
theorem dX8_weight_43 : decode cX8_weight 43 = .ok (.aload_n 0, 1) := by decide +kernel
theorem dX8_weight_44 : decode cX8_weight 44 = .ok (.invokevirtual 157, 3) := by decide +kernel
theorem dX8_weight_47 : decode cX8_weight 47 = .ok (.ireturn, 1) := by decide +kernel
theorem dX8_weight_48 : decode cX8_weight 48 = .ok (.iconst (-1), 1) := by decide +kernel
theorem dX8_weight_49 : decode cX8_weight 49 = .ok (.ireturn, 1) := by decide +kernel
theorem dX8_weightAt_0 : decode cX8_weightAt 0 = .ok (.aload_n 0, 1) := by decide +kernel
theorem dX8_weightAt_1 : decode cX8_weightAt 1 = .ok (.getfield 34, 3) := by decide +kernel
theorem dX8_weightAt_4 : decode cX8_weightAt 4 = .ok (.iload_n 1, 1) := by decide +kernel
theorem dX8_weightAt_5 : decode cX8_weightAt 5 = .ok (.iaload, 1) := by decide +kernel
theorem dX8_weightAt_6 : decode cX8_weightAt 6 = .ok (.iconst (-1), 1) := by decide +kernel
theorem dX8_weightAt_7 : decode cX8_weightAt 7 = .ok (.if_icmp .ne 7, 3) := by decide +kernel
theorem dX8_weightAt_10 : decode cX8_weightAt 10 = .ok (.iconst 0, 1) := by decide +kernel
theorem dX8_weightAt_11 : decode cX8_weightAt 11 = .ok (.goto 14, 3) := by decide +kernel
theorem dX8_weightAt_14 : decode cX8_weightAt 14 = .ok (.aload_n 0, 1) := by decide +kernel
theorem dX8_weightAt_15 : decode cX8_weightAt 15 = .ok (.getfield 40, 3) := by decide +kernel
theorem dX8_weightAt_18 : decode cX8_weightAt 18 = .ok (.aload_n 0, 1) := by decide +kernel
theorem dX8_weightAt_19 : decode cX8_weightAt 19 = .ok (.getfield 34, 3) := by decide +kernel
theorem dX8_weightAt_22 : decode cX8_weightAt 22 = .ok (.iload_n 1, 1) := by decide +kernel
theorem dX8_weightAt_23 : decode cX8_weightAt 23 = .ok (.iaload, 1) := by decide +kernel
theorem dX8_weightAt_24 : decode cX8_weightAt 24 = .ok (.iaload, 1) := by decide +kernel
theorem dX8_weightAt_25 : decode cX8_weightAt 25 = .ok (.ireturn, 1) := by decide +kernel
theorem dX8_weightOf_0 : decode cX8_weightOf 0 = .ok (.iconst 0, 1) := by decide +kernel
theorem dX8_weightOf_1 : decode cX8_weightOf 1 = .ok (.istore_n 2, 1) := by decide +kernel
theorem dX8_weightOf_2 : decode cX8_weightOf 2 = .ok (.iconst 0, 1) := by decide +kernel
theorem dX8_weightOf_3 : decode cX8_weightOf 3 = .ok (.istore_n 3, 1) := by decide +kernel
theorem dX8_weightOf_4 : decode cX8_weightOf 4 = .ok (.iload_n 3, 1) := by decide +kernel
theorem dX8_weightOf_5 : decode cX8_weightOf 5 = .ok (.aload_n 0, 1) := by decide +kernel
theorem dX8_weightOf_6 : decode cX8_weightOf 6 = .ok (.getfield 25, 3) := by decide +kernel
theorem dX8_weightOf_9 : decode cX8_weightOf 9 = .ok (.iload_n 1, 1) := by decide +kernel
theorem dX8_weightOf_10 : decode cX8_weightOf 10 = .ok (.iaload, 1) := by decide +kernel
theorem dX8_weightOf_11 : decode cX8_weightOf 11 = .ok (.if_icmp .ge 22, 3) := by decide +kernel
theorem dX8_weightOf_14 : decode cX8_weightOf 14 = .ok (.iload_n 2, 1) := by decide +kernel
theorem dX8_weightOf_15 : decode cX8_weightOf 15 = .ok (.aload_n 0, 1) := by decide +kernel
theorem dX8_weightOf_16 : decode cX8_weightOf 16 = .ok (.bipush 8, 2) := by decide +kernel
theorem dX8_weightOf_18 : decode cX8_weightOf 18 = .ok (.iload_n 1, 1) := by decide +kernel
theorem dX8_weightOf_19 : decode cX8_weightOf 19 = .ok (.imul, 1) := by decide +kernel
theorem dX8_weightOf_20 : decode cX8_weightOf 20 = .ok (.iload_n 3, 1) := by decide +kernel
theorem dX8_weightOf_21 : decode cX8_weightOf 21 = .ok (.iadd, 1) := by decide +kernel
theorem dX8_weightOf_22 : decode cX8_weightOf 22 = .ok (.invokevirtual 123, 3) := by decide +kernel
theorem dX8_weightOf_25 : decode cX8_weightOf 25 = .ok (.iadd, 1) := by decide +kernel
theorem dX8_weightOf_26 : decode cX8_weightOf 26 = .ok (.istore_n 2, 1) := by decide +kernel
theorem dX8_weightOf_27 : decode cX8_weightOf 27 = .ok (.iinc 3 1, 3) := by decide +kernel
theorem dX8_weightOf_30 : decode cX8_weightOf 30 = .ok (.goto (-26), 3) := by decide +kernel
theorem dX8_weightOf_33 : decode cX8_weightOf 33 = .ok (.iload_n 2, 1) := by decide +kernel
theorem dX8_weightOf_34 : decode cX8_weightOf 34 = .ok (.ireturn, 1) := by decide +kernel
theorem dX8_where_0 : decode cX8_where 0 = .ok (.aload_n 0, 1) := by decide +kernel
theorem dX8_where_1 : decode cX8_where 1 = .ok (.iload_n 1, 1) := by decide +kernel
theorem dX8_where_2 : decode cX8_where 2 = .ok (.invokevirtual 130, 3) := by decide +kernel
theorem dX8_where_5 : decode cX8_where 5 = .ok (.ifCond .eq 12, 3) := by decide +kernel
theorem dX8_where_8 : decode cX8_where 8 = .ok (.aload_n 0, 1) := by decide +kernel
theorem dX8_where_9 : decode cX8_where 9 = .ok (.getfield 49, 3) := by decide +kernel
theorem dX8_where_12 : decode cX8_where 12 = .ok (.iload_n 1, 1) := by decide +kernel
theorem dX8_where_13 : decode cX8_where 13 = .ok (.iaload, 1) := by decide +kernel
theorem dX8_where_14 : decode cX8_where 14 = .ok (.goto 4, 3) := by decide +kernel
theorem dX8_where_17 : decode cX8_where 17 = .ok (.iconst (-1), 1) := by decide +kernel
theorem dX8_where_18 : decode cX8_where 18 = .ok (.ireturn, 1) := by decide +kernel
theorem dX8_wipe_0 : decode cX8_wipe 0 = .ok (.iload_n 1, 1) := by decide +kernel
theorem dX8_wipe_1 : decode cX8_wipe 1 = .ok (.iconst 0, 1) := by decide +kernel
theorem dX8_wipe_2 : decode cX8_wipe 2 = .ok (.iconst 1, 1) := by decide +kernel
theorem dX8_wipe_3 : decode cX8_wipe 3 = .ok (.invokestatic 95, 3) := by decide +kernel
theorem dX8_wipe_6 : decode cX8_wipe 6 = .ok (.ifCond .ne 5, 3) := by decide +kernel
theorem dX8_wipe_9 : decode cX8_wipe 9 = .ok (.iconst (-1), 1) := by decide +kernel
theorem dX8_wipe_10 : decode cX8_wipe 10 = .ok (.ireturn, 1) := by decide +kernel
theorem dX8_wipe_11 : decode cX8_wipe 11 = .ok (.aload_n 0, 1) := by decide +kernel
theorem dX8_wipe_12 : decode cX8_wipe 12 = .ok (.getfield 73, 3) := by decide +kernel
theorem dX8_wipe_15 : decode cX8_wipe 15 = .ok (.iload_n 1, 1) := by decide +kernel
theorem dX8_wipe_16 : decode cX8_wipe 16 = .ok (.iaload, 1) := by decide +kernel
theorem dX8_wipe_17 : decode cX8_wipe 17 = .ok (.istore_n 2, 1) := by decide +kernel
theorem dX8_wipe_18 : decode cX8_wipe 18 = .ok (.aload_n 0, 1) := by decide +kernel
theorem dX8_wipe_19 : decode cX8_wipe 19 = .ok (.getfield 73, 3) := by decide +kernel
theorem dX8_wipe_22 : decode cX8_wipe 22 = .ok (.iload_n 1, 1) := by decide +kernel
theorem dX8_wipe_23 : decode cX8_wipe 23 = .ok (.iconst 0, 1) := by decide +kernel
theorem dX8_wipe_24 : decode cX8_wipe 24 = .ok (.iastore, 1) := by decide +kernel
theorem dX8_wipe_25 : decode cX8_wipe 25 = .ok (.iload_n 2, 1) := by decide +kernel
theorem dX8_wipe_26 : decode cX8_wipe 26 = .ok (.ireturn, 1) := by decide +kernel
theorem dX8_within_0 : decode cX8_within 0 = .ok (.iload_n 1, 1) := by decide +kernel
theorem dX8_within_1 : decode cX8_within 1 = .ok (.iconst 0, 1) := by decide +kernel
theorem dX8_within_2 : decode cX8_within 2 = .ok (.iconst 1, 1) := by decide +kernel
theorem dX8_within_3 : decode cX8_within 3 = .ok (.invokestatic 95, 3) := by decide +kernel
theorem dX8_within_6 : decode cX8_within 6 = .ok (.ifCond .ne 5, 3) := by decide +kernel
theorem dX8_within_9 : decode cX8_within 9 = .ok (.iconst (-1), 1) := by decide +kernel
theorem dX8_within_10 : decode cX8_within 10 = .ok (.ireturn, 1) := by decide +kernel
theorem dX8_within_11 : decode cX8_within 11 = .ok (.aload_n 0, 1) := by decide +kernel
theorem dX8_within_12 : decode cX8_within 12 = .ok (.getfield 73, 3) := by decide +kernel
theorem dX8_within_15 : decode cX8_within 15 = .ok (.iload_n 1, 1) := by decide +kernel
theorem dX8_within_16 : decode cX8_within 16 = .ok (.iaload, 1) := by decide +kernel
theorem dX8_within_17 : decode cX8_within 17 = .ok (.ifCond .ne 6, 3) := by decide +kernel
theorem dX8_within_20 : decode cX8_within 20 = .ok (.bipush (-3), 2) := by decide +kernel
theorem dX8_within_22 : decode cX8_within 22 = .ok (.ireturn, 1) := by decide +kernel
theorem dX8_within_23 : decode cX8_within 23 = .ok (.aload_n 0, 1) := by decide +kernel
theorem dX8_within_24 : decode cX8_within 24 = .ok (.iload_n 1, 1) := by decide +kernel
theorem dX8_within_25 : decode cX8_within 25 = .ok (.aload_n 0, 1) := by decide +kernel
theorem dX8_within_26 : decode cX8_within 26 = .ok (.invokevirtual 153, 3) := by decide +kernel
theorem dX8_within_29 : decode cX8_within 29 = .ok (.iload_n 1, 1) := by decide +kernel
theorem dX8_within_30 : decode cX8_within 30 = .ok (.ifCond .ne 7, 3) := by decide +kernel
theorem dX8_within_33 : decode cX8_within 33 = .ok (.iconst 0, 1) := by decide +kernel
theorem dX8_within_34 : decode cX8_within 34 = .ok (.goto 7, 3) := by decide +kernel
theorem dX8_within_37 : decode cX8_within 37 = .ok (.aload_n 0, 1) := by decide +kernel
theorem dX8_within_38 : decode cX8_within 38 = .ok (.invokevirtual 157, 3) := by decide +kernel
theorem dX8_within_41 : decode cX8_within 41 = .ok (.iadd, 1) := by decide +kernel
theorem dX8_within_42 : decode cX8_within 42 = .ok (.i2l, 1) := by decide +kernel
theorem dX8_within_43 : decode cX8_within 43 = .ok (.aload_n 0, 1) := by decide +kernel
theorem dX8_within_44 : decode cX8_within 44 = .ok (.invokevirtual 160, 3) := by decide +kernel
theorem dX8_within_47 : decode cX8_within 47 = .ok (.iload_n 1, 1) := by decide +kernel
theorem dX8_within_48 : decode cX8_within 48 = .ok (.ifCond .ne 7, 3) := by decide +kernel
theorem dX8_within_51 : decode cX8_within 51 = .ok (.lconst 0, 1) := by decide +kernel
theorem dX8_within_52 : decode cX8_within 52 = .ok (.goto 8, 3) := by decide +kernel
theorem dX8_within_55 : decode cX8_within 55 = .ok (.aload_n 0, 1) := by decide +kernel
theorem dX8_within_56 : decode cX8_within 56 = .ok (.iconst 0, 1) := by decide +kernel
theorem dX8_within_57 : decode cX8_within 57 = .ok (.invokevirtual 164, 3) := by decide +kernel
theorem dX8_within_60 : decode cX8_within 60 = .ok (.ladd, 1) := by decide +kernel
theorem dX8_within_61 : decode cX8_within 61 = .ok (.invokevirtual 170, 3) := by decide +kernel
theorem dX8_within_64 : decode cX8_within 64 = .ok (.ireturn, 1) := by decide +kernel
theorem dX8_wrong_0 : decode cX8_wrong 0 = .ok (.iload_n 1, 1) := by decide +kernel
theorem dX8_wrong_1 : decode cX8_wrong 1 = .ok (.ifCond .ge 6, 3) := by decide +kernel
theorem dX8_wrong_4 : decode cX8_wrong 4 = .ok (.bipush (-2), 2) := by decide +kernel
theorem dX8_wrong_6 : decode cX8_wrong 6 = .ok (.ireturn, 1) := by decide +kernel
theorem dX8_wrong_7 : decode cX8_wrong 7 = .ok (.aload_n 0, 1) := by decide +kernel
theorem dX8_wrong_8 : decode cX8_wrong 8 = .ok (.getfield 73, 3) := by decide +kernel
theorem dX8_wrong_11 : decode cX8_wrong 11 = .ok (.iconst 1, 1) := by decide +kernel
theorem dX8_wrong_12 : decode cX8_wrong 12 = .ok (.iaload, 1) := by decide +kernel
theorem dX8_wrong_13 : decode cX8_wrong 13 = .ok (.ifCond .ne 8, 3) := by decide +kernel
theorem dX8_wrong_16 : decode cX8_wrong 16 = .ok (.bipush (-3), 2) := by decide +kernel
theorem dX8_wrong_18 : decode cX8_wrong 18 = .ok (.goto 8, 3) := by decide +kernel
theorem dX8_wrong_21 : decode cX8_wrong 21 = .ok (.aload_n 0, 1) := by decide +kernel
theorem dX8_wrong_22 : decode cX8_wrong 22 = .ok (.iload_n 1, 1) := by decide +kernel
theorem dX8_wrong_23 : decode cX8_wrong 23 = .ok (.invokevirtual 176, 3) := by decide +kernel
theorem dX8_wrong_26 : decode cX8_wrong 26 = .ok (.ireturn, 1) := by decide +kernel
