theorem dL_law_1049 : decode cL_law 1049 = .ok (.iconst 1, 1) := by decide +kernel
theorem dL_law_1050 : decode cL_law 1050 = .ok (.iadd, 1) := by decide +kernel
theorem dL_law_1051 : decode cL_law 1051 = .ok (.iaload, 1) := by decide +kernel
theorem dL_law_1052 : decode cL_law 1052 = .ok (.invokevirtual 134, 3) := by decide +kernel
theorem dL_law_1055 : decode cL_law 1055 = .ok (.pop, 1) := by decide +kernel
theorem dL_law_1056 : decode cL_law 1056 = .ok (.goto 59, 3) := by decide +kernel
theorem dL_law_1059 : decode cL_law 1059 = .ok (.aload_n 1, 1) := by decide +kernel
theorem dL_law_1060 : decode cL_law 1060 = .ok (.aload_n 0, 1) := by decide +kernel
theorem dL_law_1061 : decode cL_law 1061 = .ok (.iload_n 3, 1) := by decide +kernel
theorem dL_law_1062 : decode cL_law 1062 = .ok (.iconst 1, 1) := by decide +kernel
theorem dL_law_1063 : decode cL_law 1063 = .ok (.iadd, 1) := by decide +kernel
theorem dL_law_1064 : decode cL_law 1064 = .ok (.iaload, 1) := by decide +kernel
theorem dL_law_1065 : decode cL_law 1065 = .ok (.aload_n 0, 1) := by decide +kernel
theorem dL_law_1066 : decode cL_law 1066 = .ok (.iload_n 3, 1) := by decide +kernel
theorem dL_law_1067 : decode cL_law 1067 = .ok (.iconst 2, 1) := by decide +kernel
theorem dL_law_1068 : decode cL_law 1068 = .ok (.iadd, 1) := by decide +kernel
theorem dL_law_1069 : decode cL_law 1069 = .ok (.iaload, 1) := by decide +kernel
theorem dL_law_1070 : decode cL_law 1070 = .ok (.invokevirtual 135, 3) := by decide +kernel
theorem dL_law_1073 : decode cL_law 1073 = .ok (.pop, 1) := by decide +kernel
theorem dL_law_1074 : decode cL_law 1074 = .ok (.aload_n 2, 1) := by decide +kernel
theorem dL_law_1075 : decode cL_law 1075 = .ok (.aload_n 0, 1) := by decide +kernel
theorem dL_law_1076 : decode cL_law 1076 = .ok (.iload_n 3, 1) := by decide +kernel
theorem dL_law_1077 : decode cL_law 1077 = .ok (.iconst 1, 1) := by decide +kernel
theorem dL_law_1078 : decode cL_law 1078 = .ok (.iadd, 1) := by decide +kernel
theorem dL_law_1079 : decode cL_law 1079 = .ok (.iaload, 1) := by decide +kernel
theorem dL_law_1080 : decode cL_law 1080 = .ok (.aload_n 0, 1) := by decide +kernel
theorem dL_law_1081 : decode cL_law 1081 = .ok (.iload_n 3, 1) := by decide +kernel
theorem dL_law_1082 : decode cL_law 1082 = .ok (.iconst 2, 1) := by decide +kernel
theorem dL_law_1083 : decode cL_law 1083 = .ok (.iadd, 1) := by decide +kernel
theorem dL_law_1084 : decode cL_law 1084 = .ok (.iaload, 1) := by decide +kernel
theorem dL_law_1085 : decode cL_law 1085 = .ok (.invokevirtual 138, 3) := by decide +kernel
theorem dL_law_1088 : decode cL_law 1088 = .ok (.pop, 1) := by decide +kernel
theorem dL_law_1089 : decode cL_law 1089 = .ok (.goto 26, 3) := by decide +kernel
theorem dL_law_1092 : decode cL_law 1092 = .ok (.aload_n 1, 1) := by decide +kernel
theorem dL_law_1093 : decode cL_law 1093 = .ok (.aload_n 0, 1) := by decide +kernel
theorem dL_law_1094 : decode cL_law 1094 = .ok (.iload_n 3, 1) := by decide +kernel
theorem dL_law_1095 : decode cL_law 1095 = .ok (.iconst 1, 1) := by decide +kernel
theorem dL_law_1096 : decode cL_law 1096 = .ok (.iadd, 1) := by decide +kernel
theorem dL_law_1097 : decode cL_law 1097 = .ok (.iaload, 1) := by decide +kernel
theorem dL_law_1098 : decode cL_law 1098 = .ok (.invokevirtual 139, 3) := by decide +kernel
theorem dL_law_1101 : decode cL_law 1101 = .ok (.pop, 1) := by decide +kernel
theorem dL_law_1102 : decode cL_law 1102 = .ok (.aload_n 2, 1) := by decide +kernel
theorem dL_law_1103 : decode cL_law 1103 = .ok (.aload_n 0, 1) := by decide +kernel
theorem dL_law_1104 : decode cL_law 1104 = .ok (.iload_n 3, 1) := by decide +kernel
theorem dL_law_1105 : decode cL_law 1105 = .ok (.iconst 1, 1) := by decide +kernel
theorem dL_law_1106 : decode cL_law 1106 = .ok (.iadd, 1) := by decide +kernel
theorem dL_law_1107 : decode cL_law 1107 = .ok (.iaload, 1) := by decide +kernel
theorem dL_law_1108 : decode cL_law 1108 = .ok (.invokevirtual 142, 3) := by decide +kernel
theorem dL_law_1111 : decode cL_law 1111 = .ok (.pop, 1) := by decide +kernel
theorem dL_law_1112 : decode cL_law 1112 = .ok (.goto 3, 3) := by decide +kernel
theorem dL_law_1115 : decode cL_law 1115 = .ok (.iinc 3 5, 3) := by decide +kernel
theorem dL_law_1118 : decode cL_law 1118 = .ok (.goto (-1100), 3) := by decide +kernel
theorem dL_law_1121 : decode cL_law 1121 = .ok (.iconst 1, 1) := by decide +kernel
theorem dL_law_1122 : decode cL_law 1122 = .ok (.ireturn, 1) := by decide +kernel
theorem dX0_addRow_0 : decode cX0_addRow 0 = .ok (.aload_n 0, 1) := by decide +kernel
theorem dX0_addRow_1 : decode cX0_addRow 1 = .ok (.getfield 21, 3) := by decide +kernel
theorem dX0_addRow_4 : decode cX0_addRow 4 = .ok (.bipush 10, 2) := by decide +kernel
theorem dX0_addRow_6 : decode cX0_addRow 6 = .ok (.if_icmp .lt 6, 3) := by decide +kernel
theorem dX0_addRow_9 : decode cX0_addRow 9 = .ok (.bipush (-4), 2) := by decide +kernel
theorem dX0_addRow_11 : decode cX0_addRow 11 = .ok (.ireturn, 1) := by decide +kernel
theorem dX0_addRow_12 : decode cX0_addRow 12 = .ok (.aload_n 0, 1) := by decide +kernel
theorem dX0_addRow_13 : decode cX0_addRow 13 = .ok (.getfield 11, 3) := by decide +kernel
theorem dX0_addRow_16 : decode cX0_addRow 16 = .ok (.aload_n 0, 1) := by decide +kernel
theorem dX0_addRow_17 : decode cX0_addRow 17 = .ok (.getfield 21, 3) := by decide +kernel
theorem dX0_addRow_20 : decode cX0_addRow 20 = .ok (.iload_n 1, 1) := by decide +kernel
theorem dX0_addRow_21 : decode cX0_addRow 21 = .ok (.iastore, 1) := by decide +kernel
theorem dX0_addRow_22 : decode cX0_addRow 22 = .ok (.aload_n 0, 1) := by decide +kernel
theorem dX0_addRow_23 : decode cX0_addRow 23 = .ok (.getfield 15, 3) := by decide +kernel
theorem dX0_addRow_26 : decode cX0_addRow 26 = .ok (.aload_n 0, 1) := by decide +kernel
theorem dX0_addRow_27 : decode cX0_addRow 27 = .ok (.getfield 21, 3) := by decide +kernel
theorem dX0_addRow_30 : decode cX0_addRow 30 = .ok (.iload_n 2, 1) := by decide +kernel
theorem dX0_addRow_31 : decode cX0_addRow 31 = .ok (.iastore, 1) := by decide +kernel
theorem dX0_addRow_32 : decode cX0_addRow 32 = .ok (.aload_n 0, 1) := by decide +kernel
theorem dX0_addRow_33 : decode cX0_addRow 33 = .ok (.dup, 1) := by decide +kernel
theorem dX0_addRow_34 : decode cX0_addRow 34 = .ok (.getfield 21, 3) := by decide +kernel
theorem dX0_addRow_37 : decode cX0_addRow 37 = .ok (.dup_x1, 1) := by decide +kernel
theorem dX0_addRow_38 : decode cX0_addRow 38 = .ok (.iconst 1, 1) := by decide +kernel
theorem dX0_addRow_39 : decode cX0_addRow 39 = .ok (.iadd, 1) := by decide +kernel
theorem dX0_addRow_40 : decode cX0_addRow 40 = .ok (.putfield 21, 3) := by decide +kernel
theorem dX0_addRow_43 : decode cX0_addRow 43 = .ok (.ireturn, 1) := by decide +kernel
theorem dX0_init_0 : decode cX0_init 0 = .ok (.aload_n 0, 1) := by decide +kernel
theorem dX0_init_1 : decode cX0_init 1 = .ok (.invokespecial 3, 3) := by decide +kernel
theorem dX0_init_4 : decode cX0_init 4 = .ok (.aload_n 0, 1) := by decide +kernel
theorem dX0_init_5 : decode cX0_init 5 = .ok (.bipush 10, 2) := by decide +kernel
theorem dX0_init_7 : decode cX0_init 7 = .ok (.newarray .int, 2) := by decide +kernel
theorem dX0_init_9 : decode cX0_init 9 = .ok (.putfield 11, 3) := by decide +kernel
theorem dX0_init_12 : decode cX0_init 12 = .ok (.aload_n 0, 1) := by decide +kernel
theorem dX0_init_13 : decode cX0_init 13 = .ok (.bipush 10, 2) := by decide +kernel
theorem dX0_init_15 : decode cX0_init 15 = .ok (.newarray .int, 2) := by decide +kernel
theorem dX0_init_17 : decode cX0_init 17 = .ok (.putfield 15, 3) := by decide +kernel
theorem dX0_init_20 : decode cX0_init 20 = .ok (.aload_n 0, 1) := by decide +kernel
theorem dX0_init_21 : decode cX0_init 21 = .ok (.bipush 10, 2) := by decide +kernel
theorem dX0_init_23 : decode cX0_init 23 = .ok (.newarray .int, 2) := by decide +kernel
theorem dX0_init_25 : decode cX0_init 25 = .ok (.putfield 18, 3) := by decide +kernel
theorem dX0_init_28 : decode cX0_init 28 = .ok (.aload_n 0, 1) := by decide +kernel
theorem dX0_init_29 : decode cX0_init 29 = .ok (.iconst 0, 1) := by decide +kernel
theorem dX0_init_30 : decode cX0_init 30 = .ok (.putfield 21, 3) := by decide +kernel
theorem dX0_init_33 : decode cX0_init 33 = .ok (.aload_n 0, 1) := by decide +kernel
theorem dX0_init_34 : decode cX0_init 34 = .ok (.bipush 80, 2) := by decide +kernel
theorem dX0_init_36 : decode cX0_init 36 = .ok (.putfield 25, 3) := by decide +kernel
theorem dX0_init_39 : decode cX0_init 39 = .ok (.return_, 1) := by decide +kernel
theorem dX0_leanIn_0 : decode cX0_leanIn 0 = .ok (.aload_n 0, 1) := by decide +kernel
theorem dX0_leanIn_1 : decode cX0_leanIn 1 = .ok (.getfield 25, 3) := by decide +kernel
theorem dX0_leanIn_4 : decode cX0_leanIn 4 = .ok (.i2l, 1) := by decide +kernel
theorem dX0_leanIn_5 : decode cX0_leanIn 5 = .ok (.aload_n 0, 1) := by decide +kernel
theorem dX0_leanIn_6 : decode cX0_leanIn 6 = .ok (.getfield 11, 3) := by decide +kernel
theorem dX0_leanIn_9 : decode cX0_leanIn 9 = .ok (.iload_n 1, 1) := by decide +kernel
theorem dX0_leanIn_10 : decode cX0_leanIn 10 = .ok (.iaload, 1) := by decide +kernel
theorem dX0_leanIn_11 : decode cX0_leanIn 11 = .ok (.iload_n 2, 1) := by decide +kernel
theorem dX0_leanIn_12 : decode cX0_leanIn 12 = .ok (.isub, 1) := by decide +kernel
theorem dX0_leanIn_13 : decode cX0_leanIn 13 = .ok (.i2l, 1) := by decide +kernel
theorem dX0_leanIn_14 : decode cX0_leanIn 14 = .ok (.lmul, 1) := by decide +kernel
theorem dX0_leanIn_15 : decode cX0_leanIn 15 = .ok (.lreturn, 1) := by decide +kernel
theorem dX0_nearestRow_0 : decode cX0_nearestRow 0 = .ok (.iconst (-1), 1) := by decide +kernel
theorem dX0_nearestRow_1 : decode cX0_nearestRow 1 = .ok (.istore 4, 2) := by decide +kernel
theorem dX0_nearestRow_3 : decode cX0_nearestRow 3 = .ok (.lconst 0, 1) := by decide +kernel
theorem dX0_nearestRow_4 : decode cX0_nearestRow 4 = .ok (.lstore 5, 2) := by decide +kernel
theorem dX0_nearestRow_6 : decode cX0_nearestRow 6 = .ok (.iconst 0, 1) := by decide +kernel
theorem dX0_nearestRow_7 : decode cX0_nearestRow 7 = .ok (.istore 7, 2) := by decide +kernel
theorem dX0_nearestRow_9 : decode cX0_nearestRow 9 = .ok (.iload 7, 2) := by decide +kernel
theorem dX0_nearestRow_11 : decode cX0_nearestRow 11 = .ok (.aload_n 0, 1) := by decide +kernel
theorem dX0_nearestRow_12 : decode cX0_nearestRow 12 = .ok (.getfield 21, 3) := by decide +kernel
theorem dX0_nearestRow_15 : decode cX0_nearestRow 15 = .ok (.if_icmp .ge 62, 3) := by decide +kernel
theorem dX0_nearestRow_18 : decode cX0_nearestRow 18 = .ok (.lload_n 2, 1) := by decide +kernel
theorem dX0_nearestRow_19 : decode cX0_nearestRow 19 = .ok (.aload_n 0, 1) := by decide +kernel
theorem dX0_nearestRow_20 : decode cX0_nearestRow 20 = .ok (.iload 7, 2) := by decide +kernel
theorem dX0_nearestRow_22 : decode cX0_nearestRow 22 = .ok (.iload_n 1, 1) := by decide +kernel
theorem dX0_nearestRow_23 : decode cX0_nearestRow 23 = .ok (.invokevirtual 32, 3) := by decide +kernel
theorem dX0_nearestRow_26 : decode cX0_nearestRow 26 = .ok (.ladd, 1) := by decide +kernel
theorem dX0_nearestRow_27 : decode cX0_nearestRow 27 = .ok (.invokestatic 40, 3) := by decide +kernel
theorem dX0_nearestRow_30 : decode cX0_nearestRow 30 = .ok (.lstore 8, 2) := by decide +kernel
theorem dX0_nearestRow_32 : decode cX0_nearestRow 32 = .ok (.aload_n 0, 1) := by decide +kernel
theorem dX0_nearestRow_33 : decode cX0_nearestRow 33 = .ok (.getfield 18, 3) := by decide +kernel
theorem dX0_nearestRow_36 : decode cX0_nearestRow 36 = .ok (.iload 7, 2) := by decide +kernel
theorem dX0_nearestRow_38 : decode cX0_nearestRow 38 = .ok (.iaload, 1) := by decide +kernel
theorem dX0_nearestRow_39 : decode cX0_nearestRow 39 = .ok (.aload_n 0, 1) := by decide +kernel
theorem dX0_nearestRow_40 : decode cX0_nearestRow 40 = .ok (.getfield 15, 3) := by decide +kernel
theorem dX0_nearestRow_43 : decode cX0_nearestRow 43 = .ok (.iload 7, 2) := by decide +kernel
theorem dX0_nearestRow_45 : decode cX0_nearestRow 45 = .ok (.iaload, 1) := by decide +kernel
theorem dX0_nearestRow_46 : decode cX0_nearestRow 46 = .ok (.if_icmp .ge 25, 3) := by decide +kernel
theorem dX0_nearestRow_49 : decode cX0_nearestRow 49 = .ok (.iload 4, 2) := by decide +kernel
theorem dX0_nearestRow_51 : decode cX0_nearestRow 51 = .ok (.iconst (-1), 1) := by decide +kernel
theorem dX0_nearestRow_52 : decode cX0_nearestRow 52 = .ok (.if_icmp .eq 11, 3) := by decide +kernel
theorem dX0_nearestRow_55 : decode cX0_nearestRow 55 = .ok (.lload 8, 2) := by decide +kernel
theorem dX0_nearestRow_57 : decode cX0_nearestRow 57 = .ok (.lload 5, 2) := by decide +kernel
theorem dX0_nearestRow_59 : decode cX0_nearestRow 59 = .ok (.lcmp, 1) := by decide +kernel
theorem dX0_nearestRow_60 : decode cX0_nearestRow 60 = .ok (.ifCond .ge 11, 3) := by decide +kernel
theorem dX0_nearestRow_63 : decode cX0_nearestRow 63 = .ok (.iload 7, 2) := by decide +kernel
theorem dX0_nearestRow_65 : decode cX0_nearestRow 65 = .ok (.istore 4, 2) := by decide +kernel
theorem dX0_nearestRow_67 : decode cX0_nearestRow 67 = .ok (.lload 8, 2) := by decide +kernel
theorem dX0_nearestRow_69 : decode cX0_nearestRow 69 = .ok (.lstore 5, 2) := by decide +kernel
theorem dX0_nearestRow_71 : decode cX0_nearestRow 71 = .ok (.iinc 7 1, 3) := by decide +kernel
theorem dX0_nearestRow_74 : decode cX0_nearestRow 74 = .ok (.goto (-65), 3) := by decide +kernel
theorem dX0_nearestRow_77 : decode cX0_nearestRow 77 = .ok (.iload 4, 2) := by decide +kernel
theorem dX0_nearestRow_79 : decode cX0_nearestRow 79 = .ok (.ireturn, 1) := by decide +kernel
theorem dX0_passengers_0 : decode cX0_passengers 0 = .ok (.iconst 0, 1) := by decide +kernel
theorem dX0_passengers_1 : decode cX0_passengers 1 = .ok (.istore_n 1, 1) := by decide +kernel
theorem dX0_passengers_2 : decode cX0_passengers 2 = .ok (.iconst 0, 1) := by decide +kernel
theorem dX0_passengers_3 : decode cX0_passengers 3 = .ok (.istore_n 2, 1) := by decide +kernel
theorem dX0_passengers_4 : decode cX0_passengers 4 = .ok (.iload_n 2, 1) := by decide +kernel
theorem dX0_passengers_5 : decode cX0_passengers 5 = .ok (.aload_n 0, 1) := by decide +kernel
theorem dX0_passengers_6 : decode cX0_passengers 6 = .ok (.getfield 21, 3) := by decide +kernel
theorem dX0_passengers_9 : decode cX0_passengers 9 = .ok (.if_icmp .ge 18, 3) := by decide +kernel
theorem dX0_passengers_12 : decode cX0_passengers 12 = .ok (.iload_n 1, 1) := by decide +kernel
theorem dX0_passengers_13 : decode cX0_passengers 13 = .ok (.aload_n 0, 1) := by decide +kernel
theorem dX0_passengers_14 : decode cX0_passengers 14 = .ok (.getfield 18, 3) := by decide +kernel
theorem dX0_passengers_17 : decode cX0_passengers 17 = .ok (.iload_n 2, 1) := by decide +kernel
theorem dX0_passengers_18 : decode cX0_passengers 18 = .ok (.iaload, 1) := by decide +kernel
theorem dX0_passengers_19 : decode cX0_passengers 19 = .ok (.iadd, 1) := by decide +kernel
theorem dX0_passengers_20 : decode cX0_passengers 20 = .ok (.istore_n 1, 1) := by decide +kernel
theorem dX0_passengers_21 : decode cX0_passengers 21 = .ok (.iinc 2 1, 3) := by decide +kernel
theorem dX0_passengers_24 : decode cX0_passengers 24 = .ok (.goto (-20), 3) := by decide +kernel
theorem dX0_passengers_27 : decode cX0_passengers 27 = .ok (.iload_n 1, 1) := by decide +kernel
theorem dX0_passengers_28 : decode cX0_passengers 28 = .ok (.ireturn, 1) := by decide +kernel
theorem dX0_seatLate_0 : decode cX0_seatLate 0 = .ok (.lload_n 3, 1) := by decide +kernel
theorem dX0_seatLate_1 : decode cX0_seatLate 1 = .ok (.lstore 5, 2) := by decide +kernel
theorem dX0_seatLate_3 : decode cX0_seatLate 3 = .ok (.iconst 0, 1) := by decide +kernel
theorem dX0_seatLate_4 : decode cX0_seatLate 4 = .ok (.istore 7, 2) := by decide +kernel
theorem dX0_seatLate_6 : decode cX0_seatLate 6 = .ok (.iload 7, 2) := by decide +kernel
theorem dX0_seatLate_8 : decode cX0_seatLate 8 = .ok (.iload_n 1, 1) := by decide +kernel
theorem dX0_seatLate_9 : decode cX0_seatLate 9 = .ok (.if_icmp .ge 50, 3) := by decide +kernel
theorem dX0_seatLate_12 : decode cX0_seatLate 12 = .ok (.aload_n 0, 1) := by decide +kernel
theorem dX0_seatLate_13 : decode cX0_seatLate 13 = .ok (.iload_n 2, 1) := by decide +kernel
theorem dX0_seatLate_14 : decode cX0_seatLate 14 = .ok (.lload 5, 2) := by decide +kernel
theorem dX0_seatLate_16 : decode cX0_seatLate 16 = .ok (.invokevirtual 36, 3) := by decide +kernel
theorem dX0_seatLate_19 : decode cX0_seatLate 19 = .ok (.istore 8, 2) := by decide +kernel
theorem dX0_seatLate_21 : decode cX0_seatLate 21 = .ok (.iload 8, 2) := by decide +kernel
theorem dX0_seatLate_23 : decode cX0_seatLate 23 = .ok (.iconst (-1), 1) := by decide +kernel
theorem dX0_seatLate_24 : decode cX0_seatLate 24 = .ok (.if_icmp .ne 6, 3) := by decide +kernel
theorem dX0_seatLate_27 : decode cX0_seatLate 27 = .ok (.iload 7, 2) := by decide +kernel
theorem dX0_seatLate_29 : decode cX0_seatLate 29 = .ok (.ireturn, 1) := by decide +kernel
theorem dX0_seatLate_30 : decode cX0_seatLate 30 = .ok (.aload_n 0, 1) := by decide +kernel
theorem dX0_seatLate_31 : decode cX0_seatLate 31 = .ok (.getfield 18, 3) := by decide +kernel
theorem dX0_seatLate_34 : decode cX0_seatLate 34 = .ok (.iload 8, 2) := by decide +kernel
theorem dX0_seatLate_36 : decode cX0_seatLate 36 = .ok (.dup2, 1) := by decide +kernel
theorem dX0_seatLate_37 : decode cX0_seatLate 37 = .ok (.iaload, 1) := by decide +kernel
theorem dX0_seatLate_38 : decode cX0_seatLate 38 = .ok (.iconst 1, 1) := by decide +kernel
theorem dX0_seatLate_39 : decode cX0_seatLate 39 = .ok (.iadd, 1) := by decide +kernel
theorem dX0_seatLate_40 : decode cX0_seatLate 40 = .ok (.iastore, 1) := by decide +kernel
theorem dX0_seatLate_41 : decode cX0_seatLate 41 = .ok (.lload 5, 2) := by decide +kernel
theorem dX0_seatLate_43 : decode cX0_seatLate 43 = .ok (.aload_n 0, 1) := by decide +kernel
theorem dX0_seatLate_44 : decode cX0_seatLate 44 = .ok (.iload 8, 2) := by decide +kernel
theorem dX0_seatLate_46 : decode cX0_seatLate 46 = .ok (.iload_n 2, 1) := by decide +kernel
theorem dX0_seatLate_47 : decode cX0_seatLate 47 = .ok (.invokevirtual 32, 3) := by decide +kernel
theorem dX0_seatLate_50 : decode cX0_seatLate 50 = .ok (.ladd, 1) := by decide +kernel
theorem dX0_seatLate_51 : decode cX0_seatLate 51 = .ok (.lstore 5, 2) := by decide +kernel
theorem dX0_seatLate_53 : decode cX0_seatLate 53 = .ok (.iinc 7 1, 3) := by decide +kernel
theorem dX0_seatLate_56 : decode cX0_seatLate 56 = .ok (.goto (-50), 3) := by decide +kernel
theorem dX0_seatLate_59 : decode cX0_seatLate 59 = .ok (.iload_n 1, 1) := by decide +kernel
theorem dX0_seatLate_60 : decode cX0_seatLate 60 = .ok (.ireturn, 1) := by decide +kernel
theorem dX0_takenMoment_0 : decode cX0_takenMoment 0 = .ok (.lconst 0, 1) := by decide +kernel
theorem dX0_takenMoment_1 : decode cX0_takenMoment 1 = .ok (.lstore_n 1, 1) := by decide +kernel
theorem dX0_takenMoment_2 : decode cX0_takenMoment 2 = .ok (.iconst 0, 1) := by decide +kernel
theorem dX0_takenMoment_3 : decode cX0_takenMoment 3 = .ok (.istore_n 3, 1) := by decide +kernel
theorem dX0_takenMoment_4 : decode cX0_takenMoment 4 = .ok (.iload_n 3, 1) := by decide +kernel
theorem dX0_takenMoment_5 : decode cX0_takenMoment 5 = .ok (.aload_n 0, 1) := by decide +kernel
theorem dX0_takenMoment_6 : decode cX0_takenMoment 6 = .ok (.getfield 21, 3) := by decide +kernel
theorem dX0_takenMoment_9 : decode cX0_takenMoment 9 = .ok (.if_icmp .ge 26, 3) := by decide +kernel
theorem dX0_takenMoment_12 : decode cX0_takenMoment 12 = .ok (.lload_n 1, 1) := by decide +kernel
theorem dX0_takenMoment_13 : decode cX0_takenMoment 13 = .ok (.aload_n 0, 1) := by decide +kernel
theorem dX0_takenMoment_14 : decode cX0_takenMoment 14 = .ok (.getfield 18, 3) := by decide +kernel
theorem dX0_takenMoment_17 : decode cX0_takenMoment 17 = .ok (.iload_n 3, 1) := by decide +kernel
theorem dX0_takenMoment_18 : decode cX0_takenMoment 18 = .ok (.iaload, 1) := by decide +kernel
theorem dX0_takenMoment_19 : decode cX0_takenMoment 19 = .ok (.i2l, 1) := by decide +kernel
theorem dX0_takenMoment_20 : decode cX0_takenMoment 20 = .ok (.aload_n 0, 1) := by decide +kernel
theorem dX0_takenMoment_21 : decode cX0_takenMoment 21 = .ok (.iload_n 3, 1) := by decide +kernel
theorem dX0_takenMoment_22 : decode cX0_takenMoment 22 = .ok (.iconst 0, 1) := by decide +kernel
theorem dX0_takenMoment_23 : decode cX0_takenMoment 23 = .ok (.invokevirtual 32, 3) := by decide +kernel
theorem dX0_takenMoment_26 : decode cX0_takenMoment 26 = .ok (.lmul, 1) := by decide +kernel
theorem dX0_takenMoment_27 : decode cX0_takenMoment 27 = .ok (.ladd, 1) := by decide +kernel
theorem dX0_takenMoment_28 : decode cX0_takenMoment 28 = .ok (.lstore_n 1, 1) := by decide +kernel
theorem dX0_takenMoment_29 : decode cX0_takenMoment 29 = .ok (.iinc 3 1, 3) := by decide +kernel
theorem dX0_takenMoment_32 : decode cX0_takenMoment 32 = .ok (.goto (-28), 3) := by decide +kernel
theorem dX0_takenMoment_35 : decode cX0_takenMoment 35 = .ok (.lload_n 1, 1) := by decide +kernel
theorem dX0_takenMoment_36 : decode cX0_takenMoment 36 = .ok (.lreturn, 1) := by decide +kernel
theorem dX0_takenWeight_0 : decode cX0_takenWeight 0 = .ok (.aload_n 0, 1) := by decide +kernel
theorem dX0_takenWeight_1 : decode cX0_takenWeight 1 = .ok (.invokevirtual 28, 3) := by decide +kernel
theorem dX0_takenWeight_4 : decode cX0_takenWeight 4 = .ok (.aload_n 0, 1) := by decide +kernel
theorem dX0_takenWeight_5 : decode cX0_takenWeight 5 = .ok (.getfield 25, 3) := by decide +kernel
theorem dX0_takenWeight_8 : decode cX0_takenWeight 8 = .ok (.imul, 1) := by decide +kernel
theorem dX0_takenWeight_9 : decode cX0_takenWeight 9 = .ok (.ireturn, 1) := by decide +kernel
theorem dX1_addHold_0 : decode cX1_addHold 0 = .ok (.aload_n 0, 1) := by decide +kernel
theorem dX1_addHold_1 : decode cX1_addHold 1 = .ok (.getfield 21, 3) := by decide +kernel
theorem dX1_addHold_4 : decode cX1_addHold 4 = .ok (.iconst 4, 1) := by decide +kernel
theorem dX1_addHold_5 : decode cX1_addHold 5 = .ok (.if_icmp .lt 6, 3) := by decide +kernel
theorem dX1_addHold_8 : decode cX1_addHold 8 = .ok (.bipush (-4), 2) := by decide +kernel
theorem dX1_addHold_10 : decode cX1_addHold 10 = .ok (.ireturn, 1) := by decide +kernel
theorem dX1_addHold_11 : decode cX1_addHold 11 = .ok (.aload_n 0, 1) := by decide +kernel
theorem dX1_addHold_12 : decode cX1_addHold 12 = .ok (.getfield 11, 3) := by decide +kernel
theorem dX1_addHold_15 : decode cX1_addHold 15 = .ok (.aload_n 0, 1) := by decide +kernel
theorem dX1_addHold_16 : decode cX1_addHold 16 = .ok (.getfield 21, 3) := by decide +kernel
theorem dX1_addHold_19 : decode cX1_addHold 19 = .ok (.iload_n 1, 1) := by decide +kernel
theorem dX1_addHold_20 : decode cX1_addHold 20 = .ok (.iastore, 1) := by decide +kernel
theorem dX1_addHold_21 : decode cX1_addHold 21 = .ok (.aload_n 0, 1) := by decide +kernel
theorem dX1_addHold_22 : decode cX1_addHold 22 = .ok (.getfield 15, 3) := by decide +kernel
theorem dX1_addHold_25 : decode cX1_addHold 25 = .ok (.aload_n 0, 1) := by decide +kernel
theorem dX1_addHold_26 : decode cX1_addHold 26 = .ok (.getfield 21, 3) := by decide +kernel
theorem dX1_addHold_29 : decode cX1_addHold 29 = .ok (.iload_n 2, 1) := by decide +kernel
theorem dX1_addHold_30 : decode cX1_addHold 30 = .ok (.iastore, 1) := by decide +kernel
theorem dX1_addHold_31 : decode cX1_addHold 31 = .ok (.aload_n 0, 1) := by decide +kernel
theorem dX1_addHold_32 : decode cX1_addHold 32 = .ok (.dup, 1) := by decide +kernel
theorem dX1_addHold_33 : decode cX1_addHold 33 = .ok (.getfield 21, 3) := by decide +kernel
theorem dX1_addHold_36 : decode cX1_addHold 36 = .ok (.dup_x1, 1) := by decide +kernel
theorem dX1_addHold_37 : decode cX1_addHold 37 = .ok (.iconst 1, 1) := by decide +kernel
theorem dX1_addHold_38 : decode cX1_addHold 38 = .ok (.iadd, 1) := by decide +kernel
theorem dX1_addHold_39 : decode cX1_addHold 39 = .ok (.putfield 21, 3) := by decide +kernel
theorem dX1_addHold_42 : decode cX1_addHold 42 = .ok (.ireturn, 1) := by decide +kernel
theorem dX1_addItem_0 : decode cX1_addItem 0 = .ok (.aload_n 0, 1) := by decide +kernel
theorem dX1_addItem_1 : decode cX1_addItem 1 = .ok (.getfield 49, 3) := by decide +kernel
theorem dX1_addItem_4 : decode cX1_addItem 4 = .ok (.bipush 40, 2) := by decide +kernel
theorem dX1_addItem_6 : decode cX1_addItem 6 = .ok (.if_icmp .lt 6, 3) := by decide +kernel
theorem dX1_addItem_9 : decode cX1_addItem 9 = .ok (.bipush (-4), 2) := by decide +kernel
theorem dX1_addItem_11 : decode cX1_addItem 11 = .ok (.ireturn, 1) := by decide +kernel
theorem dX1_addItem_12 : decode cX1_addItem 12 = .ok (.aload_n 0, 1) := by decide +kernel
theorem dX1_addItem_13 : decode cX1_addItem 13 = .ok (.getfield 34, 3) := by decide +kernel
theorem dX1_addItem_16 : decode cX1_addItem 16 = .ok (.aload_n 0, 1) := by decide +kernel
theorem dX1_addItem_17 : decode cX1_addItem 17 = .ok (.getfield 49, 3) := by decide +kernel
theorem dX1_addItem_20 : decode cX1_addItem 20 = .ok (.iload_n 1, 1) := by decide +kernel
theorem dX1_addItem_21 : decode cX1_addItem 21 = .ok (.iastore, 1) := by decide +kernel
theorem dX1_addItem_22 : decode cX1_addItem 22 = .ok (.aload_n 0, 1) := by decide +kernel
theorem dX1_addItem_23 : decode cX1_addItem 23 = .ok (.getfield 37, 3) := by decide +kernel
theorem dX1_addItem_26 : decode cX1_addItem 26 = .ok (.aload_n 0, 1) := by decide +kernel
theorem dX1_addItem_27 : decode cX1_addItem 27 = .ok (.getfield 49, 3) := by decide +kernel
theorem dX1_addItem_30 : decode cX1_addItem 30 = .ok (.iload_n 2, 1) := by decide +kernel
theorem dX1_addItem_31 : decode cX1_addItem 31 = .ok (.iastore, 1) := by decide +kernel
theorem dX1_addItem_32 : decode cX1_addItem 32 = .ok (.aload_n 0, 1) := by decide +kernel
theorem dX1_addItem_33 : decode cX1_addItem 33 = .ok (.getfield 40, 3) := by decide +kernel
theorem dX1_addItem_36 : decode cX1_addItem 36 = .ok (.aload_n 0, 1) := by decide +kernel
theorem dX1_addItem_37 : decode cX1_addItem 37 = .ok (.getfield 49, 3) := by decide +kernel
theorem dX1_addItem_40 : decode cX1_addItem 40 = .ok (.iload_n 3, 1) := by decide +kernel
theorem dX1_addItem_41 : decode cX1_addItem 41 = .ok (.iastore, 1) := by decide +kernel
theorem dX1_addItem_42 : decode cX1_addItem 42 = .ok (.aload_n 0, 1) := by decide +kernel
theorem dX1_addItem_43 : decode cX1_addItem 43 = .ok (.aload_n 0, 1) := by decide +kernel
theorem dX1_addItem_44 : decode cX1_addItem 44 = .ok (.getfield 49, 3) := by decide +kernel
theorem dX1_addItem_47 : decode cX1_addItem 47 = .ok (.iload_n 1, 1) := by decide +kernel
theorem dX1_addItem_48 : decode cX1_addItem 48 = .ok (.invokevirtual 69, 3) := by decide +kernel
theorem dX1_addItem_51 : decode cX1_addItem 51 = .ok (.aload_n 0, 1) := by decide +kernel
theorem dX1_addItem_52 : decode cX1_addItem 52 = .ok (.dup, 1) := by decide +kernel
theorem dX1_addItem_53 : decode cX1_addItem 53 = .ok (.getfield 49, 3) := by decide +kernel
theorem dX1_addItem_56 : decode cX1_addItem 56 = .ok (.dup_x1, 1) := by decide +kernel
theorem dX1_addItem_57 : decode cX1_addItem 57 = .ok (.iconst 1, 1) := by decide +kernel
theorem dX1_addItem_58 : decode cX1_addItem 58 = .ok (.iadd, 1) := by decide +kernel
theorem dX1_addItem_59 : decode cX1_addItem 59 = .ok (.putfield 49, 3) := by decide +kernel
theorem dX1_addItem_62 : decode cX1_addItem 62 = .ok (.ireturn, 1) := by decide +kernel
theorem dX1_addSlot_0 : decode cX1_addSlot 0 = .ok (.aload_n 0, 1) := by decide +kernel
theorem dX1_addSlot_1 : decode cX1_addSlot 1 = .ok (.getfield 18, 3) := by decide +kernel
theorem dX1_addSlot_4 : decode cX1_addSlot 4 = .ok (.iload_n 1, 1) := by decide +kernel
theorem dX1_addSlot_5 : decode cX1_addSlot 5 = .ok (.iaload, 1) := by decide +kernel
theorem dX1_addSlot_6 : decode cX1_addSlot 6 = .ok (.istore 4, 2) := by decide +kernel
theorem dX1_addSlot_8 : decode cX1_addSlot 8 = .ok (.iload 4, 2) := by decide +kernel
theorem dX1_addSlot_10 : decode cX1_addSlot 10 = .ok (.bipush 8, 2) := by decide +kernel
theorem dX1_addSlot_12 : decode cX1_addSlot 12 = .ok (.if_icmp .lt 6, 3) := by decide +kernel
theorem dX1_addSlot_15 : decode cX1_addSlot 15 = .ok (.bipush (-4), 2) := by decide +kernel
theorem dX1_addSlot_17 : decode cX1_addSlot 17 = .ok (.ireturn, 1) := by decide +kernel
theorem dX1_addSlot_18 : decode cX1_addSlot 18 = .ok (.aload_n 0, 1) := by decide +kernel
theorem dX1_addSlot_19 : decode cX1_addSlot 19 = .ok (.getfield 25, 3) := by decide +kernel
theorem dX1_addSlot_22 : decode cX1_addSlot 22 = .ok (.iload_n 1, 1) := by decide +kernel
theorem dX1_addSlot_23 : decode cX1_addSlot 23 = .ok (.iload 4, 2) := by decide +kernel
theorem dX1_addSlot_25 : decode cX1_addSlot 25 = .ok (.invokestatic 65, 3) := by decide +kernel
theorem dX1_addSlot_28 : decode cX1_addSlot 28 = .ok (.iload_n 2, 1) := by decide +kernel
theorem dX1_addSlot_29 : decode cX1_addSlot 29 = .ok (.iastore, 1) := by decide +kernel
theorem dX1_addSlot_30 : decode cX1_addSlot 30 = .ok (.aload_n 0, 1) := by decide +kernel
theorem dX1_addSlot_31 : decode cX1_addSlot 31 = .ok (.getfield 28, 3) := by decide +kernel
theorem dX1_addSlot_34 : decode cX1_addSlot 34 = .ok (.iload_n 1, 1) := by decide +kernel
theorem dX1_addSlot_35 : decode cX1_addSlot 35 = .ok (.iload 4, 2) := by decide +kernel
theorem dX1_addSlot_37 : decode cX1_addSlot 37 = .ok (.invokestatic 65, 3) := by decide +kernel
theorem dX1_addSlot_40 : decode cX1_addSlot 40 = .ok (.iload_n 3, 1) := by decide +kernel
theorem dX1_addSlot_41 : decode cX1_addSlot 41 = .ok (.iastore, 1) := by decide +kernel
theorem dX1_addSlot_42 : decode cX1_addSlot 42 = .ok (.aload_n 0, 1) := by decide +kernel
theorem dX1_addSlot_43 : decode cX1_addSlot 43 = .ok (.getfield 18, 3) := by decide +kernel
theorem dX1_addSlot_46 : decode cX1_addSlot 46 = .ok (.iload_n 1, 1) := by decide +kernel
theorem dX1_addSlot_47 : decode cX1_addSlot 47 = .ok (.iload 4, 2) := by decide +kernel
theorem dX1_addSlot_49 : decode cX1_addSlot 49 = .ok (.iconst 1, 1) := by decide +kernel
theorem dX1_addSlot_50 : decode cX1_addSlot 50 = .ok (.iadd, 1) := by decide +kernel
theorem dX1_addSlot_51 : decode cX1_addSlot 51 = .ok (.iastore, 1) := by decide +kernel
theorem dX1_addSlot_52 : decode cX1_addSlot 52 = .ok (.iload 4, 2) := by decide +kernel
theorem dX1_addSlot_54 : decode cX1_addSlot 54 = .ok (.ireturn, 1) := by decide +kernel
theorem dX1_hasHold_0 : decode cX1_hasHold 0 = .ok (.iload_n 1, 1) := by decide +kernel
theorem dX1_hasHold_1 : decode cX1_hasHold 1 = .ok (.ifCond .lt 15, 3) := by decide +kernel
theorem dX1_hasHold_4 : decode cX1_hasHold 4 = .ok (.iload_n 1, 1) := by decide +kernel
theorem dX1_hasHold_5 : decode cX1_hasHold 5 = .ok (.aload_n 0, 1) := by decide +kernel
theorem dX1_hasHold_6 : decode cX1_hasHold 6 = .ok (.getfield 21, 3) := by decide +kernel
theorem dX1_hasHold_9 : decode cX1_hasHold 9 = .ok (.if_icmp .ge 7, 3) := by decide +kernel
theorem dX1_hasHold_12 : decode cX1_hasHold 12 = .ok (.iconst 1, 1) := by decide +kernel
theorem dX1_hasHold_13 : decode cX1_hasHold 13 = .ok (.goto 4, 3) := by decide +kernel
theorem dX1_hasHold_16 : decode cX1_hasHold 16 = .ok (.iconst 0, 1) := by decide +kernel
theorem dX1_hasHold_17 : decode cX1_hasHold 17 = .ok (.ireturn, 1) := by decide +kernel
theorem dX1_hasItem_0 : decode cX1_hasItem 0 = .ok (.iload_n 1, 1) := by decide +kernel
theorem dX1_hasItem_1 : decode cX1_hasItem 1 = .ok (.ifCond .lt 15, 3) := by decide +kernel
theorem dX1_hasItem_4 : decode cX1_hasItem 4 = .ok (.iload_n 1, 1) := by decide +kernel
theorem dX1_hasItem_5 : decode cX1_hasItem 5 = .ok (.aload_n 0, 1) := by decide +kernel
theorem dX1_hasItem_6 : decode cX1_hasItem 6 = .ok (.getfield 49, 3) := by decide +kernel
theorem dX1_hasItem_9 : decode cX1_hasItem 9 = .ok (.if_icmp .ge 7, 3) := by decide +kernel
theorem dX1_hasItem_12 : decode cX1_hasItem 12 = .ok (.iconst 1, 1) := by decide +kernel
theorem dX1_hasItem_13 : decode cX1_hasItem 13 = .ok (.goto 4, 3) := by decide +kernel
theorem dX1_hasItem_16 : decode cX1_hasItem 16 = .ok (.iconst 0, 1) := by decide +kernel
theorem dX1_hasItem_17 : decode cX1_hasItem 17 = .ok (.ireturn, 1) := by decide +kernel
theorem dX1_hasSlot_0 : decode cX1_hasSlot 0 = .ok (.aload_n 0, 1) := by decide +kernel
theorem dX1_hasSlot_1 : decode cX1_hasSlot 1 = .ok (.iload_n 1, 1) := by decide +kernel
theorem dX1_hasSlot_2 : decode cX1_hasSlot 2 = .ok (.invokevirtual 61, 3) := by decide +kernel
theorem dX1_hasSlot_5 : decode cX1_hasSlot 5 = .ok (.ifCond .eq 21, 3) := by decide +kernel
theorem dX1_hasSlot_8 : decode cX1_hasSlot 8 = .ok (.iload_n 2, 1) := by decide +kernel
theorem dX1_hasSlot_9 : decode cX1_hasSlot 9 = .ok (.ifCond .lt 17, 3) := by decide +kernel
theorem dX1_hasSlot_12 : decode cX1_hasSlot 12 = .ok (.iload_n 2, 1) := by decide +kernel
theorem dX1_hasSlot_13 : decode cX1_hasSlot 13 = .ok (.aload_n 0, 1) := by decide +kernel
theorem dX1_hasSlot_14 : decode cX1_hasSlot 14 = .ok (.getfield 18, 3) := by decide +kernel
theorem dX1_hasSlot_17 : decode cX1_hasSlot 17 = .ok (.iload_n 1, 1) := by decide +kernel
theorem dX1_hasSlot_18 : decode cX1_hasSlot 18 = .ok (.iaload, 1) := by decide +kernel
theorem dX1_hasSlot_19 : decode cX1_hasSlot 19 = .ok (.if_icmp .ge 7, 3) := by decide +kernel
theorem dX1_hasSlot_22 : decode cX1_hasSlot 22 = .ok (.iconst 1, 1) := by decide +kernel
theorem dX1_hasSlot_23 : decode cX1_hasSlot 23 = .ok (.goto 4, 3) := by decide +kernel
theorem dX1_hasSlot_26 : decode cX1_hasSlot 26 = .ok (.iconst 0, 1) := by decide +kernel
theorem dX1_hasSlot_27 : decode cX1_hasSlot 27 = .ok (.ireturn, 1) := by decide +kernel
theorem dX1_heaviestPair_0 : decode cX1_heaviestPair 0 = .ok (.iconst 0, 1) := by decide +kernel
theorem dX1_heaviestPair_1 : decode cX1_heaviestPair 1 = .ok (.istore_n 2, 1) := by decide +kernel
theorem dX1_heaviestPair_2 : decode cX1_heaviestPair 2 = .ok (.iconst 1, 1) := by decide +kernel
theorem dX1_heaviestPair_3 : decode cX1_heaviestPair 3 = .ok (.istore_n 3, 1) := by decide +kernel
theorem dX1_heaviestPair_4 : decode cX1_heaviestPair 4 = .ok (.iload_n 3, 1) := by decide +kernel
theorem dX1_heaviestPair_5 : decode cX1_heaviestPair 5 = .ok (.aload_n 0, 1) := by decide +kernel
theorem dX1_heaviestPair_6 : decode cX1_heaviestPair 6 = .ok (.getfield 18, 3) := by decide +kernel
theorem dX1_heaviestPair_9 : decode cX1_heaviestPair 9 = .ok (.iload_n 1, 1) := by decide +kernel
theorem dX1_heaviestPair_10 : decode cX1_heaviestPair 10 = .ok (.iaload, 1) := by decide +kernel
theorem dX1_heaviestPair_11 : decode cX1_heaviestPair 11 = .ok (.if_icmp .ge 36, 3) := by decide +kernel
theorem dX1_heaviestPair_14 : decode cX1_heaviestPair 14 = .ok (.iload_n 1, 1) := by decide +kernel
theorem dX1_heaviestPair_15 : decode cX1_heaviestPair 15 = .ok (.iload_n 3, 1) := by decide +kernel
theorem dX1_heaviestPair_16 : decode cX1_heaviestPair 16 = .ok (.invokestatic 65, 3) := by decide +kernel
theorem dX1_heaviestPair_19 : decode cX1_heaviestPair 19 = .ok (.istore 4, 2) := by decide +kernel
theorem dX1_heaviestPair_21 : decode cX1_heaviestPair 21 = .ok (.iload_n 2, 1) := by decide +kernel
theorem dX1_heaviestPair_22 : decode cX1_heaviestPair 22 = .ok (.aload_n 0, 1) := by decide +kernel
theorem dX1_heaviestPair_23 : decode cX1_heaviestPair 23 = .ok (.iload 4, 2) := by decide +kernel
theorem dX1_heaviestPair_25 : decode cX1_heaviestPair 25 = .ok (.iconst 1, 1) := by decide +kernel
theorem dX1_heaviestPair_26 : decode cX1_heaviestPair 26 = .ok (.isub, 1) := by decide +kernel
theorem dX1_heaviestPair_27 : decode cX1_heaviestPair 27 = .ok (.invokevirtual 91, 3) := by decide +kernel
theorem dX1_heaviestPair_30 : decode cX1_heaviestPair 30 = .ok (.aload_n 0, 1) := by decide +kernel
theorem dX1_heaviestPair_31 : decode cX1_heaviestPair 31 = .ok (.iload 4, 2) := by decide +kernel
theorem dX1_heaviestPair_33 : decode cX1_heaviestPair 33 = .ok (.invokevirtual 91, 3) := by decide +kernel
theorem dX1_heaviestPair_36 : decode cX1_heaviestPair 36 = .ok (.iadd, 1) := by decide +kernel
theorem dX1_heaviestPair_37 : decode cX1_heaviestPair 37 = .ok (.invokestatic 99, 3) := by decide +kernel
theorem dX1_heaviestPair_40 : decode cX1_heaviestPair 40 = .ok (.istore_n 2, 1) := by decide +kernel
theorem dX1_heaviestPair_41 : decode cX1_heaviestPair 41 = .ok (.iinc 3 1, 3) := by decide +kernel
theorem dX1_heaviestPair_44 : decode cX1_heaviestPair 44 = .ok (.goto (-40), 3) := by decide +kernel
theorem dX1_heaviestPair_47 : decode cX1_heaviestPair 47 = .ok (.iload_n 2, 1) := by decide +kernel
theorem dX1_heaviestPair_48 : decode cX1_heaviestPair 48 = .ok (.ireturn, 1) := by decide +kernel
theorem dX1_hindrance_0 : decode cX1_hindrance 0 = .ok (.iload_n 2, 1) := by decide +kernel
theorem dX1_hindrance_1 : decode cX1_hindrance 1 = .ok (.bipush 8, 2) := by decide +kernel
theorem dX1_hindrance_3 : decode cX1_hindrance 3 = .ok (.idiv, 1) := by decide +kernel
theorem dX1_hindrance_4 : decode cX1_hindrance 4 = .ok (.istore_n 3, 1) := by decide +kernel
theorem dX1_hindrance_5 : decode cX1_hindrance 5 = .ok (.aload_n 0, 1) := by decide +kernel
theorem dX1_hindrance_6 : decode cX1_hindrance 6 = .ok (.getfield 34, 3) := by decide +kernel
theorem dX1_hindrance_9 : decode cX1_hindrance 9 = .ok (.iload_n 1, 1) := by decide +kernel
theorem dX1_hindrance_10 : decode cX1_hindrance 10 = .ok (.iaload, 1) := by decide +kernel
theorem dX1_hindrance_11 : decode cX1_hindrance 11 = .ok (.istore 4, 2) := by decide +kernel
theorem dX1_hindrance_13 : decode cX1_hindrance 13 = .ok (.aload_n 0, 1) := by decide +kernel
theorem dX1_hindrance_14 : decode cX1_hindrance 14 = .ok (.getfield 31, 3) := by decide +kernel
theorem dX1_hindrance_17 : decode cX1_hindrance 17 = .ok (.iload_n 2, 1) := by decide +kernel
theorem dX1_hindrance_18 : decode cX1_hindrance 18 = .ok (.iaload, 1) := by decide +kernel
theorem dX1_hindrance_19 : decode cX1_hindrance 19 = .ok (.iconst (-1), 1) := by decide +kernel
theorem dX1_hindrance_20 : decode cX1_hindrance 20 = .ok (.if_icmp .eq 5, 3) := by decide +kernel
theorem dX1_hindrance_23 : decode cX1_hindrance 23 = .ok (.iconst 1, 1) := by decide +kernel
theorem dX1_hindrance_24 : decode cX1_hindrance 24 = .ok (.ireturn, 1) := by decide +kernel
theorem dX1_hindrance_25 : decode cX1_hindrance 25 = .ok (.iload 4, 2) := by decide +kernel
theorem dX1_hindrance_27 : decode cX1_hindrance 27 = .ok (.aload_n 0, 1) := by decide +kernel
theorem dX1_hindrance_28 : decode cX1_hindrance 28 = .ok (.getfield 28, 3) := by decide +kernel
theorem dX1_hindrance_31 : decode cX1_hindrance 31 = .ok (.iload_n 2, 1) := by decide +kernel
theorem dX1_hindrance_32 : decode cX1_hindrance 32 = .ok (.iaload, 1) := by decide +kernel
theorem dX1_hindrance_33 : decode cX1_hindrance 33 = .ok (.if_icmp .le 5, 3) := by decide +kernel
theorem dX1_hindrance_36 : decode cX1_hindrance 36 = .ok (.iconst 2, 1) := by decide +kernel
theorem dX1_hindrance_37 : decode cX1_hindrance 37 = .ok (.ireturn, 1) := by decide +kernel
theorem dX1_hindrance_38 : decode cX1_hindrance 38 = .ok (.aload_n 0, 1) := by decide +kernel
theorem dX1_hindrance_39 : decode cX1_hindrance 39 = .ok (.iload_n 3, 1) := by decide +kernel
theorem dX1_hindrance_40 : decode cX1_hindrance 40 = .ok (.invokevirtual 80, 3) := by decide +kernel
theorem dX1_hindrance_43 : decode cX1_hindrance 43 = .ok (.iload 4, 2) := by decide +kernel
theorem dX1_hindrance_45 : decode cX1_hindrance 45 = .ok (.iadd, 1) := by decide +kernel
theorem dX1_hindrance_46 : decode cX1_hindrance 46 = .ok (.aload_n 0, 1) := by decide +kernel
theorem dX1_hindrance_47 : decode cX1_hindrance 47 = .ok (.getfield 11, 3) := by decide +kernel
theorem dX1_hindrance_50 : decode cX1_hindrance 50 = .ok (.iload_n 3, 1) := by decide +kernel
theorem dX1_hindrance_51 : decode cX1_hindrance 51 = .ok (.iaload, 1) := by decide +kernel
theorem dX1_hindrance_52 : decode cX1_hindrance 52 = .ok (.if_icmp .le 5, 3) := by decide +kernel
theorem dX1_hindrance_55 : decode cX1_hindrance 55 = .ok (.iconst 3, 1) := by decide +kernel
theorem dX1_hindrance_56 : decode cX1_hindrance 56 = .ok (.ireturn, 1) := by decide +kernel
theorem dX1_hindrance_57 : decode cX1_hindrance 57 = .ok (.aload_n 0, 1) := by decide +kernel
theorem dX1_hindrance_58 : decode cX1_hindrance 58 = .ok (.iload 4, 2) := by decide +kernel
theorem dX1_hindrance_60 : decode cX1_hindrance 60 = .ok (.iload_n 2, 1) := by decide +kernel
theorem dX1_hindrance_61 : decode cX1_hindrance 61 = .ok (.invokevirtual 84, 3) := by decide +kernel
theorem dX1_hindrance_64 : decode cX1_hindrance 64 = .ok (.ifCond .eq 5, 3) := by decide +kernel
theorem dX1_hindrance_67 : decode cX1_hindrance 67 = .ok (.iconst 4, 1) := by decide +kernel
theorem dX1_hindrance_68 : decode cX1_hindrance 68 = .ok (.ireturn, 1) := by decide +kernel
theorem dX1_hindrance_69 : decode cX1_hindrance 69 = .ok (.aload_n 0, 1) := by decide +kernel
theorem dX1_hindrance_70 : decode cX1_hindrance 70 = .ok (.iload_n 1, 1) := by decide +kernel
theorem dX1_hindrance_71 : decode cX1_hindrance 71 = .ok (.iload_n 2, 1) := by decide +kernel
theorem dX1_hindrance_72 : decode cX1_hindrance 72 = .ok (.invokevirtual 88, 3) := by decide +kernel
theorem dX1_hindrance_75 : decode cX1_hindrance 75 = .ok (.ifCond .eq 7, 3) := by decide +kernel
theorem dX1_hindrance_78 : decode cX1_hindrance 78 = .ok (.iconst 5, 1) := by decide +kernel
theorem dX1_hindrance_79 : decode cX1_hindrance 79 = .ok (.goto 4, 3) := by decide +kernel
theorem dX1_hindrance_82 : decode cX1_hindrance 82 = .ok (.iconst 0, 1) := by decide +kernel
theorem dX1_hindrance_83 : decode cX1_hindrance 83 = .ok (.ireturn, 1) := by decide +kernel
theorem dX1_init_0 : decode cX1_init 0 = .ok (.aload_n 0, 1) := by decide +kernel
theorem dX1_init_1 : decode cX1_init 1 = .ok (.invokespecial 3, 3) := by decide +kernel
theorem dX1_init_4 : decode cX1_init 4 = .ok (.aload_n 0, 1) := by decide +kernel
theorem dX1_init_5 : decode cX1_init 5 = .ok (.iconst 4, 1) := by decide +kernel
theorem dX1_init_6 : decode cX1_init 6 = .ok (.newarray .int, 2) := by decide +kernel
theorem dX1_init_8 : decode cX1_init 8 = .ok (.putfield 11, 3) := by decide +kernel
theorem dX1_init_11 : decode cX1_init 11 = .ok (.aload_n 0, 1) := by decide +kernel
theorem dX1_init_12 : decode cX1_init 12 = .ok (.iconst 4, 1) := by decide +kernel
theorem dX1_init_13 : decode cX1_init 13 = .ok (.newarray .int, 2) := by decide +kernel
theorem dX1_init_15 : decode cX1_init 15 = .ok (.putfield 15, 3) := by decide +kernel
theorem dX1_init_18 : decode cX1_init 18 = .ok (.aload_n 0, 1) := by decide +kernel
theorem dX1_init_19 : decode cX1_init 19 = .ok (.iconst 4, 1) := by decide +kernel
theorem dX1_init_20 : decode cX1_init 20 = .ok (.newarray .int, 2) := by decide +kernel
theorem dX1_init_22 : decode cX1_init 22 = .ok (.putfield 18, 3) := by decide +kernel
theorem dX1_init_25 : decode cX1_init 25 = .ok (.aload_n 0, 1) := by decide +kernel
theorem dX1_init_26 : decode cX1_init 26 = .ok (.iconst 0, 1) := by decide +kernel
theorem dX1_init_27 : decode cX1_init 27 = .ok (.putfield 21, 3) := by decide +kernel
theorem dX1_init_30 : decode cX1_init 30 = .ok (.aload_n 0, 1) := by decide +kernel
theorem dX1_init_31 : decode cX1_init 31 = .ok (.bipush 32, 2) := by decide +kernel
theorem dX1_init_33 : decode cX1_init 33 = .ok (.newarray .int, 2) := by decide +kernel
theorem dX1_init_35 : decode cX1_init 35 = .ok (.putfield 25, 3) := by decide +kernel
theorem dX1_init_38 : decode cX1_init 38 = .ok (.aload_n 0, 1) := by decide +kernel
theorem dX1_init_39 : decode cX1_init 39 = .ok (.bipush 32, 2) := by decide +kernel
theorem dX1_init_41 : decode cX1_init 41 = .ok (.newarray .int, 2) := by decide +kernel
theorem dX1_init_43 : decode cX1_init 43 = .ok (.putfield 28, 3) := by decide +kernel
theorem dX1_init_46 : decode cX1_init 46 = .ok (.aload_n 0, 1) := by decide +kernel
theorem dX1_init_47 : decode cX1_init 47 = .ok (.bipush 32, 2) := by decide +kernel
theorem dX1_init_49 : decode cX1_init 49 = .ok (.newarray .int, 2) := by decide +kernel
theorem dX1_init_51 : decode cX1_init 51 = .ok (.putfield 31, 3) := by decide +kernel
theorem dX1_init_54 : decode cX1_init 54 = .ok (.aload_n 0, 1) := by decide +kernel
theorem dX1_init_55 : decode cX1_init 55 = .ok (.bipush 40, 2) := by decide +kernel
theorem dX1_init_57 : decode cX1_init 57 = .ok (.newarray .int, 2) := by decide +kernel
theorem dX1_init_59 : decode cX1_init 59 = .ok (.putfield 34, 3) := by decide +kernel
theorem dX1_init_62 : decode cX1_init 62 = .ok (.aload_n 0, 1) := by decide +kernel
theorem dX1_init_63 : decode cX1_init 63 = .ok (.bipush 40, 2) := by decide +kernel
theorem dX1_init_65 : decode cX1_init 65 = .ok (.newarray .int, 2) := by decide +kernel
theorem dX1_init_67 : decode cX1_init 67 = .ok (.putfield 37, 3) := by decide +kernel
theorem dX1_init_70 : decode cX1_init 70 = .ok (.aload_n 0, 1) := by decide +kernel
theorem dX1_init_71 : decode cX1_init 71 = .ok (.bipush 40, 2) := by decide +kernel
theorem dX1_init_73 : decode cX1_init 73 = .ok (.newarray .int, 2) := by decide +kernel
theorem dX1_init_75 : decode cX1_init 75 = .ok (.putfield 40, 3) := by decide +kernel
theorem dX1_init_78 : decode cX1_init 78 = .ok (.aload_n 0, 1) := by decide +kernel
theorem dX1_init_79 : decode cX1_init 79 = .ok (.bipush 40, 2) := by decide +kernel
theorem dX1_init_81 : decode cX1_init 81 = .ok (.newarray .int, 2) := by decide +kernel
theorem dX1_init_83 : decode cX1_init 83 = .ok (.putfield 43, 3) := by decide +kernel
theorem dX1_init_86 : decode cX1_init 86 = .ok (.aload_n 0, 1) := by decide +kernel
theorem dX1_init_87 : decode cX1_init 87 = .ok (.bipush 40, 2) := by decide +kernel
theorem dX1_init_89 : decode cX1_init 89 = .ok (.newarray .int, 2) := by decide +kernel
theorem dX1_init_91 : decode cX1_init 91 = .ok (.putfield 46, 3) := by decide +kernel
theorem dX1_init_94 : decode cX1_init 94 = .ok (.aload_n 0, 1) := by decide +kernel
theorem dX1_init_95 : decode cX1_init 95 = .ok (.iconst 0, 1) := by decide +kernel
theorem dX1_init_96 : decode cX1_init 96 = .ok (.putfield 49, 3) := by decide +kernel
theorem dX1_init_99 : decode cX1_init 99 = .ok (.aload_n 0, 1) := by decide +kernel
theorem dX1_init_100 : decode cX1_init 100 = .ok (.bipush 64, 2) := by decide +kernel
theorem dX1_init_102 : decode cX1_init 102 = .ok (.newarray .int, 2) := by decide +kernel
theorem dX1_init_104 : decode cX1_init 104 = .ok (.putfield 52, 3) := by decide +kernel
theorem dX1_init_107 : decode cX1_init 107 = .ok (.aload_n 0, 1) := by decide +kernel
theorem dX1_init_108 : decode cX1_init 108 = .ok (.getfield 31, 3) := by decide +kernel
theorem dX1_init_111 : decode cX1_init 111 = .ok (.iconst (-1), 1) := by decide +kernel
theorem dX1_init_112 : decode cX1_init 112 = .ok (.invokestatic 55, 3) := by decide +kernel
theorem dX1_init_115 : decode cX1_init 115 = .ok (.aload_n 0, 1) := by decide +kernel
theorem dX1_init_116 : decode cX1_init 116 = .ok (.getfield 43, 3) := by decide +kernel
theorem dX1_init_119 : decode cX1_init 119 = .ok (.iconst (-1), 1) := by decide +kernel
theorem dX1_init_120 : decode cX1_init 120 = .ok (.invokestatic 55, 3) := by decide +kernel
theorem dX1_init_123 : decode cX1_init 123 = .ok (.return_, 1) := by decide +kernel
theorem dX1_isLoaded_0 : decode cX1_isLoaded 0 = .ok (.aload_n 0, 1) := by decide +kernel
theorem dX1_isLoaded_1 : decode cX1_isLoaded 1 = .ok (.getfield 43, 3) := by decide +kernel
theorem dX1_isLoaded_4 : decode cX1_isLoaded 4 = .ok (.iload_n 1, 1) := by decide +kernel
theorem dX1_isLoaded_5 : decode cX1_isLoaded 5 = .ok (.iaload, 1) := by decide +kernel
theorem dX1_isLoaded_6 : decode cX1_isLoaded 6 = .ok (.iconst (-1), 1) := by decide +kernel
theorem dX1_isLoaded_7 : decode cX1_isLoaded 7 = .ok (.if_icmp .eq 7, 3) := by decide +kernel
theorem dX1_isLoaded_10 : decode cX1_isLoaded 10 = .ok (.iconst 1, 1) := by decide +kernel
theorem dX1_isLoaded_11 : decode cX1_isLoaded 11 = .ok (.goto 4, 3) := by decide +kernel
theorem dX1_isLoaded_14 : decode cX1_isLoaded 14 = .ok (.iconst 0, 1) := by decide +kernel
theorem dX1_isLoaded_15 : decode cX1_isLoaded 15 = .ok (.ireturn, 1) := by decide +kernel
theorem dX1_isTooMuchForFloor_0 : decode cX1_isTooMuchForFloor 0 = .ok (.iload_n 2, 1) := by decide +kernel
theorem dX1_isTooMuchForFloor_1 : decode cX1_isTooMuchForFloor 1 = .ok (.bipush 8, 2) := by decide +kernel
theorem dX1_isTooMuchForFloor_3 : decode cX1_isTooMuchForFloor 3 = .ok (.idiv, 1) := by decide +kernel
theorem dX1_isTooMuchForFloor_4 : decode cX1_isTooMuchForFloor 4 = .ok (.istore_n 3, 1) := by decide +kernel
theorem dX1_isTooMuchForFloor_5 : decode cX1_isTooMuchForFloor 5 = .ok (.iload_n 2, 1) := by decide +kernel
theorem dX1_isTooMuchForFloor_6 : decode cX1_isTooMuchForFloor 6 = .ok (.bipush 8, 2) := by decide +kernel
theorem dX1_isTooMuchForFloor_8 : decode cX1_isTooMuchForFloor 8 = .ok (.irem, 1) := by decide +kernel
theorem dX1_isTooMuchForFloor_9 : decode cX1_isTooMuchForFloor 9 = .ok (.istore 4, 2) := by decide +kernel
theorem dX1_isTooMuchForFloor_11 : decode cX1_isTooMuchForFloor 11 = .ok (.aload_n 0, 1) := by decide +kernel
theorem dX1_isTooMuchForFloor_12 : decode cX1_isTooMuchForFloor 12 = .ok (.getfield 15, 3) := by decide +kernel
theorem dX1_isTooMuchForFloor_15 : decode cX1_isTooMuchForFloor 15 = .ok (.iload_n 3, 1) := by decide +kernel
theorem dX1_isTooMuchForFloor_16 : decode cX1_isTooMuchForFloor 16 = .ok (.iaload, 1) := by decide +kernel
theorem dX1_isTooMuchForFloor_17 : decode cX1_isTooMuchForFloor 17 = .ok (.istore 5, 2) := by decide +kernel
theorem dX1_isTooMuchForFloor_19 : decode cX1_isTooMuchForFloor 19 = .ok (.iload 4, 2) := by decide +kernel
theorem dX1_isTooMuchForFloor_21 : decode cX1_isTooMuchForFloor 21 = .ok (.ifCond .le 21, 3) := by decide +kernel
theorem dX1_isTooMuchForFloor_24 : decode cX1_isTooMuchForFloor 24 = .ok (.aload_n 0, 1) := by decide +kernel
theorem dX1_isTooMuchForFloor_25 : decode cX1_isTooMuchForFloor 25 = .ok (.iload_n 2, 1) := by decide +kernel
theorem dX1_isTooMuchForFloor_26 : decode cX1_isTooMuchForFloor 26 = .ok (.iconst 1, 1) := by decide +kernel
theorem dX1_isTooMuchForFloor_27 : decode cX1_isTooMuchForFloor 27 = .ok (.isub, 1) := by decide +kernel
theorem dX1_isTooMuchForFloor_28 : decode cX1_isTooMuchForFloor 28 = .ok (.invokevirtual 91, 3) := by decide +kernel
theorem dX1_isTooMuchForFloor_31 : decode cX1_isTooMuchForFloor 31 = .ok (.iload_n 1, 1) := by decide +kernel
theorem dX1_isTooMuchForFloor_32 : decode cX1_isTooMuchForFloor 32 = .ok (.iadd, 1) := by decide +kernel
theorem dX1_isTooMuchForFloor_33 : decode cX1_isTooMuchForFloor 33 = .ok (.iload 5, 2) := by decide +kernel
theorem dX1_isTooMuchForFloor_35 : decode cX1_isTooMuchForFloor 35 = .ok (.if_icmp .le 7, 3) := by decide +kernel
theorem dX1_isTooMuchForFloor_38 : decode cX1_isTooMuchForFloor 38 = .ok (.iconst 1, 1) := by decide +kernel
theorem dX1_isTooMuchForFloor_39 : decode cX1_isTooMuchForFloor 39 = .ok (.goto 4, 3) := by decide +kernel
theorem dX1_isTooMuchForFloor_42 : decode cX1_isTooMuchForFloor 42 = .ok (.iconst 0, 1) := by decide +kernel
theorem dX1_isTooMuchForFloor_43 : decode cX1_isTooMuchForFloor 43 = .ok (.istore 6, 2) := by decide +kernel
theorem dX1_isTooMuchForFloor_45 : decode cX1_isTooMuchForFloor 45 = .ok (.iload 4, 2) := by decide +kernel
theorem dX1_isTooMuchForFloor_47 : decode cX1_isTooMuchForFloor 47 = .ok (.iconst 1, 1) := by decide +kernel
theorem dX1_isTooMuchForFloor_48 : decode cX1_isTooMuchForFloor 48 = .ok (.iadd, 1) := by decide +kernel
theorem dX1_isTooMuchForFloor_49 : decode cX1_isTooMuchForFloor 49 = .ok (.aload_n 0, 1) := by decide +kernel
theorem dX1_isTooMuchForFloor_50 : decode cX1_isTooMuchForFloor 50 = .ok (.getfield 18, 3) := by decide +kernel
theorem dX1_isTooMuchForFloor_53 : decode cX1_isTooMuchForFloor 53 = .ok (.iload_n 3, 1) := by decide +kernel
theorem dX1_isTooMuchForFloor_54 : decode cX1_isTooMuchForFloor 54 = .ok (.iaload, 1) := by decide +kernel
theorem dX1_isTooMuchForFloor_55 : decode cX1_isTooMuchForFloor 55 = .ok (.if_icmp .ge 21, 3) := by decide +kernel
theorem dX1_isTooMuchForFloor_58 : decode cX1_isTooMuchForFloor 58 = .ok (.aload_n 0, 1) := by decide +kernel
theorem dX1_isTooMuchForFloor_59 : decode cX1_isTooMuchForFloor 59 = .ok (.iload_n 2, 1) := by decide +kernel
theorem dX1_isTooMuchForFloor_60 : decode cX1_isTooMuchForFloor 60 = .ok (.iconst 1, 1) := by decide +kernel
theorem dX1_isTooMuchForFloor_61 : decode cX1_isTooMuchForFloor 61 = .ok (.iadd, 1) := by decide +kernel
theorem dX1_isTooMuchForFloor_62 : decode cX1_isTooMuchForFloor 62 = .ok (.invokevirtual 91, 3) := by decide +kernel
theorem dX1_isTooMuchForFloor_65 : decode cX1_isTooMuchForFloor 65 = .ok (.iload_n 1, 1) := by decide +kernel
theorem dX1_isTooMuchForFloor_66 : decode cX1_isTooMuchForFloor 66 = .ok (.iadd, 1) := by decide +kernel
theorem dX1_isTooMuchForFloor_67 : decode cX1_isTooMuchForFloor 67 = .ok (.iload 5, 2) := by decide +kernel
theorem dX1_isTooMuchForFloor_69 : decode cX1_isTooMuchForFloor 69 = .ok (.if_icmp .le 7, 3) := by decide +kernel
theorem dX1_isTooMuchForFloor_72 : decode cX1_isTooMuchForFloor 72 = .ok (.iconst 1, 1) := by decide +kernel
theorem dX1_isTooMuchForFloor_73 : decode cX1_isTooMuchForFloor 73 = .ok (.goto 4, 3) := by decide +kernel
theorem dX1_isTooMuchForFloor_76 : decode cX1_isTooMuchForFloor 76 = .ok (.iconst 0, 1) := by decide +kernel
theorem dX1_isTooMuchForFloor_77 : decode cX1_isTooMuchForFloor 77 = .ok (.istore 7, 2) := by decide +kernel
theorem dX1_isTooMuchForFloor_79 : decode cX1_isTooMuchForFloor 79 = .ok (.iload 6, 2) := by decide +kernel
theorem dX1_isTooMuchForFloor_81 : decode cX1_isTooMuchForFloor 81 = .ok (.ifCond .ne 8, 3) := by decide +kernel
theorem dX1_isTooMuchForFloor_84 : decode cX1_isTooMuchForFloor 84 = .ok (.iload 7, 2) := by decide +kernel
theorem dX1_isTooMuchForFloor_86 : decode cX1_isTooMuchForFloor 86 = .ok (.ifCond .eq 7, 3) := by decide +kernel
theorem dX1_isTooMuchForFloor_89 : decode cX1_isTooMuchForFloor 89 = .ok (.iconst 1, 1) := by decide +kernel
theorem dX1_isTooMuchForFloor_90 : decode cX1_isTooMuchForFloor 90 = .ok (.goto 4, 3) := by decide +kernel
theorem dX1_isTooMuchForFloor_93 : decode cX1_isTooMuchForFloor 93 = .ok (.iconst 0, 1) := by decide +kernel
theorem dX1_isTooMuchForFloor_94 : decode cX1_isTooMuchForFloor 94 = .ok (.ireturn, 1) := by decide +kernel
theorem dX1_isTooNear_0 : decode cX1_isTooNear 0 = .ok (.iload_n 2, 1) := by decide +kernel
theorem dX1_isTooNear_1 : decode cX1_isTooNear 1 = .ok (.bipush 8, 2) := by decide +kernel
theorem dX1_isTooNear_3 : decode cX1_isTooNear 3 = .ok (.idiv, 1) := by decide +kernel
theorem dX1_isTooNear_4 : decode cX1_isTooNear 4 = .ok (.istore_n 3, 1) := by decide +kernel
theorem dX1_isTooNear_5 : decode cX1_isTooNear 5 = .ok (.aload_n 0, 1) := by decide +kernel
theorem dX1_isTooNear_6 : decode cX1_isTooNear 6 = .ok (.getfield 37, 3) := by decide +kernel
theorem dX1_isTooNear_9 : decode cX1_isTooNear 9 = .ok (.iload_n 1, 1) := by decide +kernel
theorem dX1_isTooNear_10 : decode cX1_isTooNear 10 = .ok (.iaload, 1) := by decide +kernel
theorem dX1_isTooNear_11 : decode cX1_isTooNear 11 = .ok (.istore 4, 2) := by decide +kernel
theorem dX1_isTooNear_13 : decode cX1_isTooNear 13 = .ok (.iconst 0, 1) := by decide +kernel
theorem dX1_isTooNear_14 : decode cX1_isTooNear 14 = .ok (.istore 5, 2) := by decide +kernel
theorem dX1_isTooNear_16 : decode cX1_isTooNear 16 = .ok (.iload 5, 2) := by decide +kernel
theorem dX1_isTooNear_18 : decode cX1_isTooNear 18 = .ok (.aload_n 0, 1) := by decide +kernel
theorem dX1_isTooNear_19 : decode cX1_isTooNear 19 = .ok (.getfield 18, 3) := by decide +kernel
theorem dX1_isTooNear_22 : decode cX1_isTooNear 22 = .ok (.iload_n 3, 1) := by decide +kernel
theorem dX1_isTooNear_23 : decode cX1_isTooNear 23 = .ok (.iaload, 1) := by decide +kernel
theorem dX1_isTooNear_24 : decode cX1_isTooNear 24 = .ok (.if_icmp .ge 66, 3) := by decide +kernel
theorem dX1_isTooNear_27 : decode cX1_isTooNear 27 = .ok (.aload_n 0, 1) := by decide +kernel
theorem dX1_isTooNear_28 : decode cX1_isTooNear 28 = .ok (.getfield 31, 3) := by decide +kernel
theorem dX1_isTooNear_31 : decode cX1_isTooNear 31 = .ok (.iload_n 3, 1) := by decide +kernel
theorem dX1_isTooNear_32 : decode cX1_isTooNear 32 = .ok (.iload 5, 2) := by decide +kernel
theorem dX1_isTooNear_34 : decode cX1_isTooNear 34 = .ok (.invokestatic 65, 3) := by decide +kernel
theorem dX1_isTooNear_37 : decode cX1_isTooNear 37 = .ok (.iaload, 1) := by decide +kernel
theorem dX1_isTooNear_38 : decode cX1_isTooNear 38 = .ok (.istore 6, 2) := by decide +kernel
theorem dX1_isTooNear_40 : decode cX1_isTooNear 40 = .ok (.iload 6, 2) := by decide +kernel
theorem dX1_isTooNear_42 : decode cX1_isTooNear 42 = .ok (.iconst (-1), 1) := by decide +kernel
theorem dX1_isTooNear_43 : decode cX1_isTooNear 43 = .ok (.if_icmp .eq 41, 3) := by decide +kernel
theorem dX1_isTooNear_46 : decode cX1_isTooNear 46 = .ok (.iload_n 3, 1) := by decide +kernel
theorem dX1_isTooNear_47 : decode cX1_isTooNear 47 = .ok (.iload 5, 2) := by decide +kernel
theorem dX1_isTooNear_49 : decode cX1_isTooNear 49 = .ok (.invokestatic 65, 3) := by decide +kernel
theorem dX1_isTooNear_52 : decode cX1_isTooNear 52 = .ok (.iload_n 2, 1) := by decide +kernel
theorem dX1_isTooNear_53 : decode cX1_isTooNear 53 = .ok (.isub, 1) := by decide +kernel
theorem dX1_isTooNear_54 : decode cX1_isTooNear 54 = .ok (.invokestatic 94, 3) := by decide +kernel
theorem dX1_isTooNear_57 : decode cX1_isTooNear 57 = .ok (.istore 7, 2) := by decide +kernel
theorem dX1_isTooNear_59 : decode cX1_isTooNear 59 = .ok (.iload 7, 2) := by decide +kernel
theorem dX1_isTooNear_61 : decode cX1_isTooNear 61 = .ok (.aload_n 0, 1) := by decide +kernel
theorem dX1_isTooNear_62 : decode cX1_isTooNear 62 = .ok (.getfield 52, 3) := by decide +kernel
theorem dX1_isTooNear_65 : decode cX1_isTooNear 65 = .ok (.iload 4, 2) := by decide +kernel
theorem dX1_isTooNear_67 : decode cX1_isTooNear 67 = .ok (.bipush 8, 2) := by decide +kernel
theorem dX1_isTooNear_69 : decode cX1_isTooNear 69 = .ok (.imul, 1) := by decide +kernel
theorem dX1_isTooNear_70 : decode cX1_isTooNear 70 = .ok (.aload_n 0, 1) := by decide +kernel
theorem dX1_isTooNear_71 : decode cX1_isTooNear 71 = .ok (.getfield 37, 3) := by decide +kernel
theorem dX1_isTooNear_74 : decode cX1_isTooNear 74 = .ok (.iload 6, 2) := by decide +kernel
theorem dX1_isTooNear_76 : decode cX1_isTooNear 76 = .ok (.iaload, 1) := by decide +kernel
theorem dX1_isTooNear_77 : decode cX1_isTooNear 77 = .ok (.iadd, 1) := by decide +kernel
theorem dX1_isTooNear_78 : decode cX1_isTooNear 78 = .ok (.iaload, 1) := by decide +kernel
theorem dX1_isTooNear_79 : decode cX1_isTooNear 79 = .ok (.if_icmp .ge 5, 3) := by decide +kernel
theorem dX1_isTooNear_82 : decode cX1_isTooNear 82 = .ok (.iconst 1, 1) := by decide +kernel
theorem dX1_isTooNear_83 : decode cX1_isTooNear 83 = .ok (.ireturn, 1) := by decide +kernel
theorem dX1_isTooNear_84 : decode cX1_isTooNear 84 = .ok (.iinc 5 1, 3) := by decide +kernel
theorem dX1_isTooNear_87 : decode cX1_isTooNear 87 = .ok (.goto (-71), 3) := by decide +kernel
theorem dX1_isTooNear_90 : decode cX1_isTooNear 90 = .ok (.iconst 0, 1) := by decide +kernel
theorem dX1_isTooNear_91 : decode cX1_isTooNear 91 = .ok (.ireturn, 1) := by decide +kernel
theorem dX1_itemsInHold_0 : decode cX1_itemsInHold 0 = .ok (.iconst 0, 1) := by decide +kernel
theorem dX1_itemsInHold_1 : decode cX1_itemsInHold 1 = .ok (.istore_n 2, 1) := by decide +kernel
theorem dX1_itemsInHold_2 : decode cX1_itemsInHold 2 = .ok (.iconst 0, 1) := by decide +kernel
theorem dX1_itemsInHold_3 : decode cX1_itemsInHold 3 = .ok (.istore_n 3, 1) := by decide +kernel
theorem dX1_itemsInHold_4 : decode cX1_itemsInHold 4 = .ok (.iload_n 3, 1) := by decide +kernel
theorem dX1_itemsInHold_5 : decode cX1_itemsInHold 5 = .ok (.aload_n 0, 1) := by decide +kernel
theorem dX1_itemsInHold_6 : decode cX1_itemsInHold 6 = .ok (.getfield 18, 3) := by decide +kernel
theorem dX1_itemsInHold_9 : decode cX1_itemsInHold 9 = .ok (.iload_n 1, 1) := by decide +kernel
theorem dX1_itemsInHold_10 : decode cX1_itemsInHold 10 = .ok (.iaload, 1) := by decide +kernel
theorem dX1_itemsInHold_11 : decode cX1_itemsInHold 11 = .ok (.if_icmp .ge 26, 3) := by decide +kernel
theorem dX1_itemsInHold_14 : decode cX1_itemsInHold 14 = .ok (.aload_n 0, 1) := by decide +kernel
theorem dX1_itemsInHold_15 : decode cX1_itemsInHold 15 = .ok (.getfield 31, 3) := by decide +kernel
theorem dX1_itemsInHold_18 : decode cX1_itemsInHold 18 = .ok (.iload_n 1, 1) := by decide +kernel
theorem dX1_itemsInHold_19 : decode cX1_itemsInHold 19 = .ok (.iload_n 3, 1) := by decide +kernel
theorem dX1_itemsInHold_20 : decode cX1_itemsInHold 20 = .ok (.invokestatic 65, 3) := by decide +kernel
theorem dX1_itemsInHold_23 : decode cX1_itemsInHold 23 = .ok (.iaload, 1) := by decide +kernel
theorem dX1_itemsInHold_24 : decode cX1_itemsInHold 24 = .ok (.iconst (-1), 1) := by decide +kernel
theorem dX1_itemsInHold_25 : decode cX1_itemsInHold 25 = .ok (.if_icmp .eq 6, 3) := by decide +kernel
theorem dX1_itemsInHold_28 : decode cX1_itemsInHold 28 = .ok (.iinc 2 1, 3) := by decide +kernel
theorem dX1_itemsInHold_31 : decode cX1_itemsInHold 31 = .ok (.iinc 3 1, 3) := by decide +kernel
theorem dX1_itemsInHold_34 : decode cX1_itemsInHold 34 = .ok (.goto (-30), 3) := by decide +kernel
theorem dX1_itemsInHold_37 : decode cX1_itemsInHold 37 = .ok (.iload_n 2, 1) := by decide +kernel
theorem dX1_itemsInHold_38 : decode cX1_itemsInHold 38 = .ok (.ireturn, 1) := by decide +kernel
theorem dX1_lastArm_0 : decode cX1_lastArm 0 = .ok (.aload_n 0, 1) := by decide +kernel
theorem dX1_lastArm_1 : decode cX1_lastArm 1 = .ok (.getfield 18, 3) := by decide +kernel
theorem dX1_lastArm_4 : decode cX1_lastArm 4 = .ok (.iload_n 1, 1) := by decide +kernel
theorem dX1_lastArm_5 : decode cX1_lastArm 5 = .ok (.iaload, 1) := by decide +kernel
theorem dX1_lastArm_6 : decode cX1_lastArm 6 = .ok (.istore_n 2, 1) := by decide +kernel
theorem dX1_lastArm_7 : decode cX1_lastArm 7 = .ok (.iload_n 2, 1) := by decide +kernel
theorem dX1_lastArm_8 : decode cX1_lastArm 8 = .ok (.ifCond .ne 7, 3) := by decide +kernel
theorem dX1_lastArm_11 : decode cX1_lastArm 11 = .ok (.iconst (-1), 1) := by decide +kernel
theorem dX1_lastArm_12 : decode cX1_lastArm 12 = .ok (.goto 15, 3) := by decide +kernel
theorem dX1_lastArm_15 : decode cX1_lastArm 15 = .ok (.aload_n 0, 1) := by decide +kernel
theorem dX1_lastArm_16 : decode cX1_lastArm 16 = .ok (.getfield 25, 3) := by decide +kernel
theorem dX1_lastArm_19 : decode cX1_lastArm 19 = .ok (.iload_n 1, 1) := by decide +kernel
theorem dX1_lastArm_20 : decode cX1_lastArm 20 = .ok (.iload_n 2, 1) := by decide +kernel
theorem dX1_lastArm_21 : decode cX1_lastArm 21 = .ok (.iconst 1, 1) := by decide +kernel
theorem dX1_lastArm_22 : decode cX1_lastArm 22 = .ok (.isub, 1) := by decide +kernel
theorem dX1_lastArm_23 : decode cX1_lastArm 23 = .ok (.invokestatic 65, 3) := by decide +kernel
theorem dX1_lastArm_26 : decode cX1_lastArm 26 = .ok (.iaload, 1) := by decide +kernel
theorem dX1_lastArm_27 : decode cX1_lastArm 27 = .ok (.ireturn, 1) := by decide +kernel
theorem dX1_leanAt_0 : decode cX1_leanAt 0 = .ok (.aload_n 0, 1) := by decide +kernel
theorem dX1_leanAt_1 : decode cX1_leanAt 1 = .ok (.getfield 34, 3) := by decide +kernel
theorem dX1_leanAt_4 : decode cX1_leanAt 4 = .ok (.iload_n 1, 1) := by decide +kernel
theorem dX1_leanAt_5 : decode cX1_leanAt 5 = .ok (.iaload, 1) := by decide +kernel
theorem dX1_leanAt_6 : decode cX1_leanAt 6 = .ok (.i2l, 1) := by decide +kernel
theorem dX1_leanAt_7 : decode cX1_leanAt 7 = .ok (.aload_n 0, 1) := by decide +kernel
theorem dX1_leanAt_8 : decode cX1_leanAt 8 = .ok (.getfield 25, 3) := by decide +kernel
theorem dX1_leanAt_11 : decode cX1_leanAt 11 = .ok (.iload_n 2, 1) := by decide +kernel
theorem dX1_leanAt_12 : decode cX1_leanAt 12 = .ok (.iaload, 1) := by decide +kernel
theorem dX1_leanAt_13 : decode cX1_leanAt 13 = .ok (.iload_n 3, 1) := by decide +kernel
theorem dX1_leanAt_14 : decode cX1_leanAt 14 = .ok (.isub, 1) := by decide +kernel
theorem dX1_leanAt_15 : decode cX1_leanAt 15 = .ok (.i2l, 1) := by decide +kernel
theorem dX1_leanAt_16 : decode cX1_leanAt 16 = .ok (.lmul, 1) := by decide +kernel
theorem dX1_leanAt_17 : decode cX1_leanAt 17 = .ok (.lreturn, 1) := by decide +kernel
theorem dX1_loadHeaviestFirst_0 : decode cX1_loadHeaviestFirst 0 = .ok (.lload_n 2, 1) := by decide +kernel
theorem dX1_loadHeaviestFirst_1 : decode cX1_loadHeaviestFirst 1 = .ok (.lstore 4, 2) := by decide +kernel
theorem dX1_loadHeaviestFirst_3 : decode cX1_loadHeaviestFirst 3 = .ok (.iconst 0, 1) := by decide +kernel
theorem dX1_loadHeaviestFirst_4 : decode cX1_loadHeaviestFirst 4 = .ok (.istore 6, 2) := by decide +kernel
theorem dX1_loadHeaviestFirst_6 : decode cX1_loadHeaviestFirst 6 = .ok (.iconst 0, 1) := by decide +kernel
theorem dX1_loadHeaviestFirst_7 : decode cX1_loadHeaviestFirst 7 = .ok (.istore 7, 2) := by decide +kernel
theorem dX1_loadHeaviestFirst_9 : decode cX1_loadHeaviestFirst 9 = .ok (.iload 7, 2) := by decide +kernel
theorem dX1_loadHeaviestFirst_11 : decode cX1_loadHeaviestFirst 11 = .ok (.aload_n 0, 1) := by decide +kernel
theorem dX1_loadHeaviestFirst_12 : decode cX1_loadHeaviestFirst 12 = .ok (.getfield 49, 3) := by decide +kernel
theorem dX1_loadHeaviestFirst_15 : decode cX1_loadHeaviestFirst 15 = .ok (.if_icmp .ge 69, 3) := by decide +kernel
theorem dX1_loadHeaviestFirst_18 : decode cX1_loadHeaviestFirst 18 = .ok (.aload_n 0, 1) := by decide +kernel
theorem dX1_loadHeaviestFirst_19 : decode cX1_loadHeaviestFirst 19 = .ok (.getfield 46, 3) := by decide +kernel
theorem dX1_loadHeaviestFirst_22 : decode cX1_loadHeaviestFirst 22 = .ok (.iload 7, 2) := by decide +kernel
theorem dX1_loadHeaviestFirst_24 : decode cX1_loadHeaviestFirst 24 = .ok (.iaload, 1) := by decide +kernel
theorem dX1_loadHeaviestFirst_25 : decode cX1_loadHeaviestFirst 25 = .ok (.istore 8, 2) := by decide +kernel
theorem dX1_loadHeaviestFirst_27 : decode cX1_loadHeaviestFirst 27 = .ok (.aload_n 0, 1) := by decide +kernel
theorem dX1_loadHeaviestFirst_28 : decode cX1_loadHeaviestFirst 28 = .ok (.iload 8, 2) := by decide +kernel
theorem dX1_loadHeaviestFirst_30 : decode cX1_loadHeaviestFirst 30 = .ok (.invokevirtual 73, 3) := by decide +kernel
theorem dX1_loadHeaviestFirst_33 : decode cX1_loadHeaviestFirst 33 = .ok (.ifCond .ne 45, 3) := by decide +kernel
theorem dX1_loadHeaviestFirst_36 : decode cX1_loadHeaviestFirst 36 = .ok (.aload_n 0, 1) := by decide +kernel
theorem dX1_loadHeaviestFirst_37 : decode cX1_loadHeaviestFirst 37 = .ok (.iload 8, 2) := by decide +kernel
theorem dX1_loadHeaviestFirst_39 : decode cX1_loadHeaviestFirst 39 = .ok (.iload_n 1, 1) := by decide +kernel
theorem dX1_loadHeaviestFirst_40 : decode cX1_loadHeaviestFirst 40 = .ok (.lload 4, 2) := by decide +kernel
theorem dX1_loadHeaviestFirst_42 : decode cX1_loadHeaviestFirst 42 = .ok (.invokevirtual 114, 3) := by decide +kernel
theorem dX1_loadHeaviestFirst_45 : decode cX1_loadHeaviestFirst 45 = .ok (.istore 9, 2) := by decide +kernel
theorem dX1_loadHeaviestFirst_47 : decode cX1_loadHeaviestFirst 47 = .ok (.iload 9, 2) := by decide +kernel
theorem dX1_loadHeaviestFirst_49 : decode cX1_loadHeaviestFirst 49 = .ok (.iconst (-1), 1) := by decide +kernel
theorem dX1_loadHeaviestFirst_50 : decode cX1_loadHeaviestFirst 50 = .ok (.if_icmp .eq 28, 3) := by decide +kernel
theorem dX1_loadHeaviestFirst_53 : decode cX1_loadHeaviestFirst 53 = .ok (.aload_n 0, 1) := by decide +kernel
theorem dX1_loadHeaviestFirst_54 : decode cX1_loadHeaviestFirst 54 = .ok (.iload 8, 2) := by decide +kernel
theorem dX1_loadHeaviestFirst_56 : decode cX1_loadHeaviestFirst 56 = .ok (.iload 9, 2) := by decide +kernel
theorem dX1_loadHeaviestFirst_58 : decode cX1_loadHeaviestFirst 58 = .ok (.invokevirtual 118, 3) := by decide +kernel
theorem dX1_loadHeaviestFirst_61 : decode cX1_loadHeaviestFirst 61 = .ok (.lload 4, 2) := by decide +kernel
theorem dX1_loadHeaviestFirst_63 : decode cX1_loadHeaviestFirst 63 = .ok (.aload_n 0, 1) := by decide +kernel
theorem dX1_loadHeaviestFirst_64 : decode cX1_loadHeaviestFirst 64 = .ok (.iload 8, 2) := by decide +kernel
theorem dX1_loadHeaviestFirst_66 : decode cX1_loadHeaviestFirst 66 = .ok (.iload 9, 2) := by decide +kernel
theorem dX1_loadHeaviestFirst_68 : decode cX1_loadHeaviestFirst 68 = .ok (.iload_n 1, 1) := by decide +kernel
theorem dX1_loadHeaviestFirst_69 : decode cX1_loadHeaviestFirst 69 = .ok (.invokevirtual 102, 3) := by decide +kernel
theorem dX1_loadHeaviestFirst_72 : decode cX1_loadHeaviestFirst 72 = .ok (.ladd, 1) := by decide +kernel
theorem dX1_loadHeaviestFirst_73 : decode cX1_loadHeaviestFirst 73 = .ok (.lstore 4, 2) := by decide +kernel
theorem dX1_loadHeaviestFirst_75 : decode cX1_loadHeaviestFirst 75 = .ok (.iinc 6 1, 3) := by decide +kernel
theorem dX1_loadHeaviestFirst_78 : decode cX1_loadHeaviestFirst 78 = .ok (.iinc 7 1, 3) := by decide +kernel
theorem dX1_loadHeaviestFirst_81 : decode cX1_loadHeaviestFirst 81 = .ok (.goto (-72), 3) := by decide +kernel
theorem dX1_loadHeaviestFirst_84 : decode cX1_loadHeaviestFirst 84 = .ok (.iload 6, 2) := by decide +kernel
theorem dX1_loadHeaviestFirst_86 : decode cX1_loadHeaviestFirst 86 = .ok (.ireturn, 1) := by decide +kernel
theorem dX1_loadedInAll_0 : decode cX1_loadedInAll 0 = .ok (.iconst 0, 1) := by decide +kernel
theorem dX1_loadedInAll_1 : decode cX1_loadedInAll 1 = .ok (.istore_n 1, 1) := by decide +kernel
theorem dX1_loadedInAll_2 : decode cX1_loadedInAll 2 = .ok (.iconst 0, 1) := by decide +kernel
theorem dX1_loadedInAll_3 : decode cX1_loadedInAll 3 = .ok (.istore_n 2, 1) := by decide +kernel
theorem dX1_loadedInAll_4 : decode cX1_loadedInAll 4 = .ok (.iload_n 2, 1) := by decide +kernel
theorem dX1_loadedInAll_5 : decode cX1_loadedInAll 5 = .ok (.aload_n 0, 1) := by decide +kernel
theorem dX1_loadedInAll_6 : decode cX1_loadedInAll 6 = .ok (.getfield 49, 3) := by decide +kernel
theorem dX1_loadedInAll_9 : decode cX1_loadedInAll 9 = .ok (.if_icmp .ge 20, 3) := by decide +kernel
theorem dX1_loadedInAll_12 : decode cX1_loadedInAll 12 = .ok (.aload_n 0, 1) := by decide +kernel
theorem dX1_loadedInAll_13 : decode cX1_loadedInAll 13 = .ok (.iload_n 2, 1) := by decide +kernel
theorem dX1_loadedInAll_14 : decode cX1_loadedInAll 14 = .ok (.invokevirtual 73, 3) := by decide +kernel
theorem dX1_loadedInAll_17 : decode cX1_loadedInAll 17 = .ok (.ifCond .eq 6, 3) := by decide +kernel
theorem dX1_loadedInAll_20 : decode cX1_loadedInAll 20 = .ok (.iinc 1 1, 3) := by decide +kernel
theorem dX1_loadedInAll_23 : decode cX1_loadedInAll 23 = .ok (.iinc 2 1, 3) := by decide +kernel
theorem dX1_loadedInAll_26 : decode cX1_loadedInAll 26 = .ok (.goto (-22), 3) := by decide +kernel
theorem dX1_loadedInAll_29 : decode cX1_loadedInAll 29 = .ok (.iload_n 1, 1) := by decide +kernel
theorem dX1_loadedInAll_30 : decode cX1_loadedInAll 30 = .ok (.ireturn, 1) := by decide +kernel
theorem dX1_loadedMoment_0 : decode cX1_loadedMoment 0 = .ok (.lconst 0, 1) := by decide +kernel
theorem dX1_loadedMoment_1 : decode cX1_loadedMoment 1 = .ok (.lstore_n 1, 1) := by decide +kernel
theorem dX1_loadedMoment_2 : decode cX1_loadedMoment 2 = .ok (.iconst 0, 1) := by decide +kernel
theorem dX1_loadedMoment_3 : decode cX1_loadedMoment 3 = .ok (.istore_n 3, 1) := by decide +kernel
theorem dX1_loadedMoment_4 : decode cX1_loadedMoment 4 = .ok (.iload_n 3, 1) := by decide +kernel
theorem dX1_loadedMoment_5 : decode cX1_loadedMoment 5 = .ok (.aload_n 0, 1) := by decide +kernel
theorem dX1_loadedMoment_6 : decode cX1_loadedMoment 6 = .ok (.getfield 49, 3) := by decide +kernel
theorem dX1_loadedMoment_9 : decode cX1_loadedMoment 9 = .ok (.if_icmp .ge 32, 3) := by decide +kernel
theorem dX1_loadedMoment_12 : decode cX1_loadedMoment 12 = .ok (.aload_n 0, 1) := by decide +kernel
theorem dX1_loadedMoment_13 : decode cX1_loadedMoment 13 = .ok (.iload_n 3, 1) := by decide +kernel
theorem dX1_loadedMoment_14 : decode cX1_loadedMoment 14 = .ok (.invokevirtual 73, 3) := by decide +kernel
theorem dX1_loadedMoment_17 : decode cX1_loadedMoment 17 = .ok (.ifCond .eq 18, 3) := by decide +kernel
theorem dX1_loadedMoment_20 : decode cX1_loadedMoment 20 = .ok (.lload_n 1, 1) := by decide +kernel
theorem dX1_loadedMoment_21 : decode cX1_loadedMoment 21 = .ok (.aload_n 0, 1) := by decide +kernel
theorem dX1_loadedMoment_22 : decode cX1_loadedMoment 22 = .ok (.iload_n 3, 1) := by decide +kernel
theorem dX1_loadedMoment_23 : decode cX1_loadedMoment 23 = .ok (.aload_n 0, 1) := by decide +kernel
theorem dX1_loadedMoment_24 : decode cX1_loadedMoment 24 = .ok (.getfield 43, 3) := by decide +kernel
theorem dX1_loadedMoment_27 : decode cX1_loadedMoment 27 = .ok (.iload_n 3, 1) := by decide +kernel
theorem dX1_loadedMoment_28 : decode cX1_loadedMoment 28 = .ok (.iaload, 1) := by decide +kernel
theorem dX1_loadedMoment_29 : decode cX1_loadedMoment 29 = .ok (.iconst 0, 1) := by decide +kernel
theorem dX1_loadedMoment_30 : decode cX1_loadedMoment 30 = .ok (.invokevirtual 102, 3) := by decide +kernel
theorem dX1_loadedMoment_33 : decode cX1_loadedMoment 33 = .ok (.ladd, 1) := by decide +kernel
theorem dX1_loadedMoment_34 : decode cX1_loadedMoment 34 = .ok (.lstore_n 1, 1) := by decide +kernel
theorem dX1_loadedMoment_35 : decode cX1_loadedMoment 35 = .ok (.iinc 3 1, 3) := by decide +kernel
theorem dX1_loadedMoment_38 : decode cX1_loadedMoment 38 = .ok (.goto (-34), 3) := by decide +kernel
theorem dX1_loadedMoment_41 : decode cX1_loadedMoment 41 = .ok (.lload_n 1, 1) := by decide +kernel
theorem dX1_loadedMoment_42 : decode cX1_loadedMoment 42 = .ok (.lreturn, 1) := by decide +kernel
theorem dX1_loadedWeight_0 : decode cX1_loadedWeight 0 = .ok (.iconst 0, 1) := by decide +kernel
theorem dX1_loadedWeight_1 : decode cX1_loadedWeight 1 = .ok (.istore_n 1, 1) := by decide +kernel
theorem dX1_loadedWeight_2 : decode cX1_loadedWeight 2 = .ok (.iconst 0, 1) := by decide +kernel
theorem dX1_loadedWeight_3 : decode cX1_loadedWeight 3 = .ok (.istore_n 2, 1) := by decide +kernel
theorem dX1_loadedWeight_4 : decode cX1_loadedWeight 4 = .ok (.iload_n 2, 1) := by decide +kernel
theorem dX1_loadedWeight_5 : decode cX1_loadedWeight 5 = .ok (.aload_n 0, 1) := by decide +kernel
theorem dX1_loadedWeight_6 : decode cX1_loadedWeight 6 = .ok (.getfield 49, 3) := by decide +kernel
theorem dX1_loadedWeight_9 : decode cX1_loadedWeight 9 = .ok (.if_icmp .ge 26, 3) := by decide +kernel
theorem dX1_loadedWeight_12 : decode cX1_loadedWeight 12 = .ok (.aload_n 0, 1) := by decide +kernel
theorem dX1_loadedWeight_13 : decode cX1_loadedWeight 13 = .ok (.iload_n 2, 1) := by decide +kernel
theorem dX1_loadedWeight_14 : decode cX1_loadedWeight 14 = .ok (.invokevirtual 73, 3) := by decide +kernel
theorem dX1_loadedWeight_17 : decode cX1_loadedWeight 17 = .ok (.ifCond .eq 12, 3) := by decide +kernel
theorem dX1_loadedWeight_20 : decode cX1_loadedWeight 20 = .ok (.iload_n 1, 1) := by decide +kernel
theorem dX1_loadedWeight_21 : decode cX1_loadedWeight 21 = .ok (.aload_n 0, 1) := by decide +kernel
theorem dX1_loadedWeight_22 : decode cX1_loadedWeight 22 = .ok (.getfield 34, 3) := by decide +kernel
theorem dX1_loadedWeight_25 : decode cX1_loadedWeight 25 = .ok (.iload_n 2, 1) := by decide +kernel
theorem dX1_loadedWeight_26 : decode cX1_loadedWeight 26 = .ok (.iaload, 1) := by decide +kernel
theorem dX1_loadedWeight_27 : decode cX1_loadedWeight 27 = .ok (.iadd, 1) := by decide +kernel
theorem dX1_loadedWeight_28 : decode cX1_loadedWeight 28 = .ok (.istore_n 1, 1) := by decide +kernel
theorem dX1_loadedWeight_29 : decode cX1_loadedWeight 29 = .ok (.iinc 2 1, 3) := by decide +kernel
theorem dX1_loadedWeight_32 : decode cX1_loadedWeight 32 = .ok (.goto (-28), 3) := by decide +kernel
theorem dX1_loadedWeight_35 : decode cX1_loadedWeight 35 = .ok (.iload_n 1, 1) := by decide +kernel
theorem dX1_loadedWeight_36 : decode cX1_loadedWeight 36 = .ok (.ireturn, 1) := by decide +kernel
theorem dX1_nearestPlace_0 : decode cX1_nearestPlace 0 = .ok (.iconst (-1), 1) := by decide +kernel
theorem dX1_nearestPlace_1 : decode cX1_nearestPlace 1 = .ok (.istore 5, 2) := by decide +kernel
theorem dX1_nearestPlace_3 : decode cX1_nearestPlace 3 = .ok (.lconst 0, 1) := by decide +kernel
theorem dX1_nearestPlace_4 : decode cX1_nearestPlace 4 = .ok (.lstore 6, 2) := by decide +kernel
theorem dX1_nearestPlace_6 : decode cX1_nearestPlace 6 = .ok (.iconst 0, 1) := by decide +kernel
theorem dX1_nearestPlace_7 : decode cX1_nearestPlace 7 = .ok (.istore 8, 2) := by decide +kernel
theorem dX1_nearestPlace_9 : decode cX1_nearestPlace 9 = .ok (.iload 8, 2) := by decide +kernel
theorem dX1_nearestPlace_11 : decode cX1_nearestPlace 11 = .ok (.aload_n 0, 1) := by decide +kernel
