theorem dX1_nearestPlace_12 : decode cX1_nearestPlace 12 = .ok (.getfield 21, 3) := by decide +kernel
theorem dX1_nearestPlace_15 : decode cX1_nearestPlace 15 = .ok (.if_icmp .ge 98, 3) := by decide +kernel
theorem dX1_nearestPlace_18 : decode cX1_nearestPlace 18 = .ok (.iconst 0, 1) := by decide +kernel
theorem dX1_nearestPlace_19 : decode cX1_nearestPlace 19 = .ok (.istore 9, 2) := by decide +kernel
theorem dX1_nearestPlace_21 : decode cX1_nearestPlace 21 = .ok (.iload 9, 2) := by decide +kernel
theorem dX1_nearestPlace_23 : decode cX1_nearestPlace 23 = .ok (.aload_n 0, 1) := by decide +kernel
theorem dX1_nearestPlace_24 : decode cX1_nearestPlace 24 = .ok (.getfield 18, 3) := by decide +kernel
theorem dX1_nearestPlace_27 : decode cX1_nearestPlace 27 = .ok (.iload 8, 2) := by decide +kernel
theorem dX1_nearestPlace_29 : decode cX1_nearestPlace 29 = .ok (.iaload, 1) := by decide +kernel
theorem dX1_nearestPlace_30 : decode cX1_nearestPlace 30 = .ok (.if_icmp .ge 77, 3) := by decide +kernel
theorem dX1_nearestPlace_33 : decode cX1_nearestPlace 33 = .ok (.iload 8, 2) := by decide +kernel
theorem dX1_nearestPlace_35 : decode cX1_nearestPlace 35 = .ok (.iload 9, 2) := by decide +kernel
theorem dX1_nearestPlace_37 : decode cX1_nearestPlace 37 = .ok (.invokestatic 65, 3) := by decide +kernel
theorem dX1_nearestPlace_40 : decode cX1_nearestPlace 40 = .ok (.istore 10, 2) := by decide +kernel
theorem dX1_nearestPlace_42 : decode cX1_nearestPlace 42 = .ok (.lload_n 3, 1) := by decide +kernel
theorem dX1_nearestPlace_43 : decode cX1_nearestPlace 43 = .ok (.aload_n 0, 1) := by decide +kernel
theorem dX1_nearestPlace_44 : decode cX1_nearestPlace 44 = .ok (.iload_n 1, 1) := by decide +kernel
theorem dX1_nearestPlace_45 : decode cX1_nearestPlace 45 = .ok (.iload 10, 2) := by decide +kernel
theorem dX1_nearestPlace_47 : decode cX1_nearestPlace 47 = .ok (.iload_n 2, 1) := by decide +kernel
theorem dX1_nearestPlace_48 : decode cX1_nearestPlace 48 = .ok (.invokevirtual 102, 3) := by decide +kernel
theorem dX1_nearestPlace_51 : decode cX1_nearestPlace 51 = .ok (.ladd, 1) := by decide +kernel
theorem dX1_nearestPlace_52 : decode cX1_nearestPlace 52 = .ok (.invokestatic 121, 3) := by decide +kernel
theorem dX1_nearestPlace_55 : decode cX1_nearestPlace 55 = .ok (.lstore 11, 2) := by decide +kernel
theorem dX1_nearestPlace_57 : decode cX1_nearestPlace 57 = .ok (.iload 5, 2) := by decide +kernel
theorem dX1_nearestPlace_59 : decode cX1_nearestPlace 59 = .ok (.iconst (-1), 1) := by decide +kernel
theorem dX1_nearestPlace_60 : decode cX1_nearestPlace 60 = .ok (.if_icmp .eq 11, 3) := by decide +kernel
theorem dX1_nearestPlace_63 : decode cX1_nearestPlace 63 = .ok (.lload 11, 2) := by decide +kernel
theorem dX1_nearestPlace_65 : decode cX1_nearestPlace 65 = .ok (.lload 6, 2) := by decide +kernel
theorem dX1_nearestPlace_67 : decode cX1_nearestPlace 67 = .ok (.lcmp, 1) := by decide +kernel
theorem dX1_nearestPlace_68 : decode cX1_nearestPlace 68 = .ok (.ifCond .ge 7, 3) := by decide +kernel
theorem dX1_nearestPlace_71 : decode cX1_nearestPlace 71 = .ok (.iconst 1, 1) := by decide +kernel
theorem dX1_nearestPlace_72 : decode cX1_nearestPlace 72 = .ok (.goto 4, 3) := by decide +kernel
theorem dX1_nearestPlace_75 : decode cX1_nearestPlace 75 = .ok (.iconst 0, 1) := by decide +kernel
theorem dX1_nearestPlace_76 : decode cX1_nearestPlace 76 = .ok (.istore 13, 2) := by decide +kernel
theorem dX1_nearestPlace_78 : decode cX1_nearestPlace 78 = .ok (.iload 13, 2) := by decide +kernel
theorem dX1_nearestPlace_80 : decode cX1_nearestPlace 80 = .ok (.ifCond .eq 21, 3) := by decide +kernel
theorem dX1_nearestPlace_83 : decode cX1_nearestPlace 83 = .ok (.aload_n 0, 1) := by decide +kernel
theorem dX1_nearestPlace_84 : decode cX1_nearestPlace 84 = .ok (.iload_n 1, 1) := by decide +kernel
theorem dX1_nearestPlace_85 : decode cX1_nearestPlace 85 = .ok (.iload 10, 2) := by decide +kernel
theorem dX1_nearestPlace_87 : decode cX1_nearestPlace 87 = .ok (.invokevirtual 124, 3) := by decide +kernel
theorem dX1_nearestPlace_90 : decode cX1_nearestPlace 90 = .ok (.ifCond .ne 11, 3) := by decide +kernel
theorem dX1_nearestPlace_93 : decode cX1_nearestPlace 93 = .ok (.iload 10, 2) := by decide +kernel
theorem dX1_nearestPlace_95 : decode cX1_nearestPlace 95 = .ok (.istore 5, 2) := by decide +kernel
theorem dX1_nearestPlace_97 : decode cX1_nearestPlace 97 = .ok (.lload 11, 2) := by decide +kernel
theorem dX1_nearestPlace_99 : decode cX1_nearestPlace 99 = .ok (.lstore 6, 2) := by decide +kernel
theorem dX1_nearestPlace_101 : decode cX1_nearestPlace 101 = .ok (.iinc 9 1, 3) := by decide +kernel
theorem dX1_nearestPlace_104 : decode cX1_nearestPlace 104 = .ok (.goto (-83), 3) := by decide +kernel
theorem dX1_nearestPlace_107 : decode cX1_nearestPlace 107 = .ok (.iinc 8 1, 3) := by decide +kernel
theorem dX1_nearestPlace_110 : decode cX1_nearestPlace 110 = .ok (.goto (-101), 3) := by decide +kernel
theorem dX1_nearestPlace_113 : decode cX1_nearestPlace 113 = .ok (.iload 5, 2) := by decide +kernel
theorem dX1_nearestPlace_115 : decode cX1_nearestPlace 115 = .ok (.ireturn, 1) := by decide +kernel
theorem dX1_placeOf_0 : decode cX1_placeOf 0 = .ok (.iload_n 0, 1) := by decide +kernel
theorem dX1_placeOf_1 : decode cX1_placeOf 1 = .ok (.bipush 8, 2) := by decide +kernel
theorem dX1_placeOf_3 : decode cX1_placeOf 3 = .ok (.imul, 1) := by decide +kernel
theorem dX1_placeOf_4 : decode cX1_placeOf 4 = .ok (.iload_n 1, 1) := by decide +kernel
theorem dX1_placeOf_5 : decode cX1_placeOf 5 = .ok (.iadd, 1) := by decide +kernel
theorem dX1_placeOf_6 : decode cX1_placeOf 6 = .ok (.ireturn, 1) := by decide +kernel
theorem dX1_pushedInAll_0 : decode cX1_pushedInAll 0 = .ok (.iconst 0, 1) := by decide +kernel
theorem dX1_pushedInAll_1 : decode cX1_pushedInAll 1 = .ok (.istore_n 2, 1) := by decide +kernel
theorem dX1_pushedInAll_2 : decode cX1_pushedInAll 2 = .ok (.iconst 0, 1) := by decide +kernel
theorem dX1_pushedInAll_3 : decode cX1_pushedInAll 3 = .ok (.istore_n 3, 1) := by decide +kernel
theorem dX1_pushedInAll_4 : decode cX1_pushedInAll 4 = .ok (.iload_n 3, 1) := by decide +kernel
theorem dX1_pushedInAll_5 : decode cX1_pushedInAll 5 = .ok (.aload_n 0, 1) := by decide +kernel
theorem dX1_pushedInAll_6 : decode cX1_pushedInAll 6 = .ok (.getfield 21, 3) := by decide +kernel
theorem dX1_pushedInAll_9 : decode cX1_pushedInAll 9 = .ok (.if_icmp .ge 18, 3) := by decide +kernel
theorem dX1_pushedInAll_12 : decode cX1_pushedInAll 12 = .ok (.iload_n 2, 1) := by decide +kernel
theorem dX1_pushedInAll_13 : decode cX1_pushedInAll 13 = .ok (.aload_n 0, 1) := by decide +kernel
theorem dX1_pushedInAll_14 : decode cX1_pushedInAll 14 = .ok (.iload_n 3, 1) := by decide +kernel
theorem dX1_pushedInAll_15 : decode cX1_pushedInAll 15 = .ok (.iload_n 1, 1) := by decide +kernel
theorem dX1_pushedInAll_16 : decode cX1_pushedInAll 16 = .ok (.invokevirtual 106, 3) := by decide +kernel
theorem dX1_pushedInAll_19 : decode cX1_pushedInAll 19 = .ok (.iadd, 1) := by decide +kernel
theorem dX1_pushedInAll_20 : decode cX1_pushedInAll 20 = .ok (.istore_n 2, 1) := by decide +kernel
theorem dX1_pushedInAll_21 : decode cX1_pushedInAll 21 = .ok (.iinc 3 1, 3) := by decide +kernel
theorem dX1_pushedInAll_24 : decode cX1_pushedInAll 24 = .ok (.goto (-20), 3) := by decide +kernel
theorem dX1_pushedInAll_27 : decode cX1_pushedInAll 27 = .ok (.iload_n 2, 1) := by decide +kernel
theorem dX1_pushedInAll_28 : decode cX1_pushedInAll 28 = .ok (.ireturn, 1) := by decide +kernel
theorem dX1_pushedInHold_0 : decode cX1_pushedInHold 0 = .ok (.iconst 0, 1) := by decide +kernel
theorem dX1_pushedInHold_1 : decode cX1_pushedInHold 1 = .ok (.istore_n 3, 1) := by decide +kernel
theorem dX1_pushedInHold_2 : decode cX1_pushedInHold 2 = .ok (.iconst 0, 1) := by decide +kernel
theorem dX1_pushedInHold_3 : decode cX1_pushedInHold 3 = .ok (.istore 4, 2) := by decide +kernel
theorem dX1_pushedInHold_5 : decode cX1_pushedInHold 5 = .ok (.aload_n 0, 1) := by decide +kernel
theorem dX1_pushedInHold_6 : decode cX1_pushedInHold 6 = .ok (.getfield 18, 3) := by decide +kernel
theorem dX1_pushedInHold_9 : decode cX1_pushedInHold 9 = .ok (.iload_n 1, 1) := by decide +kernel
theorem dX1_pushedInHold_10 : decode cX1_pushedInHold 10 = .ok (.iaload, 1) := by decide +kernel
theorem dX1_pushedInHold_11 : decode cX1_pushedInHold 11 = .ok (.iconst 1, 1) := by decide +kernel
theorem dX1_pushedInHold_12 : decode cX1_pushedInHold 12 = .ok (.isub, 1) := by decide +kernel
theorem dX1_pushedInHold_13 : decode cX1_pushedInHold 13 = .ok (.istore 5, 2) := by decide +kernel
theorem dX1_pushedInHold_15 : decode cX1_pushedInHold 15 = .ok (.iload 5, 2) := by decide +kernel
theorem dX1_pushedInHold_17 : decode cX1_pushedInHold 17 = .ok (.ifCond .lt 61, 3) := by decide +kernel
theorem dX1_pushedInHold_20 : decode cX1_pushedInHold 20 = .ok (.aload_n 0, 1) := by decide +kernel
theorem dX1_pushedInHold_21 : decode cX1_pushedInHold 21 = .ok (.getfield 31, 3) := by decide +kernel
theorem dX1_pushedInHold_24 : decode cX1_pushedInHold 24 = .ok (.iload_n 1, 1) := by decide +kernel
theorem dX1_pushedInHold_25 : decode cX1_pushedInHold 25 = .ok (.iload 5, 2) := by decide +kernel
theorem dX1_pushedInHold_27 : decode cX1_pushedInHold 27 = .ok (.invokestatic 65, 3) := by decide +kernel
theorem dX1_pushedInHold_30 : decode cX1_pushedInHold 30 = .ok (.iaload, 1) := by decide +kernel
theorem dX1_pushedInHold_31 : decode cX1_pushedInHold 31 = .ok (.istore 6, 2) := by decide +kernel
theorem dX1_pushedInHold_33 : decode cX1_pushedInHold 33 = .ok (.iload 6, 2) := by decide +kernel
theorem dX1_pushedInHold_35 : decode cX1_pushedInHold 35 = .ok (.iconst (-1), 1) := by decide +kernel
theorem dX1_pushedInHold_36 : decode cX1_pushedInHold 36 = .ok (.if_icmp .eq 36, 3) := by decide +kernel
theorem dX1_pushedInHold_39 : decode cX1_pushedInHold 39 = .ok (.iconst 1, 1) := by decide +kernel
theorem dX1_pushedInHold_40 : decode cX1_pushedInHold 40 = .ok (.aload_n 0, 1) := by decide +kernel
theorem dX1_pushedInHold_41 : decode cX1_pushedInHold 41 = .ok (.getfield 40, 3) := by decide +kernel
theorem dX1_pushedInHold_44 : decode cX1_pushedInHold 44 = .ok (.iload 6, 2) := by decide +kernel
theorem dX1_pushedInHold_46 : decode cX1_pushedInHold 46 = .ok (.iaload, 1) := by decide +kernel
theorem dX1_pushedInHold_47 : decode cX1_pushedInHold 47 = .ok (.ishl, 1) := by decide +kernel
theorem dX1_pushedInHold_48 : decode cX1_pushedInHold 48 = .ok (.istore 7, 2) := by decide +kernel
theorem dX1_pushedInHold_50 : decode cX1_pushedInHold 50 = .ok (.iload_n 3, 1) := by decide +kernel
theorem dX1_pushedInHold_51 : decode cX1_pushedInHold 51 = .ok (.iload 4, 2) := by decide +kernel
theorem dX1_pushedInHold_53 : decode cX1_pushedInHold 53 = .ok (.iload_n 2, 1) := by decide +kernel
theorem dX1_pushedInHold_54 : decode cX1_pushedInHold 54 = .ok (.iand, 1) := by decide +kernel
theorem dX1_pushedInHold_55 : decode cX1_pushedInHold 55 = .ok (.iload 7, 2) := by decide +kernel
theorem dX1_pushedInHold_57 : decode cX1_pushedInHold 57 = .ok (.iconst 1, 1) := by decide +kernel
theorem dX1_pushedInHold_58 : decode cX1_pushedInHold 58 = .ok (.isub, 1) := by decide +kernel
theorem dX1_pushedInHold_59 : decode cX1_pushedInHold 59 = .ok (.iand, 1) := by decide +kernel
theorem dX1_pushedInHold_60 : decode cX1_pushedInHold 60 = .ok (.invokestatic 109, 3) := by decide +kernel
theorem dX1_pushedInHold_63 : decode cX1_pushedInHold 63 = .ok (.iadd, 1) := by decide +kernel
theorem dX1_pushedInHold_64 : decode cX1_pushedInHold 64 = .ok (.istore_n 3, 1) := by decide +kernel
theorem dX1_pushedInHold_65 : decode cX1_pushedInHold 65 = .ok (.iload 4, 2) := by decide +kernel
theorem dX1_pushedInHold_67 : decode cX1_pushedInHold 67 = .ok (.iload 7, 2) := by decide +kernel
theorem dX1_pushedInHold_69 : decode cX1_pushedInHold 69 = .ok (.ior, 1) := by decide +kernel
theorem dX1_pushedInHold_70 : decode cX1_pushedInHold 70 = .ok (.istore 4, 2) := by decide +kernel
theorem dX1_pushedInHold_72 : decode cX1_pushedInHold 72 = .ok (.iinc 5 (-1), 3) := by decide +kernel
theorem dX1_pushedInHold_75 : decode cX1_pushedInHold 75 = .ok (.goto (-60), 3) := by decide +kernel
theorem dX1_pushedInHold_78 : decode cX1_pushedInHold 78 = .ok (.iload_n 3, 1) := by decide +kernel
theorem dX1_pushedInHold_79 : decode cX1_pushedInHold 79 = .ok (.ireturn, 1) := by decide +kernel
theorem dX1_putIn_0 : decode cX1_putIn 0 = .ok (.aload_n 0, 1) := by decide +kernel
theorem dX1_putIn_1 : decode cX1_putIn 1 = .ok (.getfield 31, 3) := by decide +kernel
theorem dX1_putIn_4 : decode cX1_putIn 4 = .ok (.iload_n 2, 1) := by decide +kernel
theorem dX1_putIn_5 : decode cX1_putIn 5 = .ok (.iload_n 1, 1) := by decide +kernel
theorem dX1_putIn_6 : decode cX1_putIn 6 = .ok (.iastore, 1) := by decide +kernel
theorem dX1_putIn_7 : decode cX1_putIn 7 = .ok (.aload_n 0, 1) := by decide +kernel
theorem dX1_putIn_8 : decode cX1_putIn 8 = .ok (.getfield 43, 3) := by decide +kernel
theorem dX1_putIn_11 : decode cX1_putIn 11 = .ok (.iload_n 1, 1) := by decide +kernel
theorem dX1_putIn_12 : decode cX1_putIn 12 = .ok (.iload_n 2, 1) := by decide +kernel
theorem dX1_putIn_13 : decode cX1_putIn 13 = .ok (.iastore, 1) := by decide +kernel
theorem dX1_putIn_14 : decode cX1_putIn 14 = .ok (.return_, 1) := by decide +kernel
theorem dX1_rankByWeight_0 : decode cX1_rankByWeight 0 = .ok (.iload_n 1, 1) := by decide +kernel
theorem dX1_rankByWeight_1 : decode cX1_rankByWeight 1 = .ok (.istore_n 3, 1) := by decide +kernel
theorem dX1_rankByWeight_2 : decode cX1_rankByWeight 2 = .ok (.iload_n 3, 1) := by decide +kernel
theorem dX1_rankByWeight_3 : decode cX1_rankByWeight 3 = .ok (.ifCond .le 40, 3) := by decide +kernel
theorem dX1_rankByWeight_6 : decode cX1_rankByWeight 6 = .ok (.aload_n 0, 1) := by decide +kernel
theorem dX1_rankByWeight_7 : decode cX1_rankByWeight 7 = .ok (.getfield 34, 3) := by decide +kernel
theorem dX1_rankByWeight_10 : decode cX1_rankByWeight 10 = .ok (.aload_n 0, 1) := by decide +kernel
theorem dX1_rankByWeight_11 : decode cX1_rankByWeight 11 = .ok (.getfield 46, 3) := by decide +kernel
theorem dX1_rankByWeight_14 : decode cX1_rankByWeight 14 = .ok (.iload_n 3, 1) := by decide +kernel
theorem dX1_rankByWeight_15 : decode cX1_rankByWeight 15 = .ok (.iconst 1, 1) := by decide +kernel
theorem dX1_rankByWeight_16 : decode cX1_rankByWeight 16 = .ok (.isub, 1) := by decide +kernel
theorem dX1_rankByWeight_17 : decode cX1_rankByWeight 17 = .ok (.iaload, 1) := by decide +kernel
theorem dX1_rankByWeight_18 : decode cX1_rankByWeight 18 = .ok (.iaload, 1) := by decide +kernel
theorem dX1_rankByWeight_19 : decode cX1_rankByWeight 19 = .ok (.iload_n 2, 1) := by decide +kernel
theorem dX1_rankByWeight_20 : decode cX1_rankByWeight 20 = .ok (.if_icmp .ge 23, 3) := by decide +kernel
theorem dX1_rankByWeight_23 : decode cX1_rankByWeight 23 = .ok (.aload_n 0, 1) := by decide +kernel
theorem dX1_rankByWeight_24 : decode cX1_rankByWeight 24 = .ok (.getfield 46, 3) := by decide +kernel
theorem dX1_rankByWeight_27 : decode cX1_rankByWeight 27 = .ok (.iload_n 3, 1) := by decide +kernel
theorem dX1_rankByWeight_28 : decode cX1_rankByWeight 28 = .ok (.aload_n 0, 1) := by decide +kernel
theorem dX1_rankByWeight_29 : decode cX1_rankByWeight 29 = .ok (.getfield 46, 3) := by decide +kernel
theorem dX1_rankByWeight_32 : decode cX1_rankByWeight 32 = .ok (.iload_n 3, 1) := by decide +kernel
theorem dX1_rankByWeight_33 : decode cX1_rankByWeight 33 = .ok (.iconst 1, 1) := by decide +kernel
theorem dX1_rankByWeight_34 : decode cX1_rankByWeight 34 = .ok (.isub, 1) := by decide +kernel
theorem dX1_rankByWeight_35 : decode cX1_rankByWeight 35 = .ok (.iaload, 1) := by decide +kernel
theorem dX1_rankByWeight_36 : decode cX1_rankByWeight 36 = .ok (.iastore, 1) := by decide +kernel
theorem dX1_rankByWeight_37 : decode cX1_rankByWeight 37 = .ok (.iinc 3 (-1), 3) := by decide +kernel
theorem dX1_rankByWeight_40 : decode cX1_rankByWeight 40 = .ok (.goto (-38), 3) := by decide +kernel
theorem dX1_rankByWeight_43 : decode cX1_rankByWeight 43 = .ok (.aload_n 0, 1) := by decide +kernel
theorem dX1_rankByWeight_44 : decode cX1_rankByWeight 44 = .ok (.getfield 46, 3) := by decide +kernel
theorem dX1_rankByWeight_47 : decode cX1_rankByWeight 47 = .ok (.iload_n 3, 1) := by decide +kernel
theorem dX1_rankByWeight_48 : decode cX1_rankByWeight 48 = .ok (.iload_n 1, 1) := by decide +kernel
theorem dX1_rankByWeight_49 : decode cX1_rankByWeight 49 = .ok (.iastore, 1) := by decide +kernel
theorem dX1_rankByWeight_50 : decode cX1_rankByWeight 50 = .ok (.return_, 1) := by decide +kernel
theorem dX1_setDistance_0 : decode cX1_setDistance 0 = .ok (.aload_n 0, 1) := by decide +kernel
theorem dX1_setDistance_1 : decode cX1_setDistance 1 = .ok (.getfield 52, 3) := by decide +kernel
theorem dX1_setDistance_4 : decode cX1_setDistance 4 = .ok (.iload_n 1, 1) := by decide +kernel
theorem dX1_setDistance_5 : decode cX1_setDistance 5 = .ok (.bipush 8, 2) := by decide +kernel
theorem dX1_setDistance_7 : decode cX1_setDistance 7 = .ok (.imul, 1) := by decide +kernel
theorem dX1_setDistance_8 : decode cX1_setDistance 8 = .ok (.iload_n 2, 1) := by decide +kernel
theorem dX1_setDistance_9 : decode cX1_setDistance 9 = .ok (.iadd, 1) := by decide +kernel
theorem dX1_setDistance_10 : decode cX1_setDistance 10 = .ok (.iaload, 1) := by decide +kernel
theorem dX1_setDistance_11 : decode cX1_setDistance 11 = .ok (.istore 4, 2) := by decide +kernel
theorem dX1_setDistance_13 : decode cX1_setDistance 13 = .ok (.aload_n 0, 1) := by decide +kernel
theorem dX1_setDistance_14 : decode cX1_setDistance 14 = .ok (.getfield 52, 3) := by decide +kernel
theorem dX1_setDistance_17 : decode cX1_setDistance 17 = .ok (.iload_n 1, 1) := by decide +kernel
theorem dX1_setDistance_18 : decode cX1_setDistance 18 = .ok (.bipush 8, 2) := by decide +kernel
theorem dX1_setDistance_20 : decode cX1_setDistance 20 = .ok (.imul, 1) := by decide +kernel
theorem dX1_setDistance_21 : decode cX1_setDistance 21 = .ok (.iload_n 2, 1) := by decide +kernel
theorem dX1_setDistance_22 : decode cX1_setDistance 22 = .ok (.iadd, 1) := by decide +kernel
theorem dX1_setDistance_23 : decode cX1_setDistance 23 = .ok (.iload_n 3, 1) := by decide +kernel
theorem dX1_setDistance_24 : decode cX1_setDistance 24 = .ok (.iastore, 1) := by decide +kernel
theorem dX1_setDistance_25 : decode cX1_setDistance 25 = .ok (.aload_n 0, 1) := by decide +kernel
theorem dX1_setDistance_26 : decode cX1_setDistance 26 = .ok (.getfield 52, 3) := by decide +kernel
theorem dX1_setDistance_29 : decode cX1_setDistance 29 = .ok (.iload_n 2, 1) := by decide +kernel
theorem dX1_setDistance_30 : decode cX1_setDistance 30 = .ok (.bipush 8, 2) := by decide +kernel
theorem dX1_setDistance_32 : decode cX1_setDistance 32 = .ok (.imul, 1) := by decide +kernel
theorem dX1_setDistance_33 : decode cX1_setDistance 33 = .ok (.iload_n 1, 1) := by decide +kernel
theorem dX1_setDistance_34 : decode cX1_setDistance 34 = .ok (.iadd, 1) := by decide +kernel
theorem dX1_setDistance_35 : decode cX1_setDistance 35 = .ok (.iload_n 3, 1) := by decide +kernel
theorem dX1_setDistance_36 : decode cX1_setDistance 36 = .ok (.iastore, 1) := by decide +kernel
theorem dX1_setDistance_37 : decode cX1_setDistance 37 = .ok (.iload 4, 2) := by decide +kernel
theorem dX1_setDistance_39 : decode cX1_setDistance 39 = .ok (.ireturn, 1) := by decide +kernel
theorem dX1_slotsInAll_0 : decode cX1_slotsInAll 0 = .ok (.iconst 0, 1) := by decide +kernel
theorem dX1_slotsInAll_1 : decode cX1_slotsInAll 1 = .ok (.istore_n 1, 1) := by decide +kernel
theorem dX1_slotsInAll_2 : decode cX1_slotsInAll 2 = .ok (.iconst 0, 1) := by decide +kernel
theorem dX1_slotsInAll_3 : decode cX1_slotsInAll 3 = .ok (.istore_n 2, 1) := by decide +kernel
theorem dX1_slotsInAll_4 : decode cX1_slotsInAll 4 = .ok (.iload_n 2, 1) := by decide +kernel
theorem dX1_slotsInAll_5 : decode cX1_slotsInAll 5 = .ok (.aload_n 0, 1) := by decide +kernel
theorem dX1_slotsInAll_6 : decode cX1_slotsInAll 6 = .ok (.getfield 21, 3) := by decide +kernel
theorem dX1_slotsInAll_9 : decode cX1_slotsInAll 9 = .ok (.if_icmp .ge 18, 3) := by decide +kernel
theorem dX1_slotsInAll_12 : decode cX1_slotsInAll 12 = .ok (.iload_n 1, 1) := by decide +kernel
theorem dX1_slotsInAll_13 : decode cX1_slotsInAll 13 = .ok (.aload_n 0, 1) := by decide +kernel
theorem dX1_slotsInAll_14 : decode cX1_slotsInAll 14 = .ok (.getfield 18, 3) := by decide +kernel
theorem dX1_slotsInAll_17 : decode cX1_slotsInAll 17 = .ok (.iload_n 2, 1) := by decide +kernel
theorem dX1_slotsInAll_18 : decode cX1_slotsInAll 18 = .ok (.iaload, 1) := by decide +kernel
theorem dX1_slotsInAll_19 : decode cX1_slotsInAll 19 = .ok (.iadd, 1) := by decide +kernel
theorem dX1_slotsInAll_20 : decode cX1_slotsInAll 20 = .ok (.istore_n 1, 1) := by decide +kernel
theorem dX1_slotsInAll_21 : decode cX1_slotsInAll 21 = .ok (.iinc 2 1, 3) := by decide +kernel
theorem dX1_slotsInAll_24 : decode cX1_slotsInAll 24 = .ok (.goto (-20), 3) := by decide +kernel
theorem dX1_slotsInAll_27 : decode cX1_slotsInAll 27 = .ok (.iload_n 1, 1) := by decide +kernel
theorem dX1_slotsInAll_28 : decode cX1_slotsInAll 28 = .ok (.ireturn, 1) := by decide +kernel
theorem dX1_takeOut_0 : decode cX1_takeOut 0 = .ok (.aload_n 0, 1) := by decide +kernel
theorem dX1_takeOut_1 : decode cX1_takeOut 1 = .ok (.getfield 43, 3) := by decide +kernel
theorem dX1_takeOut_4 : decode cX1_takeOut 4 = .ok (.iload_n 1, 1) := by decide +kernel
theorem dX1_takeOut_5 : decode cX1_takeOut 5 = .ok (.iaload, 1) := by decide +kernel
theorem dX1_takeOut_6 : decode cX1_takeOut 6 = .ok (.istore_n 2, 1) := by decide +kernel
theorem dX1_takeOut_7 : decode cX1_takeOut 7 = .ok (.iload_n 2, 1) := by decide +kernel
theorem dX1_takeOut_8 : decode cX1_takeOut 8 = .ok (.iconst (-1), 1) := by decide +kernel
theorem dX1_takeOut_9 : decode cX1_takeOut 9 = .ok (.if_icmp .eq 17, 3) := by decide +kernel
theorem dX1_takeOut_12 : decode cX1_takeOut 12 = .ok (.aload_n 0, 1) := by decide +kernel
theorem dX1_takeOut_13 : decode cX1_takeOut 13 = .ok (.getfield 31, 3) := by decide +kernel
theorem dX1_takeOut_16 : decode cX1_takeOut 16 = .ok (.iload_n 2, 1) := by decide +kernel
theorem dX1_takeOut_17 : decode cX1_takeOut 17 = .ok (.iconst (-1), 1) := by decide +kernel
theorem dX1_takeOut_18 : decode cX1_takeOut 18 = .ok (.iastore, 1) := by decide +kernel
theorem dX1_takeOut_19 : decode cX1_takeOut 19 = .ok (.aload_n 0, 1) := by decide +kernel
theorem dX1_takeOut_20 : decode cX1_takeOut 20 = .ok (.getfield 43, 3) := by decide +kernel
theorem dX1_takeOut_23 : decode cX1_takeOut 23 = .ok (.iload_n 1, 1) := by decide +kernel
theorem dX1_takeOut_24 : decode cX1_takeOut 24 = .ok (.iconst (-1), 1) := by decide +kernel
theorem dX1_takeOut_25 : decode cX1_takeOut 25 = .ok (.iastore, 1) := by decide +kernel
theorem dX1_takeOut_26 : decode cX1_takeOut 26 = .ok (.return_, 1) := by decide +kernel
theorem dX1_takeOutAllOf_0 : decode cX1_takeOutAllOf 0 = .ok (.iconst 0, 1) := by decide +kernel
theorem dX1_takeOutAllOf_1 : decode cX1_takeOutAllOf 1 = .ok (.istore_n 2, 1) := by decide +kernel
theorem dX1_takeOutAllOf_2 : decode cX1_takeOutAllOf 2 = .ok (.iconst 0, 1) := by decide +kernel
theorem dX1_takeOutAllOf_3 : decode cX1_takeOutAllOf 3 = .ok (.istore_n 3, 1) := by decide +kernel
theorem dX1_takeOutAllOf_4 : decode cX1_takeOutAllOf 4 = .ok (.iload_n 3, 1) := by decide +kernel
theorem dX1_takeOutAllOf_5 : decode cX1_takeOutAllOf 5 = .ok (.aload_n 0, 1) := by decide +kernel
theorem dX1_takeOutAllOf_6 : decode cX1_takeOutAllOf 6 = .ok (.getfield 49, 3) := by decide +kernel
theorem dX1_takeOutAllOf_9 : decode cX1_takeOutAllOf 9 = .ok (.if_icmp .ge 35, 3) := by decide +kernel
theorem dX1_takeOutAllOf_12 : decode cX1_takeOutAllOf 12 = .ok (.aload_n 0, 1) := by decide +kernel
theorem dX1_takeOutAllOf_13 : decode cX1_takeOutAllOf 13 = .ok (.getfield 40, 3) := by decide +kernel
theorem dX1_takeOutAllOf_16 : decode cX1_takeOutAllOf 16 = .ok (.iload_n 3, 1) := by decide +kernel
theorem dX1_takeOutAllOf_17 : decode cX1_takeOutAllOf 17 = .ok (.iaload, 1) := by decide +kernel
theorem dX1_takeOutAllOf_18 : decode cX1_takeOutAllOf 18 = .ok (.iload_n 1, 1) := by decide +kernel
theorem dX1_takeOutAllOf_19 : decode cX1_takeOutAllOf 19 = .ok (.if_icmp .ne 19, 3) := by decide +kernel
theorem dX1_takeOutAllOf_22 : decode cX1_takeOutAllOf 22 = .ok (.aload_n 0, 1) := by decide +kernel
theorem dX1_takeOutAllOf_23 : decode cX1_takeOutAllOf 23 = .ok (.iload_n 3, 1) := by decide +kernel
theorem dX1_takeOutAllOf_24 : decode cX1_takeOutAllOf 24 = .ok (.invokevirtual 73, 3) := by decide +kernel
theorem dX1_takeOutAllOf_27 : decode cX1_takeOutAllOf 27 = .ok (.ifCond .eq 11, 3) := by decide +kernel
theorem dX1_takeOutAllOf_30 : decode cX1_takeOutAllOf 30 = .ok (.aload_n 0, 1) := by decide +kernel
theorem dX1_takeOutAllOf_31 : decode cX1_takeOutAllOf 31 = .ok (.iload_n 3, 1) := by decide +kernel
theorem dX1_takeOutAllOf_32 : decode cX1_takeOutAllOf 32 = .ok (.invokevirtual 76, 3) := by decide +kernel
theorem dX1_takeOutAllOf_35 : decode cX1_takeOutAllOf 35 = .ok (.iinc 2 1, 3) := by decide +kernel
theorem dX1_takeOutAllOf_38 : decode cX1_takeOutAllOf 38 = .ok (.iinc 3 1, 3) := by decide +kernel
theorem dX1_takeOutAllOf_41 : decode cX1_takeOutAllOf 41 = .ok (.goto (-37), 3) := by decide +kernel
theorem dX1_takeOutAllOf_44 : decode cX1_takeOutAllOf 44 = .ok (.iload_n 2, 1) := by decide +kernel
theorem dX1_takeOutAllOf_45 : decode cX1_takeOutAllOf 45 = .ok (.ireturn, 1) := by decide +kernel
theorem dX1_weightAt_0 : decode cX1_weightAt 0 = .ok (.aload_n 0, 1) := by decide +kernel
theorem dX1_weightAt_1 : decode cX1_weightAt 1 = .ok (.getfield 31, 3) := by decide +kernel
theorem dX1_weightAt_4 : decode cX1_weightAt 4 = .ok (.iload_n 1, 1) := by decide +kernel
theorem dX1_weightAt_5 : decode cX1_weightAt 5 = .ok (.iaload, 1) := by decide +kernel
theorem dX1_weightAt_6 : decode cX1_weightAt 6 = .ok (.istore_n 2, 1) := by decide +kernel
theorem dX1_weightAt_7 : decode cX1_weightAt 7 = .ok (.iload_n 2, 1) := by decide +kernel
theorem dX1_weightAt_8 : decode cX1_weightAt 8 = .ok (.iconst (-1), 1) := by decide +kernel
theorem dX1_weightAt_9 : decode cX1_weightAt 9 = .ok (.if_icmp .ne 7, 3) := by decide +kernel
theorem dX1_weightAt_12 : decode cX1_weightAt 12 = .ok (.iconst 0, 1) := by decide +kernel
theorem dX1_weightAt_13 : decode cX1_weightAt 13 = .ok (.goto 9, 3) := by decide +kernel
theorem dX1_weightAt_16 : decode cX1_weightAt 16 = .ok (.aload_n 0, 1) := by decide +kernel
theorem dX1_weightAt_17 : decode cX1_weightAt 17 = .ok (.getfield 34, 3) := by decide +kernel
theorem dX1_weightAt_20 : decode cX1_weightAt 20 = .ok (.iload_n 2, 1) := by decide +kernel
theorem dX1_weightAt_21 : decode cX1_weightAt 21 = .ok (.iaload, 1) := by decide +kernel
theorem dX1_weightAt_22 : decode cX1_weightAt 22 = .ok (.ireturn, 1) := by decide +kernel
theorem dX1_weightInHold_0 : decode cX1_weightInHold 0 = .ok (.iconst 0, 1) := by decide +kernel
theorem dX1_weightInHold_1 : decode cX1_weightInHold 1 = .ok (.istore_n 2, 1) := by decide +kernel
theorem dX1_weightInHold_2 : decode cX1_weightInHold 2 = .ok (.iconst 0, 1) := by decide +kernel
theorem dX1_weightInHold_3 : decode cX1_weightInHold 3 = .ok (.istore_n 3, 1) := by decide +kernel
theorem dX1_weightInHold_4 : decode cX1_weightInHold 4 = .ok (.iload_n 3, 1) := by decide +kernel
theorem dX1_weightInHold_5 : decode cX1_weightInHold 5 = .ok (.aload_n 0, 1) := by decide +kernel
theorem dX1_weightInHold_6 : decode cX1_weightInHold 6 = .ok (.getfield 18, 3) := by decide +kernel
theorem dX1_weightInHold_9 : decode cX1_weightInHold 9 = .ok (.iload_n 1, 1) := by decide +kernel
theorem dX1_weightInHold_10 : decode cX1_weightInHold 10 = .ok (.iaload, 1) := by decide +kernel
theorem dX1_weightInHold_11 : decode cX1_weightInHold 11 = .ok (.if_icmp .ge 21, 3) := by decide +kernel
theorem dX1_weightInHold_14 : decode cX1_weightInHold 14 = .ok (.iload_n 2, 1) := by decide +kernel
theorem dX1_weightInHold_15 : decode cX1_weightInHold 15 = .ok (.aload_n 0, 1) := by decide +kernel
theorem dX1_weightInHold_16 : decode cX1_weightInHold 16 = .ok (.iload_n 1, 1) := by decide +kernel
theorem dX1_weightInHold_17 : decode cX1_weightInHold 17 = .ok (.iload_n 3, 1) := by decide +kernel
theorem dX1_weightInHold_18 : decode cX1_weightInHold 18 = .ok (.invokestatic 65, 3) := by decide +kernel
theorem dX1_weightInHold_21 : decode cX1_weightInHold 21 = .ok (.invokevirtual 91, 3) := by decide +kernel
theorem dX1_weightInHold_24 : decode cX1_weightInHold 24 = .ok (.iadd, 1) := by decide +kernel
theorem dX1_weightInHold_25 : decode cX1_weightInHold 25 = .ok (.istore_n 2, 1) := by decide +kernel
theorem dX1_weightInHold_26 : decode cX1_weightInHold 26 = .ok (.iinc 3 1, 3) := by decide +kernel
theorem dX1_weightInHold_29 : decode cX1_weightInHold 29 = .ok (.goto (-25), 3) := by decide +kernel
theorem dX1_weightInHold_32 : decode cX1_weightInHold 32 = .ok (.iload_n 2, 1) := by decide +kernel
theorem dX1_weightInHold_33 : decode cX1_weightInHold 33 = .ok (.ireturn, 1) := by decide +kernel
theorem dX2_bottom_0 : decode cX2_bottom 0 = .ok (.iload_n 3, 1) := by decide +kernel
theorem dX2_bottom_1 : decode cX2_bottom 1 = .ok (.istore 5, 2) := by decide +kernel
theorem dX2_bottom_3 : decode cX2_bottom 3 = .ok (.iload 4, 2) := by decide +kernel
theorem dX2_bottom_5 : decode cX2_bottom 5 = .ok (.istore 6, 2) := by decide +kernel
theorem dX2_bottom_7 : decode cX2_bottom 7 = .ok (.iconst 0, 1) := by decide +kernel
theorem dX2_bottom_8 : decode cX2_bottom 8 = .ok (.istore 7, 2) := by decide +kernel
theorem dX2_bottom_10 : decode cX2_bottom 10 = .ok (.iload 7, 2) := by decide +kernel
theorem dX2_bottom_12 : decode cX2_bottom 12 = .ok (.bipush 40, 2) := by decide +kernel
theorem dX2_bottom_14 : decode cX2_bottom 14 = .ok (.if_icmp .ge 60, 3) := by decide +kernel
theorem dX2_bottom_17 : decode cX2_bottom 17 = .ok (.iload 5, 2) := by decide +kernel
theorem dX2_bottom_19 : decode cX2_bottom 19 = .ok (.iload 6, 2) := by decide +kernel
theorem dX2_bottom_21 : decode cX2_bottom 21 = .ok (.if_icmp .ge 53, 3) := by decide +kernel
theorem dX2_bottom_24 : decode cX2_bottom 24 = .ok (.iload 5, 2) := by decide +kernel
theorem dX2_bottom_26 : decode cX2_bottom 26 = .ok (.iload 6, 2) := by decide +kernel
theorem dX2_bottom_28 : decode cX2_bottom 28 = .ok (.iadd, 1) := by decide +kernel
theorem dX2_bottom_29 : decode cX2_bottom 29 = .ok (.iconst 2, 1) := by decide +kernel
theorem dX2_bottom_30 : decode cX2_bottom 30 = .ok (.idiv, 1) := by decide +kernel
theorem dX2_bottom_31 : decode cX2_bottom 31 = .ok (.istore 8, 2) := by decide +kernel
theorem dX2_bottom_33 : decode cX2_bottom 33 = .ok (.aload_n 0, 1) := by decide +kernel
theorem dX2_bottom_34 : decode cX2_bottom 34 = .ok (.iload_n 1, 1) := by decide +kernel
theorem dX2_bottom_35 : decode cX2_bottom 35 = .ok (.iload_n 2, 1) := by decide +kernel
theorem dX2_bottom_36 : decode cX2_bottom 36 = .ok (.iload 8, 2) := by decide +kernel
theorem dX2_bottom_38 : decode cX2_bottom 38 = .ok (.iconst 1, 1) := by decide +kernel
theorem dX2_bottom_39 : decode cX2_bottom 39 = .ok (.iadd, 1) := by decide +kernel
theorem dX2_bottom_40 : decode cX2_bottom 40 = .ok (.invokevirtual 64, 3) := by decide +kernel
theorem dX2_bottom_43 : decode cX2_bottom 43 = .ok (.aload_n 0, 1) := by decide +kernel
theorem dX2_bottom_44 : decode cX2_bottom 44 = .ok (.iload_n 1, 1) := by decide +kernel
theorem dX2_bottom_45 : decode cX2_bottom 45 = .ok (.iload_n 2, 1) := by decide +kernel
theorem dX2_bottom_46 : decode cX2_bottom 46 = .ok (.iload 8, 2) := by decide +kernel
theorem dX2_bottom_48 : decode cX2_bottom 48 = .ok (.invokevirtual 64, 3) := by decide +kernel
theorem dX2_bottom_51 : decode cX2_bottom 51 = .ok (.lcmp, 1) := by decide +kernel
theorem dX2_bottom_52 : decode cX2_bottom 52 = .ok (.ifCond .ge 12, 3) := by decide +kernel
theorem dX2_bottom_55 : decode cX2_bottom 55 = .ok (.iload 8, 2) := by decide +kernel
theorem dX2_bottom_57 : decode cX2_bottom 57 = .ok (.iconst 1, 1) := by decide +kernel
theorem dX2_bottom_58 : decode cX2_bottom 58 = .ok (.iadd, 1) := by decide +kernel
theorem dX2_bottom_59 : decode cX2_bottom 59 = .ok (.istore 5, 2) := by decide +kernel
theorem dX2_bottom_61 : decode cX2_bottom 61 = .ok (.goto 7, 3) := by decide +kernel
theorem dX2_bottom_64 : decode cX2_bottom 64 = .ok (.iload 8, 2) := by decide +kernel
theorem dX2_bottom_66 : decode cX2_bottom 66 = .ok (.istore 6, 2) := by decide +kernel
theorem dX2_bottom_68 : decode cX2_bottom 68 = .ok (.iinc 7 1, 3) := by decide +kernel
theorem dX2_bottom_71 : decode cX2_bottom 71 = .ok (.goto (-61), 3) := by decide +kernel
theorem dX2_bottom_74 : decode cX2_bottom 74 = .ok (.iload 5, 2) := by decide +kernel
theorem dX2_bottom_76 : decode cX2_bottom 76 = .ok (.ireturn, 1) := by decide +kernel
theorem dX2_firstOutside_0 : decode cX2_firstOutside 0 = .ok (.aload_n 0, 1) := by decide +kernel
theorem dX2_firstOutside_1 : decode cX2_firstOutside 1 = .ok (.iload_n 1, 1) := by decide +kernel
theorem dX2_firstOutside_2 : decode cX2_firstOutside 2 = .ok (.iconst 1, 1) := by decide +kernel
theorem dX2_firstOutside_3 : decode cX2_firstOutside 3 = .ok (.iload_n 2, 1) := by decide +kernel
theorem dX2_firstOutside_4 : decode cX2_firstOutside 4 = .ok (.iload_n 3, 1) := by decide +kernel
theorem dX2_firstOutside_5 : decode cX2_firstOutside 5 = .ok (.invokevirtual 60, 3) := by decide +kernel
theorem dX2_firstOutside_8 : decode cX2_firstOutside 8 = .ok (.istore 4, 2) := by decide +kernel
theorem dX2_firstOutside_10 : decode cX2_firstOutside 10 = .ok (.aload_n 0, 1) := by decide +kernel
theorem dX2_firstOutside_11 : decode cX2_firstOutside 11 = .ok (.iload_n 1, 1) := by decide +kernel
theorem dX2_firstOutside_12 : decode cX2_firstOutside 12 = .ok (.iconst 0, 1) := by decide +kernel
theorem dX2_firstOutside_13 : decode cX2_firstOutside 13 = .ok (.iload_n 2, 1) := by decide +kernel
theorem dX2_firstOutside_14 : decode cX2_firstOutside 14 = .ok (.iload 4, 2) := by decide +kernel
theorem dX2_firstOutside_16 : decode cX2_firstOutside 16 = .ok (.iconst (-1), 1) := by decide +kernel
theorem dX2_firstOutside_17 : decode cX2_firstOutside 17 = .ok (.if_icmp .ne 7, 3) := by decide +kernel
theorem dX2_firstOutside_20 : decode cX2_firstOutside 20 = .ok (.iload_n 3, 1) := by decide +kernel
theorem dX2_firstOutside_21 : decode cX2_firstOutside 21 = .ok (.goto 5, 3) := by decide +kernel
theorem dX2_firstOutside_24 : decode cX2_firstOutside 24 = .ok (.iload 4, 2) := by decide +kernel
theorem dX2_firstOutside_26 : decode cX2_firstOutside 26 = .ok (.invokevirtual 60, 3) := by decide +kernel
theorem dX2_firstOutside_29 : decode cX2_firstOutside 29 = .ok (.istore 5, 2) := by decide +kernel
theorem dX2_firstOutside_31 : decode cX2_firstOutside 31 = .ok (.iload 5, 2) := by decide +kernel
theorem dX2_firstOutside_33 : decode cX2_firstOutside 33 = .ok (.iconst (-1), 1) := by decide +kernel
theorem dX2_firstOutside_34 : decode cX2_firstOutside 34 = .ok (.if_icmp .ne 8, 3) := by decide +kernel
theorem dX2_firstOutside_37 : decode cX2_firstOutside 37 = .ok (.iload 4, 2) := by decide +kernel
theorem dX2_firstOutside_39 : decode cX2_firstOutside 39 = .ok (.goto 5, 3) := by decide +kernel
theorem dX2_firstOutside_42 : decode cX2_firstOutside 42 = .ok (.iload 5, 2) := by decide +kernel
theorem dX2_firstOutside_44 : decode cX2_firstOutside 44 = .ok (.ireturn, 1) := by decide +kernel
theorem dX2_firstWithoutRoom_0 : decode cX2_firstWithoutRoom 0 = .ok (.aload_n 0, 1) := by decide +kernel
theorem dX2_firstWithoutRoom_1 : decode cX2_firstWithoutRoom 1 = .ok (.iload_n 1, 1) := by decide +kernel
theorem dX2_firstWithoutRoom_2 : decode cX2_firstWithoutRoom 2 = .ok (.iload_n 2, 1) := by decide +kernel
theorem dX2_firstWithoutRoom_3 : decode cX2_firstWithoutRoom 3 = .ok (.iload_n 3, 1) := by decide +kernel
theorem dX2_firstWithoutRoom_4 : decode cX2_firstWithoutRoom 4 = .ok (.invokevirtual 64, 3) := by decide +kernel
theorem dX2_firstWithoutRoom_7 : decode cX2_firstWithoutRoom 7 = .ok (.lconst 0, 1) := by decide +kernel
theorem dX2_firstWithoutRoom_8 : decode cX2_firstWithoutRoom 8 = .ok (.lcmp, 1) := by decide +kernel
theorem dX2_firstWithoutRoom_9 : decode cX2_firstWithoutRoom 9 = .ok (.ifCond .ge 5, 3) := by decide +kernel
theorem dX2_firstWithoutRoom_12 : decode cX2_firstWithoutRoom 12 = .ok (.iload_n 3, 1) := by decide +kernel
theorem dX2_firstWithoutRoom_13 : decode cX2_firstWithoutRoom 13 = .ok (.ireturn, 1) := by decide +kernel
theorem dX2_firstWithoutRoom_14 : decode cX2_firstWithoutRoom 14 = .ok (.aload_n 0, 1) := by decide +kernel
theorem dX2_firstWithoutRoom_15 : decode cX2_firstWithoutRoom 15 = .ok (.iload_n 1, 1) := by decide +kernel
theorem dX2_firstWithoutRoom_16 : decode cX2_firstWithoutRoom 16 = .ok (.iload_n 2, 1) := by decide +kernel
theorem dX2_firstWithoutRoom_17 : decode cX2_firstWithoutRoom 17 = .ok (.invokevirtual 68, 3) := by decide +kernel
theorem dX2_firstWithoutRoom_20 : decode cX2_firstWithoutRoom 20 = .ok (.ifCond .eq 15, 3) := by decide +kernel
theorem dX2_firstWithoutRoom_23 : decode cX2_firstWithoutRoom 23 = .ok (.aload_n 0, 1) := by decide +kernel
theorem dX2_firstWithoutRoom_24 : decode cX2_firstWithoutRoom 24 = .ok (.iload_n 1, 1) := by decide +kernel
theorem dX2_firstWithoutRoom_25 : decode cX2_firstWithoutRoom 25 = .ok (.iload_n 2, 1) := by decide +kernel
theorem dX2_firstWithoutRoom_26 : decode cX2_firstWithoutRoom 26 = .ok (.iload_n 3, 1) := by decide +kernel
theorem dX2_firstWithoutRoom_27 : decode cX2_firstWithoutRoom 27 = .ok (.iload 4, 2) := by decide +kernel
theorem dX2_firstWithoutRoom_29 : decode cX2_firstWithoutRoom 29 = .ok (.invokevirtual 72, 3) := by decide +kernel
theorem dX2_firstWithoutRoom_32 : decode cX2_firstWithoutRoom 32 = .ok (.goto 5, 3) := by decide +kernel
theorem dX2_firstWithoutRoom_35 : decode cX2_firstWithoutRoom 35 = .ok (.iload 4, 2) := by decide +kernel
theorem dX2_firstWithoutRoom_37 : decode cX2_firstWithoutRoom 37 = .ok (.istore 5, 2) := by decide +kernel
theorem dX2_firstWithoutRoom_39 : decode cX2_firstWithoutRoom 39 = .ok (.aload_n 0, 1) := by decide +kernel
theorem dX2_firstWithoutRoom_40 : decode cX2_firstWithoutRoom 40 = .ok (.iload_n 1, 1) := by decide +kernel
theorem dX2_firstWithoutRoom_41 : decode cX2_firstWithoutRoom 41 = .ok (.iload_n 2, 1) := by decide +kernel
theorem dX2_firstWithoutRoom_42 : decode cX2_firstWithoutRoom 42 = .ok (.iload 5, 2) := by decide +kernel
theorem dX2_firstWithoutRoom_44 : decode cX2_firstWithoutRoom 44 = .ok (.invokevirtual 64, 3) := by decide +kernel
theorem dX2_firstWithoutRoom_47 : decode cX2_firstWithoutRoom 47 = .ok (.lconst 0, 1) := by decide +kernel
theorem dX2_firstWithoutRoom_48 : decode cX2_firstWithoutRoom 48 = .ok (.lcmp, 1) := by decide +kernel
theorem dX2_firstWithoutRoom_49 : decode cX2_firstWithoutRoom 49 = .ok (.ifCond .lt 5, 3) := by decide +kernel
theorem dX2_firstWithoutRoom_52 : decode cX2_firstWithoutRoom 52 = .ok (.iconst (-1), 1) := by decide +kernel
theorem dX2_firstWithoutRoom_53 : decode cX2_firstWithoutRoom 53 = .ok (.ireturn, 1) := by decide +kernel
theorem dX2_firstWithoutRoom_54 : decode cX2_firstWithoutRoom 54 = .ok (.iload_n 3, 1) := by decide +kernel
theorem dX2_firstWithoutRoom_55 : decode cX2_firstWithoutRoom 55 = .ok (.istore 6, 2) := by decide +kernel
theorem dX2_firstWithoutRoom_57 : decode cX2_firstWithoutRoom 57 = .ok (.iload 5, 2) := by decide +kernel
theorem dX2_firstWithoutRoom_59 : decode cX2_firstWithoutRoom 59 = .ok (.istore 7, 2) := by decide +kernel
theorem dX2_firstWithoutRoom_61 : decode cX2_firstWithoutRoom 61 = .ok (.iconst 0, 1) := by decide +kernel
theorem dX2_firstWithoutRoom_62 : decode cX2_firstWithoutRoom 62 = .ok (.istore 8, 2) := by decide +kernel
theorem dX2_firstWithoutRoom_64 : decode cX2_firstWithoutRoom 64 = .ok (.iload 8, 2) := by decide +kernel
theorem dX2_firstWithoutRoom_66 : decode cX2_firstWithoutRoom 66 = .ok (.bipush 40, 2) := by decide +kernel
theorem dX2_firstWithoutRoom_68 : decode cX2_firstWithoutRoom 68 = .ok (.if_icmp .ge 51, 3) := by decide +kernel
theorem dX2_firstWithoutRoom_71 : decode cX2_firstWithoutRoom 71 = .ok (.iload 7, 2) := by decide +kernel
theorem dX2_firstWithoutRoom_73 : decode cX2_firstWithoutRoom 73 = .ok (.iload 6, 2) := by decide +kernel
theorem dX2_firstWithoutRoom_75 : decode cX2_firstWithoutRoom 75 = .ok (.isub, 1) := by decide +kernel
theorem dX2_firstWithoutRoom_76 : decode cX2_firstWithoutRoom 76 = .ok (.iconst 1, 1) := by decide +kernel
theorem dX2_firstWithoutRoom_77 : decode cX2_firstWithoutRoom 77 = .ok (.if_icmp .le 42, 3) := by decide +kernel
theorem dX2_firstWithoutRoom_80 : decode cX2_firstWithoutRoom 80 = .ok (.iload 6, 2) := by decide +kernel
theorem dX2_firstWithoutRoom_82 : decode cX2_firstWithoutRoom 82 = .ok (.iload 7, 2) := by decide +kernel
theorem dX2_firstWithoutRoom_84 : decode cX2_firstWithoutRoom 84 = .ok (.iadd, 1) := by decide +kernel
theorem dX2_firstWithoutRoom_85 : decode cX2_firstWithoutRoom 85 = .ok (.iconst 2, 1) := by decide +kernel
theorem dX2_firstWithoutRoom_86 : decode cX2_firstWithoutRoom 86 = .ok (.idiv, 1) := by decide +kernel
theorem dX2_firstWithoutRoom_87 : decode cX2_firstWithoutRoom 87 = .ok (.istore 9, 2) := by decide +kernel
theorem dX2_firstWithoutRoom_89 : decode cX2_firstWithoutRoom 89 = .ok (.aload_n 0, 1) := by decide +kernel
theorem dX2_firstWithoutRoom_90 : decode cX2_firstWithoutRoom 90 = .ok (.iload_n 1, 1) := by decide +kernel
theorem dX2_firstWithoutRoom_91 : decode cX2_firstWithoutRoom 91 = .ok (.iload_n 2, 1) := by decide +kernel
theorem dX2_firstWithoutRoom_92 : decode cX2_firstWithoutRoom 92 = .ok (.iload 9, 2) := by decide +kernel
theorem dX2_firstWithoutRoom_94 : decode cX2_firstWithoutRoom 94 = .ok (.invokevirtual 64, 3) := by decide +kernel
theorem dX2_firstWithoutRoom_97 : decode cX2_firstWithoutRoom 97 = .ok (.lconst 0, 1) := by decide +kernel
theorem dX2_firstWithoutRoom_98 : decode cX2_firstWithoutRoom 98 = .ok (.lcmp, 1) := by decide +kernel
theorem dX2_firstWithoutRoom_99 : decode cX2_firstWithoutRoom 99 = .ok (.ifCond .ge 10, 3) := by decide +kernel
theorem dX2_firstWithoutRoom_102 : decode cX2_firstWithoutRoom 102 = .ok (.iload 9, 2) := by decide +kernel
theorem dX2_firstWithoutRoom_104 : decode cX2_firstWithoutRoom 104 = .ok (.istore 7, 2) := by decide +kernel
theorem dX2_firstWithoutRoom_106 : decode cX2_firstWithoutRoom 106 = .ok (.goto 7, 3) := by decide +kernel
theorem dX2_firstWithoutRoom_109 : decode cX2_firstWithoutRoom 109 = .ok (.iload 9, 2) := by decide +kernel
theorem dX2_firstWithoutRoom_111 : decode cX2_firstWithoutRoom 111 = .ok (.istore 6, 2) := by decide +kernel
theorem dX2_firstWithoutRoom_113 : decode cX2_firstWithoutRoom 113 = .ok (.iinc 8 1, 3) := by decide +kernel
theorem dX2_firstWithoutRoom_116 : decode cX2_firstWithoutRoom 116 = .ok (.goto (-52), 3) := by decide +kernel
theorem dX2_firstWithoutRoom_119 : decode cX2_firstWithoutRoom 119 = .ok (.iload 7, 2) := by decide +kernel
theorem dX2_firstWithoutRoom_121 : decode cX2_firstWithoutRoom 121 = .ok (.ireturn, 1) := by decide +kernel
theorem dX2_firstWrong_0 : decode cX2_firstWrong 0 = .ok (.aload_n 0, 1) := by decide +kernel
theorem dX2_firstWrong_1 : decode cX2_firstWrong 1 = .ok (.getfield 19, 3) := by decide +kernel
theorem dX2_firstWrong_4 : decode cX2_firstWrong 4 = .ok (.invokevirtual 27, 3) := by decide +kernel
theorem dX2_firstWrong_7 : decode cX2_firstWrong 7 = .ok (.istore 5, 2) := by decide +kernel
theorem dX2_firstWrong_9 : decode cX2_firstWrong 9 = .ok (.iload 4, 2) := by decide +kernel
theorem dX2_firstWrong_11 : decode cX2_firstWrong 11 = .ok (.iload 5, 2) := by decide +kernel
theorem dX2_firstWrong_13 : decode cX2_firstWrong 13 = .ok (.invokestatic 33, 3) := by decide +kernel
theorem dX2_firstWrong_16 : decode cX2_firstWrong 16 = .ok (.istore 6, 2) := by decide +kernel
theorem dX2_firstWrong_18 : decode cX2_firstWrong 18 = .ok (.aload_n 0, 1) := by decide +kernel
theorem dX2_firstWrong_19 : decode cX2_firstWrong 19 = .ok (.iload_n 1, 1) := by decide +kernel
theorem dX2_firstWrong_20 : decode cX2_firstWrong 20 = .ok (.iload 5, 2) := by decide +kernel
theorem dX2_firstWrong_22 : decode cX2_firstWrong 22 = .ok (.iadd, 1) := by decide +kernel
theorem dX2_firstWrong_23 : decode cX2_firstWrong 23 = .ok (.putfield 9, 3) := by decide +kernel
theorem dX2_firstWrong_26 : decode cX2_firstWrong 26 = .ok (.aload_n 0, 1) := by decide +kernel
theorem dX2_firstWrong_27 : decode cX2_firstWrong 27 = .ok (.lload_n 2, 1) := by decide +kernel
theorem dX2_firstWrong_28 : decode cX2_firstWrong 28 = .ok (.putfield 15, 3) := by decide +kernel
theorem dX2_firstWrong_31 : decode cX2_firstWrong 31 = .ok (.iconst 0, 1) := by decide +kernel
theorem dX2_firstWrong_32 : decode cX2_firstWrong 32 = .ok (.istore 7, 2) := by decide +kernel
theorem dX2_firstWrong_34 : decode cX2_firstWrong 34 = .ok (.iconst 0, 1) := by decide +kernel
theorem dX2_firstWrong_35 : decode cX2_firstWrong 35 = .ok (.istore 8, 2) := by decide +kernel
theorem dX2_firstWrong_37 : decode cX2_firstWrong 37 = .ok (.iload 8, 2) := by decide +kernel
theorem dX2_firstWrong_39 : decode cX2_firstWrong 39 = .ok (.bipush 100, 2) := by decide +kernel
theorem dX2_firstWrong_41 : decode cX2_firstWrong 41 = .ok (.if_icmp .ge 116, 3) := by decide +kernel
theorem dX2_firstWrong_44 : decode cX2_firstWrong 44 = .ok (.iload 7, 2) := by decide +kernel
theorem dX2_firstWrong_46 : decode cX2_firstWrong 46 = .ok (.iload 6, 2) := by decide +kernel
theorem dX2_firstWrong_48 : decode cX2_firstWrong 48 = .ok (.if_icmp .gt 109, 3) := by decide +kernel
theorem dX2_firstWrong_51 : decode cX2_firstWrong 51 = .ok (.aload_n 0, 1) := by decide +kernel
theorem dX2_firstWrong_52 : decode cX2_firstWrong 52 = .ok (.getfield 9, 3) := by decide +kernel
theorem dX2_firstWrong_55 : decode cX2_firstWrong 55 = .ok (.iload 7, 2) := by decide +kernel
theorem dX2_firstWrong_57 : decode cX2_firstWrong 57 = .ok (.isub, 1) := by decide +kernel
theorem dX2_firstWrong_58 : decode cX2_firstWrong 58 = .ok (.istore 9, 2) := by decide +kernel
theorem dX2_firstWrong_60 : decode cX2_firstWrong 60 = .ok (.aload_n 0, 1) := by decide +kernel
theorem dX2_firstWrong_61 : decode cX2_firstWrong 61 = .ok (.getfield 23, 3) := by decide +kernel
theorem dX2_firstWrong_64 : decode cX2_firstWrong 64 = .ok (.iload 9, 2) := by decide +kernel
theorem dX2_firstWrong_66 : decode cX2_firstWrong 66 = .ok (.invokevirtual 39, 3) := by decide +kernel
theorem dX2_firstWrong_69 : decode cX2_firstWrong 69 = .ok (.ifCond .ne 6, 3) := by decide +kernel
theorem dX2_firstWrong_72 : decode cX2_firstWrong 72 = .ok (.iload 7, 2) := by decide +kernel
theorem dX2_firstWrong_74 : decode cX2_firstWrong 74 = .ok (.ireturn, 1) := by decide +kernel
theorem dX2_firstWrong_75 : decode cX2_firstWrong 75 = .ok (.aload_n 0, 1) := by decide +kernel
theorem dX2_firstWrong_76 : decode cX2_firstWrong 76 = .ok (.getfield 23, 3) := by decide +kernel
theorem dX2_firstWrong_79 : decode cX2_firstWrong 79 = .ok (.iload 9, 2) := by decide +kernel
theorem dX2_firstWrong_81 : decode cX2_firstWrong 81 = .ok (.invokevirtual 45, 3) := by decide +kernel
theorem dX2_firstWrong_84 : decode cX2_firstWrong 84 = .ok (.istore 10, 2) := by decide +kernel
theorem dX2_firstWrong_86 : decode cX2_firstWrong 86 = .ok (.aload_n 0, 1) := by decide +kernel
theorem dX2_firstWrong_87 : decode cX2_firstWrong 87 = .ok (.getfield 9, 3) := by decide +kernel
theorem dX2_firstWrong_90 : decode cX2_firstWrong 90 = .ok (.aload_n 0, 1) := by decide +kernel
theorem dX2_firstWrong_91 : decode cX2_firstWrong 91 = .ok (.getfield 23, 3) := by decide +kernel
theorem dX2_firstWrong_94 : decode cX2_firstWrong 94 = .ok (.getfield 49, 3) := by decide +kernel
theorem dX2_firstWrong_97 : decode cX2_firstWrong 97 = .ok (.iload 10, 2) := by decide +kernel
theorem dX2_firstWrong_99 : decode cX2_firstWrong 99 = .ok (.iaload, 1) := by decide +kernel
theorem dX2_firstWrong_100 : decode cX2_firstWrong 100 = .ok (.isub, 1) := by decide +kernel
theorem dX2_firstWrong_101 : decode cX2_firstWrong 101 = .ok (.istore 11, 2) := by decide +kernel
theorem dX2_firstWrong_103 : decode cX2_firstWrong 103 = .ok (.iload 6, 2) := by decide +kernel
theorem dX2_firstWrong_105 : decode cX2_firstWrong 105 = .ok (.iload 11, 2) := by decide +kernel
theorem dX2_firstWrong_107 : decode cX2_firstWrong 107 = .ok (.aload_n 0, 1) := by decide +kernel
theorem dX2_firstWrong_108 : decode cX2_firstWrong 108 = .ok (.getfield 19, 3) := by decide +kernel
theorem dX2_firstWrong_111 : decode cX2_firstWrong 111 = .ok (.iload 7, 2) := by decide +kernel
theorem dX2_firstWrong_113 : decode cX2_firstWrong 113 = .ok (.invokevirtual 53, 3) := by decide +kernel
theorem dX2_firstWrong_116 : decode cX2_firstWrong 116 = .ok (.invokestatic 33, 3) := by decide +kernel
theorem dX2_firstWrong_119 : decode cX2_firstWrong 119 = .ok (.invokestatic 33, 3) := by decide +kernel
theorem dX2_firstWrong_122 : decode cX2_firstWrong 122 = .ok (.istore 12, 2) := by decide +kernel
theorem dX2_firstWrong_124 : decode cX2_firstWrong 124 = .ok (.aload_n 0, 1) := by decide +kernel
theorem dX2_firstWrong_125 : decode cX2_firstWrong 125 = .ok (.iload 10, 2) := by decide +kernel
theorem dX2_firstWrong_127 : decode cX2_firstWrong 127 = .ok (.iload 7, 2) := by decide +kernel
theorem dX2_firstWrong_129 : decode cX2_firstWrong 129 = .ok (.iload 12, 2) := by decide +kernel
theorem dX2_firstWrong_131 : decode cX2_firstWrong 131 = .ok (.invokevirtual 56, 3) := by decide +kernel
theorem dX2_firstWrong_134 : decode cX2_firstWrong 134 = .ok (.istore 13, 2) := by decide +kernel
theorem dX2_firstWrong_136 : decode cX2_firstWrong 136 = .ok (.iload 13, 2) := by decide +kernel
theorem dX2_firstWrong_138 : decode cX2_firstWrong 138 = .ok (.iconst (-1), 1) := by decide +kernel
theorem dX2_firstWrong_139 : decode cX2_firstWrong 139 = .ok (.if_icmp .eq 6, 3) := by decide +kernel
theorem dX2_firstWrong_142 : decode cX2_firstWrong 142 = .ok (.iload 13, 2) := by decide +kernel
theorem dX2_firstWrong_144 : decode cX2_firstWrong 144 = .ok (.ireturn, 1) := by decide +kernel
theorem dX2_firstWrong_145 : decode cX2_firstWrong 145 = .ok (.iload 12, 2) := by decide +kernel
theorem dX2_firstWrong_147 : decode cX2_firstWrong 147 = .ok (.iconst 1, 1) := by decide +kernel
theorem dX2_firstWrong_148 : decode cX2_firstWrong 148 = .ok (.iadd, 1) := by decide +kernel
theorem dX2_firstWrong_149 : decode cX2_firstWrong 149 = .ok (.istore 7, 2) := by decide +kernel
theorem dX2_firstWrong_151 : decode cX2_firstWrong 151 = .ok (.iinc 8 1, 3) := by decide +kernel
theorem dX2_firstWrong_154 : decode cX2_firstWrong 154 = .ok (.goto (-117), 3) := by decide +kernel
theorem dX2_firstWrong_157 : decode cX2_firstWrong 157 = .ok (.iconst (-1), 1) := by decide +kernel
theorem dX2_firstWrong_158 : decode cX2_firstWrong 158 = .ok (.ireturn, 1) := by decide +kernel
theorem dX2_init_0 : decode cX2_init 0 = .ok (.aload_n 0, 1) := by decide +kernel
theorem dX2_init_1 : decode cX2_init 1 = .ok (.invokespecial 3, 3) := by decide +kernel
theorem dX2_init_4 : decode cX2_init 4 = .ok (.aload_n 0, 1) := by decide +kernel
theorem dX2_init_5 : decode cX2_init 5 = .ok (.iconst 0, 1) := by decide +kernel
theorem dX2_init_6 : decode cX2_init 6 = .ok (.putfield 9, 3) := by decide +kernel
theorem dX2_init_9 : decode cX2_init 9 = .ok (.aload_n 0, 1) := by decide +kernel
theorem dX2_init_10 : decode cX2_init 10 = .ok (.lconst 0, 1) := by decide +kernel
theorem dX2_init_11 : decode cX2_init 11 = .ok (.putfield 15, 3) := by decide +kernel
theorem dX2_init_14 : decode cX2_init 14 = .ok (.aload_n 0, 1) := by decide +kernel
theorem dX2_init_15 : decode cX2_init 15 = .ok (.aload_n 1, 1) := by decide +kernel
theorem dX2_init_16 : decode cX2_init 16 = .ok (.putfield 19, 3) := by decide +kernel
theorem dX2_init_19 : decode cX2_init 19 = .ok (.aload_n 0, 1) := by decide +kernel
theorem dX2_init_20 : decode cX2_init 20 = .ok (.aload_n 2, 1) := by decide +kernel
theorem dX2_init_21 : decode cX2_init 21 = .ok (.putfield 23, 3) := by decide +kernel
theorem dX2_init_24 : decode cX2_init 24 = .ok (.return_, 1) := by decide +kernel
theorem dX2_isHollow_0 : decode cX2_isHollow 0 = .ok (.iload_n 2, 1) := by decide +kernel
theorem dX2_isHollow_1 : decode cX2_isHollow 1 = .ok (.ifCond .eq 31, 3) := by decide +kernel
theorem dX2_isHollow_4 : decode cX2_isHollow 4 = .ok (.aload_n 0, 1) := by decide +kernel
theorem dX2_isHollow_5 : decode cX2_isHollow 5 = .ok (.getfield 23, 3) := by decide +kernel
theorem dX2_isHollow_8 : decode cX2_isHollow 8 = .ok (.aload_n 0, 1) := by decide +kernel
theorem dX2_isHollow_9 : decode cX2_isHollow 9 = .ok (.getfield 23, 3) := by decide +kernel
theorem dX2_isHollow_12 : decode cX2_isHollow 12 = .ok (.getfield 79, 3) := by decide +kernel
theorem dX2_isHollow_15 : decode cX2_isHollow 15 = .ok (.iload_n 1, 1) := by decide +kernel
theorem dX2_isHollow_16 : decode cX2_isHollow 16 = .ok (.invokevirtual 89, 3) := by decide +kernel
theorem dX2_isHollow_19 : decode cX2_isHollow 19 = .ok (.lconst 0, 1) := by decide +kernel
theorem dX2_isHollow_20 : decode cX2_isHollow 20 = .ok (.lcmp, 1) := by decide +kernel
theorem dX2_isHollow_21 : decode cX2_isHollow 21 = .ok (.ifCond .ge 7, 3) := by decide +kernel
theorem dX2_isHollow_24 : decode cX2_isHollow 24 = .ok (.iconst 1, 1) := by decide +kernel
theorem dX2_isHollow_25 : decode cX2_isHollow 25 = .ok (.goto 32, 3) := by decide +kernel
theorem dX2_isHollow_28 : decode cX2_isHollow 28 = .ok (.iconst 0, 1) := by decide +kernel
theorem dX2_isHollow_29 : decode cX2_isHollow 29 = .ok (.goto 28, 3) := by decide +kernel
theorem dX2_isHollow_32 : decode cX2_isHollow 32 = .ok (.aload_n 0, 1) := by decide +kernel
theorem dX2_isHollow_33 : decode cX2_isHollow 33 = .ok (.getfield 23, 3) := by decide +kernel
theorem dX2_isHollow_36 : decode cX2_isHollow 36 = .ok (.aload_n 0, 1) := by decide +kernel
theorem dX2_isHollow_37 : decode cX2_isHollow 37 = .ok (.getfield 23, 3) := by decide +kernel
theorem dX2_isHollow_40 : decode cX2_isHollow 40 = .ok (.getfield 86, 3) := by decide +kernel
theorem dX2_isHollow_43 : decode cX2_isHollow 43 = .ok (.iload_n 1, 1) := by decide +kernel
theorem dX2_isHollow_44 : decode cX2_isHollow 44 = .ok (.invokevirtual 89, 3) := by decide +kernel
theorem dX2_isHollow_47 : decode cX2_isHollow 47 = .ok (.lconst 0, 1) := by decide +kernel
theorem dX2_isHollow_48 : decode cX2_isHollow 48 = .ok (.lcmp, 1) := by decide +kernel
theorem dX2_isHollow_49 : decode cX2_isHollow 49 = .ok (.ifCond .le 7, 3) := by decide +kernel
theorem dX2_isHollow_52 : decode cX2_isHollow 52 = .ok (.iconst 1, 1) := by decide +kernel
theorem dX2_isHollow_53 : decode cX2_isHollow 53 = .ok (.goto 4, 3) := by decide +kernel
theorem dX2_isHollow_56 : decode cX2_isHollow 56 = .ok (.iconst 0, 1) := by decide +kernel
theorem dX2_isHollow_57 : decode cX2_isHollow 57 = .ok (.ireturn, 1) := by decide +kernel
theorem dX2_room_0 : decode cX2_room 0 = .ok (.aload_n 0, 1) := by decide +kernel
theorem dX2_room_1 : decode cX2_room 1 = .ok (.getfield 9, 3) := by decide +kernel
theorem dX2_room_4 : decode cX2_room 4 = .ok (.iload_n 3, 1) := by decide +kernel
theorem dX2_room_5 : decode cX2_room 5 = .ok (.isub, 1) := by decide +kernel
theorem dX2_room_6 : decode cX2_room 6 = .ok (.istore 4, 2) := by decide +kernel
theorem dX2_room_8 : decode cX2_room 8 = .ok (.aload_n 0, 1) := by decide +kernel
theorem dX2_room_9 : decode cX2_room 9 = .ok (.getfield 15, 3) := by decide +kernel
theorem dX2_room_12 : decode cX2_room 12 = .ok (.aload_n 0, 1) := by decide +kernel
theorem dX2_room_13 : decode cX2_room 13 = .ok (.getfield 19, 3) := by decide +kernel
theorem dX2_room_16 : decode cX2_room 16 = .ok (.iload_n 3, 1) := by decide +kernel
theorem dX2_room_17 : decode cX2_room 17 = .ok (.invokevirtual 75, 3) := by decide +kernel
theorem dX2_room_20 : decode cX2_room 20 = .ok (.ladd, 1) := by decide +kernel
theorem dX2_room_21 : decode cX2_room 21 = .ok (.lstore 5, 2) := by decide +kernel
theorem dX2_room_23 : decode cX2_room 23 = .ok (.iload_n 2, 1) := by decide +kernel
theorem dX2_room_24 : decode cX2_room 24 = .ok (.ifCond .eq 25, 3) := by decide +kernel
theorem dX2_room_27 : decode cX2_room 27 = .ok (.aload_n 0, 1) := by decide +kernel
theorem dX2_room_28 : decode cX2_room 28 = .ok (.getfield 23, 3) := by decide +kernel
theorem dX2_room_31 : decode cX2_room 31 = .ok (.aload_n 0, 1) := by decide +kernel
theorem dX2_room_32 : decode cX2_room 32 = .ok (.getfield 23, 3) := by decide +kernel
theorem dX2_room_35 : decode cX2_room 35 = .ok (.getfield 79, 3) := by decide +kernel
theorem dX2_room_38 : decode cX2_room 38 = .ok (.iload_n 1, 1) := by decide +kernel
theorem dX2_room_39 : decode cX2_room 39 = .ok (.iload 4, 2) := by decide +kernel
theorem dX2_room_41 : decode cX2_room 41 = .ok (.lload 5, 2) := by decide +kernel
theorem dX2_room_43 : decode cX2_room 43 = .ok (.invokevirtual 82, 3) := by decide +kernel
theorem dX2_room_46 : decode cX2_room 46 = .ok (.goto 23, 3) := by decide +kernel
theorem dX2_room_49 : decode cX2_room 49 = .ok (.aload_n 0, 1) := by decide +kernel
theorem dX2_room_50 : decode cX2_room 50 = .ok (.getfield 23, 3) := by decide +kernel
theorem dX2_room_53 : decode cX2_room 53 = .ok (.aload_n 0, 1) := by decide +kernel
theorem dX2_room_54 : decode cX2_room 54 = .ok (.getfield 23, 3) := by decide +kernel
theorem dX2_room_57 : decode cX2_room 57 = .ok (.getfield 86, 3) := by decide +kernel
theorem dX2_room_60 : decode cX2_room 60 = .ok (.iload_n 1, 1) := by decide +kernel
theorem dX2_room_61 : decode cX2_room 61 = .ok (.iload 4, 2) := by decide +kernel
theorem dX2_room_63 : decode cX2_room 63 = .ok (.lload 5, 2) := by decide +kernel
theorem dX2_room_65 : decode cX2_room 65 = .ok (.invokevirtual 82, 3) := by decide +kernel
theorem dX2_room_68 : decode cX2_room 68 = .ok (.lneg, 1) := by decide +kernel
theorem dX2_room_69 : decode cX2_room 69 = .ok (.lreturn, 1) := by decide +kernel
theorem dX3_addPoint_0 : decode cX3_addPoint 0 = .ok (.aload_n 0, 1) := by decide +kernel
theorem dX3_addPoint_1 : decode cX3_addPoint 1 = .ok (.getfield 21, 3) := by decide +kernel
theorem dX3_addPoint_4 : decode cX3_addPoint 4 = .ok (.bipush 10, 2) := by decide +kernel
theorem dX3_addPoint_6 : decode cX3_addPoint 6 = .ok (.if_icmp .lt 6, 3) := by decide +kernel
theorem dX3_addPoint_9 : decode cX3_addPoint 9 = .ok (.bipush (-4), 2) := by decide +kernel
theorem dX3_addPoint_11 : decode cX3_addPoint 11 = .ok (.ireturn, 1) := by decide +kernel
theorem dX3_addPoint_12 : decode cX3_addPoint 12 = .ok (.aload_n 0, 1) := by decide +kernel
theorem dX3_addPoint_13 : decode cX3_addPoint 13 = .ok (.getfield 11, 3) := by decide +kernel
theorem dX3_addPoint_16 : decode cX3_addPoint 16 = .ok (.aload_n 0, 1) := by decide +kernel
theorem dX3_addPoint_17 : decode cX3_addPoint 17 = .ok (.getfield 21, 3) := by decide +kernel
theorem dX3_addPoint_20 : decode cX3_addPoint 20 = .ok (.iload_n 1, 1) := by decide +kernel
theorem dX3_addPoint_21 : decode cX3_addPoint 21 = .ok (.iastore, 1) := by decide +kernel
theorem dX3_addPoint_22 : decode cX3_addPoint 22 = .ok (.aload_n 0, 1) := by decide +kernel
theorem dX3_addPoint_23 : decode cX3_addPoint 23 = .ok (.getfield 15, 3) := by decide +kernel
theorem dX3_addPoint_26 : decode cX3_addPoint 26 = .ok (.aload_n 0, 1) := by decide +kernel
theorem dX3_addPoint_27 : decode cX3_addPoint 27 = .ok (.getfield 21, 3) := by decide +kernel
theorem dX3_addPoint_30 : decode cX3_addPoint 30 = .ok (.iload_n 2, 1) := by decide +kernel
theorem dX3_addPoint_31 : decode cX3_addPoint 31 = .ok (.iastore, 1) := by decide +kernel
theorem dX3_addPoint_32 : decode cX3_addPoint 32 = .ok (.aload_n 0, 1) := by decide +kernel
theorem dX3_addPoint_33 : decode cX3_addPoint 33 = .ok (.getfield 18, 3) := by decide +kernel
theorem dX3_addPoint_36 : decode cX3_addPoint 36 = .ok (.aload_n 0, 1) := by decide +kernel
theorem dX3_addPoint_37 : decode cX3_addPoint 37 = .ok (.getfield 21, 3) := by decide +kernel
theorem dX3_addPoint_40 : decode cX3_addPoint 40 = .ok (.iload_n 3, 1) := by decide +kernel
theorem dX3_addPoint_41 : decode cX3_addPoint 41 = .ok (.iastore, 1) := by decide +kernel
theorem dX3_addPoint_42 : decode cX3_addPoint 42 = .ok (.aload_n 0, 1) := by decide +kernel
theorem dX3_addPoint_43 : decode cX3_addPoint 43 = .ok (.dup, 1) := by decide +kernel
theorem dX3_addPoint_44 : decode cX3_addPoint 44 = .ok (.getfield 21, 3) := by decide +kernel
theorem dX3_addPoint_47 : decode cX3_addPoint 47 = .ok (.iconst 1, 1) := by decide +kernel
theorem dX3_addPoint_48 : decode cX3_addPoint 48 = .ok (.iadd, 1) := by decide +kernel
theorem dX3_addPoint_49 : decode cX3_addPoint 49 = .ok (.dup_x1, 1) := by decide +kernel
theorem dX3_addPoint_50 : decode cX3_addPoint 50 = .ok (.putfield 21, 3) := by decide +kernel
theorem dX3_addPoint_53 : decode cX3_addPoint 53 = .ok (.ireturn, 1) := by decide +kernel
theorem dX3_excess_0 : decode cX3_excess 0 = .ok (.iload_n 2, 1) := by decide +kernel
theorem dX3_excess_1 : decode cX3_excess 1 = .ok (.iconst 1, 1) := by decide +kernel
theorem dX3_excess_2 : decode cX3_excess 2 = .ok (.iadd, 1) := by decide +kernel
theorem dX3_excess_3 : decode cX3_excess 3 = .ok (.aload_n 0, 1) := by decide +kernel
theorem dX3_excess_4 : decode cX3_excess 4 = .ok (.getfield 21, 3) := by decide +kernel
theorem dX3_excess_7 : decode cX3_excess 7 = .ok (.if_icmp .lt 14, 3) := by decide +kernel
theorem dX3_excess_10 : decode cX3_excess 10 = .ok (.lload 4, 2) := by decide +kernel
theorem dX3_excess_12 : decode cX3_excess 12 = .ok (.iload_n 3, 1) := by decide +kernel
theorem dX3_excess_13 : decode cX3_excess 13 = .ok (.i2l, 1) := by decide +kernel
theorem dX3_excess_14 : decode cX3_excess 14 = .ok (.aload_n 1, 1) := by decide +kernel
theorem dX3_excess_15 : decode cX3_excess 15 = .ok (.iload_n 2, 1) := by decide +kernel
theorem dX3_excess_16 : decode cX3_excess 16 = .ok (.iaload, 1) := by decide +kernel
theorem dX3_excess_17 : decode cX3_excess 17 = .ok (.i2l, 1) := by decide +kernel
theorem dX3_excess_18 : decode cX3_excess 18 = .ok (.lmul, 1) := by decide +kernel
theorem dX3_excess_19 : decode cX3_excess 19 = .ok (.lsub, 1) := by decide +kernel
theorem dX3_excess_20 : decode cX3_excess 20 = .ok (.lreturn, 1) := by decide +kernel
theorem dX3_excess_21 : decode cX3_excess 21 = .ok (.aload_n 0, 1) := by decide +kernel
theorem dX3_excess_22 : decode cX3_excess 22 = .ok (.getfield 11, 3) := by decide +kernel
theorem dX3_excess_25 : decode cX3_excess 25 = .ok (.iload_n 2, 1) := by decide +kernel
theorem dX3_excess_26 : decode cX3_excess 26 = .ok (.iconst 1, 1) := by decide +kernel
theorem dX3_excess_27 : decode cX3_excess 27 = .ok (.iadd, 1) := by decide +kernel
theorem dX3_excess_28 : decode cX3_excess 28 = .ok (.iaload, 1) := by decide +kernel
theorem dX3_excess_29 : decode cX3_excess 29 = .ok (.aload_n 0, 1) := by decide +kernel
theorem dX3_excess_30 : decode cX3_excess 30 = .ok (.getfield 11, 3) := by decide +kernel
theorem dX3_excess_33 : decode cX3_excess 33 = .ok (.iload_n 2, 1) := by decide +kernel
theorem dX3_excess_34 : decode cX3_excess 34 = .ok (.iaload, 1) := by decide +kernel
theorem dX3_excess_35 : decode cX3_excess 35 = .ok (.isub, 1) := by decide +kernel
theorem dX3_excess_36 : decode cX3_excess 36 = .ok (.i2l, 1) := by decide +kernel
theorem dX3_excess_37 : decode cX3_excess 37 = .ok (.lstore 6, 2) := by decide +kernel
theorem dX3_excess_39 : decode cX3_excess 39 = .ok (.iload_n 3, 1) := by decide +kernel
theorem dX3_excess_40 : decode cX3_excess 40 = .ok (.aload_n 0, 1) := by decide +kernel
theorem dX3_excess_41 : decode cX3_excess 41 = .ok (.getfield 11, 3) := by decide +kernel
theorem dX3_excess_44 : decode cX3_excess 44 = .ok (.iload_n 2, 1) := by decide +kernel
theorem dX3_excess_45 : decode cX3_excess 45 = .ok (.iaload, 1) := by decide +kernel
theorem dX3_excess_46 : decode cX3_excess 46 = .ok (.isub, 1) := by decide +kernel
theorem dX3_excess_47 : decode cX3_excess 47 = .ok (.i2l, 1) := by decide +kernel
theorem dX3_excess_48 : decode cX3_excess 48 = .ok (.lstore 8, 2) := by decide +kernel
theorem dX3_excess_50 : decode cX3_excess 50 = .ok (.aload_n 1, 1) := by decide +kernel
theorem dX3_excess_51 : decode cX3_excess 51 = .ok (.iload_n 2, 1) := by decide +kernel
theorem dX3_excess_52 : decode cX3_excess 52 = .ok (.iaload, 1) := by decide +kernel
theorem dX3_excess_53 : decode cX3_excess 53 = .ok (.i2l, 1) := by decide +kernel
theorem dX3_excess_54 : decode cX3_excess 54 = .ok (.lload 6, 2) := by decide +kernel
theorem dX3_excess_56 : decode cX3_excess 56 = .ok (.lmul, 1) := by decide +kernel
theorem dX3_excess_57 : decode cX3_excess 57 = .ok (.aload_n 0, 1) := by decide +kernel
theorem dX3_excess_58 : decode cX3_excess 58 = .ok (.aload_n 1, 1) := by decide +kernel
theorem dX3_excess_59 : decode cX3_excess 59 = .ok (.iload_n 2, 1) := by decide +kernel
theorem dX3_excess_60 : decode cX3_excess 60 = .ok (.invokevirtual 37, 3) := by decide +kernel
theorem dX3_excess_63 : decode cX3_excess 63 = .ok (.lload 8, 2) := by decide +kernel
theorem dX3_excess_65 : decode cX3_excess 65 = .ok (.lmul, 1) := by decide +kernel
theorem dX3_excess_66 : decode cX3_excess 66 = .ok (.ladd, 1) := by decide +kernel
theorem dX3_excess_67 : decode cX3_excess 67 = .ok (.lstore 10, 2) := by decide +kernel
theorem dX3_excess_69 : decode cX3_excess 69 = .ok (.lload 4, 2) := by decide +kernel
theorem dX3_excess_71 : decode cX3_excess 71 = .ok (.lload 6, 2) := by decide +kernel
theorem dX3_excess_73 : decode cX3_excess 73 = .ok (.lmul, 1) := by decide +kernel
theorem dX3_excess_74 : decode cX3_excess 74 = .ok (.iload_n 3, 1) := by decide +kernel
theorem dX3_excess_75 : decode cX3_excess 75 = .ok (.i2l, 1) := by decide +kernel
theorem dX3_excess_76 : decode cX3_excess 76 = .ok (.lload 10, 2) := by decide +kernel
theorem dX3_excess_78 : decode cX3_excess 78 = .ok (.lmul, 1) := by decide +kernel
theorem dX3_excess_79 : decode cX3_excess 79 = .ok (.lsub, 1) := by decide +kernel
theorem dX3_excess_80 : decode cX3_excess 80 = .ok (.lreturn, 1) := by decide +kernel
theorem dX3_init_0 : decode cX3_init 0 = .ok (.aload_n 0, 1) := by decide +kernel
theorem dX3_init_1 : decode cX3_init 1 = .ok (.invokespecial 3, 3) := by decide +kernel
theorem dX3_init_4 : decode cX3_init 4 = .ok (.aload_n 0, 1) := by decide +kernel
theorem dX3_init_5 : decode cX3_init 5 = .ok (.bipush 10, 2) := by decide +kernel
theorem dX3_init_7 : decode cX3_init 7 = .ok (.newarray .int, 2) := by decide +kernel
theorem dX3_init_9 : decode cX3_init 9 = .ok (.putfield 11, 3) := by decide +kernel
theorem dX3_init_12 : decode cX3_init 12 = .ok (.aload_n 0, 1) := by decide +kernel
theorem dX3_init_13 : decode cX3_init 13 = .ok (.bipush 10, 2) := by decide +kernel
theorem dX3_init_15 : decode cX3_init 15 = .ok (.newarray .int, 2) := by decide +kernel
theorem dX3_init_17 : decode cX3_init 17 = .ok (.putfield 15, 3) := by decide +kernel
theorem dX3_init_20 : decode cX3_init 20 = .ok (.aload_n 0, 1) := by decide +kernel
theorem dX3_init_21 : decode cX3_init 21 = .ok (.bipush 10, 2) := by decide +kernel
theorem dX3_init_23 : decode cX3_init 23 = .ok (.newarray .int, 2) := by decide +kernel
theorem dX3_init_25 : decode cX3_init 25 = .ok (.putfield 18, 3) := by decide +kernel
theorem dX3_init_28 : decode cX3_init 28 = .ok (.aload_n 0, 1) := by decide +kernel
theorem dX3_init_29 : decode cX3_init 29 = .ok (.iconst 0, 1) := by decide +kernel
theorem dX3_init_30 : decode cX3_init 30 = .ok (.putfield 21, 3) := by decide +kernel
theorem dX3_init_33 : decode cX3_init 33 = .ok (.return_, 1) := by decide +kernel
theorem dX3_judge_0 : decode cX3_judge 0 = .ok (.iload_n 1, 1) := by decide +kernel
theorem dX3_judge_1 : decode cX3_judge 1 = .ok (.aload_n 0, 1) := by decide +kernel
theorem dX3_judge_2 : decode cX3_judge 2 = .ok (.getfield 11, 3) := by decide +kernel
theorem dX3_judge_5 : decode cX3_judge 5 = .ok (.iconst 0, 1) := by decide +kernel
theorem dX3_judge_6 : decode cX3_judge 6 = .ok (.iaload, 1) := by decide +kernel
theorem dX3_judge_7 : decode cX3_judge 7 = .ok (.if_icmp .ge 5, 3) := by decide +kernel
theorem dX3_judge_10 : decode cX3_judge 10 = .ok (.iconst 1, 1) := by decide +kernel
theorem dX3_judge_11 : decode cX3_judge 11 = .ok (.ireturn, 1) := by decide +kernel
theorem dX3_judge_12 : decode cX3_judge 12 = .ok (.iload_n 1, 1) := by decide +kernel
theorem dX3_judge_13 : decode cX3_judge 13 = .ok (.aload_n 0, 1) := by decide +kernel
theorem dX3_judge_14 : decode cX3_judge 14 = .ok (.invokevirtual 25, 3) := by decide +kernel
theorem dX3_judge_17 : decode cX3_judge 17 = .ok (.if_icmp .le 5, 3) := by decide +kernel
theorem dX3_judge_20 : decode cX3_judge 20 = .ok (.iconst 2, 1) := by decide +kernel
theorem dX3_judge_21 : decode cX3_judge 21 = .ok (.ireturn, 1) := by decide +kernel
theorem dX3_judge_22 : decode cX3_judge 22 = .ok (.aload_n 0, 1) := by decide +kernel
theorem dX3_judge_23 : decode cX3_judge 23 = .ok (.iload_n 1, 1) := by decide +kernel
theorem dX3_judge_24 : decode cX3_judge 24 = .ok (.invokevirtual 29, 3) := by decide +kernel
theorem dX3_judge_27 : decode cX3_judge 27 = .ok (.istore 4, 2) := by decide +kernel
theorem dX3_judge_29 : decode cX3_judge 29 = .ok (.aload_n 0, 1) := by decide +kernel
theorem dX3_judge_30 : decode cX3_judge 30 = .ok (.aload_n 0, 1) := by decide +kernel
theorem dX3_judge_31 : decode cX3_judge 31 = .ok (.getfield 15, 3) := by decide +kernel
theorem dX3_judge_34 : decode cX3_judge 34 = .ok (.iload 4, 2) := by decide +kernel
theorem dX3_judge_36 : decode cX3_judge 36 = .ok (.iload_n 1, 1) := by decide +kernel
theorem dX3_judge_37 : decode cX3_judge 37 = .ok (.lload_n 2, 1) := by decide +kernel
theorem dX3_judge_38 : decode cX3_judge 38 = .ok (.invokevirtual 33, 3) := by decide +kernel
theorem dX3_judge_41 : decode cX3_judge 41 = .ok (.lconst 0, 1) := by decide +kernel
theorem dX3_judge_42 : decode cX3_judge 42 = .ok (.lcmp, 1) := by decide +kernel
theorem dX3_judge_43 : decode cX3_judge 43 = .ok (.ifCond .ge 5, 3) := by decide +kernel
theorem dX3_judge_46 : decode cX3_judge 46 = .ok (.iconst 3, 1) := by decide +kernel
theorem dX3_judge_47 : decode cX3_judge 47 = .ok (.ireturn, 1) := by decide +kernel
theorem dX3_judge_48 : decode cX3_judge 48 = .ok (.aload_n 0, 1) := by decide +kernel
theorem dX3_judge_49 : decode cX3_judge 49 = .ok (.aload_n 0, 1) := by decide +kernel
theorem dX3_judge_50 : decode cX3_judge 50 = .ok (.getfield 18, 3) := by decide +kernel
theorem dX3_judge_53 : decode cX3_judge 53 = .ok (.iload 4, 2) := by decide +kernel
theorem dX3_judge_55 : decode cX3_judge 55 = .ok (.iload_n 1, 1) := by decide +kernel
theorem dX3_judge_56 : decode cX3_judge 56 = .ok (.lload_n 2, 1) := by decide +kernel
theorem dX3_judge_57 : decode cX3_judge 57 = .ok (.invokevirtual 33, 3) := by decide +kernel
theorem dX3_judge_60 : decode cX3_judge 60 = .ok (.lconst 0, 1) := by decide +kernel
theorem dX3_judge_61 : decode cX3_judge 61 = .ok (.lcmp, 1) := by decide +kernel
theorem dX3_judge_62 : decode cX3_judge 62 = .ok (.ifCond .le 7, 3) := by decide +kernel
theorem dX3_judge_65 : decode cX3_judge 65 = .ok (.iconst 4, 1) := by decide +kernel
theorem dX3_judge_66 : decode cX3_judge 66 = .ok (.goto 4, 3) := by decide +kernel
theorem dX3_judge_69 : decode cX3_judge 69 = .ok (.iconst 0, 1) := by decide +kernel
theorem dX3_judge_70 : decode cX3_judge 70 = .ok (.ireturn, 1) := by decide +kernel
theorem dX3_lastWeight_0 : decode cX3_lastWeight 0 = .ok (.aload_n 0, 1) := by decide +kernel
theorem dX3_lastWeight_1 : decode cX3_lastWeight 1 = .ok (.getfield 21, 3) := by decide +kernel
theorem dX3_lastWeight_4 : decode cX3_lastWeight 4 = .ok (.ifCond .ne 7, 3) := by decide +kernel
theorem dX3_lastWeight_7 : decode cX3_lastWeight 7 = .ok (.iconst 0, 1) := by decide +kernel
theorem dX3_lastWeight_8 : decode cX3_lastWeight 8 = .ok (.goto 14, 3) := by decide +kernel
theorem dX3_lastWeight_11 : decode cX3_lastWeight 11 = .ok (.aload_n 0, 1) := by decide +kernel
theorem dX3_lastWeight_12 : decode cX3_lastWeight 12 = .ok (.getfield 11, 3) := by decide +kernel
theorem dX3_lastWeight_15 : decode cX3_lastWeight 15 = .ok (.aload_n 0, 1) := by decide +kernel
theorem dX3_lastWeight_16 : decode cX3_lastWeight 16 = .ok (.getfield 21, 3) := by decide +kernel
theorem dX3_lastWeight_19 : decode cX3_lastWeight 19 = .ok (.iconst 1, 1) := by decide +kernel
theorem dX3_lastWeight_20 : decode cX3_lastWeight 20 = .ok (.isub, 1) := by decide +kernel
theorem dX3_lastWeight_21 : decode cX3_lastWeight 21 = .ok (.iaload, 1) := by decide +kernel
theorem dX3_lastWeight_22 : decode cX3_lastWeight 22 = .ok (.ireturn, 1) := by decide +kernel
theorem dX3_lineAt_0 : decode cX3_lineAt 0 = .ok (.iconst 0, 1) := by decide +kernel
theorem dX3_lineAt_1 : decode cX3_lineAt 1 = .ok (.istore_n 2, 1) := by decide +kernel
theorem dX3_lineAt_2 : decode cX3_lineAt 2 = .ok (.iload_n 2, 1) := by decide +kernel
theorem dX3_lineAt_3 : decode cX3_lineAt 3 = .ok (.iconst 2, 1) := by decide +kernel
theorem dX3_lineAt_4 : decode cX3_lineAt 4 = .ok (.iadd, 1) := by decide +kernel
theorem dX3_lineAt_5 : decode cX3_lineAt 5 = .ok (.aload_n 0, 1) := by decide +kernel
theorem dX3_lineAt_6 : decode cX3_lineAt 6 = .ok (.getfield 21, 3) := by decide +kernel
theorem dX3_lineAt_9 : decode cX3_lineAt 9 = .ok (.if_icmp .ge 21, 3) := by decide +kernel
theorem dX3_lineAt_12 : decode cX3_lineAt 12 = .ok (.iload_n 1, 1) := by decide +kernel
theorem dX3_lineAt_13 : decode cX3_lineAt 13 = .ok (.aload_n 0, 1) := by decide +kernel
theorem dX3_lineAt_14 : decode cX3_lineAt 14 = .ok (.getfield 11, 3) := by decide +kernel
theorem dX3_lineAt_17 : decode cX3_lineAt 17 = .ok (.iload_n 2, 1) := by decide +kernel
theorem dX3_lineAt_18 : decode cX3_lineAt 18 = .ok (.iconst 1, 1) := by decide +kernel
theorem dX3_lineAt_19 : decode cX3_lineAt 19 = .ok (.iadd, 1) := by decide +kernel
theorem dX3_lineAt_20 : decode cX3_lineAt 20 = .ok (.iaload, 1) := by decide +kernel
theorem dX3_lineAt_21 : decode cX3_lineAt 21 = .ok (.if_icmp .le 9, 3) := by decide +kernel
theorem dX3_lineAt_24 : decode cX3_lineAt 24 = .ok (.iinc 2 1, 3) := by decide +kernel
theorem dX3_lineAt_27 : decode cX3_lineAt 27 = .ok (.goto (-25), 3) := by decide +kernel
theorem dX3_lineAt_30 : decode cX3_lineAt 30 = .ok (.iload_n 2, 1) := by decide +kernel
theorem dX3_lineAt_31 : decode cX3_lineAt 31 = .ok (.ireturn, 1) := by decide +kernel
theorem dX3_rise_0 : decode cX3_rise 0 = .ok (.iload_n 2, 1) := by decide +kernel
theorem dX3_rise_1 : decode cX3_rise 1 = .ok (.iconst 1, 1) := by decide +kernel
theorem dX3_rise_2 : decode cX3_rise 2 = .ok (.iadd, 1) := by decide +kernel
theorem dX3_rise_3 : decode cX3_rise 3 = .ok (.aload_n 0, 1) := by decide +kernel
theorem dX3_rise_4 : decode cX3_rise 4 = .ok (.getfield 21, 3) := by decide +kernel
theorem dX3_rise_7 : decode cX3_rise 7 = .ok (.if_icmp .ge 16, 3) := by decide +kernel
theorem dX3_rise_10 : decode cX3_rise 10 = .ok (.aload_n 1, 1) := by decide +kernel
theorem dX3_rise_11 : decode cX3_rise 11 = .ok (.iload_n 2, 1) := by decide +kernel
theorem dX3_rise_12 : decode cX3_rise 12 = .ok (.iconst 1, 1) := by decide +kernel
theorem dX3_rise_13 : decode cX3_rise 13 = .ok (.iadd, 1) := by decide +kernel
theorem dX3_rise_14 : decode cX3_rise 14 = .ok (.iaload, 1) := by decide +kernel
theorem dX3_rise_15 : decode cX3_rise 15 = .ok (.aload_n 1, 1) := by decide +kernel
theorem dX3_rise_16 : decode cX3_rise 16 = .ok (.iload_n 2, 1) := by decide +kernel
theorem dX3_rise_17 : decode cX3_rise 17 = .ok (.iaload, 1) := by decide +kernel
theorem dX3_rise_18 : decode cX3_rise 18 = .ok (.isub, 1) := by decide +kernel
theorem dX3_rise_19 : decode cX3_rise 19 = .ok (.i2l, 1) := by decide +kernel
theorem dX3_rise_20 : decode cX3_rise 20 = .ok (.goto 4, 3) := by decide +kernel
theorem dX3_rise_23 : decode cX3_rise 23 = .ok (.lconst 0, 1) := by decide +kernel
theorem dX3_rise_24 : decode cX3_rise 24 = .ok (.lreturn, 1) := by decide +kernel
theorem dX3_spans_0 : decode cX3_spans 0 = .ok (.iload_n 1, 1) := by decide +kernel
theorem dX3_spans_1 : decode cX3_spans 1 = .ok (.aload_n 0, 1) := by decide +kernel
theorem dX3_spans_2 : decode cX3_spans 2 = .ok (.getfield 11, 3) := by decide +kernel
theorem dX3_spans_5 : decode cX3_spans 5 = .ok (.iconst 0, 1) := by decide +kernel
theorem dX3_spans_6 : decode cX3_spans 6 = .ok (.iaload, 1) := by decide +kernel
theorem dX3_spans_7 : decode cX3_spans 7 = .ok (.if_icmp .lt 15, 3) := by decide +kernel
theorem dX3_spans_10 : decode cX3_spans 10 = .ok (.iload_n 1, 1) := by decide +kernel
theorem dX3_spans_11 : decode cX3_spans 11 = .ok (.aload_n 0, 1) := by decide +kernel
theorem dX3_spans_12 : decode cX3_spans 12 = .ok (.invokevirtual 25, 3) := by decide +kernel
theorem dX3_spans_15 : decode cX3_spans 15 = .ok (.if_icmp .gt 7, 3) := by decide +kernel
