theorem dX8_fuel_3 : decode cX8_fuel 3 = .ok (.getfield 119, 3) := by decide +kernel
theorem dX8_fuel_6 : decode cX8_fuel 6 = .ok (.iconst 1, 1) := by decide +kernel
theorem dX8_fuel_7 : decode cX8_fuel 7 = .ok (.isub, 1) := by decide +kernel
theorem dX8_fuel_8 : decode cX8_fuel 8 = .ok (.invokestatic 95, 3) := by decide +kernel
theorem dX8_fuel_11 : decode cX8_fuel 11 = .ok (.ifCond .ne 5, 3) := by decide +kernel
theorem dX8_fuel_14 : decode cX8_fuel 14 = .ok (.iconst (-1), 1) := by decide +kernel
theorem dX8_fuel_15 : decode cX8_fuel 15 = .ok (.ireturn, 1) := by decide +kernel
theorem dX8_fuel_16 : decode cX8_fuel 16 = .ok (.iload_n 2, 1) := by decide +kernel
theorem dX8_fuel_17 : decode cX8_fuel 17 = .ok (.iconst 0, 1) := by decide +kernel
theorem dX8_fuel_18 : decode cX8_fuel 18 = .ok (.aload_n 0, 1) := by decide +kernel
theorem dX8_fuel_19 : decode cX8_fuel 19 = .ok (.getfield 64, 3) := by decide +kernel
theorem dX8_fuel_22 : decode cX8_fuel 22 = .ok (.iload_n 1, 1) := by decide +kernel
theorem dX8_fuel_23 : decode cX8_fuel 23 = .ok (.iaload, 1) := by decide +kernel
theorem dX8_fuel_24 : decode cX8_fuel 24 = .ok (.invokestatic 95, 3) := by decide +kernel
theorem dX8_fuel_27 : decode cX8_fuel 27 = .ok (.ifCond .ne 6, 3) := by decide +kernel
theorem dX8_fuel_30 : decode cX8_fuel 30 = .ok (.bipush (-2), 2) := by decide +kernel
theorem dX8_fuel_32 : decode cX8_fuel 32 = .ok (.ireturn, 1) := by decide +kernel
theorem dX8_fuel_33 : decode cX8_fuel 33 = .ok (.aload_n 0, 1) := by decide +kernel
theorem dX8_fuel_34 : decode cX8_fuel 34 = .ok (.getfield 67, 3) := by decide +kernel
theorem dX8_fuel_37 : decode cX8_fuel 37 = .ok (.iload_n 1, 1) := by decide +kernel
theorem dX8_fuel_38 : decode cX8_fuel 38 = .ok (.iaload, 1) := by decide +kernel
theorem dX8_fuel_39 : decode cX8_fuel 39 = .ok (.istore_n 3, 1) := by decide +kernel
theorem dX8_fuel_40 : decode cX8_fuel 40 = .ok (.aload_n 0, 1) := by decide +kernel
theorem dX8_fuel_41 : decode cX8_fuel 41 = .ok (.getfield 67, 3) := by decide +kernel
theorem dX8_fuel_44 : decode cX8_fuel 44 = .ok (.iload_n 1, 1) := by decide +kernel
theorem dX8_fuel_45 : decode cX8_fuel 45 = .ok (.iload_n 2, 1) := by decide +kernel
theorem dX8_fuel_46 : decode cX8_fuel 46 = .ok (.iastore, 1) := by decide +kernel
theorem dX8_fuel_47 : decode cX8_fuel 47 = .ok (.iload_n 3, 1) := by decide +kernel
theorem dX8_fuel_48 : decode cX8_fuel 48 = .ok (.ireturn, 1) := by decide +kernel
theorem dX8_fuelMoment_0 : decode cX8_fuelMoment 0 = .ok (.lconst 0, 1) := by decide +kernel
theorem dX8_fuelMoment_1 : decode cX8_fuelMoment 1 = .ok (.lstore_n 2, 1) := by decide +kernel
theorem dX8_fuelMoment_2 : decode cX8_fuelMoment 2 = .ok (.iload_n 1, 1) := by decide +kernel
theorem dX8_fuelMoment_3 : decode cX8_fuelMoment 3 = .ok (.istore 4, 2) := by decide +kernel
theorem dX8_fuelMoment_5 : decode cX8_fuelMoment 5 = .ok (.aload_n 0, 1) := by decide +kernel
theorem dX8_fuelMoment_6 : decode cX8_fuelMoment 6 = .ok (.getfield 119, 3) := by decide +kernel
theorem dX8_fuelMoment_9 : decode cX8_fuelMoment 9 = .ok (.iconst 1, 1) := by decide +kernel
theorem dX8_fuelMoment_10 : decode cX8_fuelMoment 10 = .ok (.isub, 1) := by decide +kernel
theorem dX8_fuelMoment_11 : decode cX8_fuelMoment 11 = .ok (.istore 5, 2) := by decide +kernel
theorem dX8_fuelMoment_13 : decode cX8_fuelMoment 13 = .ok (.iload 5, 2) := by decide +kernel
theorem dX8_fuelMoment_15 : decode cX8_fuelMoment 15 = .ok (.ifCond .lt 65, 3) := by decide +kernel
theorem dX8_fuelMoment_18 : decode cX8_fuelMoment 18 = .ok (.iload 4, 2) := by decide +kernel
theorem dX8_fuelMoment_20 : decode cX8_fuelMoment 20 = .ok (.aload_n 0, 1) := by decide +kernel
theorem dX8_fuelMoment_21 : decode cX8_fuelMoment 21 = .ok (.getfield 67, 3) := by decide +kernel
theorem dX8_fuelMoment_24 : decode cX8_fuelMoment 24 = .ok (.iload 5, 2) := by decide +kernel
theorem dX8_fuelMoment_26 : decode cX8_fuelMoment 26 = .ok (.iaload, 1) := by decide +kernel
theorem dX8_fuelMoment_27 : decode cX8_fuelMoment 27 = .ok (.if_icmp .ge 8, 3) := by decide +kernel
theorem dX8_fuelMoment_30 : decode cX8_fuelMoment 30 = .ok (.iload 4, 2) := by decide +kernel
theorem dX8_fuelMoment_32 : decode cX8_fuelMoment 32 = .ok (.goto 10, 3) := by decide +kernel
theorem dX8_fuelMoment_35 : decode cX8_fuelMoment 35 = .ok (.aload_n 0, 1) := by decide +kernel
theorem dX8_fuelMoment_36 : decode cX8_fuelMoment 36 = .ok (.getfield 67, 3) := by decide +kernel
theorem dX8_fuelMoment_39 : decode cX8_fuelMoment 39 = .ok (.iload 5, 2) := by decide +kernel
theorem dX8_fuelMoment_41 : decode cX8_fuelMoment 41 = .ok (.iaload, 1) := by decide +kernel
theorem dX8_fuelMoment_42 : decode cX8_fuelMoment 42 = .ok (.istore 6, 2) := by decide +kernel
theorem dX8_fuelMoment_44 : decode cX8_fuelMoment 44 = .ok (.lload_n 2, 1) := by decide +kernel
theorem dX8_fuelMoment_45 : decode cX8_fuelMoment 45 = .ok (.aload_n 0, 1) := by decide +kernel
theorem dX8_fuelMoment_46 : decode cX8_fuelMoment 46 = .ok (.getfield 67, 3) := by decide +kernel
theorem dX8_fuelMoment_49 : decode cX8_fuelMoment 49 = .ok (.iload 5, 2) := by decide +kernel
theorem dX8_fuelMoment_51 : decode cX8_fuelMoment 51 = .ok (.iaload, 1) := by decide +kernel
theorem dX8_fuelMoment_52 : decode cX8_fuelMoment 52 = .ok (.iload 6, 2) := by decide +kernel
theorem dX8_fuelMoment_54 : decode cX8_fuelMoment 54 = .ok (.isub, 1) := by decide +kernel
theorem dX8_fuelMoment_55 : decode cX8_fuelMoment 55 = .ok (.i2l, 1) := by decide +kernel
theorem dX8_fuelMoment_56 : decode cX8_fuelMoment 56 = .ok (.aload_n 0, 1) := by decide +kernel
theorem dX8_fuelMoment_57 : decode cX8_fuelMoment 57 = .ok (.getfield 61, 3) := by decide +kernel
theorem dX8_fuelMoment_60 : decode cX8_fuelMoment 60 = .ok (.iload 5, 2) := by decide +kernel
theorem dX8_fuelMoment_62 : decode cX8_fuelMoment 62 = .ok (.iaload, 1) := by decide +kernel
theorem dX8_fuelMoment_63 : decode cX8_fuelMoment 63 = .ok (.i2l, 1) := by decide +kernel
theorem dX8_fuelMoment_64 : decode cX8_fuelMoment 64 = .ok (.lmul, 1) := by decide +kernel
theorem dX8_fuelMoment_65 : decode cX8_fuelMoment 65 = .ok (.ladd, 1) := by decide +kernel
theorem dX8_fuelMoment_66 : decode cX8_fuelMoment 66 = .ok (.lstore_n 2, 1) := by decide +kernel
theorem dX8_fuelMoment_67 : decode cX8_fuelMoment 67 = .ok (.iload 4, 2) := by decide +kernel
theorem dX8_fuelMoment_69 : decode cX8_fuelMoment 69 = .ok (.iload 6, 2) := by decide +kernel
theorem dX8_fuelMoment_71 : decode cX8_fuelMoment 71 = .ok (.isub, 1) := by decide +kernel
theorem dX8_fuelMoment_72 : decode cX8_fuelMoment 72 = .ok (.istore 4, 2) := by decide +kernel
theorem dX8_fuelMoment_74 : decode cX8_fuelMoment 74 = .ok (.iinc 5 (-1), 3) := by decide +kernel
theorem dX8_fuelMoment_77 : decode cX8_fuelMoment 77 = .ok (.goto (-64), 3) := by decide +kernel
theorem dX8_fuelMoment_80 : decode cX8_fuelMoment 80 = .ok (.lload_n 2, 1) := by decide +kernel
theorem dX8_fuelMoment_81 : decode cX8_fuelMoment 81 = .ok (.lreturn, 1) := by decide +kernel
theorem dX8_hold_0 : decode cX8_hold 0 = .ok (.iload_n 1, 1) := by decide +kernel
theorem dX8_hold_1 : decode cX8_hold 1 = .ok (.iconst 0, 1) := by decide +kernel
theorem dX8_hold_2 : decode cX8_hold 2 = .ok (.sipush 20000, 3) := by decide +kernel
theorem dX8_hold_5 : decode cX8_hold 5 = .ok (.invokestatic 95, 3) := by decide +kernel
theorem dX8_hold_8 : decode cX8_hold 8 = .ok (.ifCond .eq 14, 3) := by decide +kernel
theorem dX8_hold_11 : decode cX8_hold 11 = .ok (.iload_n 2, 1) := by decide +kernel
theorem dX8_hold_12 : decode cX8_hold 12 = .ok (.iconst 0, 1) := by decide +kernel
theorem dX8_hold_13 : decode cX8_hold 13 = .ok (.sipush 20000, 3) := by decide +kernel
theorem dX8_hold_16 : decode cX8_hold 16 = .ok (.invokestatic 95, 3) := by decide +kernel
theorem dX8_hold_19 : decode cX8_hold 19 = .ok (.ifCond .ne 6, 3) := by decide +kernel
theorem dX8_hold_22 : decode cX8_hold 22 = .ok (.bipush (-2), 2) := by decide +kernel
theorem dX8_hold_24 : decode cX8_hold 24 = .ok (.ireturn, 1) := by decide +kernel
theorem dX8_hold_25 : decode cX8_hold 25 = .ok (.aload_n 0, 1) := by decide +kernel
theorem dX8_hold_26 : decode cX8_hold 26 = .ok (.getfield 99, 3) := by decide +kernel
theorem dX8_hold_29 : decode cX8_hold 29 = .ok (.iconst 4, 1) := by decide +kernel
theorem dX8_hold_30 : decode cX8_hold 30 = .ok (.if_icmp .ne 6, 3) := by decide +kernel
theorem dX8_hold_33 : decode cX8_hold 33 = .ok (.bipush (-4), 2) := by decide +kernel
theorem dX8_hold_35 : decode cX8_hold 35 = .ok (.ireturn, 1) := by decide +kernel
theorem dX8_hold_36 : decode cX8_hold 36 = .ok (.aload_n 0, 1) := by decide +kernel
theorem dX8_hold_37 : decode cX8_hold 37 = .ok (.getfield 18, 3) := by decide +kernel
theorem dX8_hold_40 : decode cX8_hold 40 = .ok (.aload_n 0, 1) := by decide +kernel
theorem dX8_hold_41 : decode cX8_hold 41 = .ok (.getfield 99, 3) := by decide +kernel
theorem dX8_hold_44 : decode cX8_hold 44 = .ok (.iload_n 1, 1) := by decide +kernel
theorem dX8_hold_45 : decode cX8_hold 45 = .ok (.iastore, 1) := by decide +kernel
theorem dX8_hold_46 : decode cX8_hold 46 = .ok (.aload_n 0, 1) := by decide +kernel
theorem dX8_hold_47 : decode cX8_hold 47 = .ok (.getfield 22, 3) := by decide +kernel
theorem dX8_hold_50 : decode cX8_hold 50 = .ok (.aload_n 0, 1) := by decide +kernel
theorem dX8_hold_51 : decode cX8_hold 51 = .ok (.getfield 99, 3) := by decide +kernel
theorem dX8_hold_54 : decode cX8_hold 54 = .ok (.iload_n 2, 1) := by decide +kernel
theorem dX8_hold_55 : decode cX8_hold 55 = .ok (.iastore, 1) := by decide +kernel
theorem dX8_hold_56 : decode cX8_hold 56 = .ok (.aload_n 0, 1) := by decide +kernel
theorem dX8_hold_57 : decode cX8_hold 57 = .ok (.dup, 1) := by decide +kernel
theorem dX8_hold_58 : decode cX8_hold 58 = .ok (.getfield 99, 3) := by decide +kernel
theorem dX8_hold_61 : decode cX8_hold 61 = .ok (.iconst 1, 1) := by decide +kernel
theorem dX8_hold_62 : decode cX8_hold 62 = .ok (.iadd, 1) := by decide +kernel
theorem dX8_hold_63 : decode cX8_hold 63 = .ok (.putfield 99, 3) := by decide +kernel
theorem dX8_hold_66 : decode cX8_hold 66 = .ok (.aload_n 0, 1) := by decide +kernel
theorem dX8_hold_67 : decode cX8_hold 67 = .ok (.getfield 99, 3) := by decide +kernel
theorem dX8_hold_70 : decode cX8_hold 70 = .ok (.iconst 1, 1) := by decide +kernel
theorem dX8_hold_71 : decode cX8_hold 71 = .ok (.isub, 1) := by decide +kernel
theorem dX8_hold_72 : decode cX8_hold 72 = .ok (.ireturn, 1) := by decide +kernel
theorem dX8_in_0 : decode cX8_in 0 = .ok (.aload_n 0, 1) := by decide +kernel
theorem dX8_in_1 : decode cX8_in 1 = .ok (.iload_n 1, 1) := by decide +kernel
theorem dX8_in_2 : decode cX8_in 2 = .ok (.iload_n 2, 1) := by decide +kernel
theorem dX8_in_3 : decode cX8_in 3 = .ok (.invokevirtual 133, 3) := by decide +kernel
theorem dX8_in_6 : decode cX8_in 6 = .ok (.ifCond .eq 17, 3) := by decide +kernel
theorem dX8_in_9 : decode cX8_in 9 = .ok (.aload_n 0, 1) := by decide +kernel
theorem dX8_in_10 : decode cX8_in 10 = .ok (.getfield 34, 3) := by decide +kernel
theorem dX8_in_13 : decode cX8_in 13 = .ok (.bipush 8, 2) := by decide +kernel
theorem dX8_in_15 : decode cX8_in 15 = .ok (.iload_n 1, 1) := by decide +kernel
theorem dX8_in_16 : decode cX8_in 16 = .ok (.imul, 1) := by decide +kernel
theorem dX8_in_17 : decode cX8_in 17 = .ok (.iload_n 2, 1) := by decide +kernel
theorem dX8_in_18 : decode cX8_in 18 = .ok (.iadd, 1) := by decide +kernel
theorem dX8_in_19 : decode cX8_in 19 = .ok (.iaload, 1) := by decide +kernel
theorem dX8_in_20 : decode cX8_in 20 = .ok (.goto 4, 3) := by decide +kernel
theorem dX8_in_23 : decode cX8_in 23 = .ok (.iconst (-1), 1) := by decide +kernel
theorem dX8_in_24 : decode cX8_in 24 = .ok (.ireturn, 1) := by decide +kernel
theorem dX8_init_0 : decode cX8_init 0 = .ok (.aload_n 0, 1) := by decide +kernel
theorem dX8_init_1 : decode cX8_init 1 = .ok (.invokespecial 9, 3) := by decide +kernel
theorem dX8_init_4 : decode cX8_init 4 = .ok (.aload_n 0, 1) := by decide +kernel
theorem dX8_init_5 : decode cX8_init 5 = .ok (.sipush 1000, 3) := by decide +kernel
theorem dX8_init_8 : decode cX8_init 8 = .ok (.putfield 15, 3) := by decide +kernel
theorem dX8_init_11 : decode cX8_init 11 = .ok (.aload_n 0, 1) := by decide +kernel
theorem dX8_init_12 : decode cX8_init 12 = .ok (.iconst 4, 1) := by decide +kernel
theorem dX8_init_13 : decode cX8_init 13 = .ok (.newarray .int, 2) := by decide +kernel
theorem dX8_init_15 : decode cX8_init 15 = .ok (.putfield 18, 3) := by decide +kernel
theorem dX8_init_18 : decode cX8_init 18 = .ok (.aload_n 0, 1) := by decide +kernel
theorem dX8_init_19 : decode cX8_init 19 = .ok (.iconst 4, 1) := by decide +kernel
theorem dX8_init_20 : decode cX8_init 20 = .ok (.newarray .int, 2) := by decide +kernel
theorem dX8_init_22 : decode cX8_init 22 = .ok (.putfield 22, 3) := by decide +kernel
theorem dX8_init_25 : decode cX8_init 25 = .ok (.aload_n 0, 1) := by decide +kernel
theorem dX8_init_26 : decode cX8_init 26 = .ok (.iconst 4, 1) := by decide +kernel
theorem dX8_init_27 : decode cX8_init 27 = .ok (.newarray .int, 2) := by decide +kernel
theorem dX8_init_29 : decode cX8_init 29 = .ok (.putfield 25, 3) := by decide +kernel
theorem dX8_init_32 : decode cX8_init 32 = .ok (.aload_n 0, 1) := by decide +kernel
theorem dX8_init_33 : decode cX8_init 33 = .ok (.bipush 32, 2) := by decide +kernel
theorem dX8_init_35 : decode cX8_init 35 = .ok (.newarray .int, 2) := by decide +kernel
theorem dX8_init_37 : decode cX8_init 37 = .ok (.putfield 28, 3) := by decide +kernel
theorem dX8_init_40 : decode cX8_init 40 = .ok (.aload_n 0, 1) := by decide +kernel
theorem dX8_init_41 : decode cX8_init 41 = .ok (.bipush 32, 2) := by decide +kernel
theorem dX8_init_43 : decode cX8_init 43 = .ok (.newarray .int, 2) := by decide +kernel
theorem dX8_init_45 : decode cX8_init 45 = .ok (.putfield 31, 3) := by decide +kernel
theorem dX8_init_48 : decode cX8_init 48 = .ok (.aload_n 0, 1) := by decide +kernel
theorem dX8_init_49 : decode cX8_init 49 = .ok (.bipush 32, 2) := by decide +kernel
theorem dX8_init_51 : decode cX8_init 51 = .ok (.newarray .int, 2) := by decide +kernel
theorem dX8_init_53 : decode cX8_init 53 = .ok (.putfield 34, 3) := by decide +kernel
theorem dX8_init_56 : decode cX8_init 56 = .ok (.aload_n 0, 1) := by decide +kernel
theorem dX8_init_57 : decode cX8_init 57 = .ok (.bipush 64, 2) := by decide +kernel
theorem dX8_init_59 : decode cX8_init 59 = .ok (.newarray .int, 2) := by decide +kernel
theorem dX8_init_61 : decode cX8_init 61 = .ok (.putfield 37, 3) := by decide +kernel
theorem dX8_init_64 : decode cX8_init 64 = .ok (.aload_n 0, 1) := by decide +kernel
theorem dX8_init_65 : decode cX8_init 65 = .ok (.bipush 40, 2) := by decide +kernel
theorem dX8_init_67 : decode cX8_init 67 = .ok (.newarray .int, 2) := by decide +kernel
theorem dX8_init_69 : decode cX8_init 69 = .ok (.putfield 40, 3) := by decide +kernel
theorem dX8_init_72 : decode cX8_init 72 = .ok (.aload_n 0, 1) := by decide +kernel
theorem dX8_init_73 : decode cX8_init 73 = .ok (.bipush 40, 2) := by decide +kernel
theorem dX8_init_75 : decode cX8_init 75 = .ok (.newarray .int, 2) := by decide +kernel
theorem dX8_init_77 : decode cX8_init 77 = .ok (.putfield 43, 3) := by decide +kernel
theorem dX8_init_80 : decode cX8_init 80 = .ok (.aload_n 0, 1) := by decide +kernel
theorem dX8_init_81 : decode cX8_init 81 = .ok (.bipush 40, 2) := by decide +kernel
theorem dX8_init_83 : decode cX8_init 83 = .ok (.newarray .int, 2) := by decide +kernel
theorem dX8_init_85 : decode cX8_init 85 = .ok (.putfield 46, 3) := by decide +kernel
theorem dX8_init_88 : decode cX8_init 88 = .ok (.aload_n 0, 1) := by decide +kernel
theorem dX8_init_89 : decode cX8_init 89 = .ok (.bipush 40, 2) := by decide +kernel
theorem dX8_init_91 : decode cX8_init 91 = .ok (.newarray .int, 2) := by decide +kernel
theorem dX8_init_93 : decode cX8_init 93 = .ok (.putfield 49, 3) := by decide +kernel
theorem dX8_init_96 : decode cX8_init 96 = .ok (.aload_n 0, 1) := by decide +kernel
theorem dX8_init_97 : decode cX8_init 97 = .ok (.bipush 10, 2) := by decide +kernel
theorem dX8_init_99 : decode cX8_init 99 = .ok (.newarray .int, 2) := by decide +kernel
theorem dX8_init_101 : decode cX8_init 101 = .ok (.putfield 52, 3) := by decide +kernel
theorem dX8_init_104 : decode cX8_init 104 = .ok (.aload_n 0, 1) := by decide +kernel
theorem dX8_init_105 : decode cX8_init 105 = .ok (.bipush 10, 2) := by decide +kernel
theorem dX8_init_107 : decode cX8_init 107 = .ok (.newarray .int, 2) := by decide +kernel
theorem dX8_init_109 : decode cX8_init 109 = .ok (.putfield 55, 3) := by decide +kernel
theorem dX8_init_112 : decode cX8_init 112 = .ok (.aload_n 0, 1) := by decide +kernel
theorem dX8_init_113 : decode cX8_init 113 = .ok (.bipush 10, 2) := by decide +kernel
theorem dX8_init_115 : decode cX8_init 115 = .ok (.newarray .int, 2) := by decide +kernel
theorem dX8_init_117 : decode cX8_init 117 = .ok (.putfield 58, 3) := by decide +kernel
theorem dX8_init_120 : decode cX8_init 120 = .ok (.aload_n 0, 1) := by decide +kernel
theorem dX8_init_121 : decode cX8_init 121 = .ok (.iconst 4, 1) := by decide +kernel
theorem dX8_init_122 : decode cX8_init 122 = .ok (.newarray .int, 2) := by decide +kernel
theorem dX8_init_124 : decode cX8_init 124 = .ok (.putfield 61, 3) := by decide +kernel
theorem dX8_init_127 : decode cX8_init 127 = .ok (.aload_n 0, 1) := by decide +kernel
theorem dX8_init_128 : decode cX8_init 128 = .ok (.iconst 4, 1) := by decide +kernel
theorem dX8_init_129 : decode cX8_init 129 = .ok (.newarray .int, 2) := by decide +kernel
theorem dX8_init_131 : decode cX8_init 131 = .ok (.putfield 64, 3) := by decide +kernel
theorem dX8_init_134 : decode cX8_init 134 = .ok (.aload_n 0, 1) := by decide +kernel
theorem dX8_init_135 : decode cX8_init 135 = .ok (.iconst 4, 1) := by decide +kernel
theorem dX8_init_136 : decode cX8_init 136 = .ok (.newarray .int, 2) := by decide +kernel
theorem dX8_init_138 : decode cX8_init 138 = .ok (.putfield 67, 3) := by decide +kernel
theorem dX8_init_141 : decode cX8_init 141 = .ok (.aload_n 0, 1) := by decide +kernel
theorem dX8_init_142 : decode cX8_init 142 = .ok (.bipush 80, 2) := by decide +kernel
theorem dX8_init_144 : decode cX8_init 144 = .ok (.putfield 70, 3) := by decide +kernel
theorem dX8_init_147 : decode cX8_init 147 = .ok (.aload_n 0, 1) := by decide +kernel
theorem dX8_init_148 : decode cX8_init 148 = .ok (.iconst 2, 1) := by decide +kernel
theorem dX8_init_149 : decode cX8_init 149 = .ok (.newarray .int, 2) := by decide +kernel
theorem dX8_init_151 : decode cX8_init 151 = .ok (.putfield 73, 3) := by decide +kernel
theorem dX8_init_154 : decode cX8_init 154 = .ok (.aload_n 0, 1) := by decide +kernel
theorem dX8_init_155 : decode cX8_init 155 = .ok (.bipush 20, 2) := by decide +kernel
theorem dX8_init_157 : decode cX8_init 157 = .ok (.newarray .int, 2) := by decide +kernel
theorem dX8_init_159 : decode cX8_init 159 = .ok (.putfield 76, 3) := by decide +kernel
theorem dX8_init_162 : decode cX8_init 162 = .ok (.aload_n 0, 1) := by decide +kernel
theorem dX8_init_163 : decode cX8_init 163 = .ok (.bipush 20, 2) := by decide +kernel
theorem dX8_init_165 : decode cX8_init 165 = .ok (.newarray .int, 2) := by decide +kernel
theorem dX8_init_167 : decode cX8_init 167 = .ok (.putfield 79, 3) := by decide +kernel
theorem dX8_init_170 : decode cX8_init 170 = .ok (.aload_n 0, 1) := by decide +kernel
theorem dX8_init_171 : decode cX8_init 171 = .ok (.bipush 20, 2) := by decide +kernel
theorem dX8_init_173 : decode cX8_init 173 = .ok (.newarray .int, 2) := by decide +kernel
theorem dX8_init_175 : decode cX8_init 175 = .ok (.putfield 82, 3) := by decide +kernel
theorem dX8_init_178 : decode cX8_init 178 = .ok (.aload_n 0, 1) := by decide +kernel
theorem dX8_init_179 : decode cX8_init 179 = .ok (.bipush 40, 2) := by decide +kernel
theorem dX8_init_181 : decode cX8_init 181 = .ok (.newarray .boolean, 2) := by decide +kernel
theorem dX8_init_183 : decode cX8_init 183 = .ok (.putfield 85, 3) := by decide +kernel
theorem dX8_init_186 : decode cX8_init 186 = .ok (.aload_n 0, 1) := by decide +kernel
theorem dX8_init_187 : decode cX8_init 187 = .ok (.iconst 4, 1) := by decide +kernel
theorem dX8_init_188 : decode cX8_init 188 = .ok (.newarray .int, 2) := by decide +kernel
theorem dX8_init_190 : decode cX8_init 190 = .ok (.putfield 89, 3) := by decide +kernel
theorem dX8_init_193 : decode cX8_init 193 = .ok (.aload_n 0, 1) := by decide +kernel
theorem dX8_init_194 : decode cX8_init 194 = .ok (.iconst 4, 1) := by decide +kernel
theorem dX8_init_195 : decode cX8_init 195 = .ok (.newarray .int, 2) := by decide +kernel
theorem dX8_init_197 : decode cX8_init 197 = .ok (.putfield 92, 3) := by decide +kernel
theorem dX8_init_200 : decode cX8_init 200 = .ok (.iconst 0, 1) := by decide +kernel
theorem dX8_init_201 : decode cX8_init 201 = .ok (.istore_n 1, 1) := by decide +kernel
theorem dX8_init_202 : decode cX8_init 202 = .ok (.iload_n 1, 1) := by decide +kernel
theorem dX8_init_203 : decode cX8_init 203 = .ok (.bipush 32, 2) := by decide +kernel
theorem dX8_init_205 : decode cX8_init 205 = .ok (.if_icmp .ge 16, 3) := by decide +kernel
theorem dX8_init_208 : decode cX8_init 208 = .ok (.aload_n 0, 1) := by decide +kernel
theorem dX8_init_209 : decode cX8_init 209 = .ok (.getfield 34, 3) := by decide +kernel
theorem dX8_init_212 : decode cX8_init 212 = .ok (.iload_n 1, 1) := by decide +kernel
theorem dX8_init_213 : decode cX8_init 213 = .ok (.iconst (-1), 1) := by decide +kernel
theorem dX8_init_214 : decode cX8_init 214 = .ok (.iastore, 1) := by decide +kernel
theorem dX8_init_215 : decode cX8_init 215 = .ok (.iinc 1 1, 3) := by decide +kernel
theorem dX8_init_218 : decode cX8_init 218 = .ok (.goto (-16), 3) := by decide +kernel
theorem dX8_init_221 : decode cX8_init 221 = .ok (.return_, 1) := by decide +kernel
theorem dX8_isArm_0 : decode cX8_isArm 0 = .ok (.iload_n 0, 1) := by decide +kernel
theorem dX8_isArm_1 : decode cX8_isArm 1 = .ok (.iconst 0, 1) := by decide +kernel
theorem dX8_isArm_2 : decode cX8_isArm 2 = .ok (.sipush 5000, 3) := by decide +kernel
theorem dX8_isArm_5 : decode cX8_isArm 5 = .ok (.invokestatic 95, 3) := by decide +kernel
theorem dX8_isArm_8 : decode cX8_isArm 8 = .ok (.ireturn, 1) := by decide +kernel
theorem dX8_isBetter_0 : decode cX8_isBetter 0 = .ok (.aload_n 0, 1) := by decide +kernel
theorem dX8_isBetter_1 : decode cX8_isBetter 1 = .ok (.iload_n 1, 1) := by decide +kernel
theorem dX8_isBetter_2 : decode cX8_isBetter 2 = .ok (.aload_n 0, 1) := by decide +kernel
theorem dX8_isBetter_3 : decode cX8_isBetter 3 = .ok (.invokevirtual 153, 3) := by decide +kernel
theorem dX8_isBetter_6 : decode cX8_isBetter 6 = .ok (.aload_n 0, 1) := by decide +kernel
theorem dX8_isBetter_7 : decode cX8_isBetter 7 = .ok (.invokevirtual 160, 3) := by decide +kernel
theorem dX8_isBetter_10 : decode cX8_isBetter 10 = .ok (.invokevirtual 192, 3) := by decide +kernel
theorem dX8_isBetter_13 : decode cX8_isBetter 13 = .ok (.aload_n 0, 1) := by decide +kernel
theorem dX8_isBetter_14 : decode cX8_isBetter 14 = .ok (.aload_n 0, 1) := by decide +kernel
theorem dX8_isBetter_15 : decode cX8_isBetter 15 = .ok (.getfield 188, 3) := by decide +kernel
theorem dX8_isBetter_18 : decode cX8_isBetter 18 = .ok (.aload_n 0, 1) := by decide +kernel
theorem dX8_isBetter_19 : decode cX8_isBetter 19 = .ok (.getfield 185, 3) := by decide +kernel
theorem dX8_isBetter_22 : decode cX8_isBetter 22 = .ok (.aload_n 0, 1) := by decide +kernel
theorem dX8_isBetter_23 : decode cX8_isBetter 23 = .ok (.getfield 199, 3) := by decide +kernel
theorem dX8_isBetter_26 : decode cX8_isBetter 26 = .ok (.aload_n 0, 1) := by decide +kernel
theorem dX8_isBetter_27 : decode cX8_isBetter 27 = .ok (.getfield 202, 3) := by decide +kernel
theorem dX8_isBetter_30 : decode cX8_isBetter 30 = .ok (.invokevirtual 205, 3) := by decide +kernel
theorem dX8_isBetter_33 : decode cX8_isBetter 33 = .ok (.ireturn, 1) := by decide +kernel
theorem dX8_isHold_0 : decode cX8_isHold 0 = .ok (.iload_n 1, 1) := by decide +kernel
theorem dX8_isHold_1 : decode cX8_isHold 1 = .ok (.iconst 0, 1) := by decide +kernel
theorem dX8_isHold_2 : decode cX8_isHold 2 = .ok (.aload_n 0, 1) := by decide +kernel
theorem dX8_isHold_3 : decode cX8_isHold 3 = .ok (.getfield 99, 3) := by decide +kernel
theorem dX8_isHold_6 : decode cX8_isHold 6 = .ok (.iconst 1, 1) := by decide +kernel
theorem dX8_isHold_7 : decode cX8_isHold 7 = .ok (.isub, 1) := by decide +kernel
theorem dX8_isHold_8 : decode cX8_isHold 8 = .ok (.invokestatic 95, 3) := by decide +kernel
theorem dX8_isHold_11 : decode cX8_isHold 11 = .ok (.ireturn, 1) := by decide +kernel
theorem dX8_isIn_0 : decode cX8_isIn 0 = .ok (.iload_n 0, 1) := by decide +kernel
theorem dX8_isIn_1 : decode cX8_isIn 1 = .ok (.iload_n 1, 1) := by decide +kernel
theorem dX8_isIn_2 : decode cX8_isIn 2 = .ok (.if_icmp .lt 12, 3) := by decide +kernel
theorem dX8_isIn_5 : decode cX8_isIn 5 = .ok (.iload_n 0, 1) := by decide +kernel
theorem dX8_isIn_6 : decode cX8_isIn 6 = .ok (.iload_n 2, 1) := by decide +kernel
theorem dX8_isIn_7 : decode cX8_isIn 7 = .ok (.if_icmp .gt 7, 3) := by decide +kernel
theorem dX8_isIn_10 : decode cX8_isIn 10 = .ok (.iconst 1, 1) := by decide +kernel
theorem dX8_isIn_11 : decode cX8_isIn 11 = .ok (.goto 4, 3) := by decide +kernel
theorem dX8_isIn_14 : decode cX8_isIn 14 = .ok (.iconst 0, 1) := by decide +kernel
theorem dX8_isIn_15 : decode cX8_isIn 15 = .ok (.ireturn, 1) := by decide +kernel
theorem dX8_isItem_0 : decode cX8_isItem 0 = .ok (.iload_n 1, 1) := by decide +kernel
theorem dX8_isItem_1 : decode cX8_isItem 1 = .ok (.iconst 0, 1) := by decide +kernel
theorem dX8_isItem_2 : decode cX8_isItem 2 = .ok (.aload_n 0, 1) := by decide +kernel
theorem dX8_isItem_3 : decode cX8_isItem 3 = .ok (.getfield 106, 3) := by decide +kernel
theorem dX8_isItem_6 : decode cX8_isItem 6 = .ok (.iconst 1, 1) := by decide +kernel
theorem dX8_isItem_7 : decode cX8_isItem 7 = .ok (.isub, 1) := by decide +kernel
theorem dX8_isItem_8 : decode cX8_isItem 8 = .ok (.invokestatic 95, 3) := by decide +kernel
theorem dX8_isItem_11 : decode cX8_isItem 11 = .ok (.ireturn, 1) := by decide +kernel
theorem dX8_isNearer_0 : decode cX8_isNearer 0 = .ok (.lload_n 1, 1) := by decide +kernel
theorem dX8_isNearer_1 : decode cX8_isNearer 1 = .ok (.iload 6, 2) := by decide +kernel
theorem dX8_isNearer_3 : decode cX8_isNearer 3 = .ok (.i2l, 1) := by decide +kernel
theorem dX8_isNearer_4 : decode cX8_isNearer 4 = .ok (.lmul, 1) := by decide +kernel
theorem dX8_isNearer_5 : decode cX8_isNearer 5 = .ok (.lload 4, 2) := by decide +kernel
theorem dX8_isNearer_7 : decode cX8_isNearer 7 = .ok (.iload_n 3, 1) := by decide +kernel
theorem dX8_isNearer_8 : decode cX8_isNearer 8 = .ok (.i2l, 1) := by decide +kernel
theorem dX8_isNearer_9 : decode cX8_isNearer 9 = .ok (.lmul, 1) := by decide +kernel
theorem dX8_isNearer_10 : decode cX8_isNearer 10 = .ok (.lcmp, 1) := by decide +kernel
theorem dX8_isNearer_11 : decode cX8_isNearer 11 = .ok (.ifCond .ge 7, 3) := by decide +kernel
theorem dX8_isNearer_14 : decode cX8_isNearer 14 = .ok (.iconst 1, 1) := by decide +kernel
theorem dX8_isNearer_15 : decode cX8_isNearer 15 = .ok (.goto 4, 3) := by decide +kernel
theorem dX8_isNearer_18 : decode cX8_isNearer 18 = .ok (.iconst 0, 1) := by decide +kernel
theorem dX8_isNearer_19 : decode cX8_isNearer 19 = .ok (.ireturn, 1) := by decide +kernel
theorem dX8_isSlot_0 : decode cX8_isSlot 0 = .ok (.aload_n 0, 1) := by decide +kernel
theorem dX8_isSlot_1 : decode cX8_isSlot 1 = .ok (.iload_n 1, 1) := by decide +kernel
theorem dX8_isSlot_2 : decode cX8_isSlot 2 = .ok (.invokevirtual 102, 3) := by decide +kernel
theorem dX8_isSlot_5 : decode cX8_isSlot 5 = .ok (.ifCond .eq 23, 3) := by decide +kernel
theorem dX8_isSlot_8 : decode cX8_isSlot 8 = .ok (.iload_n 2, 1) := by decide +kernel
theorem dX8_isSlot_9 : decode cX8_isSlot 9 = .ok (.iconst 0, 1) := by decide +kernel
theorem dX8_isSlot_10 : decode cX8_isSlot 10 = .ok (.aload_n 0, 1) := by decide +kernel
theorem dX8_isSlot_11 : decode cX8_isSlot 11 = .ok (.getfield 25, 3) := by decide +kernel
theorem dX8_isSlot_14 : decode cX8_isSlot 14 = .ok (.iload_n 1, 1) := by decide +kernel
theorem dX8_isSlot_15 : decode cX8_isSlot 15 = .ok (.iaload, 1) := by decide +kernel
theorem dX8_isSlot_16 : decode cX8_isSlot 16 = .ok (.iconst 1, 1) := by decide +kernel
theorem dX8_isSlot_17 : decode cX8_isSlot 17 = .ok (.isub, 1) := by decide +kernel
theorem dX8_isSlot_18 : decode cX8_isSlot 18 = .ok (.invokestatic 95, 3) := by decide +kernel
theorem dX8_isSlot_21 : decode cX8_isSlot 21 = .ok (.ifCond .eq 7, 3) := by decide +kernel
theorem dX8_isSlot_24 : decode cX8_isSlot 24 = .ok (.iconst 1, 1) := by decide +kernel
theorem dX8_isSlot_25 : decode cX8_isSlot 25 = .ok (.goto 4, 3) := by decide +kernel
theorem dX8_isSlot_28 : decode cX8_isSlot 28 = .ok (.iconst 0, 1) := by decide +kernel
theorem dX8_isSlot_29 : decode cX8_isSlot 29 = .ok (.ireturn, 1) := by decide +kernel
theorem dX8_item_0 : decode cX8_item 0 = .ok (.iload_n 1, 1) := by decide +kernel
theorem dX8_item_1 : decode cX8_item 1 = .ok (.iconst 1, 1) := by decide +kernel
theorem dX8_item_2 : decode cX8_item 2 = .ok (.sipush 5000, 3) := by decide +kernel
theorem dX8_item_5 : decode cX8_item 5 = .ok (.invokestatic 95, 3) := by decide +kernel
theorem dX8_item_8 : decode cX8_item 8 = .ok (.ifCond .ne 6, 3) := by decide +kernel
theorem dX8_item_11 : decode cX8_item 11 = .ok (.bipush (-2), 2) := by decide +kernel
theorem dX8_item_13 : decode cX8_item 13 = .ok (.ireturn, 1) := by decide +kernel
theorem dX8_item_14 : decode cX8_item 14 = .ok (.iload_n 2, 1) := by decide +kernel
theorem dX8_item_15 : decode cX8_item 15 = .ok (.iconst 0, 1) := by decide +kernel
theorem dX8_item_16 : decode cX8_item 16 = .ok (.bipush 7, 2) := by decide +kernel
theorem dX8_item_18 : decode cX8_item 18 = .ok (.invokestatic 95, 3) := by decide +kernel
theorem dX8_item_21 : decode cX8_item 21 = .ok (.ifCond .eq 12, 3) := by decide +kernel
theorem dX8_item_24 : decode cX8_item 24 = .ok (.iload_n 3, 1) := by decide +kernel
theorem dX8_item_25 : decode cX8_item 25 = .ok (.iconst 1, 1) := by decide +kernel
theorem dX8_item_26 : decode cX8_item 26 = .ok (.iconst 4, 1) := by decide +kernel
theorem dX8_item_27 : decode cX8_item 27 = .ok (.invokestatic 95, 3) := by decide +kernel
theorem dX8_item_30 : decode cX8_item 30 = .ok (.ifCond .ne 5, 3) := by decide +kernel
theorem dX8_item_33 : decode cX8_item 33 = .ok (.iconst (-1), 1) := by decide +kernel
theorem dX8_item_34 : decode cX8_item 34 = .ok (.ireturn, 1) := by decide +kernel
theorem dX8_item_35 : decode cX8_item 35 = .ok (.aload_n 0, 1) := by decide +kernel
theorem dX8_item_36 : decode cX8_item 36 = .ok (.getfield 106, 3) := by decide +kernel
theorem dX8_item_39 : decode cX8_item 39 = .ok (.bipush 40, 2) := by decide +kernel
theorem dX8_item_41 : decode cX8_item 41 = .ok (.if_icmp .ne 6, 3) := by decide +kernel
theorem dX8_item_44 : decode cX8_item 44 = .ok (.bipush (-4), 2) := by decide +kernel
theorem dX8_item_46 : decode cX8_item 46 = .ok (.ireturn, 1) := by decide +kernel
theorem dX8_item_47 : decode cX8_item 47 = .ok (.aload_n 0, 1) := by decide +kernel
theorem dX8_item_48 : decode cX8_item 48 = .ok (.getfield 40, 3) := by decide +kernel
theorem dX8_item_51 : decode cX8_item 51 = .ok (.aload_n 0, 1) := by decide +kernel
theorem dX8_item_52 : decode cX8_item 52 = .ok (.getfield 106, 3) := by decide +kernel
theorem dX8_item_55 : decode cX8_item 55 = .ok (.iload_n 1, 1) := by decide +kernel
theorem dX8_item_56 : decode cX8_item 56 = .ok (.iastore, 1) := by decide +kernel
theorem dX8_item_57 : decode cX8_item 57 = .ok (.aload_n 0, 1) := by decide +kernel
theorem dX8_item_58 : decode cX8_item 58 = .ok (.getfield 43, 3) := by decide +kernel
theorem dX8_item_61 : decode cX8_item 61 = .ok (.aload_n 0, 1) := by decide +kernel
theorem dX8_item_62 : decode cX8_item 62 = .ok (.getfield 106, 3) := by decide +kernel
theorem dX8_item_65 : decode cX8_item 65 = .ok (.iload_n 2, 1) := by decide +kernel
theorem dX8_item_66 : decode cX8_item 66 = .ok (.iastore, 1) := by decide +kernel
theorem dX8_item_67 : decode cX8_item 67 = .ok (.aload_n 0, 1) := by decide +kernel
theorem dX8_item_68 : decode cX8_item 68 = .ok (.getfield 46, 3) := by decide +kernel
theorem dX8_item_71 : decode cX8_item 71 = .ok (.aload_n 0, 1) := by decide +kernel
theorem dX8_item_72 : decode cX8_item 72 = .ok (.getfield 106, 3) := by decide +kernel
theorem dX8_item_75 : decode cX8_item 75 = .ok (.iload_n 3, 1) := by decide +kernel
theorem dX8_item_76 : decode cX8_item 76 = .ok (.iastore, 1) := by decide +kernel
theorem dX8_item_77 : decode cX8_item 77 = .ok (.aload_n 0, 1) := by decide +kernel
theorem dX8_item_78 : decode cX8_item 78 = .ok (.getfield 49, 3) := by decide +kernel
theorem dX8_item_81 : decode cX8_item 81 = .ok (.aload_n 0, 1) := by decide +kernel
theorem dX8_item_82 : decode cX8_item 82 = .ok (.getfield 106, 3) := by decide +kernel
theorem dX8_item_85 : decode cX8_item 85 = .ok (.iconst (-1), 1) := by decide +kernel
theorem dX8_item_86 : decode cX8_item 86 = .ok (.iastore, 1) := by decide +kernel
theorem dX8_item_87 : decode cX8_item 87 = .ok (.aload_n 0, 1) := by decide +kernel
theorem dX8_item_88 : decode cX8_item 88 = .ok (.dup, 1) := by decide +kernel
theorem dX8_item_89 : decode cX8_item 89 = .ok (.getfield 106, 3) := by decide +kernel
theorem dX8_item_92 : decode cX8_item 92 = .ok (.iconst 1, 1) := by decide +kernel
theorem dX8_item_93 : decode cX8_item 93 = .ok (.iadd, 1) := by decide +kernel
theorem dX8_item_94 : decode cX8_item 94 = .ok (.putfield 106, 3) := by decide +kernel
theorem dX8_item_97 : decode cX8_item 97 = .ok (.aload_n 0, 1) := by decide +kernel
theorem dX8_item_98 : decode cX8_item 98 = .ok (.getfield 106, 3) := by decide +kernel
theorem dX8_item_101 : decode cX8_item 101 = .ok (.iconst 1, 1) := by decide +kernel
theorem dX8_item_102 : decode cX8_item 102 = .ok (.isub, 1) := by decide +kernel
theorem dX8_item_103 : decode cX8_item 103 = .ok (.ireturn, 1) := by decide +kernel
theorem dX8_late_0 : decode cX8_late 0 = .ok (.iload_n 1, 1) := by decide +kernel
theorem dX8_late_1 : decode cX8_late 1 = .ok (.iconst 0, 1) := by decide +kernel
theorem dX8_late_2 : decode cX8_late 2 = .ok (.bipush 80, 2) := by decide +kernel
theorem dX8_late_4 : decode cX8_late 4 = .ok (.invokestatic 95, 3) := by decide +kernel
theorem dX8_late_7 : decode cX8_late 7 = .ok (.ifCond .eq 10, 3) := by decide +kernel
theorem dX8_late_10 : decode cX8_late 10 = .ok (.iload_n 2, 1) := by decide +kernel
theorem dX8_late_11 : decode cX8_late 11 = .ok (.invokestatic 110, 3) := by decide +kernel
theorem dX8_late_14 : decode cX8_late 14 = .ok (.ifCond .ne 6, 3) := by decide +kernel
theorem dX8_late_17 : decode cX8_late 17 = .ok (.bipush (-2), 2) := by decide +kernel
theorem dX8_late_19 : decode cX8_late 19 = .ok (.ireturn, 1) := by decide +kernel
theorem dX8_late_20 : decode cX8_late 20 = .ok (.iconst 0, 1) := by decide +kernel
theorem dX8_late_21 : decode cX8_late 21 = .ok (.istore_n 3, 1) := by decide +kernel
theorem dX8_late_22 : decode cX8_late 22 = .ok (.iconst 0, 1) := by decide +kernel
theorem dX8_late_23 : decode cX8_late 23 = .ok (.istore 4, 2) := by decide +kernel
theorem dX8_late_25 : decode cX8_late 25 = .ok (.iload 4, 2) := by decide +kernel
theorem dX8_late_27 : decode cX8_late 27 = .ok (.iload_n 1, 1) := by decide +kernel
theorem dX8_late_28 : decode cX8_late 28 = .ok (.if_icmp .ge 137, 3) := by decide +kernel
theorem dX8_late_31 : decode cX8_late 31 = .ok (.iconst (-1), 1) := by decide +kernel
theorem dX8_late_32 : decode cX8_late 32 = .ok (.istore 5, 2) := by decide +kernel
theorem dX8_late_34 : decode cX8_late 34 = .ok (.lconst 0, 1) := by decide +kernel
theorem dX8_late_35 : decode cX8_late 35 = .ok (.lstore 6, 2) := by decide +kernel
theorem dX8_late_37 : decode cX8_late 37 = .ok (.iconst 0, 1) := by decide +kernel
theorem dX8_late_38 : decode cX8_late 38 = .ok (.istore 8, 2) := by decide +kernel
theorem dX8_late_40 : decode cX8_late 40 = .ok (.iload 8, 2) := by decide +kernel
theorem dX8_late_42 : decode cX8_late 42 = .ok (.aload_n 0, 1) := by decide +kernel
theorem dX8_late_43 : decode cX8_late 43 = .ok (.getfield 116, 3) := by decide +kernel
theorem dX8_late_46 : decode cX8_late 46 = .ok (.if_icmp .ge 91, 3) := by decide +kernel
theorem dX8_late_49 : decode cX8_late 49 = .ok (.aload_n 0, 1) := by decide +kernel
theorem dX8_late_50 : decode cX8_late 50 = .ok (.getfield 58, 3) := by decide +kernel
theorem dX8_late_53 : decode cX8_late 53 = .ok (.iload 8, 2) := by decide +kernel
theorem dX8_late_55 : decode cX8_late 55 = .ok (.iaload, 1) := by decide +kernel
theorem dX8_late_56 : decode cX8_late 56 = .ok (.aload_n 0, 1) := by decide +kernel
theorem dX8_late_57 : decode cX8_late 57 = .ok (.getfield 55, 3) := by decide +kernel
theorem dX8_late_60 : decode cX8_late 60 = .ok (.iload 8, 2) := by decide +kernel
theorem dX8_late_62 : decode cX8_late 62 = .ok (.iaload, 1) := by decide +kernel
theorem dX8_late_63 : decode cX8_late 63 = .ok (.if_icmp .ne 6, 3) := by decide +kernel
theorem dX8_late_66 : decode cX8_late 66 = .ok (.goto 65, 3) := by decide +kernel
theorem dX8_late_69 : decode cX8_late 69 = .ok (.aload_n 0, 1) := by decide +kernel
theorem dX8_late_70 : decode cX8_late 70 = .ok (.iload_n 2, 1) := by decide +kernel
theorem dX8_late_71 : decode cX8_late 71 = .ok (.aload_n 0, 1) := by decide +kernel
theorem dX8_late_72 : decode cX8_late 72 = .ok (.invokevirtual 153, 3) := by decide +kernel
theorem dX8_late_75 : decode cX8_late 75 = .ok (.aload_n 0, 1) := by decide +kernel
theorem dX8_late_76 : decode cX8_late 76 = .ok (.getfield 70, 3) := by decide +kernel
theorem dX8_late_79 : decode cX8_late 79 = .ok (.iadd, 1) := by decide +kernel
theorem dX8_late_80 : decode cX8_late 80 = .ok (.aload_n 0, 1) := by decide +kernel
theorem dX8_late_81 : decode cX8_late 81 = .ok (.invokevirtual 160, 3) := by decide +kernel
theorem dX8_late_84 : decode cX8_late 84 = .ok (.aload_n 0, 1) := by decide +kernel
theorem dX8_late_85 : decode cX8_late 85 = .ok (.getfield 70, 3) := by decide +kernel
theorem dX8_late_88 : decode cX8_late 88 = .ok (.i2l, 1) := by decide +kernel
theorem dX8_late_89 : decode cX8_late 89 = .ok (.aload_n 0, 1) := by decide +kernel
theorem dX8_late_90 : decode cX8_late 90 = .ok (.getfield 52, 3) := by decide +kernel
theorem dX8_late_93 : decode cX8_late 93 = .ok (.iload 8, 2) := by decide +kernel
theorem dX8_late_95 : decode cX8_late 95 = .ok (.iaload, 1) := by decide +kernel
theorem dX8_late_96 : decode cX8_late 96 = .ok (.i2l, 1) := by decide +kernel
theorem dX8_late_97 : decode cX8_late 97 = .ok (.lmul, 1) := by decide +kernel
theorem dX8_late_98 : decode cX8_late 98 = .ok (.ladd, 1) := by decide +kernel
theorem dX8_late_99 : decode cX8_late 99 = .ok (.invokevirtual 192, 3) := by decide +kernel
theorem dX8_late_102 : decode cX8_late 102 = .ok (.iload 5, 2) := by decide +kernel
theorem dX8_late_104 : decode cX8_late 104 = .ok (.iconst (-1), 1) := by decide +kernel
theorem dX8_late_105 : decode cX8_late 105 = .ok (.if_icmp .eq 16, 3) := by decide +kernel
theorem dX8_late_108 : decode cX8_late 108 = .ok (.aload_n 0, 1) := by decide +kernel
theorem dX8_late_109 : decode cX8_late 109 = .ok (.getfield 188, 3) := by decide +kernel
theorem dX8_late_112 : decode cX8_late 112 = .ok (.lload 6, 2) := by decide +kernel
theorem dX8_late_114 : decode cX8_late 114 = .ok (.lcmp, 1) := by decide +kernel
theorem dX8_late_115 : decode cX8_late 115 = .ok (.ifCond .lt 6, 3) := by decide +kernel
theorem dX8_late_118 : decode cX8_late 118 = .ok (.goto 13, 3) := by decide +kernel
theorem dX8_late_121 : decode cX8_late 121 = .ok (.iload 8, 2) := by decide +kernel
theorem dX8_late_123 : decode cX8_late 123 = .ok (.istore 5, 2) := by decide +kernel
theorem dX8_late_125 : decode cX8_late 125 = .ok (.aload_n 0, 1) := by decide +kernel
theorem dX8_late_126 : decode cX8_late 126 = .ok (.getfield 188, 3) := by decide +kernel
theorem dX8_late_129 : decode cX8_late 129 = .ok (.lstore 6, 2) := by decide +kernel
theorem dX8_late_131 : decode cX8_late 131 = .ok (.iinc 8 1, 3) := by decide +kernel
theorem dX8_late_134 : decode cX8_late 134 = .ok (.goto (-94), 3) := by decide +kernel
theorem dX8_late_137 : decode cX8_late 137 = .ok (.iload 5, 2) := by decide +kernel
theorem dX8_late_139 : decode cX8_late 139 = .ok (.iconst (-1), 1) := by decide +kernel
theorem dX8_late_140 : decode cX8_late 140 = .ok (.if_icmp .ne 5, 3) := by decide +kernel
theorem dX8_late_143 : decode cX8_late 143 = .ok (.iload_n 3, 1) := by decide +kernel
theorem dX8_late_144 : decode cX8_late 144 = .ok (.ireturn, 1) := by decide +kernel
theorem dX8_late_145 : decode cX8_late 145 = .ok (.aload_n 0, 1) := by decide +kernel
theorem dX8_late_146 : decode cX8_late 146 = .ok (.getfield 58, 3) := by decide +kernel
theorem dX8_late_149 : decode cX8_late 149 = .ok (.iload 5, 2) := by decide +kernel
theorem dX8_late_151 : decode cX8_late 151 = .ok (.dup2, 1) := by decide +kernel
theorem dX8_late_152 : decode cX8_late 152 = .ok (.iaload, 1) := by decide +kernel
theorem dX8_late_153 : decode cX8_late 153 = .ok (.iconst 1, 1) := by decide +kernel
theorem dX8_late_154 : decode cX8_late 154 = .ok (.iadd, 1) := by decide +kernel
theorem dX8_late_155 : decode cX8_late 155 = .ok (.iastore, 1) := by decide +kernel
theorem dX8_late_156 : decode cX8_late 156 = .ok (.iinc 3 1, 3) := by decide +kernel
theorem dX8_late_159 : decode cX8_late 159 = .ok (.iinc 4 1, 3) := by decide +kernel
theorem dX8_late_162 : decode cX8_late 162 = .ok (.goto (-137), 3) := by decide +kernel
theorem dX8_late_165 : decode cX8_late 165 = .ok (.iload_n 3, 1) := by decide +kernel
theorem dX8_late_166 : decode cX8_late 166 = .ok (.ireturn, 1) := by decide +kernel
theorem dX8_lies_0 : decode cX8_lies 0 = .ok (.bipush 10, 2) := by decide +kernel
theorem dX8_lies_2 : decode cX8_lies 2 = .ok (.iload_n 1, 1) := by decide +kernel
theorem dX8_lies_3 : decode cX8_lies 3 = .ok (.imul, 1) := by decide +kernel
theorem dX8_lies_4 : decode cX8_lies 4 = .ok (.istore 6, 2) := by decide +kernel
theorem dX8_lies_6 : decode cX8_lies 6 = .ok (.iload 6, 2) := by decide +kernel
theorem dX8_lies_8 : decode cX8_lies 8 = .ok (.aload_n 0, 1) := by decide +kernel
theorem dX8_lies_9 : decode cX8_lies 9 = .ok (.getfield 73, 3) := by decide +kernel
theorem dX8_lies_12 : decode cX8_lies 12 = .ok (.iload_n 1, 1) := by decide +kernel
theorem dX8_lies_13 : decode cX8_lies 13 = .ok (.iaload, 1) := by decide +kernel
theorem dX8_lies_14 : decode cX8_lies 14 = .ok (.iadd, 1) := by decide +kernel
theorem dX8_lies_15 : decode cX8_lies 15 = .ok (.iconst 1, 1) := by decide +kernel
theorem dX8_lies_16 : decode cX8_lies 16 = .ok (.isub, 1) := by decide +kernel
theorem dX8_lies_17 : decode cX8_lies 17 = .ok (.istore 7, 2) := by decide +kernel
theorem dX8_lies_19 : decode cX8_lies 19 = .ok (.lload_n 2, 1) := by decide +kernel
theorem dX8_lies_20 : decode cX8_lies 20 = .ok (.aload_n 0, 1) := by decide +kernel
theorem dX8_lies_21 : decode cX8_lies 21 = .ok (.getfield 76, 3) := by decide +kernel
theorem dX8_lies_24 : decode cX8_lies 24 = .ok (.iload 6, 2) := by decide +kernel
theorem dX8_lies_26 : decode cX8_lies 26 = .ok (.iaload, 1) := by decide +kernel
theorem dX8_lies_27 : decode cX8_lies 27 = .ok (.i2l, 1) := by decide +kernel
theorem dX8_lies_28 : decode cX8_lies 28 = .ok (.lcmp, 1) := by decide +kernel
theorem dX8_lies_29 : decode cX8_lies 29 = .ok (.ifCond .ge 5, 3) := by decide +kernel
theorem dX8_lies_32 : decode cX8_lies 32 = .ok (.iconst 1, 1) := by decide +kernel
theorem dX8_lies_33 : decode cX8_lies 33 = .ok (.ireturn, 1) := by decide +kernel
theorem dX8_lies_34 : decode cX8_lies 34 = .ok (.lload_n 2, 1) := by decide +kernel
theorem dX8_lies_35 : decode cX8_lies 35 = .ok (.aload_n 0, 1) := by decide +kernel
theorem dX8_lies_36 : decode cX8_lies 36 = .ok (.getfield 76, 3) := by decide +kernel
theorem dX8_lies_39 : decode cX8_lies 39 = .ok (.iload 7, 2) := by decide +kernel
theorem dX8_lies_41 : decode cX8_lies 41 = .ok (.iaload, 1) := by decide +kernel
theorem dX8_lies_42 : decode cX8_lies 42 = .ok (.i2l, 1) := by decide +kernel
theorem dX8_lies_43 : decode cX8_lies 43 = .ok (.lcmp, 1) := by decide +kernel
theorem dX8_lies_44 : decode cX8_lies 44 = .ok (.ifCond .le 5, 3) := by decide +kernel
theorem dX8_lies_47 : decode cX8_lies 47 = .ok (.iconst 2, 1) := by decide +kernel
theorem dX8_lies_48 : decode cX8_lies 48 = .ok (.ireturn, 1) := by decide +kernel
theorem dX8_lies_49 : decode cX8_lies 49 = .ok (.iload 6, 2) := by decide +kernel
theorem dX8_lies_51 : decode cX8_lies 51 = .ok (.istore 8, 2) := by decide +kernel
theorem dX8_lies_53 : decode cX8_lies 53 = .ok (.iload 8, 2) := by decide +kernel
theorem dX8_lies_55 : decode cX8_lies 55 = .ok (.iload 7, 2) := by decide +kernel
theorem dX8_lies_57 : decode cX8_lies 57 = .ok (.if_icmp .ge 24, 3) := by decide +kernel
theorem dX8_lies_60 : decode cX8_lies 60 = .ok (.aload_n 0, 1) := by decide +kernel
theorem dX8_lies_61 : decode cX8_lies 61 = .ok (.getfield 76, 3) := by decide +kernel
theorem dX8_lies_64 : decode cX8_lies 64 = .ok (.iload 8, 2) := by decide +kernel
theorem dX8_lies_66 : decode cX8_lies 66 = .ok (.iconst 1, 1) := by decide +kernel
theorem dX8_lies_67 : decode cX8_lies 67 = .ok (.iadd, 1) := by decide +kernel
theorem dX8_lies_68 : decode cX8_lies 68 = .ok (.iaload, 1) := by decide +kernel
theorem dX8_lies_69 : decode cX8_lies 69 = .ok (.i2l, 1) := by decide +kernel
theorem dX8_lies_70 : decode cX8_lies 70 = .ok (.lload_n 2, 1) := by decide +kernel
theorem dX8_lies_71 : decode cX8_lies 71 = .ok (.lcmp, 1) := by decide +kernel
theorem dX8_lies_72 : decode cX8_lies 72 = .ok (.ifCond .gt 9, 3) := by decide +kernel
theorem dX8_lies_75 : decode cX8_lies 75 = .ok (.iinc 8 1, 3) := by decide +kernel
theorem dX8_lies_78 : decode cX8_lies 78 = .ok (.goto (-25), 3) := by decide +kernel
theorem dX8_lies_81 : decode cX8_lies 81 = .ok (.iload 8, 2) := by decide +kernel
theorem dX8_lies_83 : decode cX8_lies 83 = .ok (.iload 7, 2) := by decide +kernel
theorem dX8_lies_85 : decode cX8_lies 85 = .ok (.if_icmp .ne 7, 3) := by decide +kernel
theorem dX8_lies_88 : decode cX8_lies 88 = .ok (.lconst 1, 1) := by decide +kernel
theorem dX8_lies_89 : decode cX8_lies 89 = .ok (.goto 21, 3) := by decide +kernel
theorem dX8_lies_92 : decode cX8_lies 92 = .ok (.aload_n 0, 1) := by decide +kernel
theorem dX8_lies_93 : decode cX8_lies 93 = .ok (.getfield 76, 3) := by decide +kernel
theorem dX8_lies_96 : decode cX8_lies 96 = .ok (.iload 8, 2) := by decide +kernel
theorem dX8_lies_98 : decode cX8_lies 98 = .ok (.iconst 1, 1) := by decide +kernel
theorem dX8_lies_99 : decode cX8_lies 99 = .ok (.iadd, 1) := by decide +kernel
theorem dX8_lies_100 : decode cX8_lies 100 = .ok (.iaload, 1) := by decide +kernel
theorem dX8_lies_101 : decode cX8_lies 101 = .ok (.aload_n 0, 1) := by decide +kernel
theorem dX8_lies_102 : decode cX8_lies 102 = .ok (.getfield 76, 3) := by decide +kernel
theorem dX8_lies_105 : decode cX8_lies 105 = .ok (.iload 8, 2) := by decide +kernel
theorem dX8_lies_107 : decode cX8_lies 107 = .ok (.iaload, 1) := by decide +kernel
theorem dX8_lies_108 : decode cX8_lies 108 = .ok (.isub, 1) := by decide +kernel
theorem dX8_lies_109 : decode cX8_lies 109 = .ok (.i2l, 1) := by decide +kernel
theorem dX8_lies_110 : decode cX8_lies 110 = .ok (.lstore 9, 2) := by decide +kernel
theorem dX8_lies_112 : decode cX8_lies 112 = .ok (.lload_n 2, 1) := by decide +kernel
theorem dX8_lies_113 : decode cX8_lies 113 = .ok (.aload_n 0, 1) := by decide +kernel
theorem dX8_lies_114 : decode cX8_lies 114 = .ok (.getfield 76, 3) := by decide +kernel
theorem dX8_lies_117 : decode cX8_lies 117 = .ok (.iload 8, 2) := by decide +kernel
theorem dX8_lies_119 : decode cX8_lies 119 = .ok (.iaload, 1) := by decide +kernel
theorem dX8_lies_120 : decode cX8_lies 120 = .ok (.i2l, 1) := by decide +kernel
theorem dX8_lies_121 : decode cX8_lies 121 = .ok (.lsub, 1) := by decide +kernel
theorem dX8_lies_122 : decode cX8_lies 122 = .ok (.lstore 11, 2) := by decide +kernel
theorem dX8_lies_124 : decode cX8_lies 124 = .ok (.aload_n 0, 1) := by decide +kernel
theorem dX8_lies_125 : decode cX8_lies 125 = .ok (.getfield 79, 3) := by decide +kernel
theorem dX8_lies_128 : decode cX8_lies 128 = .ok (.iload 8, 2) := by decide +kernel
theorem dX8_lies_130 : decode cX8_lies 130 = .ok (.iaload, 1) := by decide +kernel
theorem dX8_lies_131 : decode cX8_lies 131 = .ok (.i2l, 1) := by decide +kernel
theorem dX8_lies_132 : decode cX8_lies 132 = .ok (.lload 9, 2) := by decide +kernel
theorem dX8_lies_134 : decode cX8_lies 134 = .ok (.lmul, 1) := by decide +kernel
theorem dX8_lies_135 : decode cX8_lies 135 = .ok (.iload 8, 2) := by decide +kernel
theorem dX8_lies_137 : decode cX8_lies 137 = .ok (.iload 7, 2) := by decide +kernel
theorem dX8_lies_139 : decode cX8_lies 139 = .ok (.if_icmp .ne 7, 3) := by decide +kernel
theorem dX8_lies_142 : decode cX8_lies 142 = .ok (.lconst 0, 1) := by decide +kernel
theorem dX8_lies_143 : decode cX8_lies 143 = .ok (.goto 24, 3) := by decide +kernel
theorem dX8_lies_146 : decode cX8_lies 146 = .ok (.aload_n 0, 1) := by decide +kernel
theorem dX8_lies_147 : decode cX8_lies 147 = .ok (.getfield 79, 3) := by decide +kernel
theorem dX8_lies_150 : decode cX8_lies 150 = .ok (.iload 8, 2) := by decide +kernel
theorem dX8_lies_152 : decode cX8_lies 152 = .ok (.iconst 1, 1) := by decide +kernel
theorem dX8_lies_153 : decode cX8_lies 153 = .ok (.iadd, 1) := by decide +kernel
theorem dX8_lies_154 : decode cX8_lies 154 = .ok (.iaload, 1) := by decide +kernel
theorem dX8_lies_155 : decode cX8_lies 155 = .ok (.aload_n 0, 1) := by decide +kernel
theorem dX8_lies_156 : decode cX8_lies 156 = .ok (.getfield 79, 3) := by decide +kernel
theorem dX8_lies_159 : decode cX8_lies 159 = .ok (.iload 8, 2) := by decide +kernel
theorem dX8_lies_161 : decode cX8_lies 161 = .ok (.iaload, 1) := by decide +kernel
theorem dX8_lies_162 : decode cX8_lies 162 = .ok (.isub, 1) := by decide +kernel
theorem dX8_lies_163 : decode cX8_lies 163 = .ok (.i2l, 1) := by decide +kernel
theorem dX8_lies_164 : decode cX8_lies 164 = .ok (.lload 11, 2) := by decide +kernel
theorem dX8_lies_166 : decode cX8_lies 166 = .ok (.lmul, 1) := by decide +kernel
theorem dX8_lies_167 : decode cX8_lies 167 = .ok (.ladd, 1) := by decide +kernel
theorem dX8_lies_168 : decode cX8_lies 168 = .ok (.lstore 13, 2) := by decide +kernel
theorem dX8_lies_170 : decode cX8_lies 170 = .ok (.aload_n 0, 1) := by decide +kernel
theorem dX8_lies_171 : decode cX8_lies 171 = .ok (.getfield 82, 3) := by decide +kernel
theorem dX8_lies_174 : decode cX8_lies 174 = .ok (.iload 8, 2) := by decide +kernel
theorem dX8_lies_176 : decode cX8_lies 176 = .ok (.iaload, 1) := by decide +kernel
theorem dX8_lies_177 : decode cX8_lies 177 = .ok (.i2l, 1) := by decide +kernel
theorem dX8_lies_178 : decode cX8_lies 178 = .ok (.lload 9, 2) := by decide +kernel
theorem dX8_lies_180 : decode cX8_lies 180 = .ok (.lmul, 1) := by decide +kernel
theorem dX8_lies_181 : decode cX8_lies 181 = .ok (.iload 8, 2) := by decide +kernel
theorem dX8_lies_183 : decode cX8_lies 183 = .ok (.iload 7, 2) := by decide +kernel
theorem dX8_lies_185 : decode cX8_lies 185 = .ok (.if_icmp .ne 7, 3) := by decide +kernel
theorem dX8_lies_188 : decode cX8_lies 188 = .ok (.lconst 0, 1) := by decide +kernel
theorem dX8_lies_189 : decode cX8_lies 189 = .ok (.goto 24, 3) := by decide +kernel
theorem dX8_lies_192 : decode cX8_lies 192 = .ok (.aload_n 0, 1) := by decide +kernel
theorem dX8_lies_193 : decode cX8_lies 193 = .ok (.getfield 82, 3) := by decide +kernel
theorem dX8_lies_196 : decode cX8_lies 196 = .ok (.iload 8, 2) := by decide +kernel
theorem dX8_lies_198 : decode cX8_lies 198 = .ok (.iconst 1, 1) := by decide +kernel
theorem dX8_lies_199 : decode cX8_lies 199 = .ok (.iadd, 1) := by decide +kernel
theorem dX8_lies_200 : decode cX8_lies 200 = .ok (.iaload, 1) := by decide +kernel
theorem dX8_lies_201 : decode cX8_lies 201 = .ok (.aload_n 0, 1) := by decide +kernel
theorem dX8_lies_202 : decode cX8_lies 202 = .ok (.getfield 82, 3) := by decide +kernel
theorem dX8_lies_205 : decode cX8_lies 205 = .ok (.iload 8, 2) := by decide +kernel
theorem dX8_lies_207 : decode cX8_lies 207 = .ok (.iaload, 1) := by decide +kernel
theorem dX8_lies_208 : decode cX8_lies 208 = .ok (.isub, 1) := by decide +kernel
theorem dX8_lies_209 : decode cX8_lies 209 = .ok (.i2l, 1) := by decide +kernel
theorem dX8_lies_210 : decode cX8_lies 210 = .ok (.lload 11, 2) := by decide +kernel
theorem dX8_lies_212 : decode cX8_lies 212 = .ok (.lmul, 1) := by decide +kernel
theorem dX8_lies_213 : decode cX8_lies 213 = .ok (.ladd, 1) := by decide +kernel
theorem dX8_lies_214 : decode cX8_lies 214 = .ok (.lstore 15, 2) := by decide +kernel
theorem dX8_lies_216 : decode cX8_lies 216 = .ok (.lload 4, 2) := by decide +kernel
theorem dX8_lies_218 : decode cX8_lies 218 = .ok (.lload 9, 2) := by decide +kernel
theorem dX8_lies_220 : decode cX8_lies 220 = .ok (.lmul, 1) := by decide +kernel
theorem dX8_lies_221 : decode cX8_lies 221 = .ok (.lload 13, 2) := by decide +kernel
theorem dX8_lies_223 : decode cX8_lies 223 = .ok (.lload_n 2, 1) := by decide +kernel
theorem dX8_lies_224 : decode cX8_lies 224 = .ok (.lmul, 1) := by decide +kernel
theorem dX8_lies_225 : decode cX8_lies 225 = .ok (.lcmp, 1) := by decide +kernel
theorem dX8_lies_226 : decode cX8_lies 226 = .ok (.ifCond .ge 5, 3) := by decide +kernel
theorem dX8_lies_229 : decode cX8_lies 229 = .ok (.iconst 3, 1) := by decide +kernel
theorem dX8_lies_230 : decode cX8_lies 230 = .ok (.ireturn, 1) := by decide +kernel
theorem dX8_lies_231 : decode cX8_lies 231 = .ok (.lload 4, 2) := by decide +kernel
theorem dX8_lies_233 : decode cX8_lies 233 = .ok (.lload 9, 2) := by decide +kernel
theorem dX8_lies_235 : decode cX8_lies 235 = .ok (.lmul, 1) := by decide +kernel
theorem dX8_lies_236 : decode cX8_lies 236 = .ok (.lload 15, 2) := by decide +kernel
theorem dX8_lies_238 : decode cX8_lies 238 = .ok (.lload_n 2, 1) := by decide +kernel
theorem dX8_lies_239 : decode cX8_lies 239 = .ok (.lmul, 1) := by decide +kernel
theorem dX8_lies_240 : decode cX8_lies 240 = .ok (.lcmp, 1) := by decide +kernel
theorem dX8_lies_241 : decode cX8_lies 241 = .ok (.ifCond .le 7, 3) := by decide +kernel
theorem dX8_lies_244 : decode cX8_lies 244 = .ok (.iconst 4, 1) := by decide +kernel
theorem dX8_lies_245 : decode cX8_lies 245 = .ok (.goto 4, 3) := by decide +kernel
theorem dX8_lies_248 : decode cX8_lies 248 = .ok (.iconst 0, 1) := by decide +kernel
theorem dX8_lies_249 : decode cX8_lies 249 = .ok (.ireturn, 1) := by decide +kernel
theorem dX8_load_0 : decode cX8_load 0 = .ok (.aload_n 0, 1) := by decide +kernel
theorem dX8_load_1 : decode cX8_load 1 = .ok (.iload_n 1, 1) := by decide +kernel
theorem dX8_load_2 : decode cX8_load 2 = .ok (.iload_n 2, 1) := by decide +kernel
theorem dX8_load_3 : decode cX8_load 3 = .ok (.iload_n 3, 1) := by decide +kernel
theorem dX8_load_4 : decode cX8_load 4 = .ok (.invokevirtual 141, 3) := by decide +kernel
theorem dX8_load_7 : decode cX8_load 7 = .ok (.istore 4, 2) := by decide +kernel
theorem dX8_load_9 : decode cX8_load 9 = .ok (.iload 4, 2) := by decide +kernel
theorem dX8_load_11 : decode cX8_load 11 = .ok (.ifCond .ne 14, 3) := by decide +kernel
theorem dX8_load_14 : decode cX8_load 14 = .ok (.aload_n 0, 1) := by decide +kernel
theorem dX8_load_15 : decode cX8_load 15 = .ok (.iload_n 1, 1) := by decide +kernel
theorem dX8_load_16 : decode cX8_load 16 = .ok (.bipush 8, 2) := by decide +kernel
theorem dX8_load_18 : decode cX8_load 18 = .ok (.iload_n 2, 1) := by decide +kernel
theorem dX8_load_19 : decode cX8_load 19 = .ok (.imul, 1) := by decide +kernel
theorem dX8_load_20 : decode cX8_load 20 = .ok (.iload_n 3, 1) := by decide +kernel
theorem dX8_load_21 : decode cX8_load 21 = .ok (.iadd, 1) := by decide +kernel
theorem dX8_load_22 : decode cX8_load 22 = .ok (.invokevirtual 145, 3) := by decide +kernel
theorem dX8_load_25 : decode cX8_load 25 = .ok (.iload 4, 2) := by decide +kernel
theorem dX8_load_27 : decode cX8_load 27 = .ok (.ireturn, 1) := by decide +kernel
theorem dX8_loadAll_0 : decode cX8_loadAll 0 = .ok (.iload_n 1, 1) := by decide +kernel
theorem dX8_loadAll_1 : decode cX8_loadAll 1 = .ok (.invokestatic 110, 3) := by decide +kernel
theorem dX8_loadAll_4 : decode cX8_loadAll 4 = .ok (.ifCond .ne 6, 3) := by decide +kernel
theorem dX8_loadAll_7 : decode cX8_loadAll 7 = .ok (.bipush (-2), 2) := by decide +kernel
theorem dX8_loadAll_9 : decode cX8_loadAll 9 = .ok (.ireturn, 1) := by decide +kernel
theorem dX8_loadAll_10 : decode cX8_loadAll 10 = .ok (.iconst 0, 1) := by decide +kernel
theorem dX8_loadAll_11 : decode cX8_loadAll 11 = .ok (.istore_n 2, 1) := by decide +kernel
theorem dX8_loadAll_12 : decode cX8_loadAll 12 = .ok (.iconst 0, 1) := by decide +kernel
theorem dX8_loadAll_13 : decode cX8_loadAll 13 = .ok (.istore_n 3, 1) := by decide +kernel
theorem dX8_loadAll_14 : decode cX8_loadAll 14 = .ok (.iload_n 3, 1) := by decide +kernel
theorem dX8_loadAll_15 : decode cX8_loadAll 15 = .ok (.aload_n 0, 1) := by decide +kernel
theorem dX8_loadAll_16 : decode cX8_loadAll 16 = .ok (.getfield 106, 3) := by decide +kernel
theorem dX8_loadAll_19 : decode cX8_loadAll 19 = .ok (.if_icmp .ge 30, 3) := by decide +kernel
theorem dX8_loadAll_22 : decode cX8_loadAll 22 = .ok (.aload_n 0, 1) := by decide +kernel
theorem dX8_loadAll_23 : decode cX8_loadAll 23 = .ok (.getfield 85, 3) := by decide +kernel
theorem dX8_loadAll_26 : decode cX8_loadAll 26 = .ok (.iload_n 3, 1) := by decide +kernel
theorem dX8_loadAll_27 : decode cX8_loadAll 27 = .ok (.aload_n 0, 1) := by decide +kernel
theorem dX8_loadAll_28 : decode cX8_loadAll 28 = .ok (.getfield 49, 3) := by decide +kernel
theorem dX8_loadAll_31 : decode cX8_loadAll 31 = .ok (.iload_n 3, 1) := by decide +kernel
theorem dX8_loadAll_32 : decode cX8_loadAll 32 = .ok (.iaload, 1) := by decide +kernel
theorem dX8_loadAll_33 : decode cX8_loadAll 33 = .ok (.iconst (-1), 1) := by decide +kernel
theorem dX8_loadAll_34 : decode cX8_loadAll 34 = .ok (.if_icmp .eq 7, 3) := by decide +kernel
theorem dX8_loadAll_37 : decode cX8_loadAll 37 = .ok (.iconst 1, 1) := by decide +kernel
theorem dX8_loadAll_38 : decode cX8_loadAll 38 = .ok (.goto 4, 3) := by decide +kernel
theorem dX8_loadAll_41 : decode cX8_loadAll 41 = .ok (.iconst 0, 1) := by decide +kernel
theorem dX8_loadAll_42 : decode cX8_loadAll 42 = .ok (.bastore, 1) := by decide +kernel
theorem dX8_loadAll_43 : decode cX8_loadAll 43 = .ok (.iinc 3 1, 3) := by decide +kernel
theorem dX8_loadAll_46 : decode cX8_loadAll 46 = .ok (.goto (-32), 3) := by decide +kernel
theorem dX8_loadAll_49 : decode cX8_loadAll 49 = .ok (.iconst 0, 1) := by decide +kernel
theorem dX8_loadAll_50 : decode cX8_loadAll 50 = .ok (.istore_n 3, 1) := by decide +kernel
theorem dX8_loadAll_51 : decode cX8_loadAll 51 = .ok (.iload_n 3, 1) := by decide +kernel
theorem dX8_loadAll_52 : decode cX8_loadAll 52 = .ok (.aload_n 0, 1) := by decide +kernel
theorem dX8_loadAll_53 : decode cX8_loadAll 53 = .ok (.getfield 106, 3) := by decide +kernel
theorem dX8_loadAll_56 : decode cX8_loadAll 56 = .ok (.if_icmp .ge 112, 3) := by decide +kernel
theorem dX8_loadAll_59 : decode cX8_loadAll 59 = .ok (.iconst (-1), 1) := by decide +kernel
theorem dX8_loadAll_60 : decode cX8_loadAll 60 = .ok (.istore 4, 2) := by decide +kernel
theorem dX8_loadAll_62 : decode cX8_loadAll 62 = .ok (.iconst 0, 1) := by decide +kernel
theorem dX8_loadAll_63 : decode cX8_loadAll 63 = .ok (.istore 5, 2) := by decide +kernel
theorem dX8_loadAll_65 : decode cX8_loadAll 65 = .ok (.iload 5, 2) := by decide +kernel
theorem dX8_loadAll_67 : decode cX8_loadAll 67 = .ok (.aload_n 0, 1) := by decide +kernel
theorem dX8_loadAll_68 : decode cX8_loadAll 68 = .ok (.getfield 106, 3) := by decide +kernel
theorem dX8_loadAll_71 : decode cX8_loadAll 71 = .ok (.if_icmp .ge 46, 3) := by decide +kernel
theorem dX8_loadAll_74 : decode cX8_loadAll 74 = .ok (.aload_n 0, 1) := by decide +kernel
theorem dX8_loadAll_75 : decode cX8_loadAll 75 = .ok (.getfield 85, 3) := by decide +kernel
theorem dX8_loadAll_78 : decode cX8_loadAll 78 = .ok (.iload 5, 2) := by decide +kernel
theorem dX8_loadAll_80 : decode cX8_loadAll 80 = .ok (.baload, 1) := by decide +kernel
theorem dX8_loadAll_81 : decode cX8_loadAll 81 = .ok (.ifCond .ne 30, 3) := by decide +kernel
theorem dX8_loadAll_84 : decode cX8_loadAll 84 = .ok (.iload 4, 2) := by decide +kernel
theorem dX8_loadAll_86 : decode cX8_loadAll 86 = .ok (.iconst (-1), 1) := by decide +kernel
theorem dX8_loadAll_87 : decode cX8_loadAll 87 = .ok (.if_icmp .eq 20, 3) := by decide +kernel
theorem dX8_loadAll_90 : decode cX8_loadAll 90 = .ok (.aload_n 0, 1) := by decide +kernel
theorem dX8_loadAll_91 : decode cX8_loadAll 91 = .ok (.getfield 40, 3) := by decide +kernel
theorem dX8_loadAll_94 : decode cX8_loadAll 94 = .ok (.iload 5, 2) := by decide +kernel
theorem dX8_loadAll_96 : decode cX8_loadAll 96 = .ok (.iaload, 1) := by decide +kernel
theorem dX8_loadAll_97 : decode cX8_loadAll 97 = .ok (.aload_n 0, 1) := by decide +kernel
theorem dX8_loadAll_98 : decode cX8_loadAll 98 = .ok (.getfield 40, 3) := by decide +kernel
theorem dX8_loadAll_101 : decode cX8_loadAll 101 = .ok (.iload 4, 2) := by decide +kernel
theorem dX8_loadAll_103 : decode cX8_loadAll 103 = .ok (.iaload, 1) := by decide +kernel
theorem dX8_loadAll_104 : decode cX8_loadAll 104 = .ok (.if_icmp .le 7, 3) := by decide +kernel
theorem dX8_loadAll_107 : decode cX8_loadAll 107 = .ok (.iload 5, 2) := by decide +kernel
theorem dX8_loadAll_109 : decode cX8_loadAll 109 = .ok (.istore 4, 2) := by decide +kernel
theorem dX8_loadAll_111 : decode cX8_loadAll 111 = .ok (.iinc 5 1, 3) := by decide +kernel
theorem dX8_loadAll_114 : decode cX8_loadAll 114 = .ok (.goto (-49), 3) := by decide +kernel
theorem dX8_loadAll_117 : decode cX8_loadAll 117 = .ok (.iload 4, 2) := by decide +kernel
theorem dX8_loadAll_119 : decode cX8_loadAll 119 = .ok (.iconst (-1), 1) := by decide +kernel
theorem dX8_loadAll_120 : decode cX8_loadAll 120 = .ok (.if_icmp .ne 5, 3) := by decide +kernel
theorem dX8_loadAll_123 : decode cX8_loadAll 123 = .ok (.iload_n 2, 1) := by decide +kernel
theorem dX8_loadAll_124 : decode cX8_loadAll 124 = .ok (.ireturn, 1) := by decide +kernel
theorem dX8_loadAll_125 : decode cX8_loadAll 125 = .ok (.aload_n 0, 1) := by decide +kernel
theorem dX8_loadAll_126 : decode cX8_loadAll 126 = .ok (.getfield 85, 3) := by decide +kernel
theorem dX8_loadAll_129 : decode cX8_loadAll 129 = .ok (.iload 4, 2) := by decide +kernel
theorem dX8_loadAll_131 : decode cX8_loadAll 131 = .ok (.iconst 1, 1) := by decide +kernel
theorem dX8_loadAll_132 : decode cX8_loadAll 132 = .ok (.bastore, 1) := by decide +kernel
theorem dX8_loadAll_133 : decode cX8_loadAll 133 = .ok (.aload_n 0, 1) := by decide +kernel
theorem dX8_loadAll_134 : decode cX8_loadAll 134 = .ok (.iload 4, 2) := by decide +kernel
theorem dX8_loadAll_136 : decode cX8_loadAll 136 = .ok (.iload_n 1, 1) := by decide +kernel
theorem dX8_loadAll_137 : decode cX8_loadAll 137 = .ok (.invokevirtual 196, 3) := by decide +kernel
theorem dX8_loadAll_140 : decode cX8_loadAll 140 = .ok (.istore 5, 2) := by decide +kernel
theorem dX8_loadAll_142 : decode cX8_loadAll 142 = .ok (.iload 5, 2) := by decide +kernel
theorem dX8_loadAll_144 : decode cX8_loadAll 144 = .ok (.iconst (-1), 1) := by decide +kernel
theorem dX8_loadAll_145 : decode cX8_loadAll 145 = .ok (.if_icmp .ne 6, 3) := by decide +kernel
theorem dX8_loadAll_148 : decode cX8_loadAll 148 = .ok (.goto 14, 3) := by decide +kernel
theorem dX8_loadAll_151 : decode cX8_loadAll 151 = .ok (.aload_n 0, 1) := by decide +kernel
theorem dX8_loadAll_152 : decode cX8_loadAll 152 = .ok (.iload 4, 2) := by decide +kernel
theorem dX8_loadAll_154 : decode cX8_loadAll 154 = .ok (.iload 5, 2) := by decide +kernel
theorem dX8_loadAll_156 : decode cX8_loadAll 156 = .ok (.invokevirtual 145, 3) := by decide +kernel
theorem dX8_loadAll_159 : decode cX8_loadAll 159 = .ok (.iinc 2 1, 3) := by decide +kernel
theorem dX8_loadAll_162 : decode cX8_loadAll 162 = .ok (.iinc 3 1, 3) := by decide +kernel
theorem dX8_loadAll_165 : decode cX8_loadAll 165 = .ok (.goto (-114), 3) := by decide +kernel
theorem dX8_loadAll_168 : decode cX8_loadAll 168 = .ok (.iload_n 2, 1) := by decide +kernel
theorem dX8_loadAll_169 : decode cX8_loadAll 169 = .ok (.ireturn, 1) := by decide +kernel
theorem dX8_moment_0 : decode cX8_moment 0 = .ok (.iload_n 1, 1) := by decide +kernel
theorem dX8_moment_1 : decode cX8_moment 1 = .ok (.tableswitch 49 0 2 #[27, 32, 43], 27) := by decide +kernel
theorem dX8_moment_28 : decode cX8_moment 28 = .ok (.aload_n 0, 1) := by decide +kernel
theorem dX8_moment_29 : decode cX8_moment 29 = .ok (.invokevirtual 160, 3) := by decide +kernel
theorem dX8_moment_32 : decode cX8_moment 32 = .ok (.lreturn, 1) := by decide +kernel
theorem dX8_moment_33 : decode cX8_moment 33 = .ok (.aload_n 0, 1) := by decide +kernel
theorem dX8_moment_34 : decode cX8_moment 34 = .ok (.invokevirtual 160, 3) := by decide +kernel
theorem dX8_moment_37 : decode cX8_moment 37 = .ok (.aload_n 0, 1) := by decide +kernel
theorem dX8_moment_38 : decode cX8_moment 38 = .ok (.iconst 0, 1) := by decide +kernel
theorem dX8_moment_39 : decode cX8_moment 39 = .ok (.invokevirtual 164, 3) := by decide +kernel
theorem dX8_moment_42 : decode cX8_moment 42 = .ok (.ladd, 1) := by decide +kernel
theorem dX8_moment_43 : decode cX8_moment 43 = .ok (.lreturn, 1) := by decide +kernel
theorem dX8_moment_44 : decode cX8_moment 44 = .ok (.aload_n 0, 1) := by decide +kernel
theorem dX8_moment_45 : decode cX8_moment 45 = .ok (.iconst 0, 1) := by decide +kernel
theorem dX8_moment_46 : decode cX8_moment 46 = .ok (.invokevirtual 164, 3) := by decide +kernel
theorem dX8_moment_49 : decode cX8_moment 49 = .ok (.lreturn, 1) := by decide +kernel
theorem dX8_moment_50 : decode cX8_moment 50 = .ok (.ldc2_w 168, 3) := by decide +kernel
theorem dX8_moment_53 : decode cX8_moment 53 = .ok (.lreturn, 1) := by decide +kernel
theorem dX8_moves_0 : decode cX8_moves 0 = .ok (.aload_n 0, 1) := by decide +kernel
theorem dX8_moves_1 : decode cX8_moves 1 = .ok (.getfield 49, 3) := by decide +kernel
theorem dX8_moves_4 : decode cX8_moves 4 = .ok (.iload_n 1, 1) := by decide +kernel
theorem dX8_moves_5 : decode cX8_moves 5 = .ok (.iaload, 1) := by decide +kernel
theorem dX8_moves_6 : decode cX8_moves 6 = .ok (.istore 4, 2) := by decide +kernel
theorem dX8_moves_8 : decode cX8_moves 8 = .ok (.aload_n 0, 1) := by decide +kernel
theorem dX8_moves_9 : decode cX8_moves 9 = .ok (.getfield 34, 3) := by decide +kernel
theorem dX8_moves_12 : decode cX8_moves 12 = .ok (.iload_n 2, 1) := by decide +kernel
theorem dX8_moves_13 : decode cX8_moves 13 = .ok (.iaload, 1) := by decide +kernel
theorem dX8_moves_14 : decode cX8_moves 14 = .ok (.iconst (-1), 1) := by decide +kernel
theorem dX8_moves_15 : decode cX8_moves 15 = .ok (.if_icmp .eq 5, 3) := by decide +kernel
theorem dX8_moves_18 : decode cX8_moves 18 = .ok (.iconst 0, 1) := by decide +kernel
theorem dX8_moves_19 : decode cX8_moves 19 = .ok (.ireturn, 1) := by decide +kernel
theorem dX8_moves_20 : decode cX8_moves 20 = .ok (.aload_n 0, 1) := by decide +kernel
theorem dX8_moves_21 : decode cX8_moves 21 = .ok (.iload_n 1, 1) := by decide +kernel
theorem dX8_moves_22 : decode cX8_moves 22 = .ok (.invokevirtual 149, 3) := by decide +kernel
theorem dX8_moves_25 : decode cX8_moves 25 = .ok (.aload_n 0, 1) := by decide +kernel
theorem dX8_moves_26 : decode cX8_moves 26 = .ok (.iload_n 1, 1) := by decide +kernel
theorem dX8_moves_27 : decode cX8_moves 27 = .ok (.iload_n 2, 1) := by decide +kernel
theorem dX8_moves_28 : decode cX8_moves 28 = .ok (.invokevirtual 137, 3) := by decide +kernel
theorem dX8_moves_31 : decode cX8_moves 31 = .ok (.ifCond .ne 24, 3) := by decide +kernel
theorem dX8_moves_34 : decode cX8_moves 34 = .ok (.aload_n 0, 1) := by decide +kernel
theorem dX8_moves_35 : decode cX8_moves 35 = .ok (.iload_n 1, 1) := by decide +kernel
theorem dX8_moves_36 : decode cX8_moves 36 = .ok (.iload_n 2, 1) := by decide +kernel
theorem dX8_moves_37 : decode cX8_moves 37 = .ok (.invokevirtual 145, 3) := by decide +kernel
theorem dX8_moves_40 : decode cX8_moves 40 = .ok (.aload_n 0, 1) := by decide +kernel
theorem dX8_moves_41 : decode cX8_moves 41 = .ok (.iload_n 3, 1) := by decide +kernel
theorem dX8_moves_42 : decode cX8_moves 42 = .ok (.invokevirtual 209, 3) := by decide +kernel
theorem dX8_moves_45 : decode cX8_moves 45 = .ok (.ifCond .eq 5, 3) := by decide +kernel
theorem dX8_moves_48 : decode cX8_moves 48 = .ok (.iconst 1, 1) := by decide +kernel
theorem dX8_moves_49 : decode cX8_moves 49 = .ok (.ireturn, 1) := by decide +kernel
theorem dX8_moves_50 : decode cX8_moves 50 = .ok (.aload_n 0, 1) := by decide +kernel
theorem dX8_moves_51 : decode cX8_moves 51 = .ok (.iload_n 1, 1) := by decide +kernel
theorem dX8_moves_52 : decode cX8_moves 52 = .ok (.invokevirtual 149, 3) := by decide +kernel
theorem dX8_moves_55 : decode cX8_moves 55 = .ok (.aload_n 0, 1) := by decide +kernel
theorem dX8_moves_56 : decode cX8_moves 56 = .ok (.iload_n 1, 1) := by decide +kernel
theorem dX8_moves_57 : decode cX8_moves 57 = .ok (.iload 4, 2) := by decide +kernel
theorem dX8_moves_59 : decode cX8_moves 59 = .ok (.invokevirtual 145, 3) := by decide +kernel
theorem dX8_moves_62 : decode cX8_moves 62 = .ok (.iconst 0, 1) := by decide +kernel
theorem dX8_moves_63 : decode cX8_moves 63 = .ok (.ireturn, 1) := by decide +kernel
theorem dX8_person_0 : decode cX8_person 0 = .ok (.iload_n 1, 1) := by decide +kernel
theorem dX8_person_1 : decode cX8_person 1 = .ok (.bipush 50, 2) := by decide +kernel
theorem dX8_person_3 : decode cX8_person 3 = .ok (.sipush 150, 3) := by decide +kernel
theorem dX8_person_6 : decode cX8_person 6 = .ok (.invokestatic 95, 3) := by decide +kernel
theorem dX8_person_9 : decode cX8_person 9 = .ok (.ifCond .ne 6, 3) := by decide +kernel
theorem dX8_person_12 : decode cX8_person 12 = .ok (.bipush (-2), 2) := by decide +kernel
theorem dX8_person_14 : decode cX8_person 14 = .ok (.ireturn, 1) := by decide +kernel
theorem dX8_person_15 : decode cX8_person 15 = .ok (.aload_n 0, 1) := by decide +kernel
theorem dX8_person_16 : decode cX8_person 16 = .ok (.getfield 70, 3) := by decide +kernel
theorem dX8_person_19 : decode cX8_person 19 = .ok (.istore_n 2, 1) := by decide +kernel
theorem dX8_person_20 : decode cX8_person 20 = .ok (.aload_n 0, 1) := by decide +kernel
theorem dX8_person_21 : decode cX8_person 21 = .ok (.iload_n 1, 1) := by decide +kernel
