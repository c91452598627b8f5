theorem dX7_better_11 : decode cX7_better 11 = .ok (.istore_n 2, 1) := by decide +kernel
theorem dX7_better_12 : decode cX7_better 12 = .ok (.iload_n 2, 1) := by decide +kernel
theorem dX7_better_13 : decode cX7_better 13 = .ok (.bipush 50, 2) := by decide +kernel
theorem dX7_better_15 : decode cX7_better 15 = .ok (.if_icmp .ge 40, 3) := by decide +kernel
theorem dX7_better_18 : decode cX7_better 18 = .ok (.aload_n 0, 1) := by decide +kernel
theorem dX7_better_19 : decode cX7_better 19 = .ok (.iload_n 1, 1) := by decide +kernel
theorem dX7_better_20 : decode cX7_better 20 = .ok (.invokevirtual 237, 3) := by decide +kernel
theorem dX7_better_23 : decode cX7_better 23 = .ok (.lstore_n 3, 1) := by decide +kernel
theorem dX7_better_24 : decode cX7_better 24 = .ok (.aload_n 0, 1) := by decide +kernel
theorem dX7_better_25 : decode cX7_better 25 = .ok (.getfield 63, 3) := by decide +kernel
theorem dX7_better_28 : decode cX7_better 28 = .ok (.lload_n 3, 1) := by decide +kernel
theorem dX7_better_29 : decode cX7_better 29 = .ok (.invokevirtual 243, 3) := by decide +kernel
theorem dX7_better_32 : decode cX7_better 32 = .ok (.ifCond .ne 17, 3) := by decide +kernel
theorem dX7_better_35 : decode cX7_better 35 = .ok (.aload_n 0, 1) := by decide +kernel
theorem dX7_better_36 : decode cX7_better 36 = .ok (.getfield 63, 3) := by decide +kernel
theorem dX7_better_39 : decode cX7_better 39 = .ok (.iload_n 1, 1) := by decide +kernel
theorem dX7_better_40 : decode cX7_better 40 = .ok (.lload_n 3, 1) := by decide +kernel
theorem dX7_better_41 : decode cX7_better 41 = .ok (.invokevirtual 247, 3) := by decide +kernel
theorem dX7_better_44 : decode cX7_better 44 = .ok (.ifCond .ne 5, 3) := by decide +kernel
theorem dX7_better_47 : decode cX7_better 47 = .ok (.iload_n 2, 1) := by decide +kernel
theorem dX7_better_48 : decode cX7_better 48 = .ok (.ireturn, 1) := by decide +kernel
theorem dX7_better_49 : decode cX7_better 49 = .ok (.iinc 2 1, 3) := by decide +kernel
theorem dX7_better_52 : decode cX7_better 52 = .ok (.goto (-40), 3) := by decide +kernel
theorem dX7_better_55 : decode cX7_better 55 = .ok (.bipush 50, 2) := by decide +kernel
theorem dX7_better_57 : decode cX7_better 57 = .ok (.ireturn, 1) := by decide +kernel
theorem dX7_burnt_0 : decode cX7_burnt 0 = .ok (.iload_n 1, 1) := by decide +kernel
theorem dX7_burnt_1 : decode cX7_burnt 1 = .ok (.iconst 0, 1) := by decide +kernel
theorem dX7_burnt_2 : decode cX7_burnt 2 = .ok (.aload_n 0, 1) := by decide +kernel
theorem dX7_burnt_3 : decode cX7_burnt 3 = .ok (.getfield 35, 3) := by decide +kernel
theorem dX7_burnt_6 : decode cX7_burnt 6 = .ok (.invokevirtual 204, 3) := by decide +kernel
theorem dX7_burnt_9 : decode cX7_burnt 9 = .ok (.invokestatic 75, 3) := by decide +kernel
theorem dX7_burnt_12 : decode cX7_burnt 12 = .ok (.ifCond .ne 7, 3) := by decide +kernel
theorem dX7_burnt_15 : decode cX7_burnt 15 = .ok (.ldc2_w 215, 3) := by decide +kernel
theorem dX7_burnt_18 : decode cX7_burnt 18 = .ok (.lreturn, 1) := by decide +kernel
theorem dX7_burnt_19 : decode cX7_burnt 19 = .ok (.iload_n 2, 1) := by decide +kernel
theorem dX7_burnt_20 : decode cX7_burnt 20 = .ok (.lookupswitch 58 #[(0, 28), (1, 42)], 28) := by decide +kernel
theorem dX7_burnt_48 : decode cX7_burnt 48 = .ok (.aload_n 0, 1) := by decide +kernel
theorem dX7_burnt_49 : decode cX7_burnt 49 = .ok (.invokevirtual 207, 3) := by decide +kernel
theorem dX7_burnt_52 : decode cX7_burnt 52 = .ok (.aload_n 0, 1) := by decide +kernel
theorem dX7_burnt_53 : decode cX7_burnt 53 = .ok (.getfield 35, 3) := by decide +kernel
theorem dX7_burnt_56 : decode cX7_burnt 56 = .ok (.iload_n 1, 1) := by decide +kernel
theorem dX7_burnt_57 : decode cX7_burnt 57 = .ok (.invokevirtual 211, 3) := by decide +kernel
theorem dX7_burnt_60 : decode cX7_burnt 60 = .ok (.ladd, 1) := by decide +kernel
theorem dX7_burnt_61 : decode cX7_burnt 61 = .ok (.lreturn, 1) := by decide +kernel
theorem dX7_burnt_62 : decode cX7_burnt 62 = .ok (.aload_n 0, 1) := by decide +kernel
theorem dX7_burnt_63 : decode cX7_burnt 63 = .ok (.invokevirtual 201, 3) := by decide +kernel
theorem dX7_burnt_66 : decode cX7_burnt 66 = .ok (.aload_n 0, 1) := by decide +kernel
theorem dX7_burnt_67 : decode cX7_burnt 67 = .ok (.getfield 35, 3) := by decide +kernel
theorem dX7_burnt_70 : decode cX7_burnt 70 = .ok (.invokevirtual 204, 3) := by decide +kernel
theorem dX7_burnt_73 : decode cX7_burnt 73 = .ok (.iadd, 1) := by decide +kernel
theorem dX7_burnt_74 : decode cX7_burnt 74 = .ok (.iload_n 1, 1) := by decide +kernel
theorem dX7_burnt_75 : decode cX7_burnt 75 = .ok (.isub, 1) := by decide +kernel
theorem dX7_burnt_76 : decode cX7_burnt 76 = .ok (.i2l, 1) := by decide +kernel
theorem dX7_burnt_77 : decode cX7_burnt 77 = .ok (.lreturn, 1) := by decide +kernel
theorem dX7_burnt_78 : decode cX7_burnt 78 = .ok (.ldc2_w 215, 3) := by decide +kernel
theorem dX7_burnt_81 : decode cX7_burnt 81 = .ok (.lreturn, 1) := by decide +kernel
theorem dX7_count_0 : decode cX7_count 0 = .ok (.iload_n 1, 1) := by decide +kernel
theorem dX7_count_1 : decode cX7_count 1 = .ok (.tableswitch 111 0 7 #[47, 55, 63, 71, 79, 87, 95, 103], 47) := by decide +kernel
theorem dX7_count_48 : decode cX7_count 48 = .ok (.aload_n 0, 1) := by decide +kernel
theorem dX7_count_49 : decode cX7_count 49 = .ok (.getfield 21, 3) := by decide +kernel
theorem dX7_count_52 : decode cX7_count 52 = .ok (.getfield 262, 3) := by decide +kernel
theorem dX7_count_55 : decode cX7_count 55 = .ok (.ireturn, 1) := by decide +kernel
theorem dX7_count_56 : decode cX7_count 56 = .ok (.aload_n 0, 1) := by decide +kernel
theorem dX7_count_57 : decode cX7_count 57 = .ok (.getfield 21, 3) := by decide +kernel
theorem dX7_count_60 : decode cX7_count 60 = .ok (.invokevirtual 265, 3) := by decide +kernel
theorem dX7_count_63 : decode cX7_count 63 = .ok (.ireturn, 1) := by decide +kernel
theorem dX7_count_64 : decode cX7_count 64 = .ok (.aload_n 0, 1) := by decide +kernel
theorem dX7_count_65 : decode cX7_count 65 = .ok (.getfield 21, 3) := by decide +kernel
theorem dX7_count_68 : decode cX7_count 68 = .ok (.getfield 268, 3) := by decide +kernel
theorem dX7_count_71 : decode cX7_count 71 = .ok (.ireturn, 1) := by decide +kernel
theorem dX7_count_72 : decode cX7_count 72 = .ok (.aload_n 0, 1) := by decide +kernel
theorem dX7_count_73 : decode cX7_count 73 = .ok (.getfield 21, 3) := by decide +kernel
theorem dX7_count_76 : decode cX7_count 76 = .ok (.invokevirtual 271, 3) := by decide +kernel
theorem dX7_count_79 : decode cX7_count 79 = .ok (.ireturn, 1) := by decide +kernel
theorem dX7_count_80 : decode cX7_count 80 = .ok (.aload_n 0, 1) := by decide +kernel
theorem dX7_count_81 : decode cX7_count 81 = .ok (.getfield 28, 3) := by decide +kernel
theorem dX7_count_84 : decode cX7_count 84 = .ok (.getfield 122, 3) := by decide +kernel
theorem dX7_count_87 : decode cX7_count 87 = .ok (.ireturn, 1) := by decide +kernel
theorem dX7_count_88 : decode cX7_count 88 = .ok (.aload_n 0, 1) := by decide +kernel
theorem dX7_count_89 : decode cX7_count 89 = .ok (.getfield 28, 3) := by decide +kernel
theorem dX7_count_92 : decode cX7_count 92 = .ok (.invokevirtual 274, 3) := by decide +kernel
theorem dX7_count_95 : decode cX7_count 95 = .ok (.ireturn, 1) := by decide +kernel
theorem dX7_count_96 : decode cX7_count 96 = .ok (.aload_n 0, 1) := by decide +kernel
theorem dX7_count_97 : decode cX7_count 97 = .ok (.getfield 35, 3) := by decide +kernel
theorem dX7_count_100 : decode cX7_count 100 = .ok (.getfield 132, 3) := by decide +kernel
theorem dX7_count_103 : decode cX7_count 103 = .ok (.ireturn, 1) := by decide +kernel
theorem dX7_count_104 : decode cX7_count 104 = .ok (.aload_n 0, 1) := by decide +kernel
theorem dX7_count_105 : decode cX7_count 105 = .ok (.getfield 28, 3) := by decide +kernel
theorem dX7_count_108 : decode cX7_count 108 = .ok (.getfield 119, 3) := by decide +kernel
theorem dX7_count_111 : decode cX7_count 111 = .ok (.ireturn, 1) := by decide +kernel
theorem dX7_count_112 : decode cX7_count 112 = .ok (.iconst (-1), 1) := by decide +kernel
theorem dX7_count_113 : decode cX7_count 113 = .ok (.ireturn, 1) := by decide +kernel
theorem dX7_dryMoment_0 : decode cX7_dryMoment 0 = .ok (.aload_n 0, 1) := by decide +kernel
theorem dX7_dryMoment_1 : decode cX7_dryMoment 1 = .ok (.getfield 9, 3) := by decide +kernel
theorem dX7_dryMoment_4 : decode cX7_dryMoment 4 = .ok (.i2l, 1) := by decide +kernel
theorem dX7_dryMoment_5 : decode cX7_dryMoment 5 = .ok (.aload_n 0, 1) := by decide +kernel
theorem dX7_dryMoment_6 : decode cX7_dryMoment 6 = .ok (.getfield 15, 3) := by decide +kernel
theorem dX7_dryMoment_9 : decode cX7_dryMoment 9 = .ok (.i2l, 1) := by decide +kernel
theorem dX7_dryMoment_10 : decode cX7_dryMoment 10 = .ok (.lmul, 1) := by decide +kernel
theorem dX7_dryMoment_11 : decode cX7_dryMoment 11 = .ok (.aload_n 0, 1) := by decide +kernel
theorem dX7_dryMoment_12 : decode cX7_dryMoment 12 = .ok (.getfield 21, 3) := by decide +kernel
theorem dX7_dryMoment_15 : decode cX7_dryMoment 15 = .ok (.invokevirtual 283, 3) := by decide +kernel
theorem dX7_dryMoment_18 : decode cX7_dryMoment 18 = .ok (.ladd, 1) := by decide +kernel
theorem dX7_dryMoment_19 : decode cX7_dryMoment 19 = .ok (.aload_n 0, 1) := by decide +kernel
theorem dX7_dryMoment_20 : decode cX7_dryMoment 20 = .ok (.getfield 28, 3) := by decide +kernel
theorem dX7_dryMoment_23 : decode cX7_dryMoment 23 = .ok (.invokevirtual 286, 3) := by decide +kernel
theorem dX7_dryMoment_26 : decode cX7_dryMoment 26 = .ok (.ladd, 1) := by decide +kernel
theorem dX7_dryMoment_27 : decode cX7_dryMoment 27 = .ok (.lreturn, 1) := by decide +kernel
theorem dX7_dryWeight_0 : decode cX7_dryWeight 0 = .ok (.aload_n 0, 1) := by decide +kernel
theorem dX7_dryWeight_1 : decode cX7_dryWeight 1 = .ok (.getfield 9, 3) := by decide +kernel
theorem dX7_dryWeight_4 : decode cX7_dryWeight 4 = .ok (.aload_n 0, 1) := by decide +kernel
theorem dX7_dryWeight_5 : decode cX7_dryWeight 5 = .ok (.getfield 21, 3) := by decide +kernel
theorem dX7_dryWeight_8 : decode cX7_dryWeight 8 = .ok (.invokevirtual 277, 3) := by decide +kernel
theorem dX7_dryWeight_11 : decode cX7_dryWeight 11 = .ok (.iadd, 1) := by decide +kernel
theorem dX7_dryWeight_12 : decode cX7_dryWeight 12 = .ok (.aload_n 0, 1) := by decide +kernel
theorem dX7_dryWeight_13 : decode cX7_dryWeight 13 = .ok (.getfield 28, 3) := by decide +kernel
theorem dX7_dryWeight_16 : decode cX7_dryWeight 16 = .ok (.invokevirtual 280, 3) := by decide +kernel
theorem dX7_dryWeight_19 : decode cX7_dryWeight 19 = .ok (.iadd, 1) := by decide +kernel
theorem dX7_dryWeight_20 : decode cX7_dryWeight 20 = .ok (.ireturn, 1) := by decide +kernel
theorem dX7_empty_0 : decode cX7_empty 0 = .ok (.iload_n 1, 1) := by decide +kernel
theorem dX7_empty_1 : decode cX7_empty 1 = .ok (.sipush 1000, 3) := by decide +kernel
theorem dX7_empty_4 : decode cX7_empty 4 = .ok (.ldc 74, 2) := by decide +kernel
theorem dX7_empty_6 : decode cX7_empty 6 = .ok (.invokestatic 75, 3) := by decide +kernel
theorem dX7_empty_9 : decode cX7_empty 9 = .ok (.ifCond .eq 10, 3) := by decide +kernel
theorem dX7_empty_12 : decode cX7_empty 12 = .ok (.iload_n 2, 1) := by decide +kernel
theorem dX7_empty_13 : decode cX7_empty 13 = .ok (.invokestatic 79, 3) := by decide +kernel
theorem dX7_empty_16 : decode cX7_empty 16 = .ok (.ifCond .ne 6, 3) := by decide +kernel
theorem dX7_empty_19 : decode cX7_empty 19 = .ok (.bipush (-2), 2) := by decide +kernel
theorem dX7_empty_21 : decode cX7_empty 21 = .ok (.ireturn, 1) := by decide +kernel
theorem dX7_empty_22 : decode cX7_empty 22 = .ok (.aload_n 0, 1) := by decide +kernel
theorem dX7_empty_23 : decode cX7_empty 23 = .ok (.iload_n 1, 1) := by decide +kernel
theorem dX7_empty_24 : decode cX7_empty 24 = .ok (.putfield 9, 3) := by decide +kernel
theorem dX7_empty_27 : decode cX7_empty 27 = .ok (.aload_n 0, 1) := by decide +kernel
theorem dX7_empty_28 : decode cX7_empty 28 = .ok (.iload_n 2, 1) := by decide +kernel
theorem dX7_empty_29 : decode cX7_empty 29 = .ok (.putfield 15, 3) := by decide +kernel
theorem dX7_empty_32 : decode cX7_empty 32 = .ok (.iconst 0, 1) := by decide +kernel
theorem dX7_empty_33 : decode cX7_empty 33 = .ok (.ireturn, 1) := by decide +kernel
theorem dX7_fits_0 : decode cX7_fits 0 = .ok (.aload_n 0, 1) := by decide +kernel
theorem dX7_fits_1 : decode cX7_fits 1 = .ok (.getfield 21, 3) := by decide +kernel
theorem dX7_fits_4 : decode cX7_fits 4 = .ok (.iload_n 1, 1) := by decide +kernel
theorem dX7_fits_5 : decode cX7_fits 5 = .ok (.invokevirtual 159, 3) := by decide +kernel
theorem dX7_fits_8 : decode cX7_fits 8 = .ok (.ifCond .eq 15, 3) := by decide +kernel
theorem dX7_fits_11 : decode cX7_fits 11 = .ok (.aload_n 0, 1) := by decide +kernel
theorem dX7_fits_12 : decode cX7_fits 12 = .ok (.getfield 21, 3) := by decide +kernel
theorem dX7_fits_15 : decode cX7_fits 15 = .ok (.iload_n 2, 1) := by decide +kernel
theorem dX7_fits_16 : decode cX7_fits 16 = .ok (.iload_n 3, 1) := by decide +kernel
theorem dX7_fits_17 : decode cX7_fits 17 = .ok (.invokevirtual 162, 3) := by decide +kernel
theorem dX7_fits_20 : decode cX7_fits 20 = .ok (.ifCond .ne 5, 3) := by decide +kernel
theorem dX7_fits_23 : decode cX7_fits 23 = .ok (.iconst (-1), 1) := by decide +kernel
theorem dX7_fits_24 : decode cX7_fits 24 = .ok (.ireturn, 1) := by decide +kernel
theorem dX7_fits_25 : decode cX7_fits 25 = .ok (.aload_n 0, 1) := by decide +kernel
theorem dX7_fits_26 : decode cX7_fits 26 = .ok (.getfield 21, 3) := by decide +kernel
theorem dX7_fits_29 : decode cX7_fits 29 = .ok (.iload_n 1, 1) := by decide +kernel
theorem dX7_fits_30 : decode cX7_fits 30 = .ok (.invokevirtual 166, 3) := by decide +kernel
theorem dX7_fits_33 : decode cX7_fits 33 = .ok (.ifCond .eq 6, 3) := by decide +kernel
theorem dX7_fits_36 : decode cX7_fits 36 = .ok (.bipush (-3), 2) := by decide +kernel
theorem dX7_fits_38 : decode cX7_fits 38 = .ok (.ireturn, 1) := by decide +kernel
theorem dX7_fits_39 : decode cX7_fits 39 = .ok (.aload_n 0, 1) := by decide +kernel
theorem dX7_fits_40 : decode cX7_fits 40 = .ok (.getfield 21, 3) := by decide +kernel
theorem dX7_fits_43 : decode cX7_fits 43 = .ok (.iload_n 1, 1) := by decide +kernel
theorem dX7_fits_44 : decode cX7_fits 44 = .ok (.iload_n 2, 1) := by decide +kernel
theorem dX7_fits_45 : decode cX7_fits 45 = .ok (.iload_n 3, 1) := by decide +kernel
theorem dX7_fits_46 : decode cX7_fits 46 = .ok (.invokestatic 169, 3) := by decide +kernel
theorem dX7_fits_49 : decode cX7_fits 49 = .ok (.invokevirtual 172, 3) := by decide +kernel
theorem dX7_fits_52 : decode cX7_fits 52 = .ok (.ireturn, 1) := by decide +kernel
theorem dX7_fuel_0 : decode cX7_fuel 0 = .ok (.iload_n 1, 1) := by decide +kernel
theorem dX7_fuel_1 : decode cX7_fuel 1 = .ok (.iconst 0, 1) := by decide +kernel
theorem dX7_fuel_2 : decode cX7_fuel 2 = .ok (.aload_n 0, 1) := by decide +kernel
theorem dX7_fuel_3 : decode cX7_fuel 3 = .ok (.getfield 35, 3) := by decide +kernel
theorem dX7_fuel_6 : decode cX7_fuel 6 = .ok (.getfield 132, 3) := by decide +kernel
theorem dX7_fuel_9 : decode cX7_fuel 9 = .ok (.iconst 1, 1) := by decide +kernel
theorem dX7_fuel_10 : decode cX7_fuel 10 = .ok (.isub, 1) := by decide +kernel
theorem dX7_fuel_11 : decode cX7_fuel 11 = .ok (.invokestatic 75, 3) := by decide +kernel
theorem dX7_fuel_14 : decode cX7_fuel 14 = .ok (.ifCond .ne 5, 3) := by decide +kernel
theorem dX7_fuel_17 : decode cX7_fuel 17 = .ok (.iconst (-1), 1) := by decide +kernel
theorem dX7_fuel_18 : decode cX7_fuel 18 = .ok (.ireturn, 1) := by decide +kernel
theorem dX7_fuel_19 : decode cX7_fuel 19 = .ok (.iload_n 2, 1) := by decide +kernel
theorem dX7_fuel_20 : decode cX7_fuel 20 = .ok (.iconst 0, 1) := by decide +kernel
theorem dX7_fuel_21 : decode cX7_fuel 21 = .ok (.aload_n 0, 1) := by decide +kernel
theorem dX7_fuel_22 : decode cX7_fuel 22 = .ok (.getfield 35, 3) := by decide +kernel
theorem dX7_fuel_25 : decode cX7_fuel 25 = .ok (.getfield 135, 3) := by decide +kernel
theorem dX7_fuel_28 : decode cX7_fuel 28 = .ok (.iload_n 1, 1) := by decide +kernel
theorem dX7_fuel_29 : decode cX7_fuel 29 = .ok (.iaload, 1) := by decide +kernel
theorem dX7_fuel_30 : decode cX7_fuel 30 = .ok (.invokestatic 75, 3) := by decide +kernel
theorem dX7_fuel_33 : decode cX7_fuel 33 = .ok (.ifCond .ne 6, 3) := by decide +kernel
theorem dX7_fuel_36 : decode cX7_fuel 36 = .ok (.bipush (-2), 2) := by decide +kernel
theorem dX7_fuel_38 : decode cX7_fuel 38 = .ok (.ireturn, 1) := by decide +kernel
theorem dX7_fuel_39 : decode cX7_fuel 39 = .ok (.aload_n 0, 1) := by decide +kernel
theorem dX7_fuel_40 : decode cX7_fuel 40 = .ok (.getfield 35, 3) := by decide +kernel
theorem dX7_fuel_43 : decode cX7_fuel 43 = .ok (.getfield 138, 3) := by decide +kernel
theorem dX7_fuel_46 : decode cX7_fuel 46 = .ok (.iload_n 1, 1) := by decide +kernel
theorem dX7_fuel_47 : decode cX7_fuel 47 = .ok (.iaload, 1) := by decide +kernel
theorem dX7_fuel_48 : decode cX7_fuel 48 = .ok (.istore_n 3, 1) := by decide +kernel
theorem dX7_fuel_49 : decode cX7_fuel 49 = .ok (.aload_n 0, 1) := by decide +kernel
theorem dX7_fuel_50 : decode cX7_fuel 50 = .ok (.getfield 35, 3) := by decide +kernel
theorem dX7_fuel_53 : decode cX7_fuel 53 = .ok (.getfield 138, 3) := by decide +kernel
theorem dX7_fuel_56 : decode cX7_fuel 56 = .ok (.iload_n 1, 1) := by decide +kernel
theorem dX7_fuel_57 : decode cX7_fuel 57 = .ok (.iload_n 2, 1) := by decide +kernel
theorem dX7_fuel_58 : decode cX7_fuel 58 = .ok (.iastore, 1) := by decide +kernel
theorem dX7_fuel_59 : decode cX7_fuel 59 = .ok (.iload_n 3, 1) := by decide +kernel
theorem dX7_fuel_60 : decode cX7_fuel 60 = .ok (.ireturn, 1) := by decide +kernel
theorem dX7_hold_0 : decode cX7_hold 0 = .ok (.iload_n 1, 1) := by decide +kernel
theorem dX7_hold_1 : decode cX7_hold 1 = .ok (.invokestatic 83, 3) := by decide +kernel
theorem dX7_hold_4 : decode cX7_hold 4 = .ok (.ifCond .eq 10, 3) := by decide +kernel
theorem dX7_hold_7 : decode cX7_hold 7 = .ok (.iload_n 2, 1) := by decide +kernel
theorem dX7_hold_8 : decode cX7_hold 8 = .ok (.invokestatic 83, 3) := by decide +kernel
theorem dX7_hold_11 : decode cX7_hold 11 = .ok (.ifCond .ne 6, 3) := by decide +kernel
theorem dX7_hold_14 : decode cX7_hold 14 = .ok (.bipush (-2), 2) := by decide +kernel
theorem dX7_hold_16 : decode cX7_hold 16 = .ok (.ireturn, 1) := by decide +kernel
theorem dX7_hold_17 : decode cX7_hold 17 = .ok (.aload_n 0, 1) := by decide +kernel
theorem dX7_hold_18 : decode cX7_hold 18 = .ok (.getfield 21, 3) := by decide +kernel
theorem dX7_hold_21 : decode cX7_hold 21 = .ok (.iload_n 1, 1) := by decide +kernel
theorem dX7_hold_22 : decode cX7_hold 22 = .ok (.iload_n 2, 1) := by decide +kernel
theorem dX7_hold_23 : decode cX7_hold 23 = .ok (.invokevirtual 86, 3) := by decide +kernel
theorem dX7_hold_26 : decode cX7_hold 26 = .ok (.ireturn, 1) := by decide +kernel
theorem dX7_in_0 : decode cX7_in 0 = .ok (.aload_n 0, 1) := by decide +kernel
theorem dX7_in_1 : decode cX7_in 1 = .ok (.getfield 21, 3) := by decide +kernel
theorem dX7_in_4 : decode cX7_in 4 = .ok (.iload_n 1, 1) := by decide +kernel
theorem dX7_in_5 : decode cX7_in 5 = .ok (.iload_n 2, 1) := by decide +kernel
theorem dX7_in_6 : decode cX7_in 6 = .ok (.invokevirtual 162, 3) := by decide +kernel
theorem dX7_in_9 : decode cX7_in 9 = .ok (.ifCond .eq 19, 3) := by decide +kernel
theorem dX7_in_12 : decode cX7_in 12 = .ok (.aload_n 0, 1) := by decide +kernel
theorem dX7_in_13 : decode cX7_in 13 = .ok (.getfield 21, 3) := by decide +kernel
theorem dX7_in_16 : decode cX7_in 16 = .ok (.getfield 189, 3) := by decide +kernel
theorem dX7_in_19 : decode cX7_in 19 = .ok (.iload_n 1, 1) := by decide +kernel
theorem dX7_in_20 : decode cX7_in 20 = .ok (.iload_n 2, 1) := by decide +kernel
theorem dX7_in_21 : decode cX7_in 21 = .ok (.invokestatic 169, 3) := by decide +kernel
theorem dX7_in_24 : decode cX7_in 24 = .ok (.iaload, 1) := by decide +kernel
theorem dX7_in_25 : decode cX7_in 25 = .ok (.goto 4, 3) := by decide +kernel
theorem dX7_in_28 : decode cX7_in 28 = .ok (.iconst (-1), 1) := by decide +kernel
theorem dX7_in_29 : decode cX7_in 29 = .ok (.ireturn, 1) := by decide +kernel
theorem dX7_init_0 : decode cX7_init 0 = .ok (.aload_n 0, 1) := by decide +kernel
theorem dX7_init_1 : decode cX7_init 1 = .ok (.invokespecial 3, 3) := by decide +kernel
theorem dX7_init_4 : decode cX7_init 4 = .ok (.aload_n 0, 1) := by decide +kernel
theorem dX7_init_5 : decode cX7_init 5 = .ok (.sipush 1000, 3) := by decide +kernel
theorem dX7_init_8 : decode cX7_init 8 = .ok (.putfield 9, 3) := by decide +kernel
theorem dX7_init_11 : decode cX7_init 11 = .ok (.aload_n 0, 1) := by decide +kernel
theorem dX7_init_12 : decode cX7_init 12 = .ok (.iconst 0, 1) := by decide +kernel
theorem dX7_init_13 : decode cX7_init 13 = .ok (.putfield 15, 3) := by decide +kernel
theorem dX7_init_16 : decode cX7_init 16 = .ok (.aload_n 0, 1) := by decide +kernel
theorem dX7_init_17 : decode cX7_init 17 = .ok (.new 18, 3) := by decide +kernel
theorem dX7_init_20 : decode cX7_init 20 = .ok (.dup, 1) := by decide +kernel
theorem dX7_init_21 : decode cX7_init 21 = .ok (.invokespecial 20, 3) := by decide +kernel
theorem dX7_init_24 : decode cX7_init 24 = .ok (.putfield 21, 3) := by decide +kernel
theorem dX7_init_27 : decode cX7_init 27 = .ok (.aload_n 0, 1) := by decide +kernel
theorem dX7_init_28 : decode cX7_init 28 = .ok (.new 25, 3) := by decide +kernel
theorem dX7_init_31 : decode cX7_init 31 = .ok (.dup, 1) := by decide +kernel
theorem dX7_init_32 : decode cX7_init 32 = .ok (.invokespecial 27, 3) := by decide +kernel
theorem dX7_init_35 : decode cX7_init 35 = .ok (.putfield 28, 3) := by decide +kernel
theorem dX7_init_38 : decode cX7_init 38 = .ok (.aload_n 0, 1) := by decide +kernel
theorem dX7_init_39 : decode cX7_init 39 = .ok (.new 32, 3) := by decide +kernel
theorem dX7_init_42 : decode cX7_init 42 = .ok (.dup, 1) := by decide +kernel
theorem dX7_init_43 : decode cX7_init 43 = .ok (.invokespecial 34, 3) := by decide +kernel
theorem dX7_init_46 : decode cX7_init 46 = .ok (.putfield 35, 3) := by decide +kernel
theorem dX7_init_49 : decode cX7_init 49 = .ok (.aload_n 0, 1) := by decide +kernel
theorem dX7_init_50 : decode cX7_init 50 = .ok (.new 39, 3) := by decide +kernel
theorem dX7_init_53 : decode cX7_init 53 = .ok (.dup, 1) := by decide +kernel
theorem dX7_init_54 : decode cX7_init 54 = .ok (.invokespecial 41, 3) := by decide +kernel
theorem dX7_init_57 : decode cX7_init 57 = .ok (.putfield 42, 3) := by decide +kernel
theorem dX7_init_60 : decode cX7_init 60 = .ok (.aload_n 0, 1) := by decide +kernel
theorem dX7_init_61 : decode cX7_init 61 = .ok (.new 39, 3) := by decide +kernel
theorem dX7_init_64 : decode cX7_init 64 = .ok (.dup, 1) := by decide +kernel
theorem dX7_init_65 : decode cX7_init 65 = .ok (.invokespecial 41, 3) := by decide +kernel
theorem dX7_init_68 : decode cX7_init 68 = .ok (.putfield 46, 3) := by decide +kernel
theorem dX7_init_71 : decode cX7_init 71 = .ok (.aload_n 0, 1) := by decide +kernel
theorem dX7_init_72 : decode cX7_init 72 = .ok (.new 49, 3) := by decide +kernel
theorem dX7_init_75 : decode cX7_init 75 = .ok (.dup, 1) := by decide +kernel
theorem dX7_init_76 : decode cX7_init 76 = .ok (.aload_n 0, 1) := by decide +kernel
theorem dX7_init_77 : decode cX7_init 77 = .ok (.getfield 35, 3) := by decide +kernel
theorem dX7_init_80 : decode cX7_init 80 = .ok (.aload_n 0, 1) := by decide +kernel
theorem dX7_init_81 : decode cX7_init 81 = .ok (.getfield 46, 3) := by decide +kernel
theorem dX7_init_84 : decode cX7_init 84 = .ok (.invokespecial 51, 3) := by decide +kernel
theorem dX7_init_87 : decode cX7_init 87 = .ok (.putfield 54, 3) := by decide +kernel
theorem dX7_init_90 : decode cX7_init 90 = .ok (.aload_n 0, 1) := by decide +kernel
theorem dX7_init_91 : decode cX7_init 91 = .ok (.new 58, 3) := by decide +kernel
theorem dX7_init_94 : decode cX7_init 94 = .ok (.dup, 1) := by decide +kernel
theorem dX7_init_95 : decode cX7_init 95 = .ok (.aload_n 0, 1) := by decide +kernel
theorem dX7_init_96 : decode cX7_init 96 = .ok (.getfield 21, 3) := by decide +kernel
theorem dX7_init_99 : decode cX7_init 99 = .ok (.invokespecial 60, 3) := by decide +kernel
theorem dX7_init_102 : decode cX7_init 102 = .ok (.putfield 63, 3) := by decide +kernel
theorem dX7_init_105 : decode cX7_init 105 = .ok (.aload_n 0, 1) := by decide +kernel
theorem dX7_init_106 : decode cX7_init 106 = .ok (.new 67, 3) := by decide +kernel
theorem dX7_init_109 : decode cX7_init 109 = .ok (.dup, 1) := by decide +kernel
theorem dX7_init_110 : decode cX7_init 110 = .ok (.aload_n 0, 1) := by decide +kernel
theorem dX7_init_111 : decode cX7_init 111 = .ok (.getfield 21, 3) := by decide +kernel
theorem dX7_init_114 : decode cX7_init 114 = .ok (.invokespecial 69, 3) := by decide +kernel
theorem dX7_init_117 : decode cX7_init 117 = .ok (.putfield 70, 3) := by decide +kernel
theorem dX7_init_120 : decode cX7_init 120 = .ok (.return_, 1) := by decide +kernel
theorem dX7_isArm_0 : decode cX7_isArm 0 = .ok (.iload_n 0, 1) := by decide +kernel
theorem dX7_isArm_1 : decode cX7_isArm 1 = .ok (.iconst 0, 1) := by decide +kernel
theorem dX7_isArm_2 : decode cX7_isArm 2 = .ok (.sipush 5000, 3) := by decide +kernel
theorem dX7_isArm_5 : decode cX7_isArm 5 = .ok (.invokestatic 75, 3) := by decide +kernel
theorem dX7_isArm_8 : decode cX7_isArm 8 = .ok (.ireturn, 1) := by decide +kernel
theorem dX7_isBorne_0 : decode cX7_isBorne 0 = .ok (.iload_n 0, 1) := by decide +kernel
theorem dX7_isBorne_1 : decode cX7_isBorne 1 = .ok (.iconst 0, 1) := by decide +kernel
theorem dX7_isBorne_2 : decode cX7_isBorne 2 = .ok (.sipush 20000, 3) := by decide +kernel
theorem dX7_isBorne_5 : decode cX7_isBorne 5 = .ok (.invokestatic 75, 3) := by decide +kernel
theorem dX7_isBorne_8 : decode cX7_isBorne 8 = .ok (.ireturn, 1) := by decide +kernel
theorem dX7_isFromTo_0 : decode cX7_isFromTo 0 = .ok (.iload_n 0, 1) := by decide +kernel
theorem dX7_isFromTo_1 : decode cX7_isFromTo 1 = .ok (.iload_n 1, 1) := by decide +kernel
theorem dX7_isFromTo_2 : decode cX7_isFromTo 2 = .ok (.if_icmp .lt 12, 3) := by decide +kernel
theorem dX7_isFromTo_5 : decode cX7_isFromTo 5 = .ok (.iload_n 0, 1) := by decide +kernel
theorem dX7_isFromTo_6 : decode cX7_isFromTo 6 = .ok (.iload_n 2, 1) := by decide +kernel
theorem dX7_isFromTo_7 : decode cX7_isFromTo 7 = .ok (.if_icmp .gt 7, 3) := by decide +kernel
theorem dX7_isFromTo_10 : decode cX7_isFromTo 10 = .ok (.iconst 1, 1) := by decide +kernel
theorem dX7_isFromTo_11 : decode cX7_isFromTo 11 = .ok (.goto 4, 3) := by decide +kernel
theorem dX7_isFromTo_14 : decode cX7_isFromTo 14 = .ok (.iconst 0, 1) := by decide +kernel
theorem dX7_isFromTo_15 : decode cX7_isFromTo 15 = .ok (.ireturn, 1) := by decide +kernel
theorem dX7_isKind_0 : decode cX7_isKind 0 = .ok (.iload_n 0, 1) := by decide +kernel
theorem dX7_isKind_1 : decode cX7_isKind 1 = .ok (.iconst 0, 1) := by decide +kernel
theorem dX7_isKind_2 : decode cX7_isKind 2 = .ok (.bipush 7, 2) := by decide +kernel
theorem dX7_isKind_4 : decode cX7_isKind 4 = .ok (.invokestatic 75, 3) := by decide +kernel
theorem dX7_isKind_7 : decode cX7_isKind 7 = .ok (.ireturn, 1) := by decide +kernel
theorem dX7_isPhase_0 : decode cX7_isPhase 0 = .ok (.iload_n 0, 1) := by decide +kernel
theorem dX7_isPhase_1 : decode cX7_isPhase 1 = .ok (.ifCond .eq 8, 3) := by decide +kernel
theorem dX7_isPhase_4 : decode cX7_isPhase 4 = .ok (.iload_n 0, 1) := by decide +kernel
theorem dX7_isPhase_5 : decode cX7_isPhase 5 = .ok (.iconst 1, 1) := by decide +kernel
theorem dX7_isPhase_6 : decode cX7_isPhase 6 = .ok (.if_icmp .ne 7, 3) := by decide +kernel
theorem dX7_isPhase_9 : decode cX7_isPhase 9 = .ok (.iconst 1, 1) := by decide +kernel
theorem dX7_isPhase_10 : decode cX7_isPhase 10 = .ok (.goto 4, 3) := by decide +kernel
theorem dX7_isPhase_13 : decode cX7_isPhase 13 = .ok (.iconst 0, 1) := by decide +kernel
theorem dX7_isPhase_14 : decode cX7_isPhase 14 = .ok (.ireturn, 1) := by decide +kernel
theorem dX7_isStop_0 : decode cX7_isStop 0 = .ok (.iload_n 0, 1) := by decide +kernel
theorem dX7_isStop_1 : decode cX7_isStop 1 = .ok (.iconst 1, 1) := by decide +kernel
theorem dX7_isStop_2 : decode cX7_isStop 2 = .ok (.iconst 4, 1) := by decide +kernel
theorem dX7_isStop_3 : decode cX7_isStop 3 = .ok (.invokestatic 75, 3) := by decide +kernel
theorem dX7_isStop_6 : decode cX7_isStop 6 = .ok (.ireturn, 1) := by decide +kernel
theorem dX7_item_0 : decode cX7_item 0 = .ok (.iload_n 1, 1) := by decide +kernel
theorem dX7_item_1 : decode cX7_item 1 = .ok (.iconst 1, 1) := by decide +kernel
theorem dX7_item_2 : decode cX7_item 2 = .ok (.sipush 5000, 3) := by decide +kernel
theorem dX7_item_5 : decode cX7_item 5 = .ok (.invokestatic 75, 3) := by decide +kernel
theorem dX7_item_8 : decode cX7_item 8 = .ok (.ifCond .ne 6, 3) := by decide +kernel
theorem dX7_item_11 : decode cX7_item 11 = .ok (.bipush (-2), 2) := by decide +kernel
theorem dX7_item_13 : decode cX7_item 13 = .ok (.ireturn, 1) := by decide +kernel
theorem dX7_item_14 : decode cX7_item 14 = .ok (.iload_n 2, 1) := by decide +kernel
theorem dX7_item_15 : decode cX7_item 15 = .ok (.invokestatic 101, 3) := by decide +kernel
theorem dX7_item_18 : decode cX7_item 18 = .ok (.ifCond .eq 10, 3) := by decide +kernel
theorem dX7_item_21 : decode cX7_item 21 = .ok (.iload_n 3, 1) := by decide +kernel
theorem dX7_item_22 : decode cX7_item 22 = .ok (.invokestatic 107, 3) := by decide +kernel
theorem dX7_item_25 : decode cX7_item 25 = .ok (.ifCond .ne 5, 3) := by decide +kernel
theorem dX7_item_28 : decode cX7_item 28 = .ok (.iconst (-1), 1) := by decide +kernel
theorem dX7_item_29 : decode cX7_item 29 = .ok (.ireturn, 1) := by decide +kernel
theorem dX7_item_30 : decode cX7_item 30 = .ok (.aload_n 0, 1) := by decide +kernel
theorem dX7_item_31 : decode cX7_item 31 = .ok (.getfield 21, 3) := by decide +kernel
theorem dX7_item_34 : decode cX7_item 34 = .ok (.iload_n 1, 1) := by decide +kernel
theorem dX7_item_35 : decode cX7_item 35 = .ok (.iload_n 2, 1) := by decide +kernel
theorem dX7_item_36 : decode cX7_item 36 = .ok (.iload_n 3, 1) := by decide +kernel
theorem dX7_item_37 : decode cX7_item 37 = .ok (.invokevirtual 110, 3) := by decide +kernel
theorem dX7_item_40 : decode cX7_item 40 = .ok (.ireturn, 1) := by decide +kernel
theorem dX7_late_0 : decode cX7_late 0 = .ok (.iload_n 1, 1) := by decide +kernel
theorem dX7_late_1 : decode cX7_late 1 = .ok (.iconst 0, 1) := by decide +kernel
theorem dX7_late_2 : decode cX7_late 2 = .ok (.bipush 80, 2) := by decide +kernel
theorem dX7_late_4 : decode cX7_late 4 = .ok (.invokestatic 75, 3) := by decide +kernel
theorem dX7_late_7 : decode cX7_late 7 = .ok (.ifCond .eq 10, 3) := by decide +kernel
theorem dX7_late_10 : decode cX7_late 10 = .ok (.iload_n 2, 1) := by decide +kernel
theorem dX7_late_11 : decode cX7_late 11 = .ok (.invokestatic 79, 3) := by decide +kernel
theorem dX7_late_14 : decode cX7_late 14 = .ok (.ifCond .ne 6, 3) := by decide +kernel
theorem dX7_late_17 : decode cX7_late 17 = .ok (.bipush (-2), 2) := by decide +kernel
theorem dX7_late_19 : decode cX7_late 19 = .ok (.ireturn, 1) := by decide +kernel
theorem dX7_late_20 : decode cX7_late 20 = .ok (.aload_n 0, 1) := by decide +kernel
theorem dX7_late_21 : decode cX7_late 21 = .ok (.getfield 28, 3) := by decide +kernel
theorem dX7_late_24 : decode cX7_late 24 = .ok (.iload_n 1, 1) := by decide +kernel
theorem dX7_late_25 : decode cX7_late 25 = .ok (.iload_n 2, 1) := by decide +kernel
theorem dX7_late_26 : decode cX7_late 26 = .ok (.aload_n 0, 1) := by decide +kernel
theorem dX7_late_27 : decode cX7_late 27 = .ok (.iload_n 2, 1) := by decide +kernel
theorem dX7_late_28 : decode cX7_late 28 = .ok (.invokevirtual 237, 3) := by decide +kernel
theorem dX7_late_31 : decode cX7_late 31 = .ok (.invokevirtual 258, 3) := by decide +kernel
theorem dX7_late_34 : decode cX7_late 34 = .ok (.ireturn, 1) := by decide +kernel
theorem dX7_lean_0 : decode cX7_lean 0 = .ok (.aload_n 0, 1) := by decide +kernel
theorem dX7_lean_1 : decode cX7_lean 1 = .ok (.invokevirtual 207, 3) := by decide +kernel
theorem dX7_lean_4 : decode cX7_lean 4 = .ok (.iload_n 1, 1) := by decide +kernel
theorem dX7_lean_5 : decode cX7_lean 5 = .ok (.i2l, 1) := by decide +kernel
theorem dX7_lean_6 : decode cX7_lean 6 = .ok (.aload_n 0, 1) := by decide +kernel
theorem dX7_lean_7 : decode cX7_lean 7 = .ok (.invokevirtual 201, 3) := by decide +kernel
theorem dX7_lean_10 : decode cX7_lean 10 = .ok (.i2l, 1) := by decide +kernel
theorem dX7_lean_11 : decode cX7_lean 11 = .ok (.lmul, 1) := by decide +kernel
theorem dX7_lean_12 : decode cX7_lean 12 = .ok (.lsub, 1) := by decide +kernel
theorem dX7_lean_13 : decode cX7_lean 13 = .ok (.lreturn, 1) := by decide +kernel
theorem dX7_limitsOf_0 : decode cX7_limitsOf 0 = .ok (.iload_n 1, 1) := by decide +kernel
theorem dX7_limitsOf_1 : decode cX7_limitsOf 1 = .ok (.ifCond .ne 10, 3) := by decide +kernel
theorem dX7_limitsOf_4 : decode cX7_limitsOf 4 = .ok (.aload_n 0, 1) := by decide +kernel
theorem dX7_limitsOf_5 : decode cX7_limitsOf 5 = .ok (.getfield 42, 3) := by decide +kernel
theorem dX7_limitsOf_8 : decode cX7_limitsOf 8 = .ok (.goto 7, 3) := by decide +kernel
theorem dX7_limitsOf_11 : decode cX7_limitsOf 11 = .ok (.aload_n 0, 1) := by decide +kernel
theorem dX7_limitsOf_12 : decode cX7_limitsOf 12 = .ok (.getfield 46, 3) := by decide +kernel
theorem dX7_limitsOf_15 : decode cX7_limitsOf 15 = .ok (.areturn, 1) := by decide +kernel
theorem dX7_load_0 : decode cX7_load 0 = .ok (.aload_n 0, 1) := by decide +kernel
theorem dX7_load_1 : decode cX7_load 1 = .ok (.iload_n 1, 1) := by decide +kernel
theorem dX7_load_2 : decode cX7_load 2 = .ok (.iload_n 2, 1) := by decide +kernel
theorem dX7_load_3 : decode cX7_load 3 = .ok (.iload_n 3, 1) := by decide +kernel
theorem dX7_load_4 : decode cX7_load 4 = .ok (.invokevirtual 175, 3) := by decide +kernel
theorem dX7_load_7 : decode cX7_load 7 = .ok (.istore 4, 2) := by decide +kernel
theorem dX7_load_9 : decode cX7_load 9 = .ok (.iload 4, 2) := by decide +kernel
theorem dX7_load_11 : decode cX7_load 11 = .ok (.ifCond .ne 16, 3) := by decide +kernel
theorem dX7_load_14 : decode cX7_load 14 = .ok (.aload_n 0, 1) := by decide +kernel
theorem dX7_load_15 : decode cX7_load 15 = .ok (.getfield 21, 3) := by decide +kernel
theorem dX7_load_18 : decode cX7_load 18 = .ok (.iload_n 1, 1) := by decide +kernel
theorem dX7_load_19 : decode cX7_load 19 = .ok (.iload_n 2, 1) := by decide +kernel
theorem dX7_load_20 : decode cX7_load 20 = .ok (.iload_n 3, 1) := by decide +kernel
theorem dX7_load_21 : decode cX7_load 21 = .ok (.invokestatic 169, 3) := by decide +kernel
theorem dX7_load_24 : decode cX7_load 24 = .ok (.invokevirtual 178, 3) := by decide +kernel
theorem dX7_load_27 : decode cX7_load 27 = .ok (.iload 4, 2) := by decide +kernel
theorem dX7_load_29 : decode cX7_load 29 = .ok (.ireturn, 1) := by decide +kernel
theorem dX7_loadAll_0 : decode cX7_loadAll 0 = .ok (.iload_n 1, 1) := by decide +kernel
theorem dX7_loadAll_1 : decode cX7_loadAll 1 = .ok (.invokestatic 79, 3) := by decide +kernel
theorem dX7_loadAll_4 : decode cX7_loadAll 4 = .ok (.ifCond .eq 19, 3) := by decide +kernel
theorem dX7_loadAll_7 : decode cX7_loadAll 7 = .ok (.aload_n 0, 1) := by decide +kernel
theorem dX7_loadAll_8 : decode cX7_loadAll 8 = .ok (.getfield 21, 3) := by decide +kernel
theorem dX7_loadAll_11 : decode cX7_loadAll 11 = .ok (.iload_n 1, 1) := by decide +kernel
theorem dX7_loadAll_12 : decode cX7_loadAll 12 = .ok (.aload_n 0, 1) := by decide +kernel
theorem dX7_loadAll_13 : decode cX7_loadAll 13 = .ok (.iload_n 1, 1) := by decide +kernel
theorem dX7_loadAll_14 : decode cX7_loadAll 14 = .ok (.invokevirtual 237, 3) := by decide +kernel
theorem dX7_loadAll_17 : decode cX7_loadAll 17 = .ok (.invokevirtual 240, 3) := by decide +kernel
theorem dX7_loadAll_20 : decode cX7_loadAll 20 = .ok (.goto 5, 3) := by decide +kernel
theorem dX7_loadAll_23 : decode cX7_loadAll 23 = .ok (.bipush (-2), 2) := by decide +kernel
theorem dX7_loadAll_25 : decode cX7_loadAll 25 = .ok (.ireturn, 1) := by decide +kernel
theorem dX7_moment_0 : decode cX7_moment 0 = .ok (.iload_n 1, 1) := by decide +kernel
theorem dX7_moment_1 : decode cX7_moment 1 = .ok (.tableswitch 55 0 2 #[27, 32, 46], 27) := by decide +kernel
theorem dX7_moment_28 : decode cX7_moment 28 = .ok (.aload_n 0, 1) := by decide +kernel
theorem dX7_moment_29 : decode cX7_moment 29 = .ok (.invokevirtual 207, 3) := by decide +kernel
theorem dX7_moment_32 : decode cX7_moment 32 = .ok (.lreturn, 1) := by decide +kernel
theorem dX7_moment_33 : decode cX7_moment 33 = .ok (.aload_n 0, 1) := by decide +kernel
theorem dX7_moment_34 : decode cX7_moment 34 = .ok (.invokevirtual 207, 3) := by decide +kernel
theorem dX7_moment_37 : decode cX7_moment 37 = .ok (.aload_n 0, 1) := by decide +kernel
theorem dX7_moment_38 : decode cX7_moment 38 = .ok (.getfield 35, 3) := by decide +kernel
theorem dX7_moment_41 : decode cX7_moment 41 = .ok (.iconst 0, 1) := by decide +kernel
theorem dX7_moment_42 : decode cX7_moment 42 = .ok (.invokevirtual 211, 3) := by decide +kernel
theorem dX7_moment_45 : decode cX7_moment 45 = .ok (.ladd, 1) := by decide +kernel
theorem dX7_moment_46 : decode cX7_moment 46 = .ok (.lreturn, 1) := by decide +kernel
theorem dX7_moment_47 : decode cX7_moment 47 = .ok (.aload_n 0, 1) := by decide +kernel
theorem dX7_moment_48 : decode cX7_moment 48 = .ok (.getfield 35, 3) := by decide +kernel
theorem dX7_moment_51 : decode cX7_moment 51 = .ok (.iconst 0, 1) := by decide +kernel
theorem dX7_moment_52 : decode cX7_moment 52 = .ok (.invokevirtual 211, 3) := by decide +kernel
theorem dX7_moment_55 : decode cX7_moment 55 = .ok (.lreturn, 1) := by decide +kernel
theorem dX7_moment_56 : decode cX7_moment 56 = .ok (.ldc2_w 215, 3) := by decide +kernel
theorem dX7_moment_59 : decode cX7_moment 59 = .ok (.lreturn, 1) := by decide +kernel
theorem dX7_person_0 : decode cX7_person 0 = .ok (.iload_n 1, 1) := by decide +kernel
theorem dX7_person_1 : decode cX7_person 1 = .ok (.bipush 50, 2) := by decide +kernel
theorem dX7_person_3 : decode cX7_person 3 = .ok (.sipush 150, 3) := by decide +kernel
theorem dX7_person_6 : decode cX7_person 6 = .ok (.invokestatic 75, 3) := by decide +kernel
theorem dX7_person_9 : decode cX7_person 9 = .ok (.ifCond .ne 6, 3) := by decide +kernel
theorem dX7_person_12 : decode cX7_person 12 = .ok (.bipush (-2), 2) := by decide +kernel
theorem dX7_person_14 : decode cX7_person 14 = .ok (.ireturn, 1) := by decide +kernel
theorem dX7_person_15 : decode cX7_person 15 = .ok (.aload_n 0, 1) := by decide +kernel
theorem dX7_person_16 : decode cX7_person 16 = .ok (.getfield 28, 3) := by decide +kernel
theorem dX7_person_19 : decode cX7_person 19 = .ok (.getfield 119, 3) := by decide +kernel
theorem dX7_person_22 : decode cX7_person 22 = .ok (.istore_n 2, 1) := by decide +kernel
theorem dX7_person_23 : decode cX7_person 23 = .ok (.aload_n 0, 1) := by decide +kernel
theorem dX7_person_24 : decode cX7_person 24 = .ok (.getfield 28, 3) := by decide +kernel
theorem dX7_person_27 : decode cX7_person 27 = .ok (.iload_n 1, 1) := by decide +kernel
theorem dX7_person_28 : decode cX7_person 28 = .ok (.putfield 119, 3) := by decide +kernel
theorem dX7_person_31 : decode cX7_person 31 = .ok (.iload_n 2, 1) := by decide +kernel
theorem dX7_person_32 : decode cX7_person 32 = .ok (.ireturn, 1) := by decide +kernel
theorem dX7_point_0 : decode cX7_point 0 = .ok (.iload_n 1, 1) := by decide +kernel
theorem dX7_point_1 : decode cX7_point 1 = .ok (.invokestatic 141, 3) := by decide +kernel
theorem dX7_point_4 : decode cX7_point 4 = .ok (.ifCond .ne 5, 3) := by decide +kernel
theorem dX7_point_7 : decode cX7_point 7 = .ok (.iconst (-1), 1) := by decide +kernel
theorem dX7_point_8 : decode cX7_point 8 = .ok (.ireturn, 1) := by decide +kernel
theorem dX7_point_9 : decode cX7_point 9 = .ok (.aload_n 0, 1) := by decide +kernel
theorem dX7_point_10 : decode cX7_point 10 = .ok (.iload_n 1, 1) := by decide +kernel
theorem dX7_point_11 : decode cX7_point 11 = .ok (.invokevirtual 144, 3) := by decide +kernel
theorem dX7_point_14 : decode cX7_point 14 = .ok (.astore 5, 2) := by decide +kernel
theorem dX7_point_16 : decode cX7_point 16 = .ok (.iload_n 2, 1) := by decide +kernel
theorem dX7_point_17 : decode cX7_point 17 = .ok (.aload 5, 2) := by decide +kernel
theorem dX7_point_19 : decode cX7_point 19 = .ok (.invokevirtual 148, 3) := by decide +kernel
theorem dX7_point_22 : decode cX7_point 22 = .ok (.iconst 1, 1) := by decide +kernel
theorem dX7_point_23 : decode cX7_point 23 = .ok (.iadd, 1) := by decide +kernel
theorem dX7_point_24 : decode cX7_point 24 = .ok (.ldc 152, 2) := by decide +kernel
theorem dX7_point_26 : decode cX7_point 26 = .ok (.invokestatic 75, 3) := by decide +kernel
theorem dX7_point_29 : decode cX7_point 29 = .ok (.ifCond .ne 6, 3) := by decide +kernel
theorem dX7_point_32 : decode cX7_point 32 = .ok (.bipush (-2), 2) := by decide +kernel
theorem dX7_point_34 : decode cX7_point 34 = .ok (.ireturn, 1) := by decide +kernel
theorem dX7_point_35 : decode cX7_point 35 = .ok (.iload_n 3, 1) := by decide +kernel
theorem dX7_point_36 : decode cX7_point 36 = .ok (.invokestatic 79, 3) := by decide +kernel
theorem dX7_point_39 : decode cX7_point 39 = .ok (.ifCond .eq 17, 3) := by decide +kernel
theorem dX7_point_42 : decode cX7_point 42 = .ok (.iload 4, 2) := by decide +kernel
theorem dX7_point_44 : decode cX7_point 44 = .ok (.invokestatic 79, 3) := by decide +kernel
theorem dX7_point_47 : decode cX7_point 47 = .ok (.ifCond .eq 9, 3) := by decide +kernel
theorem dX7_point_50 : decode cX7_point 50 = .ok (.iload_n 3, 1) := by decide +kernel
theorem dX7_point_51 : decode cX7_point 51 = .ok (.iload 4, 2) := by decide +kernel
theorem dX7_point_53 : decode cX7_point 53 = .ok (.if_icmp .le 6, 3) := by decide +kernel
theorem dX7_point_56 : decode cX7_point 56 = .ok (.bipush (-2), 2) := by decide +kernel
theorem dX7_point_58 : decode cX7_point 58 = .ok (.ireturn, 1) := by decide +kernel
theorem dX7_point_59 : decode cX7_point 59 = .ok (.aload 5, 2) := by decide +kernel
theorem dX7_point_61 : decode cX7_point 61 = .ok (.iload_n 2, 1) := by decide +kernel
theorem dX7_point_62 : decode cX7_point 62 = .ok (.iload_n 3, 1) := by decide +kernel
theorem dX7_point_63 : decode cX7_point 63 = .ok (.iload 4, 2) := by decide +kernel
theorem dX7_point_65 : decode cX7_point 65 = .ok (.invokevirtual 153, 3) := by decide +kernel
theorem dX7_point_68 : decode cX7_point 68 = .ok (.ireturn, 1) := by decide +kernel
theorem dX7_pushed_0 : decode cX7_pushed 0 = .ok (.iload_n 1, 1) := by decide +kernel
theorem dX7_pushed_1 : decode cX7_pushed 1 = .ok (.ifCond .ne 13, 3) := by decide +kernel
theorem dX7_pushed_4 : decode cX7_pushed 4 = .ok (.aload_n 0, 1) := by decide +kernel
theorem dX7_pushed_5 : decode cX7_pushed 5 = .ok (.getfield 21, 3) := by decide +kernel
theorem dX7_pushed_8 : decode cX7_pushed 8 = .ok (.bipush 30, 2) := by decide +kernel
theorem dX7_pushed_10 : decode cX7_pushed 10 = .ok (.invokevirtual 231, 3) := by decide +kernel
theorem dX7_pushed_13 : decode cX7_pushed 13 = .ok (.ireturn, 1) := by decide +kernel
theorem dX7_pushed_14 : decode cX7_pushed 14 = .ok (.iload_n 1, 1) := by decide +kernel
theorem dX7_pushed_15 : decode cX7_pushed 15 = .ok (.invokestatic 107, 3) := by decide +kernel
theorem dX7_pushed_18 : decode cX7_pushed 18 = .ok (.ifCond .eq 16, 3) := by decide +kernel
theorem dX7_pushed_21 : decode cX7_pushed 21 = .ok (.aload_n 0, 1) := by decide +kernel
theorem dX7_pushed_22 : decode cX7_pushed 22 = .ok (.getfield 21, 3) := by decide +kernel
theorem dX7_pushed_25 : decode cX7_pushed 25 = .ok (.iconst 1, 1) := by decide +kernel
theorem dX7_pushed_26 : decode cX7_pushed 26 = .ok (.iload_n 1, 1) := by decide +kernel
theorem dX7_pushed_27 : decode cX7_pushed 27 = .ok (.ishl, 1) := by decide +kernel
theorem dX7_pushed_28 : decode cX7_pushed 28 = .ok (.invokevirtual 231, 3) := by decide +kernel
theorem dX7_pushed_31 : decode cX7_pushed 31 = .ok (.goto 4, 3) := by decide +kernel
theorem dX7_pushed_34 : decode cX7_pushed 34 = .ok (.iconst (-1), 1) := by decide +kernel
theorem dX7_pushed_35 : decode cX7_pushed 35 = .ok (.ireturn, 1) := by decide +kernel
theorem dX7_row_0 : decode cX7_row 0 = .ok (.iload_n 1, 1) := by decide +kernel
theorem dX7_row_1 : decode cX7_row 1 = .ok (.invokestatic 79, 3) := by decide +kernel
theorem dX7_row_4 : decode cX7_row 4 = .ok (.ifCond .eq 13, 3) := by decide +kernel
theorem dX7_row_7 : decode cX7_row 7 = .ok (.iload_n 2, 1) := by decide +kernel
theorem dX7_row_8 : decode cX7_row 8 = .ok (.iconst 1, 1) := by decide +kernel
theorem dX7_row_9 : decode cX7_row 9 = .ok (.bipush 8, 2) := by decide +kernel
theorem dX7_row_11 : decode cX7_row 11 = .ok (.invokestatic 75, 3) := by decide +kernel
theorem dX7_row_14 : decode cX7_row 14 = .ok (.ifCond .ne 6, 3) := by decide +kernel
theorem dX7_row_17 : decode cX7_row 17 = .ok (.bipush (-2), 2) := by decide +kernel
theorem dX7_row_19 : decode cX7_row 19 = .ok (.ireturn, 1) := by decide +kernel
theorem dX7_row_20 : decode cX7_row 20 = .ok (.aload_n 0, 1) := by decide +kernel
theorem dX7_row_21 : decode cX7_row 21 = .ok (.getfield 28, 3) := by decide +kernel
theorem dX7_row_24 : decode cX7_row 24 = .ok (.iload_n 1, 1) := by decide +kernel
theorem dX7_row_25 : decode cX7_row 25 = .ok (.iload_n 2, 1) := by decide +kernel
theorem dX7_row_26 : decode cX7_row 26 = .ok (.invokevirtual 113, 3) := by decide +kernel
theorem dX7_row_29 : decode cX7_row 29 = .ok (.ireturn, 1) := by decide +kernel
theorem dX7_safe_0 : decode cX7_safe 0 = .ok (.iload_n 1, 1) := by decide +kernel
theorem dX7_safe_1 : decode cX7_safe 1 = .ok (.ifCond .ge 6, 3) := by decide +kernel
theorem dX7_safe_4 : decode cX7_safe 4 = .ok (.bipush (-2), 2) := by decide +kernel
theorem dX7_safe_6 : decode cX7_safe 6 = .ok (.ireturn, 1) := by decide +kernel
theorem dX7_safe_7 : decode cX7_safe 7 = .ok (.aload_n 0, 1) := by decide +kernel
theorem dX7_safe_8 : decode cX7_safe 8 = .ok (.getfield 42, 3) := by decide +kernel
theorem dX7_safe_11 : decode cX7_safe 11 = .ok (.getfield 156, 3) := by decide +kernel
theorem dX7_safe_14 : decode cX7_safe 14 = .ok (.ifCond .eq 13, 3) := by decide +kernel
theorem dX7_safe_17 : decode cX7_safe 17 = .ok (.aload_n 0, 1) := by decide +kernel
theorem dX7_safe_18 : decode cX7_safe 18 = .ok (.getfield 46, 3) := by decide +kernel
theorem dX7_safe_21 : decode cX7_safe 21 = .ok (.getfield 156, 3) := by decide +kernel
theorem dX7_safe_24 : decode cX7_safe 24 = .ok (.ifCond .ne 6, 3) := by decide +kernel
theorem dX7_safe_27 : decode cX7_safe 27 = .ok (.bipush (-3), 2) := by decide +kernel
theorem dX7_safe_29 : decode cX7_safe 29 = .ok (.ireturn, 1) := by decide +kernel
theorem dX7_safe_30 : decode cX7_safe 30 = .ok (.aload_n 0, 1) := by decide +kernel
theorem dX7_safe_31 : decode cX7_safe 31 = .ok (.getfield 42, 3) := by decide +kernel
theorem dX7_safe_34 : decode cX7_safe 34 = .ok (.aload_n 0, 1) := by decide +kernel
theorem dX7_safe_35 : decode cX7_safe 35 = .ok (.invokevirtual 201, 3) := by decide +kernel
theorem dX7_safe_38 : decode cX7_safe 38 = .ok (.aload_n 0, 1) := by decide +kernel
theorem dX7_safe_39 : decode cX7_safe 39 = .ok (.invokevirtual 207, 3) := by decide +kernel
theorem dX7_safe_42 : decode cX7_safe 42 = .ok (.invokevirtual 223, 3) := by decide +kernel
theorem dX7_safe_45 : decode cX7_safe 45 = .ok (.ifCond .eq 5, 3) := by decide +kernel
theorem dX7_safe_48 : decode cX7_safe 48 = .ok (.iconst 0, 1) := by decide +kernel
theorem dX7_safe_49 : decode cX7_safe 49 = .ok (.ireturn, 1) := by decide +kernel
theorem dX7_safe_50 : decode cX7_safe 50 = .ok (.aload_n 0, 1) := by decide +kernel
theorem dX7_safe_51 : decode cX7_safe 51 = .ok (.getfield 54, 3) := by decide +kernel
theorem dX7_safe_54 : decode cX7_safe 54 = .ok (.aload_n 0, 1) := by decide +kernel
theorem dX7_safe_55 : decode cX7_safe 55 = .ok (.invokevirtual 201, 3) := by decide +kernel
theorem dX7_safe_58 : decode cX7_safe 58 = .ok (.aload_n 0, 1) := by decide +kernel
theorem dX7_safe_59 : decode cX7_safe 59 = .ok (.invokevirtual 207, 3) := by decide +kernel
theorem dX7_safe_62 : decode cX7_safe 62 = .ok (.iload_n 1, 1) := by decide +kernel
theorem dX7_safe_63 : decode cX7_safe 63 = .ok (.invokevirtual 227, 3) := by decide +kernel
theorem dX7_safe_66 : decode cX7_safe 66 = .ok (.iconst (-1), 1) := by decide +kernel
theorem dX7_safe_67 : decode cX7_safe 67 = .ok (.if_icmp .ne 7, 3) := by decide +kernel
theorem dX7_safe_70 : decode cX7_safe 70 = .ok (.iconst 1, 1) := by decide +kernel
theorem dX7_safe_71 : decode cX7_safe 71 = .ok (.goto 4, 3) := by decide +kernel
theorem dX7_safe_74 : decode cX7_safe 74 = .ok (.iconst 0, 1) := by decide +kernel
theorem dX7_safe_75 : decode cX7_safe 75 = .ok (.ireturn, 1) := by decide +kernel
theorem dX7_seat_0 : decode cX7_seat 0 = .ok (.iload_n 1, 1) := by decide +kernel
theorem dX7_seat_1 : decode cX7_seat 1 = .ok (.iconst 0, 1) := by decide +kernel
theorem dX7_seat_2 : decode cX7_seat 2 = .ok (.aload_n 0, 1) := by decide +kernel
theorem dX7_seat_3 : decode cX7_seat 3 = .ok (.getfield 28, 3) := by decide +kernel
theorem dX7_seat_6 : decode cX7_seat 6 = .ok (.getfield 122, 3) := by decide +kernel
theorem dX7_seat_9 : decode cX7_seat 9 = .ok (.iconst 1, 1) := by decide +kernel
theorem dX7_seat_10 : decode cX7_seat 10 = .ok (.isub, 1) := by decide +kernel
theorem dX7_seat_11 : decode cX7_seat 11 = .ok (.invokestatic 75, 3) := by decide +kernel
theorem dX7_seat_14 : decode cX7_seat 14 = .ok (.ifCond .ne 5, 3) := by decide +kernel
theorem dX7_seat_17 : decode cX7_seat 17 = .ok (.iconst (-1), 1) := by decide +kernel
theorem dX7_seat_18 : decode cX7_seat 18 = .ok (.ireturn, 1) := by decide +kernel
theorem dX7_seat_19 : decode cX7_seat 19 = .ok (.iload_n 2, 1) := by decide +kernel
theorem dX7_seat_20 : decode cX7_seat 20 = .ok (.iconst 0, 1) := by decide +kernel
theorem dX7_seat_21 : decode cX7_seat 21 = .ok (.aload_n 0, 1) := by decide +kernel
theorem dX7_seat_22 : decode cX7_seat 22 = .ok (.getfield 28, 3) := by decide +kernel
theorem dX7_seat_25 : decode cX7_seat 25 = .ok (.getfield 125, 3) := by decide +kernel
theorem dX7_seat_28 : decode cX7_seat 28 = .ok (.iload_n 1, 1) := by decide +kernel
theorem dX7_seat_29 : decode cX7_seat 29 = .ok (.iaload, 1) := by decide +kernel
theorem dX7_seat_30 : decode cX7_seat 30 = .ok (.invokestatic 75, 3) := by decide +kernel
theorem dX7_seat_33 : decode cX7_seat 33 = .ok (.ifCond .ne 6, 3) := by decide +kernel
theorem dX7_seat_36 : decode cX7_seat 36 = .ok (.bipush (-2), 2) := by decide +kernel
theorem dX7_seat_38 : decode cX7_seat 38 = .ok (.ireturn, 1) := by decide +kernel
theorem dX7_seat_39 : decode cX7_seat 39 = .ok (.aload_n 0, 1) := by decide +kernel
theorem dX7_seat_40 : decode cX7_seat 40 = .ok (.getfield 28, 3) := by decide +kernel
theorem dX7_seat_43 : decode cX7_seat 43 = .ok (.getfield 129, 3) := by decide +kernel
theorem dX7_seat_46 : decode cX7_seat 46 = .ok (.iload_n 1, 1) := by decide +kernel
theorem dX7_seat_47 : decode cX7_seat 47 = .ok (.iaload, 1) := by decide +kernel
theorem dX7_seat_48 : decode cX7_seat 48 = .ok (.istore_n 3, 1) := by decide +kernel
theorem dX7_seat_49 : decode cX7_seat 49 = .ok (.aload_n 0, 1) := by decide +kernel
theorem dX7_seat_50 : decode cX7_seat 50 = .ok (.getfield 28, 3) := by decide +kernel
theorem dX7_seat_53 : decode cX7_seat 53 = .ok (.getfield 129, 3) := by decide +kernel
theorem dX7_seat_56 : decode cX7_seat 56 = .ok (.iload_n 1, 1) := by decide +kernel
theorem dX7_seat_57 : decode cX7_seat 57 = .ok (.iload_n 2, 1) := by decide +kernel
theorem dX7_seat_58 : decode cX7_seat 58 = .ok (.iastore, 1) := by decide +kernel
theorem dX7_seat_59 : decode cX7_seat 59 = .ok (.iload_n 3, 1) := by decide +kernel
theorem dX7_seat_60 : decode cX7_seat 60 = .ok (.ireturn, 1) := by decide +kernel
theorem dX7_slot_0 : decode cX7_slot 0 = .ok (.aload_n 0, 1) := by decide +kernel
theorem dX7_slot_1 : decode cX7_slot 1 = .ok (.getfield 21, 3) := by decide +kernel
theorem dX7_slot_4 : decode cX7_slot 4 = .ok (.iload_n 1, 1) := by decide +kernel
theorem dX7_slot_5 : decode cX7_slot 5 = .ok (.invokevirtual 90, 3) := by decide +kernel
theorem dX7_slot_8 : decode cX7_slot 8 = .ok (.ifCond .ne 5, 3) := by decide +kernel
theorem dX7_slot_11 : decode cX7_slot 11 = .ok (.iconst (-1), 1) := by decide +kernel
theorem dX7_slot_12 : decode cX7_slot 12 = .ok (.ireturn, 1) := by decide +kernel
theorem dX7_slot_13 : decode cX7_slot 13 = .ok (.iload_n 2, 1) := by decide +kernel
theorem dX7_slot_14 : decode cX7_slot 14 = .ok (.invokestatic 79, 3) := by decide +kernel
theorem dX7_slot_17 : decode cX7_slot 17 = .ok (.ifCond .eq 22, 3) := by decide +kernel
theorem dX7_slot_20 : decode cX7_slot 20 = .ok (.iload_n 2, 1) := by decide +kernel
theorem dX7_slot_21 : decode cX7_slot 21 = .ok (.aload_n 0, 1) := by decide +kernel
theorem dX7_slot_22 : decode cX7_slot 22 = .ok (.getfield 21, 3) := by decide +kernel
theorem dX7_slot_25 : decode cX7_slot 25 = .ok (.iload_n 1, 1) := by decide +kernel
theorem dX7_slot_26 : decode cX7_slot 26 = .ok (.invokevirtual 93, 3) := by decide +kernel
theorem dX7_slot_29 : decode cX7_slot 29 = .ok (.if_icmp .le 10, 3) := by decide +kernel
theorem dX7_slot_32 : decode cX7_slot 32 = .ok (.iload_n 3, 1) := by decide +kernel
theorem dX7_slot_33 : decode cX7_slot 33 = .ok (.invokestatic 83, 3) := by decide +kernel
theorem dX7_slot_36 : decode cX7_slot 36 = .ok (.ifCond .ne 6, 3) := by decide +kernel
theorem dX7_slot_39 : decode cX7_slot 39 = .ok (.bipush (-2), 2) := by decide +kernel
theorem dX7_slot_41 : decode cX7_slot 41 = .ok (.ireturn, 1) := by decide +kernel
theorem dX7_slot_42 : decode cX7_slot 42 = .ok (.aload_n 0, 1) := by decide +kernel
theorem dX7_slot_43 : decode cX7_slot 43 = .ok (.getfield 21, 3) := by decide +kernel
theorem dX7_slot_46 : decode cX7_slot 46 = .ok (.iload_n 1, 1) := by decide +kernel
theorem dX7_slot_47 : decode cX7_slot 47 = .ok (.iload_n 2, 1) := by decide +kernel
theorem dX7_slot_48 : decode cX7_slot 48 = .ok (.iload_n 3, 1) := by decide +kernel
theorem dX7_slot_49 : decode cX7_slot 49 = .ok (.invokevirtual 97, 3) := by decide +kernel
theorem dX7_slot_52 : decode cX7_slot 52 = .ok (.ireturn, 1) := by decide +kernel
theorem dX7_tank_0 : decode cX7_tank 0 = .ok (.iload_n 1, 1) := by decide +kernel
theorem dX7_tank_1 : decode cX7_tank 1 = .ok (.invokestatic 79, 3) := by decide +kernel
theorem dX7_tank_4 : decode cX7_tank 4 = .ok (.ifCond .eq 10, 3) := by decide +kernel
theorem dX7_tank_7 : decode cX7_tank 7 = .ok (.iload_n 2, 1) := by decide +kernel
theorem dX7_tank_8 : decode cX7_tank 8 = .ok (.invokestatic 83, 3) := by decide +kernel
theorem dX7_tank_11 : decode cX7_tank 11 = .ok (.ifCond .ne 6, 3) := by decide +kernel
theorem dX7_tank_14 : decode cX7_tank 14 = .ok (.bipush (-2), 2) := by decide +kernel
theorem dX7_tank_16 : decode cX7_tank 16 = .ok (.ireturn, 1) := by decide +kernel
theorem dX7_tank_17 : decode cX7_tank 17 = .ok (.aload_n 0, 1) := by decide +kernel
theorem dX7_tank_18 : decode cX7_tank 18 = .ok (.getfield 35, 3) := by decide +kernel
theorem dX7_tank_21 : decode cX7_tank 21 = .ok (.iload_n 1, 1) := by decide +kernel
theorem dX7_tank_22 : decode cX7_tank 22 = .ok (.iload_n 2, 1) := by decide +kernel
theorem dX7_tank_23 : decode cX7_tank 23 = .ok (.invokevirtual 116, 3) := by decide +kernel
theorem dX7_tank_26 : decode cX7_tank 26 = .ok (.ireturn, 1) := by decide +kernel
theorem dX7_unload_0 : decode cX7_unload 0 = .ok (.aload_n 0, 1) := by decide +kernel
theorem dX7_unload_1 : decode cX7_unload 1 = .ok (.getfield 21, 3) := by decide +kernel
theorem dX7_unload_4 : decode cX7_unload 4 = .ok (.iload_n 1, 1) := by decide +kernel
theorem dX7_unload_5 : decode cX7_unload 5 = .ok (.invokevirtual 159, 3) := by decide +kernel
theorem dX7_unload_8 : decode cX7_unload 8 = .ok (.ifCond .ne 5, 3) := by decide +kernel
theorem dX7_unload_11 : decode cX7_unload 11 = .ok (.iconst (-1), 1) := by decide +kernel
theorem dX7_unload_12 : decode cX7_unload 12 = .ok (.ireturn, 1) := by decide +kernel
theorem dX7_unload_13 : decode cX7_unload 13 = .ok (.aload_n 0, 1) := by decide +kernel
theorem dX7_unload_14 : decode cX7_unload 14 = .ok (.getfield 21, 3) := by decide +kernel
theorem dX7_unload_17 : decode cX7_unload 17 = .ok (.iload_n 1, 1) := by decide +kernel
theorem dX7_unload_18 : decode cX7_unload 18 = .ok (.invokevirtual 166, 3) := by decide +kernel
theorem dX7_unload_21 : decode cX7_unload 21 = .ok (.ifCond .ne 6, 3) := by decide +kernel
theorem dX7_unload_24 : decode cX7_unload 24 = .ok (.bipush (-3), 2) := by decide +kernel
theorem dX7_unload_26 : decode cX7_unload 26 = .ok (.ireturn, 1) := by decide +kernel
theorem dX7_unload_27 : decode cX7_unload 27 = .ok (.aload_n 0, 1) := by decide +kernel
theorem dX7_unload_28 : decode cX7_unload 28 = .ok (.getfield 21, 3) := by decide +kernel
theorem dX7_unload_31 : decode cX7_unload 31 = .ok (.iload_n 1, 1) := by decide +kernel
theorem dX7_unload_32 : decode cX7_unload 32 = .ok (.invokevirtual 182, 3) := by decide +kernel
theorem dX7_unload_35 : decode cX7_unload 35 = .ok (.iconst 0, 1) := by decide +kernel
theorem dX7_unload_36 : decode cX7_unload 36 = .ok (.ireturn, 1) := by decide +kernel
theorem dX7_weight_0 : decode cX7_weight 0 = .ok (.iload_n 1, 1) := by decide +kernel
theorem dX7_weight_1 : decode cX7_weight 1 = .ok (.tableswitch 53 0 2 #[27, 32, 45], 27) := by decide +kernel
theorem dX7_weight_28 : decode cX7_weight 28 = .ok (.aload_n 0, 1) := by decide +kernel
theorem dX7_weight_29 : decode cX7_weight 29 = .ok (.invokevirtual 201, 3) := by decide +kernel
theorem dX7_weight_32 : decode cX7_weight 32 = .ok (.ireturn, 1) := by decide +kernel
theorem dX7_weight_33 : decode cX7_weight 33 = .ok (.aload_n 0, 1) := by decide +kernel
theorem dX7_weight_34 : decode cX7_weight 34 = .ok (.invokevirtual 201, 3) := by decide +kernel
theorem dX7_weight_37 : decode cX7_weight 37 = .ok (.aload_n 0, 1) := by decide +kernel
theorem dX7_weight_38 : decode cX7_weight 38 = .ok (.getfield 35, 3) := by decide +kernel
theorem dX7_weight_41 : decode cX7_weight 41 = .ok (.invokevirtual 204, 3) := by decide +kernel
theorem dX7_weight_44 : decode cX7_weight 44 = .ok (.iadd, 1) := by decide +kernel
theorem dX7_weight_45 : decode cX7_weight 45 = .ok (.ireturn, 1) := by decide +kernel
theorem dX7_weight_46 : decode cX7_weight 46 = .ok (.aload_n 0, 1) := by decide +kernel
theorem dX7_weight_47 : decode cX7_weight 47 = .ok (.getfield 35, 3) := by decide +kernel
theorem dX7_weight_50 : decode cX7_weight 50 = .ok (.invokevirtual 204, 3) := by decide +kernel
theorem dX7_weight_53 : decode cX7_weight 53 = .ok (.ireturn, 1) := by decide +kernel
theorem dX7_weight_54 : decode cX7_weight 54 = .ok (.iconst (-1), 1) := by decide +kernel
theorem dX7_weight_55 : decode cX7_weight 55 = .ok (.ireturn, 1) := by decide +kernel
theorem dX7_where_0 : decode cX7_where 0 = .ok (.aload_n 0, 1) := by decide +kernel
theorem dX7_where_1 : decode cX7_where 1 = .ok (.getfield 21, 3) := by decide +kernel
theorem dX7_where_4 : decode cX7_where 4 = .ok (.iload_n 1, 1) := by decide +kernel
theorem dX7_where_5 : decode cX7_where 5 = .ok (.invokevirtual 159, 3) := by decide +kernel
theorem dX7_where_8 : decode cX7_where 8 = .ok (.ifCond .eq 15, 3) := by decide +kernel
theorem dX7_where_11 : decode cX7_where 11 = .ok (.aload_n 0, 1) := by decide +kernel
theorem dX7_where_12 : decode cX7_where 12 = .ok (.getfield 21, 3) := by decide +kernel
theorem dX7_where_15 : decode cX7_where 15 = .ok (.getfield 186, 3) := by decide +kernel
theorem dX7_where_18 : decode cX7_where 18 = .ok (.iload_n 1, 1) := by decide +kernel
theorem dX7_where_19 : decode cX7_where 19 = .ok (.iaload, 1) := by decide +kernel
theorem dX7_where_20 : decode cX7_where 20 = .ok (.goto 4, 3) := by decide +kernel
theorem dX7_where_23 : decode cX7_where 23 = .ok (.iconst (-1), 1) := by decide +kernel
theorem dX7_where_24 : decode cX7_where 24 = .ok (.ireturn, 1) := by decide +kernel
theorem dX7_wipe_0 : decode cX7_wipe 0 = .ok (.iload_n 1, 1) := by decide +kernel
theorem dX7_wipe_1 : decode cX7_wipe 1 = .ok (.invokestatic 141, 3) := by decide +kernel
theorem dX7_wipe_4 : decode cX7_wipe 4 = .ok (.ifCond .ne 5, 3) := by decide +kernel
theorem dX7_wipe_7 : decode cX7_wipe 7 = .ok (.iconst (-1), 1) := by decide +kernel
theorem dX7_wipe_8 : decode cX7_wipe 8 = .ok (.ireturn, 1) := by decide +kernel
theorem dX7_wipe_9 : decode cX7_wipe 9 = .ok (.aload_n 0, 1) := by decide +kernel
theorem dX7_wipe_10 : decode cX7_wipe 10 = .ok (.iload_n 1, 1) := by decide +kernel
theorem dX7_wipe_11 : decode cX7_wipe 11 = .ok (.invokevirtual 144, 3) := by decide +kernel
theorem dX7_wipe_14 : decode cX7_wipe 14 = .ok (.astore_n 2, 1) := by decide +kernel
theorem dX7_wipe_15 : decode cX7_wipe 15 = .ok (.aload_n 2, 1) := by decide +kernel
theorem dX7_wipe_16 : decode cX7_wipe 16 = .ok (.getfield 156, 3) := by decide +kernel
theorem dX7_wipe_19 : decode cX7_wipe 19 = .ok (.istore_n 3, 1) := by decide +kernel
theorem dX7_wipe_20 : decode cX7_wipe 20 = .ok (.aload_n 2, 1) := by decide +kernel
theorem dX7_wipe_21 : decode cX7_wipe 21 = .ok (.iconst 0, 1) := by decide +kernel
theorem dX7_wipe_22 : decode cX7_wipe 22 = .ok (.putfield 156, 3) := by decide +kernel
theorem dX7_wipe_25 : decode cX7_wipe 25 = .ok (.iload_n 3, 1) := by decide +kernel
theorem dX7_wipe_26 : decode cX7_wipe 26 = .ok (.ireturn, 1) := by decide +kernel
theorem dX7_within_0 : decode cX7_within 0 = .ok (.iload_n 1, 1) := by decide +kernel
theorem dX7_within_1 : decode cX7_within 1 = .ok (.invokestatic 141, 3) := by decide +kernel
theorem dX7_within_4 : decode cX7_within 4 = .ok (.ifCond .ne 5, 3) := by decide +kernel
theorem dX7_within_7 : decode cX7_within 7 = .ok (.iconst (-1), 1) := by decide +kernel
theorem dX7_within_8 : decode cX7_within 8 = .ok (.ireturn, 1) := by decide +kernel
theorem dX7_within_9 : decode cX7_within 9 = .ok (.aload_n 0, 1) := by decide +kernel
theorem dX7_within_10 : decode cX7_within 10 = .ok (.iload_n 1, 1) := by decide +kernel
theorem dX7_within_11 : decode cX7_within 11 = .ok (.invokevirtual 144, 3) := by decide +kernel
theorem dX7_within_14 : decode cX7_within 14 = .ok (.astore_n 2, 1) := by decide +kernel
theorem dX7_within_15 : decode cX7_within 15 = .ok (.aload_n 2, 1) := by decide +kernel
theorem dX7_within_16 : decode cX7_within 16 = .ok (.getfield 156, 3) := by decide +kernel
theorem dX7_within_19 : decode cX7_within 19 = .ok (.ifCond .ne 6, 3) := by decide +kernel
theorem dX7_within_22 : decode cX7_within 22 = .ok (.bipush (-3), 2) := by decide +kernel
theorem dX7_within_24 : decode cX7_within 24 = .ok (.ireturn, 1) := by decide +kernel
theorem dX7_within_25 : decode cX7_within 25 = .ok (.aload_n 2, 1) := by decide +kernel
theorem dX7_within_26 : decode cX7_within 26 = .ok (.aload_n 0, 1) := by decide +kernel
theorem dX7_within_27 : decode cX7_within 27 = .ok (.iload_n 1, 1) := by decide +kernel
theorem dX7_within_28 : decode cX7_within 28 = .ok (.invokevirtual 217, 3) := by decide +kernel
theorem dX7_within_31 : decode cX7_within 31 = .ok (.aload_n 0, 1) := by decide +kernel
theorem dX7_within_32 : decode cX7_within 32 = .ok (.iload_n 1, 1) := by decide +kernel
theorem dX7_within_33 : decode cX7_within 33 = .ok (.invokevirtual 220, 3) := by decide +kernel
theorem dX7_within_36 : decode cX7_within 36 = .ok (.invokevirtual 223, 3) := by decide +kernel
theorem dX7_within_39 : decode cX7_within 39 = .ok (.ireturn, 1) := by decide +kernel
theorem dX7_wrong_0 : decode cX7_wrong 0 = .ok (.iload_n 1, 1) := by decide +kernel
theorem dX7_wrong_1 : decode cX7_wrong 1 = .ok (.ifCond .ge 6, 3) := by decide +kernel
theorem dX7_wrong_4 : decode cX7_wrong 4 = .ok (.bipush (-2), 2) := by decide +kernel
theorem dX7_wrong_6 : decode cX7_wrong 6 = .ok (.ireturn, 1) := by decide +kernel
theorem dX7_wrong_7 : decode cX7_wrong 7 = .ok (.aload_n 0, 1) := by decide +kernel
theorem dX7_wrong_8 : decode cX7_wrong 8 = .ok (.getfield 46, 3) := by decide +kernel
theorem dX7_wrong_11 : decode cX7_wrong 11 = .ok (.getfield 156, 3) := by decide +kernel
theorem dX7_wrong_14 : decode cX7_wrong 14 = .ok (.ifCond .ne 6, 3) := by decide +kernel
theorem dX7_wrong_17 : decode cX7_wrong 17 = .ok (.bipush (-3), 2) := by decide +kernel
theorem dX7_wrong_19 : decode cX7_wrong 19 = .ok (.ireturn, 1) := by decide +kernel
theorem dX7_wrong_20 : decode cX7_wrong 20 = .ok (.aload_n 0, 1) := by decide +kernel
theorem dX7_wrong_21 : decode cX7_wrong 21 = .ok (.getfield 54, 3) := by decide +kernel
theorem dX7_wrong_24 : decode cX7_wrong 24 = .ok (.aload_n 0, 1) := by decide +kernel
theorem dX7_wrong_25 : decode cX7_wrong 25 = .ok (.invokevirtual 201, 3) := by decide +kernel
theorem dX7_wrong_28 : decode cX7_wrong 28 = .ok (.aload_n 0, 1) := by decide +kernel
theorem dX7_wrong_29 : decode cX7_wrong 29 = .ok (.invokevirtual 207, 3) := by decide +kernel
theorem dX7_wrong_32 : decode cX7_wrong 32 = .ok (.iload_n 1, 1) := by decide +kernel
theorem dX7_wrong_33 : decode cX7_wrong 33 = .ok (.invokevirtual 227, 3) := by decide +kernel
theorem dX7_wrong_36 : decode cX7_wrong 36 = .ok (.ireturn, 1) := by decide +kernel
theorem dX8_about_0 : decode cX8_about 0 = .ok (.aload_n 0, 1) := by decide +kernel
theorem dX8_about_1 : decode cX8_about 1 = .ok (.iload_n 1, 1) := by decide +kernel
theorem dX8_about_2 : decode cX8_about 2 = .ok (.invokevirtual 102, 3) := by decide +kernel
theorem dX8_about_5 : decode cX8_about 5 = .ok (.ifCond .ne 5, 3) := by decide +kernel
theorem dX8_about_8 : decode cX8_about 8 = .ok (.iconst (-1), 1) := by decide +kernel
theorem dX8_about_9 : decode cX8_about 9 = .ok (.ireturn, 1) := by decide +kernel
theorem dX8_about_10 : decode cX8_about 10 = .ok (.iconst 0, 1) := by decide +kernel
theorem dX8_about_11 : decode cX8_about 11 = .ok (.istore_n 3, 1) := by decide +kernel
theorem dX8_about_12 : decode cX8_about 12 = .ok (.iload_n 2, 1) := by decide +kernel
theorem dX8_about_13 : decode cX8_about 13 = .ok (.tableswitch 143 0 2 #[27, 33, 79], 27) := by decide +kernel
theorem dX8_about_40 : decode cX8_about 40 = .ok (.aload_n 0, 1) := by decide +kernel
theorem dX8_about_41 : decode cX8_about 41 = .ok (.iload_n 1, 1) := by decide +kernel
theorem dX8_about_42 : decode cX8_about 42 = .ok (.invokevirtual 127, 3) := by decide +kernel
theorem dX8_about_45 : decode cX8_about 45 = .ok (.ireturn, 1) := by decide +kernel
theorem dX8_about_46 : decode cX8_about 46 = .ok (.iconst 0, 1) := by decide +kernel
theorem dX8_about_47 : decode cX8_about 47 = .ok (.istore 4, 2) := by decide +kernel
theorem dX8_about_49 : decode cX8_about 49 = .ok (.iload 4, 2) := by decide +kernel
theorem dX8_about_51 : decode cX8_about 51 = .ok (.aload_n 0, 1) := by decide +kernel
theorem dX8_about_52 : decode cX8_about 52 = .ok (.getfield 25, 3) := by decide +kernel
theorem dX8_about_55 : decode cX8_about 55 = .ok (.iload_n 1, 1) := by decide +kernel
theorem dX8_about_56 : decode cX8_about 56 = .ok (.iaload, 1) := by decide +kernel
theorem dX8_about_57 : decode cX8_about 57 = .ok (.if_icmp .ge 33, 3) := by decide +kernel
theorem dX8_about_60 : decode cX8_about 60 = .ok (.iload_n 3, 1) := by decide +kernel
theorem dX8_about_61 : decode cX8_about 61 = .ok (.aload_n 0, 1) := by decide +kernel
theorem dX8_about_62 : decode cX8_about 62 = .ok (.getfield 34, 3) := by decide +kernel
theorem dX8_about_65 : decode cX8_about 65 = .ok (.bipush 8, 2) := by decide +kernel
theorem dX8_about_67 : decode cX8_about 67 = .ok (.iload_n 1, 1) := by decide +kernel
theorem dX8_about_68 : decode cX8_about 68 = .ok (.imul, 1) := by decide +kernel
theorem dX8_about_69 : decode cX8_about 69 = .ok (.iload 4, 2) := by decide +kernel
theorem dX8_about_71 : decode cX8_about 71 = .ok (.iadd, 1) := by decide +kernel
theorem dX8_about_72 : decode cX8_about 72 = .ok (.iaload, 1) := by decide +kernel
theorem dX8_about_73 : decode cX8_about 73 = .ok (.iconst (-1), 1) := by decide +kernel
theorem dX8_about_74 : decode cX8_about 74 = .ok (.if_icmp .ne 7, 3) := by decide +kernel
theorem dX8_about_77 : decode cX8_about 77 = .ok (.iconst 0, 1) := by decide +kernel
theorem dX8_about_78 : decode cX8_about 78 = .ok (.goto 4, 3) := by decide +kernel
theorem dX8_about_81 : decode cX8_about 81 = .ok (.iconst 1, 1) := by decide +kernel
theorem dX8_about_82 : decode cX8_about 82 = .ok (.iadd, 1) := by decide +kernel
theorem dX8_about_83 : decode cX8_about 83 = .ok (.istore_n 3, 1) := by decide +kernel
theorem dX8_about_84 : decode cX8_about 84 = .ok (.iinc 4 1, 3) := by decide +kernel
theorem dX8_about_87 : decode cX8_about 87 = .ok (.goto (-38), 3) := by decide +kernel
theorem dX8_about_90 : decode cX8_about 90 = .ok (.iload_n 3, 1) := by decide +kernel
theorem dX8_about_91 : decode cX8_about 91 = .ok (.ireturn, 1) := by decide +kernel
theorem dX8_about_92 : decode cX8_about 92 = .ok (.iconst 0, 1) := by decide +kernel
theorem dX8_about_93 : decode cX8_about 93 = .ok (.istore 4, 2) := by decide +kernel
theorem dX8_about_95 : decode cX8_about 95 = .ok (.iload 4, 2) := by decide +kernel
theorem dX8_about_97 : decode cX8_about 97 = .ok (.iconst 1, 1) := by decide +kernel
theorem dX8_about_98 : decode cX8_about 98 = .ok (.iadd, 1) := by decide +kernel
theorem dX8_about_99 : decode cX8_about 99 = .ok (.aload_n 0, 1) := by decide +kernel
theorem dX8_about_100 : decode cX8_about 100 = .ok (.getfield 25, 3) := by decide +kernel
theorem dX8_about_103 : decode cX8_about 103 = .ok (.iload_n 1, 1) := by decide +kernel
theorem dX8_about_104 : decode cX8_about 104 = .ok (.iaload, 1) := by decide +kernel
theorem dX8_about_105 : decode cX8_about 105 = .ok (.if_icmp .ge 49, 3) := by decide +kernel
theorem dX8_about_108 : decode cX8_about 108 = .ok (.aload_n 0, 1) := by decide +kernel
theorem dX8_about_109 : decode cX8_about 109 = .ok (.bipush 8, 2) := by decide +kernel
theorem dX8_about_111 : decode cX8_about 111 = .ok (.iload_n 1, 1) := by decide +kernel
theorem dX8_about_112 : decode cX8_about 112 = .ok (.imul, 1) := by decide +kernel
theorem dX8_about_113 : decode cX8_about 113 = .ok (.iload 4, 2) := by decide +kernel
theorem dX8_about_115 : decode cX8_about 115 = .ok (.iadd, 1) := by decide +kernel
theorem dX8_about_116 : decode cX8_about 116 = .ok (.invokevirtual 123, 3) := by decide +kernel
theorem dX8_about_119 : decode cX8_about 119 = .ok (.aload_n 0, 1) := by decide +kernel
theorem dX8_about_120 : decode cX8_about 120 = .ok (.bipush 8, 2) := by decide +kernel
theorem dX8_about_122 : decode cX8_about 122 = .ok (.iload_n 1, 1) := by decide +kernel
theorem dX8_about_123 : decode cX8_about 123 = .ok (.imul, 1) := by decide +kernel
theorem dX8_about_124 : decode cX8_about 124 = .ok (.iload 4, 2) := by decide +kernel
theorem dX8_about_126 : decode cX8_about 126 = .ok (.iadd, 1) := by decide +kernel
theorem dX8_about_127 : decode cX8_about 127 = .ok (.iconst 1, 1) := by decide +kernel
