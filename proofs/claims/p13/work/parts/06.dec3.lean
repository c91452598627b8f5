theorem dX3_spans_18 : decode cX3_spans 18 = .ok (.iconst 1, 1) := by decide +kernel
theorem dX3_spans_19 : decode cX3_spans 19 = .ok (.goto 4, 3) := by decide +kernel
theorem dX3_spans_22 : decode cX3_spans 22 = .ok (.iconst 0, 1) := by decide +kernel
theorem dX3_spans_23 : decode cX3_spans 23 = .ok (.ireturn, 1) := by decide +kernel
theorem dX4_gather_0 : decode cX4_gather 0 = .ok (.aload_n 0, 1) := by decide +kernel
theorem dX4_gather_1 : decode cX4_gather 1 = .ok (.invokevirtual 46, 3) := by decide +kernel
theorem dX4_gather_4 : decode cX4_gather 4 = .ok (.ifCond .eq 21, 3) := by decide +kernel
theorem dX4_gather_7 : decode cX4_gather 7 = .ok (.aload_n 0, 1) := by decide +kernel
theorem dX4_gather_8 : decode cX4_gather 8 = .ok (.invokevirtual 50, 3) := by decide +kernel
theorem dX4_gather_11 : decode cX4_gather 11 = .ok (.ifCond .eq 14, 3) := by decide +kernel
theorem dX4_gather_14 : decode cX4_gather 14 = .ok (.aload_n 0, 1) := by decide +kernel
theorem dX4_gather_15 : decode cX4_gather 15 = .ok (.getfield 21, 3) := by decide +kernel
theorem dX4_gather_18 : decode cX4_gather 18 = .ok (.ifCond .le 7, 3) := by decide +kernel
theorem dX4_gather_21 : decode cX4_gather 21 = .ok (.iconst 1, 1) := by decide +kernel
theorem dX4_gather_22 : decode cX4_gather 22 = .ok (.goto 4, 3) := by decide +kernel
theorem dX4_gather_25 : decode cX4_gather 25 = .ok (.iconst 0, 1) := by decide +kernel
theorem dX4_gather_26 : decode cX4_gather 26 = .ok (.ireturn, 1) := by decide +kernel
theorem dX4_gatherFree_0 : decode cX4_gatherFree 0 = .ok (.aload_n 0, 1) := by decide +kernel
theorem dX4_gatherFree_1 : decode cX4_gatherFree 1 = .ok (.iconst 0, 1) := by decide +kernel
theorem dX4_gatherFree_2 : decode cX4_gatherFree 2 = .ok (.putfield 25, 3) := by decide +kernel
theorem dX4_gatherFree_5 : decode cX4_gatherFree 5 = .ok (.iconst 0, 1) := by decide +kernel
theorem dX4_gatherFree_6 : decode cX4_gatherFree 6 = .ok (.istore_n 1, 1) := by decide +kernel
theorem dX4_gatherFree_7 : decode cX4_gatherFree 7 = .ok (.iload_n 1, 1) := by decide +kernel
theorem dX4_gatherFree_8 : decode cX4_gatherFree 8 = .ok (.aload_n 0, 1) := by decide +kernel
theorem dX4_gatherFree_9 : decode cX4_gatherFree 9 = .ok (.getfield 42, 3) := by decide +kernel
theorem dX4_gatherFree_12 : decode cX4_gatherFree 12 = .ok (.getfield 62, 3) := by decide +kernel
theorem dX4_gatherFree_15 : decode cX4_gatherFree 15 = .ok (.if_icmp .ge 77, 3) := by decide +kernel
theorem dX4_gatherFree_18 : decode cX4_gatherFree 18 = .ok (.iconst 0, 1) := by decide +kernel
theorem dX4_gatherFree_19 : decode cX4_gatherFree 19 = .ok (.istore_n 2, 1) := by decide +kernel
theorem dX4_gatherFree_20 : decode cX4_gatherFree 20 = .ok (.iload_n 2, 1) := by decide +kernel
theorem dX4_gatherFree_21 : decode cX4_gatherFree 21 = .ok (.aload_n 0, 1) := by decide +kernel
theorem dX4_gatherFree_22 : decode cX4_gatherFree 22 = .ok (.getfield 42, 3) := by decide +kernel
theorem dX4_gatherFree_25 : decode cX4_gatherFree 25 = .ok (.getfield 65, 3) := by decide +kernel
theorem dX4_gatherFree_28 : decode cX4_gatherFree 28 = .ok (.iload_n 1, 1) := by decide +kernel
theorem dX4_gatherFree_29 : decode cX4_gatherFree 29 = .ok (.iaload, 1) := by decide +kernel
theorem dX4_gatherFree_30 : decode cX4_gatherFree 30 = .ok (.if_icmp .ge 56, 3) := by decide +kernel
theorem dX4_gatherFree_33 : decode cX4_gatherFree 33 = .ok (.iload_n 1, 1) := by decide +kernel
theorem dX4_gatherFree_34 : decode cX4_gatherFree 34 = .ok (.iload_n 2, 1) := by decide +kernel
theorem dX4_gatherFree_35 : decode cX4_gatherFree 35 = .ok (.invokestatic 68, 3) := by decide +kernel
theorem dX4_gatherFree_38 : decode cX4_gatherFree 38 = .ok (.istore_n 3, 1) := by decide +kernel
theorem dX4_gatherFree_39 : decode cX4_gatherFree 39 = .ok (.aload_n 0, 1) := by decide +kernel
theorem dX4_gatherFree_40 : decode cX4_gatherFree 40 = .ok (.getfield 42, 3) := by decide +kernel
theorem dX4_gatherFree_43 : decode cX4_gatherFree 43 = .ok (.getfield 72, 3) := by decide +kernel
theorem dX4_gatherFree_46 : decode cX4_gatherFree 46 = .ok (.iload_n 3, 1) := by decide +kernel
theorem dX4_gatherFree_47 : decode cX4_gatherFree 47 = .ok (.iaload, 1) := by decide +kernel
theorem dX4_gatherFree_48 : decode cX4_gatherFree 48 = .ok (.iconst (-1), 1) := by decide +kernel
theorem dX4_gatherFree_49 : decode cX4_gatherFree 49 = .ok (.if_icmp .ne 31, 3) := by decide +kernel
theorem dX4_gatherFree_52 : decode cX4_gatherFree 52 = .ok (.aload_n 0, 1) := by decide +kernel
theorem dX4_gatherFree_53 : decode cX4_gatherFree 53 = .ok (.getfield 25, 3) := by decide +kernel
theorem dX4_gatherFree_56 : decode cX4_gatherFree 56 = .ok (.bipush 10, 2) := by decide +kernel
theorem dX4_gatherFree_58 : decode cX4_gatherFree 58 = .ok (.if_icmp .lt 5, 3) := by decide +kernel
theorem dX4_gatherFree_61 : decode cX4_gatherFree 61 = .ok (.iconst 0, 1) := by decide +kernel
theorem dX4_gatherFree_62 : decode cX4_gatherFree 62 = .ok (.ireturn, 1) := by decide +kernel
theorem dX4_gatherFree_63 : decode cX4_gatherFree 63 = .ok (.aload_n 0, 1) := by decide +kernel
theorem dX4_gatherFree_64 : decode cX4_gatherFree 64 = .ok (.getfield 18, 3) := by decide +kernel
theorem dX4_gatherFree_67 : decode cX4_gatherFree 67 = .ok (.aload_n 0, 1) := by decide +kernel
theorem dX4_gatherFree_68 : decode cX4_gatherFree 68 = .ok (.dup, 1) := by decide +kernel
theorem dX4_gatherFree_69 : decode cX4_gatherFree 69 = .ok (.getfield 25, 3) := by decide +kernel
theorem dX4_gatherFree_72 : decode cX4_gatherFree 72 = .ok (.dup_x1, 1) := by decide +kernel
theorem dX4_gatherFree_73 : decode cX4_gatherFree 73 = .ok (.iconst 1, 1) := by decide +kernel
theorem dX4_gatherFree_74 : decode cX4_gatherFree 74 = .ok (.iadd, 1) := by decide +kernel
theorem dX4_gatherFree_75 : decode cX4_gatherFree 75 = .ok (.putfield 25, 3) := by decide +kernel
theorem dX4_gatherFree_78 : decode cX4_gatherFree 78 = .ok (.iload_n 3, 1) := by decide +kernel
theorem dX4_gatherFree_79 : decode cX4_gatherFree 79 = .ok (.iastore, 1) := by decide +kernel
theorem dX4_gatherFree_80 : decode cX4_gatherFree 80 = .ok (.iinc 2 1, 3) := by decide +kernel
theorem dX4_gatherFree_83 : decode cX4_gatherFree 83 = .ok (.goto (-63), 3) := by decide +kernel
theorem dX4_gatherFree_86 : decode cX4_gatherFree 86 = .ok (.iinc 1 1, 3) := by decide +kernel
theorem dX4_gatherFree_89 : decode cX4_gatherFree 89 = .ok (.goto (-82), 3) := by decide +kernel
theorem dX4_gatherFree_92 : decode cX4_gatherFree 92 = .ok (.iconst 1, 1) := by decide +kernel
theorem dX4_gatherFree_93 : decode cX4_gatherFree 93 = .ok (.ireturn, 1) := by decide +kernel
theorem dX4_gatherWaiting_0 : decode cX4_gatherWaiting 0 = .ok (.aload_n 0, 1) := by decide +kernel
theorem dX4_gatherWaiting_1 : decode cX4_gatherWaiting 1 = .ok (.iconst 0, 1) := by decide +kernel
theorem dX4_gatherWaiting_2 : decode cX4_gatherWaiting 2 = .ok (.putfield 21, 3) := by decide +kernel
theorem dX4_gatherWaiting_5 : decode cX4_gatherWaiting 5 = .ok (.iconst 0, 1) := by decide +kernel
theorem dX4_gatherWaiting_6 : decode cX4_gatherWaiting 6 = .ok (.istore_n 1, 1) := by decide +kernel
theorem dX4_gatherWaiting_7 : decode cX4_gatherWaiting 7 = .ok (.iload_n 1, 1) := by decide +kernel
theorem dX4_gatherWaiting_8 : decode cX4_gatherWaiting 8 = .ok (.aload_n 0, 1) := by decide +kernel
theorem dX4_gatherWaiting_9 : decode cX4_gatherWaiting 9 = .ok (.getfield 42, 3) := by decide +kernel
theorem dX4_gatherWaiting_12 : decode cX4_gatherWaiting 12 = .ok (.getfield 53, 3) := by decide +kernel
theorem dX4_gatherWaiting_15 : decode cX4_gatherWaiting 15 = .ok (.if_icmp .ge 47, 3) := by decide +kernel
theorem dX4_gatherWaiting_18 : decode cX4_gatherWaiting 18 = .ok (.aload_n 0, 1) := by decide +kernel
theorem dX4_gatherWaiting_19 : decode cX4_gatherWaiting 19 = .ok (.getfield 42, 3) := by decide +kernel
theorem dX4_gatherWaiting_22 : decode cX4_gatherWaiting 22 = .ok (.iload_n 1, 1) := by decide +kernel
theorem dX4_gatherWaiting_23 : decode cX4_gatherWaiting 23 = .ok (.invokevirtual 58, 3) := by decide +kernel
theorem dX4_gatherWaiting_26 : decode cX4_gatherWaiting 26 = .ok (.ifCond .ne 30, 3) := by decide +kernel
theorem dX4_gatherWaiting_29 : decode cX4_gatherWaiting 29 = .ok (.aload_n 0, 1) := by decide +kernel
theorem dX4_gatherWaiting_30 : decode cX4_gatherWaiting 30 = .ok (.getfield 21, 3) := by decide +kernel
theorem dX4_gatherWaiting_33 : decode cX4_gatherWaiting 33 = .ok (.iconst 4, 1) := by decide +kernel
theorem dX4_gatherWaiting_34 : decode cX4_gatherWaiting 34 = .ok (.if_icmp .lt 5, 3) := by decide +kernel
theorem dX4_gatherWaiting_37 : decode cX4_gatherWaiting 37 = .ok (.iconst 0, 1) := by decide +kernel
theorem dX4_gatherWaiting_38 : decode cX4_gatherWaiting 38 = .ok (.ireturn, 1) := by decide +kernel
theorem dX4_gatherWaiting_39 : decode cX4_gatherWaiting 39 = .ok (.aload_n 0, 1) := by decide +kernel
theorem dX4_gatherWaiting_40 : decode cX4_gatherWaiting 40 = .ok (.getfield 11, 3) := by decide +kernel
theorem dX4_gatherWaiting_43 : decode cX4_gatherWaiting 43 = .ok (.aload_n 0, 1) := by decide +kernel
theorem dX4_gatherWaiting_44 : decode cX4_gatherWaiting 44 = .ok (.dup, 1) := by decide +kernel
theorem dX4_gatherWaiting_45 : decode cX4_gatherWaiting 45 = .ok (.getfield 21, 3) := by decide +kernel
theorem dX4_gatherWaiting_48 : decode cX4_gatherWaiting 48 = .ok (.dup_x1, 1) := by decide +kernel
theorem dX4_gatherWaiting_49 : decode cX4_gatherWaiting 49 = .ok (.iconst 1, 1) := by decide +kernel
theorem dX4_gatherWaiting_50 : decode cX4_gatherWaiting 50 = .ok (.iadd, 1) := by decide +kernel
theorem dX4_gatherWaiting_51 : decode cX4_gatherWaiting 51 = .ok (.putfield 21, 3) := by decide +kernel
theorem dX4_gatherWaiting_54 : decode cX4_gatherWaiting 54 = .ok (.iload_n 1, 1) := by decide +kernel
theorem dX4_gatherWaiting_55 : decode cX4_gatherWaiting 55 = .ok (.iastore, 1) := by decide +kernel
theorem dX4_gatherWaiting_56 : decode cX4_gatherWaiting 56 = .ok (.iinc 1 1, 3) := by decide +kernel
theorem dX4_gatherWaiting_59 : decode cX4_gatherWaiting 59 = .ok (.goto (-52), 3) := by decide +kernel
theorem dX4_gatherWaiting_62 : decode cX4_gatherWaiting 62 = .ok (.iconst 1, 1) := by decide +kernel
theorem dX4_gatherWaiting_63 : decode cX4_gatherWaiting 63 = .ok (.ireturn, 1) := by decide +kernel
theorem dX4_init_0 : decode cX4_init 0 = .ok (.aload_n 0, 1) := by decide +kernel
theorem dX4_init_1 : decode cX4_init 1 = .ok (.invokespecial 3, 3) := by decide +kernel
theorem dX4_init_4 : decode cX4_init 4 = .ok (.aload_n 0, 1) := by decide +kernel
theorem dX4_init_5 : decode cX4_init 5 = .ok (.iconst 4, 1) := by decide +kernel
theorem dX4_init_6 : decode cX4_init 6 = .ok (.newarray .int, 2) := by decide +kernel
theorem dX4_init_8 : decode cX4_init 8 = .ok (.putfield 11, 3) := by decide +kernel
theorem dX4_init_11 : decode cX4_init 11 = .ok (.aload_n 0, 1) := by decide +kernel
theorem dX4_init_12 : decode cX4_init 12 = .ok (.iconst 4, 1) := by decide +kernel
theorem dX4_init_13 : decode cX4_init 13 = .ok (.newarray .int, 2) := by decide +kernel
theorem dX4_init_15 : decode cX4_init 15 = .ok (.putfield 15, 3) := by decide +kernel
theorem dX4_init_18 : decode cX4_init 18 = .ok (.aload_n 0, 1) := by decide +kernel
theorem dX4_init_19 : decode cX4_init 19 = .ok (.bipush 10, 2) := by decide +kernel
theorem dX4_init_21 : decode cX4_init 21 = .ok (.newarray .int, 2) := by decide +kernel
theorem dX4_init_23 : decode cX4_init 23 = .ok (.putfield 18, 3) := by decide +kernel
theorem dX4_init_26 : decode cX4_init 26 = .ok (.aload_n 0, 1) := by decide +kernel
theorem dX4_init_27 : decode cX4_init 27 = .ok (.iconst 0, 1) := by decide +kernel
theorem dX4_init_28 : decode cX4_init 28 = .ok (.putfield 21, 3) := by decide +kernel
theorem dX4_init_31 : decode cX4_init 31 = .ok (.aload_n 0, 1) := by decide +kernel
theorem dX4_init_32 : decode cX4_init 32 = .ok (.iconst 0, 1) := by decide +kernel
theorem dX4_init_33 : decode cX4_init 33 = .ok (.putfield 25, 3) := by decide +kernel
theorem dX4_init_36 : decode cX4_init 36 = .ok (.aload_n 0, 1) := by decide +kernel
theorem dX4_init_37 : decode cX4_init 37 = .ok (.iconst 0, 1) := by decide +kernel
theorem dX4_init_38 : decode cX4_init 38 = .ok (.putfield 28, 3) := by decide +kernel
theorem dX4_init_41 : decode cX4_init 41 = .ok (.aload_n 0, 1) := by decide +kernel
theorem dX4_init_42 : decode cX4_init 42 = .ok (.iconst 0, 1) := by decide +kernel
theorem dX4_init_43 : decode cX4_init 43 = .ok (.putfield 31, 3) := by decide +kernel
theorem dX4_init_46 : decode cX4_init 46 = .ok (.aload_n 0, 1) := by decide +kernel
theorem dX4_init_47 : decode cX4_init 47 = .ok (.iconst 0, 1) := by decide +kernel
theorem dX4_init_48 : decode cX4_init 48 = .ok (.putfield 35, 3) := by decide +kernel
theorem dX4_init_51 : decode cX4_init 51 = .ok (.aload_n 0, 1) := by decide +kernel
theorem dX4_init_52 : decode cX4_init 52 = .ok (.lconst 0, 1) := by decide +kernel
theorem dX4_init_53 : decode cX4_init 53 = .ok (.putfield 38, 3) := by decide +kernel
theorem dX4_init_56 : decode cX4_init 56 = .ok (.aload_n 0, 1) := by decide +kernel
theorem dX4_init_57 : decode cX4_init 57 = .ok (.aload_n 1, 1) := by decide +kernel
theorem dX4_init_58 : decode cX4_init 58 = .ok (.putfield 42, 3) := by decide +kernel
theorem dX4_init_61 : decode cX4_init 61 = .ok (.return_, 1) := by decide +kernel
theorem dX4_keepIfBetter_0 : decode cX4_keepIfBetter 0 = .ok (.aload_n 0, 1) := by decide +kernel
theorem dX4_keepIfBetter_1 : decode cX4_keepIfBetter 1 = .ok (.getfield 31, 3) := by decide +kernel
theorem dX4_keepIfBetter_4 : decode cX4_keepIfBetter 4 = .ok (.ifCond .eq 28, 3) := by decide +kernel
theorem dX4_keepIfBetter_7 : decode cX4_keepIfBetter 7 = .ok (.iload_n 1, 1) := by decide +kernel
theorem dX4_keepIfBetter_8 : decode cX4_keepIfBetter 8 = .ok (.aload_n 0, 1) := by decide +kernel
theorem dX4_keepIfBetter_9 : decode cX4_keepIfBetter 9 = .ok (.getfield 35, 3) := by decide +kernel
theorem dX4_keepIfBetter_12 : decode cX4_keepIfBetter 12 = .ok (.if_icmp .lt 20, 3) := by decide +kernel
theorem dX4_keepIfBetter_15 : decode cX4_keepIfBetter 15 = .ok (.iload_n 1, 1) := by decide +kernel
theorem dX4_keepIfBetter_16 : decode cX4_keepIfBetter 16 = .ok (.aload_n 0, 1) := by decide +kernel
theorem dX4_keepIfBetter_17 : decode cX4_keepIfBetter 17 = .ok (.getfield 35, 3) := by decide +kernel
theorem dX4_keepIfBetter_20 : decode cX4_keepIfBetter 20 = .ok (.if_icmp .ne 16, 3) := by decide +kernel
theorem dX4_keepIfBetter_23 : decode cX4_keepIfBetter 23 = .ok (.lload_n 2, 1) := by decide +kernel
theorem dX4_keepIfBetter_24 : decode cX4_keepIfBetter 24 = .ok (.aload_n 0, 1) := by decide +kernel
theorem dX4_keepIfBetter_25 : decode cX4_keepIfBetter 25 = .ok (.getfield 38, 3) := by decide +kernel
theorem dX4_keepIfBetter_28 : decode cX4_keepIfBetter 28 = .ok (.lcmp, 1) := by decide +kernel
theorem dX4_keepIfBetter_29 : decode cX4_keepIfBetter 29 = .ok (.ifCond .ge 7, 3) := by decide +kernel
theorem dX4_keepIfBetter_32 : decode cX4_keepIfBetter 32 = .ok (.iconst 1, 1) := by decide +kernel
theorem dX4_keepIfBetter_33 : decode cX4_keepIfBetter 33 = .ok (.goto 4, 3) := by decide +kernel
theorem dX4_keepIfBetter_36 : decode cX4_keepIfBetter 36 = .ok (.iconst 0, 1) := by decide +kernel
theorem dX4_keepIfBetter_37 : decode cX4_keepIfBetter 37 = .ok (.istore 4, 2) := by decide +kernel
theorem dX4_keepIfBetter_39 : decode cX4_keepIfBetter 39 = .ok (.iload 4, 2) := by decide +kernel
theorem dX4_keepIfBetter_41 : decode cX4_keepIfBetter 41 = .ok (.ifCond .eq 58, 3) := by decide +kernel
theorem dX4_keepIfBetter_44 : decode cX4_keepIfBetter 44 = .ok (.aload_n 0, 1) := by decide +kernel
theorem dX4_keepIfBetter_45 : decode cX4_keepIfBetter 45 = .ok (.iconst 1, 1) := by decide +kernel
theorem dX4_keepIfBetter_46 : decode cX4_keepIfBetter 46 = .ok (.putfield 31, 3) := by decide +kernel
theorem dX4_keepIfBetter_49 : decode cX4_keepIfBetter 49 = .ok (.aload_n 0, 1) := by decide +kernel
theorem dX4_keepIfBetter_50 : decode cX4_keepIfBetter 50 = .ok (.iload_n 1, 1) := by decide +kernel
theorem dX4_keepIfBetter_51 : decode cX4_keepIfBetter 51 = .ok (.putfield 35, 3) := by decide +kernel
theorem dX4_keepIfBetter_54 : decode cX4_keepIfBetter 54 = .ok (.aload_n 0, 1) := by decide +kernel
theorem dX4_keepIfBetter_55 : decode cX4_keepIfBetter 55 = .ok (.lload_n 2, 1) := by decide +kernel
theorem dX4_keepIfBetter_56 : decode cX4_keepIfBetter 56 = .ok (.putfield 38, 3) := by decide +kernel
theorem dX4_keepIfBetter_59 : decode cX4_keepIfBetter 59 = .ok (.iconst 0, 1) := by decide +kernel
theorem dX4_keepIfBetter_60 : decode cX4_keepIfBetter 60 = .ok (.istore 5, 2) := by decide +kernel
theorem dX4_keepIfBetter_62 : decode cX4_keepIfBetter 62 = .ok (.iload 5, 2) := by decide +kernel
theorem dX4_keepIfBetter_64 : decode cX4_keepIfBetter 64 = .ok (.aload_n 0, 1) := by decide +kernel
theorem dX4_keepIfBetter_65 : decode cX4_keepIfBetter 65 = .ok (.getfield 21, 3) := by decide +kernel
theorem dX4_keepIfBetter_68 : decode cX4_keepIfBetter 68 = .ok (.if_icmp .ge 31, 3) := by decide +kernel
theorem dX4_keepIfBetter_71 : decode cX4_keepIfBetter 71 = .ok (.aload_n 0, 1) := by decide +kernel
theorem dX4_keepIfBetter_72 : decode cX4_keepIfBetter 72 = .ok (.getfield 15, 3) := by decide +kernel
theorem dX4_keepIfBetter_75 : decode cX4_keepIfBetter 75 = .ok (.iload 5, 2) := by decide +kernel
theorem dX4_keepIfBetter_77 : decode cX4_keepIfBetter 77 = .ok (.aload_n 0, 1) := by decide +kernel
theorem dX4_keepIfBetter_78 : decode cX4_keepIfBetter 78 = .ok (.getfield 42, 3) := by decide +kernel
theorem dX4_keepIfBetter_81 : decode cX4_keepIfBetter 81 = .ok (.getfield 111, 3) := by decide +kernel
theorem dX4_keepIfBetter_84 : decode cX4_keepIfBetter 84 = .ok (.aload_n 0, 1) := by decide +kernel
theorem dX4_keepIfBetter_85 : decode cX4_keepIfBetter 85 = .ok (.getfield 11, 3) := by decide +kernel
theorem dX4_keepIfBetter_88 : decode cX4_keepIfBetter 88 = .ok (.iload 5, 2) := by decide +kernel
theorem dX4_keepIfBetter_90 : decode cX4_keepIfBetter 90 = .ok (.iaload, 1) := by decide +kernel
theorem dX4_keepIfBetter_91 : decode cX4_keepIfBetter 91 = .ok (.iaload, 1) := by decide +kernel
theorem dX4_keepIfBetter_92 : decode cX4_keepIfBetter 92 = .ok (.iastore, 1) := by decide +kernel
theorem dX4_keepIfBetter_93 : decode cX4_keepIfBetter 93 = .ok (.iinc 5 1, 3) := by decide +kernel
theorem dX4_keepIfBetter_96 : decode cX4_keepIfBetter 96 = .ok (.goto (-34), 3) := by decide +kernel
theorem dX4_keepIfBetter_99 : decode cX4_keepIfBetter 99 = .ok (.return_, 1) := by decide +kernel
theorem dX4_loadBest_0 : decode cX4_loadBest 0 = .ok (.aload_n 0, 1) := by decide +kernel
theorem dX4_loadBest_1 : decode cX4_loadBest 1 = .ok (.iload_n 1, 1) := by decide +kernel
theorem dX4_loadBest_2 : decode cX4_loadBest 2 = .ok (.putfield 28, 3) := by decide +kernel
theorem dX4_loadBest_5 : decode cX4_loadBest 5 = .ok (.aload_n 0, 1) := by decide +kernel
theorem dX4_loadBest_6 : decode cX4_loadBest 6 = .ok (.iconst 0, 1) := by decide +kernel
theorem dX4_loadBest_7 : decode cX4_loadBest 7 = .ok (.putfield 31, 3) := by decide +kernel
theorem dX4_loadBest_10 : decode cX4_loadBest 10 = .ok (.aload_n 0, 1) := by decide +kernel
theorem dX4_loadBest_11 : decode cX4_loadBest 11 = .ok (.iconst 0, 1) := by decide +kernel
theorem dX4_loadBest_12 : decode cX4_loadBest 12 = .ok (.aload_n 0, 1) := by decide +kernel
theorem dX4_loadBest_13 : decode cX4_loadBest 13 = .ok (.getfield 42, 3) := by decide +kernel
theorem dX4_loadBest_16 : decode cX4_loadBest 16 = .ok (.bipush 30, 2) := by decide +kernel
theorem dX4_loadBest_18 : decode cX4_loadBest 18 = .ok (.invokevirtual 75, 3) := by decide +kernel
theorem dX4_loadBest_21 : decode cX4_loadBest 21 = .ok (.lload_n 2, 1) := by decide +kernel
theorem dX4_loadBest_22 : decode cX4_loadBest 22 = .ok (.invokevirtual 79, 3) := by decide +kernel
theorem dX4_loadBest_25 : decode cX4_loadBest 25 = .ok (.aload_n 0, 1) := by decide +kernel
theorem dX4_loadBest_26 : decode cX4_loadBest 26 = .ok (.getfield 31, 3) := by decide +kernel
theorem dX4_loadBest_29 : decode cX4_loadBest 29 = .ok (.ifCond .ne 6, 3) := by decide +kernel
theorem dX4_loadBest_32 : decode cX4_loadBest 32 = .ok (.bipush (-5), 2) := by decide +kernel
theorem dX4_loadBest_34 : decode cX4_loadBest 34 = .ok (.ireturn, 1) := by decide +kernel
theorem dX4_loadBest_35 : decode cX4_loadBest 35 = .ok (.iconst 0, 1) := by decide +kernel
theorem dX4_loadBest_36 : decode cX4_loadBest 36 = .ok (.istore 4, 2) := by decide +kernel
theorem dX4_loadBest_38 : decode cX4_loadBest 38 = .ok (.iload 4, 2) := by decide +kernel
theorem dX4_loadBest_40 : decode cX4_loadBest 40 = .ok (.aload_n 0, 1) := by decide +kernel
theorem dX4_loadBest_41 : decode cX4_loadBest 41 = .ok (.getfield 21, 3) := by decide +kernel
theorem dX4_loadBest_44 : decode cX4_loadBest 44 = .ok (.if_icmp .ge 30, 3) := by decide +kernel
theorem dX4_loadBest_47 : decode cX4_loadBest 47 = .ok (.aload_n 0, 1) := by decide +kernel
theorem dX4_loadBest_48 : decode cX4_loadBest 48 = .ok (.getfield 42, 3) := by decide +kernel
theorem dX4_loadBest_51 : decode cX4_loadBest 51 = .ok (.aload_n 0, 1) := by decide +kernel
theorem dX4_loadBest_52 : decode cX4_loadBest 52 = .ok (.getfield 11, 3) := by decide +kernel
theorem dX4_loadBest_55 : decode cX4_loadBest 55 = .ok (.iload 4, 2) := by decide +kernel
theorem dX4_loadBest_57 : decode cX4_loadBest 57 = .ok (.iaload, 1) := by decide +kernel
theorem dX4_loadBest_58 : decode cX4_loadBest 58 = .ok (.aload_n 0, 1) := by decide +kernel
theorem dX4_loadBest_59 : decode cX4_loadBest 59 = .ok (.getfield 15, 3) := by decide +kernel
theorem dX4_loadBest_62 : decode cX4_loadBest 62 = .ok (.iload 4, 2) := by decide +kernel
theorem dX4_loadBest_64 : decode cX4_loadBest 64 = .ok (.iaload, 1) := by decide +kernel
theorem dX4_loadBest_65 : decode cX4_loadBest 65 = .ok (.invokevirtual 83, 3) := by decide +kernel
theorem dX4_loadBest_68 : decode cX4_loadBest 68 = .ok (.iinc 4 1, 3) := by decide +kernel
theorem dX4_loadBest_71 : decode cX4_loadBest 71 = .ok (.goto (-33), 3) := by decide +kernel
theorem dX4_loadBest_74 : decode cX4_loadBest 74 = .ok (.aload_n 0, 1) := by decide +kernel
theorem dX4_loadBest_75 : decode cX4_loadBest 75 = .ok (.getfield 35, 3) := by decide +kernel
theorem dX4_loadBest_78 : decode cX4_loadBest 78 = .ok (.ireturn, 1) := by decide +kernel
theorem dX4_tryAllFrom_0 : decode cX4_tryAllFrom 0 = .ok (.aload_n 0, 1) := by decide +kernel
theorem dX4_tryAllFrom_1 : decode cX4_tryAllFrom 1 = .ok (.getfield 31, 3) := by decide +kernel
theorem dX4_tryAllFrom_4 : decode cX4_tryAllFrom 4 = .ok (.ifCond .eq 12, 3) := by decide +kernel
theorem dX4_tryAllFrom_7 : decode cX4_tryAllFrom 7 = .ok (.iload_n 2, 1) := by decide +kernel
theorem dX4_tryAllFrom_8 : decode cX4_tryAllFrom 8 = .ok (.aload_n 0, 1) := by decide +kernel
theorem dX4_tryAllFrom_9 : decode cX4_tryAllFrom 9 = .ok (.getfield 35, 3) := by decide +kernel
theorem dX4_tryAllFrom_12 : decode cX4_tryAllFrom 12 = .ok (.if_icmp .le 4, 3) := by decide +kernel
theorem dX4_tryAllFrom_15 : decode cX4_tryAllFrom 15 = .ok (.return_, 1) := by decide +kernel
theorem dX4_tryAllFrom_16 : decode cX4_tryAllFrom 16 = .ok (.iload_n 1, 1) := by decide +kernel
theorem dX4_tryAllFrom_17 : decode cX4_tryAllFrom 17 = .ok (.aload_n 0, 1) := by decide +kernel
theorem dX4_tryAllFrom_18 : decode cX4_tryAllFrom 18 = .ok (.getfield 21, 3) := by decide +kernel
theorem dX4_tryAllFrom_21 : decode cX4_tryAllFrom 21 = .ok (.if_icmp .lt 13, 3) := by decide +kernel
theorem dX4_tryAllFrom_24 : decode cX4_tryAllFrom 24 = .ok (.aload_n 0, 1) := by decide +kernel
theorem dX4_tryAllFrom_25 : decode cX4_tryAllFrom 25 = .ok (.iload_n 2, 1) := by decide +kernel
theorem dX4_tryAllFrom_26 : decode cX4_tryAllFrom 26 = .ok (.lload_n 3, 1) := by decide +kernel
theorem dX4_tryAllFrom_27 : decode cX4_tryAllFrom 27 = .ok (.invokestatic 87, 3) := by decide +kernel
theorem dX4_tryAllFrom_30 : decode cX4_tryAllFrom 30 = .ok (.invokevirtual 93, 3) := by decide +kernel
theorem dX4_tryAllFrom_33 : decode cX4_tryAllFrom 33 = .ok (.return_, 1) := by decide +kernel
theorem dX4_tryAllFrom_34 : decode cX4_tryAllFrom 34 = .ok (.aload_n 0, 1) := by decide +kernel
theorem dX4_tryAllFrom_35 : decode cX4_tryAllFrom 35 = .ok (.getfield 11, 3) := by decide +kernel
theorem dX4_tryAllFrom_38 : decode cX4_tryAllFrom 38 = .ok (.iload_n 1, 1) := by decide +kernel
theorem dX4_tryAllFrom_39 : decode cX4_tryAllFrom 39 = .ok (.iaload, 1) := by decide +kernel
theorem dX4_tryAllFrom_40 : decode cX4_tryAllFrom 40 = .ok (.istore 5, 2) := by decide +kernel
theorem dX4_tryAllFrom_42 : decode cX4_tryAllFrom 42 = .ok (.iconst 0, 1) := by decide +kernel
theorem dX4_tryAllFrom_43 : decode cX4_tryAllFrom 43 = .ok (.istore 6, 2) := by decide +kernel
theorem dX4_tryAllFrom_45 : decode cX4_tryAllFrom 45 = .ok (.iload 6, 2) := by decide +kernel
theorem dX4_tryAllFrom_47 : decode cX4_tryAllFrom 47 = .ok (.aload_n 0, 1) := by decide +kernel
theorem dX4_tryAllFrom_48 : decode cX4_tryAllFrom 48 = .ok (.getfield 25, 3) := by decide +kernel
theorem dX4_tryAllFrom_51 : decode cX4_tryAllFrom 51 = .ok (.if_icmp .ge 116, 3) := by decide +kernel
theorem dX4_tryAllFrom_54 : decode cX4_tryAllFrom 54 = .ok (.aload_n 0, 1) := by decide +kernel
theorem dX4_tryAllFrom_55 : decode cX4_tryAllFrom 55 = .ok (.getfield 18, 3) := by decide +kernel
theorem dX4_tryAllFrom_58 : decode cX4_tryAllFrom 58 = .ok (.iload 6, 2) := by decide +kernel
theorem dX4_tryAllFrom_60 : decode cX4_tryAllFrom 60 = .ok (.iaload, 1) := by decide +kernel
theorem dX4_tryAllFrom_61 : decode cX4_tryAllFrom 61 = .ok (.istore 7, 2) := by decide +kernel
theorem dX4_tryAllFrom_63 : decode cX4_tryAllFrom 63 = .ok (.aload_n 0, 1) := by decide +kernel
theorem dX4_tryAllFrom_64 : decode cX4_tryAllFrom 64 = .ok (.getfield 42, 3) := by decide +kernel
theorem dX4_tryAllFrom_67 : decode cX4_tryAllFrom 67 = .ok (.iload 5, 2) := by decide +kernel
theorem dX4_tryAllFrom_69 : decode cX4_tryAllFrom 69 = .ok (.iload 7, 2) := by decide +kernel
theorem dX4_tryAllFrom_71 : decode cX4_tryAllFrom 71 = .ok (.invokevirtual 97, 3) := by decide +kernel
theorem dX4_tryAllFrom_74 : decode cX4_tryAllFrom 74 = .ok (.ifCond .ne 87, 3) := by decide +kernel
theorem dX4_tryAllFrom_77 : decode cX4_tryAllFrom 77 = .ok (.iload 7, 2) := by decide +kernel
theorem dX4_tryAllFrom_79 : decode cX4_tryAllFrom 79 = .ok (.bipush 8, 2) := by decide +kernel
theorem dX4_tryAllFrom_81 : decode cX4_tryAllFrom 81 = .ok (.idiv, 1) := by decide +kernel
theorem dX4_tryAllFrom_82 : decode cX4_tryAllFrom 82 = .ok (.istore 8, 2) := by decide +kernel
theorem dX4_tryAllFrom_84 : decode cX4_tryAllFrom 84 = .ok (.iload_n 2, 1) := by decide +kernel
theorem dX4_tryAllFrom_85 : decode cX4_tryAllFrom 85 = .ok (.aload_n 0, 1) := by decide +kernel
theorem dX4_tryAllFrom_86 : decode cX4_tryAllFrom 86 = .ok (.getfield 42, 3) := by decide +kernel
theorem dX4_tryAllFrom_89 : decode cX4_tryAllFrom 89 = .ok (.iload 8, 2) := by decide +kernel
theorem dX4_tryAllFrom_91 : decode cX4_tryAllFrom 91 = .ok (.bipush 30, 2) := by decide +kernel
theorem dX4_tryAllFrom_93 : decode cX4_tryAllFrom 93 = .ok (.invokevirtual 100, 3) := by decide +kernel
theorem dX4_tryAllFrom_96 : decode cX4_tryAllFrom 96 = .ok (.isub, 1) := by decide +kernel
theorem dX4_tryAllFrom_97 : decode cX4_tryAllFrom 97 = .ok (.istore 9, 2) := by decide +kernel
theorem dX4_tryAllFrom_99 : decode cX4_tryAllFrom 99 = .ok (.aload_n 0, 1) := by decide +kernel
theorem dX4_tryAllFrom_100 : decode cX4_tryAllFrom 100 = .ok (.getfield 42, 3) := by decide +kernel
theorem dX4_tryAllFrom_103 : decode cX4_tryAllFrom 103 = .ok (.iload 5, 2) := by decide +kernel
theorem dX4_tryAllFrom_105 : decode cX4_tryAllFrom 105 = .ok (.iload 7, 2) := by decide +kernel
theorem dX4_tryAllFrom_107 : decode cX4_tryAllFrom 107 = .ok (.invokevirtual 83, 3) := by decide +kernel
theorem dX4_tryAllFrom_110 : decode cX4_tryAllFrom 110 = .ok (.iload 9, 2) := by decide +kernel
theorem dX4_tryAllFrom_112 : decode cX4_tryAllFrom 112 = .ok (.aload_n 0, 1) := by decide +kernel
theorem dX4_tryAllFrom_113 : decode cX4_tryAllFrom 113 = .ok (.getfield 42, 3) := by decide +kernel
theorem dX4_tryAllFrom_116 : decode cX4_tryAllFrom 116 = .ok (.iload 8, 2) := by decide +kernel
theorem dX4_tryAllFrom_118 : decode cX4_tryAllFrom 118 = .ok (.bipush 30, 2) := by decide +kernel
theorem dX4_tryAllFrom_120 : decode cX4_tryAllFrom 120 = .ok (.invokevirtual 100, 3) := by decide +kernel
theorem dX4_tryAllFrom_123 : decode cX4_tryAllFrom 123 = .ok (.iadd, 1) := by decide +kernel
theorem dX4_tryAllFrom_124 : decode cX4_tryAllFrom 124 = .ok (.istore 10, 2) := by decide +kernel
theorem dX4_tryAllFrom_126 : decode cX4_tryAllFrom 126 = .ok (.aload_n 0, 1) := by decide +kernel
theorem dX4_tryAllFrom_127 : decode cX4_tryAllFrom 127 = .ok (.iload_n 1, 1) := by decide +kernel
theorem dX4_tryAllFrom_128 : decode cX4_tryAllFrom 128 = .ok (.iconst 1, 1) := by decide +kernel
theorem dX4_tryAllFrom_129 : decode cX4_tryAllFrom 129 = .ok (.iadd, 1) := by decide +kernel
theorem dX4_tryAllFrom_130 : decode cX4_tryAllFrom 130 = .ok (.iload 10, 2) := by decide +kernel
theorem dX4_tryAllFrom_132 : decode cX4_tryAllFrom 132 = .ok (.lload_n 3, 1) := by decide +kernel
theorem dX4_tryAllFrom_133 : decode cX4_tryAllFrom 133 = .ok (.aload_n 0, 1) := by decide +kernel
theorem dX4_tryAllFrom_134 : decode cX4_tryAllFrom 134 = .ok (.getfield 42, 3) := by decide +kernel
theorem dX4_tryAllFrom_137 : decode cX4_tryAllFrom 137 = .ok (.iload 5, 2) := by decide +kernel
theorem dX4_tryAllFrom_139 : decode cX4_tryAllFrom 139 = .ok (.iload 7, 2) := by decide +kernel
theorem dX4_tryAllFrom_141 : decode cX4_tryAllFrom 141 = .ok (.aload_n 0, 1) := by decide +kernel
theorem dX4_tryAllFrom_142 : decode cX4_tryAllFrom 142 = .ok (.getfield 28, 3) := by decide +kernel
theorem dX4_tryAllFrom_145 : decode cX4_tryAllFrom 145 = .ok (.invokevirtual 103, 3) := by decide +kernel
theorem dX4_tryAllFrom_148 : decode cX4_tryAllFrom 148 = .ok (.ladd, 1) := by decide +kernel
theorem dX4_tryAllFrom_149 : decode cX4_tryAllFrom 149 = .ok (.invokevirtual 79, 3) := by decide +kernel
theorem dX4_tryAllFrom_152 : decode cX4_tryAllFrom 152 = .ok (.aload_n 0, 1) := by decide +kernel
theorem dX4_tryAllFrom_153 : decode cX4_tryAllFrom 153 = .ok (.getfield 42, 3) := by decide +kernel
theorem dX4_tryAllFrom_156 : decode cX4_tryAllFrom 156 = .ok (.iload 5, 2) := by decide +kernel
theorem dX4_tryAllFrom_158 : decode cX4_tryAllFrom 158 = .ok (.invokevirtual 107, 3) := by decide +kernel
theorem dX4_tryAllFrom_161 : decode cX4_tryAllFrom 161 = .ok (.iinc 6 1, 3) := by decide +kernel
theorem dX4_tryAllFrom_164 : decode cX4_tryAllFrom 164 = .ok (.goto (-119), 3) := by decide +kernel
theorem dX4_tryAllFrom_167 : decode cX4_tryAllFrom 167 = .ok (.return_, 1) := by decide +kernel
theorem dX5_doFirstGoodMove_0 : decode cX5_doFirstGoodMove 0 = .ok (.iconst 0, 1) := by decide +kernel
theorem dX5_doFirstGoodMove_1 : decode cX5_doFirstGoodMove 1 = .ok (.istore 4, 2) := by decide +kernel
theorem dX5_doFirstGoodMove_3 : decode cX5_doFirstGoodMove 3 = .ok (.iload 4, 2) := by decide +kernel
theorem dX5_doFirstGoodMove_5 : decode cX5_doFirstGoodMove 5 = .ok (.aload_n 0, 1) := by decide +kernel
theorem dX5_doFirstGoodMove_6 : decode cX5_doFirstGoodMove 6 = .ok (.getfield 9, 3) := by decide +kernel
theorem dX5_doFirstGoodMove_9 : decode cX5_doFirstGoodMove 9 = .ok (.getfield 15, 3) := by decide +kernel
theorem dX5_doFirstGoodMove_12 : decode cX5_doFirstGoodMove 12 = .ok (.if_icmp .ge 34, 3) := by decide +kernel
theorem dX5_doFirstGoodMove_15 : decode cX5_doFirstGoodMove 15 = .ok (.aload_n 0, 1) := by decide +kernel
theorem dX5_doFirstGoodMove_16 : decode cX5_doFirstGoodMove 16 = .ok (.getfield 9, 3) := by decide +kernel
theorem dX5_doFirstGoodMove_19 : decode cX5_doFirstGoodMove 19 = .ok (.iload 4, 2) := by decide +kernel
theorem dX5_doFirstGoodMove_21 : decode cX5_doFirstGoodMove 21 = .ok (.invokevirtual 21, 3) := by decide +kernel
theorem dX5_doFirstGoodMove_24 : decode cX5_doFirstGoodMove 24 = .ok (.ifCond .eq 16, 3) := by decide +kernel
theorem dX5_doFirstGoodMove_27 : decode cX5_doFirstGoodMove 27 = .ok (.aload_n 0, 1) := by decide +kernel
theorem dX5_doFirstGoodMove_28 : decode cX5_doFirstGoodMove 28 = .ok (.iload 4, 2) := by decide +kernel
theorem dX5_doFirstGoodMove_30 : decode cX5_doFirstGoodMove 30 = .ok (.iload_n 1, 1) := by decide +kernel
theorem dX5_doFirstGoodMove_31 : decode cX5_doFirstGoodMove 31 = .ok (.lload_n 2, 1) := by decide +kernel
theorem dX5_doFirstGoodMove_32 : decode cX5_doFirstGoodMove 32 = .ok (.invokevirtual 65, 3) := by decide +kernel
theorem dX5_doFirstGoodMove_35 : decode cX5_doFirstGoodMove 35 = .ok (.ifCond .eq 5, 3) := by decide +kernel
theorem dX5_doFirstGoodMove_38 : decode cX5_doFirstGoodMove 38 = .ok (.iconst 1, 1) := by decide +kernel
theorem dX5_doFirstGoodMove_39 : decode cX5_doFirstGoodMove 39 = .ok (.ireturn, 1) := by decide +kernel
theorem dX5_doFirstGoodMove_40 : decode cX5_doFirstGoodMove 40 = .ok (.iinc 4 1, 3) := by decide +kernel
theorem dX5_doFirstGoodMove_43 : decode cX5_doFirstGoodMove 43 = .ok (.goto (-40), 3) := by decide +kernel
theorem dX5_doFirstGoodMove_46 : decode cX5_doFirstGoodMove 46 = .ok (.iconst 0, 1) := by decide +kernel
theorem dX5_doFirstGoodMove_47 : decode cX5_doFirstGoodMove 47 = .ok (.ireturn, 1) := by decide +kernel
theorem dX5_doFirstGoodSwap_0 : decode cX5_doFirstGoodSwap 0 = .ok (.iconst 0, 1) := by decide +kernel
theorem dX5_doFirstGoodSwap_1 : decode cX5_doFirstGoodSwap 1 = .ok (.istore_n 3, 1) := by decide +kernel
theorem dX5_doFirstGoodSwap_2 : decode cX5_doFirstGoodSwap 2 = .ok (.iload_n 3, 1) := by decide +kernel
theorem dX5_doFirstGoodSwap_3 : decode cX5_doFirstGoodSwap 3 = .ok (.aload_n 0, 1) := by decide +kernel
theorem dX5_doFirstGoodSwap_4 : decode cX5_doFirstGoodSwap 4 = .ok (.getfield 9, 3) := by decide +kernel
theorem dX5_doFirstGoodSwap_7 : decode cX5_doFirstGoodSwap 7 = .ok (.getfield 15, 3) := by decide +kernel
theorem dX5_doFirstGoodSwap_10 : decode cX5_doFirstGoodSwap 10 = .ok (.if_icmp .ge 31, 3) := by decide +kernel
theorem dX5_doFirstGoodSwap_13 : decode cX5_doFirstGoodSwap 13 = .ok (.aload_n 0, 1) := by decide +kernel
theorem dX5_doFirstGoodSwap_14 : decode cX5_doFirstGoodSwap 14 = .ok (.getfield 9, 3) := by decide +kernel
theorem dX5_doFirstGoodSwap_17 : decode cX5_doFirstGoodSwap 17 = .ok (.iload_n 3, 1) := by decide +kernel
theorem dX5_doFirstGoodSwap_18 : decode cX5_doFirstGoodSwap 18 = .ok (.invokevirtual 21, 3) := by decide +kernel
theorem dX5_doFirstGoodSwap_21 : decode cX5_doFirstGoodSwap 21 = .ok (.ifCond .eq 14, 3) := by decide +kernel
theorem dX5_doFirstGoodSwap_24 : decode cX5_doFirstGoodSwap 24 = .ok (.aload_n 0, 1) := by decide +kernel
theorem dX5_doFirstGoodSwap_25 : decode cX5_doFirstGoodSwap 25 = .ok (.iload_n 3, 1) := by decide +kernel
theorem dX5_doFirstGoodSwap_26 : decode cX5_doFirstGoodSwap 26 = .ok (.lload_n 1, 1) := by decide +kernel
theorem dX5_doFirstGoodSwap_27 : decode cX5_doFirstGoodSwap 27 = .ok (.invokevirtual 25, 3) := by decide +kernel
theorem dX5_doFirstGoodSwap_30 : decode cX5_doFirstGoodSwap 30 = .ok (.ifCond .eq 5, 3) := by decide +kernel
theorem dX5_doFirstGoodSwap_33 : decode cX5_doFirstGoodSwap 33 = .ok (.iconst 1, 1) := by decide +kernel
theorem dX5_doFirstGoodSwap_34 : decode cX5_doFirstGoodSwap 34 = .ok (.ireturn, 1) := by decide +kernel
theorem dX5_doFirstGoodSwap_35 : decode cX5_doFirstGoodSwap 35 = .ok (.iinc 3 1, 3) := by decide +kernel
theorem dX5_doFirstGoodSwap_38 : decode cX5_doFirstGoodSwap 38 = .ok (.goto (-36), 3) := by decide +kernel
theorem dX5_doFirstGoodSwap_41 : decode cX5_doFirstGoodSwap 41 = .ok (.iconst 0, 1) := by decide +kernel
theorem dX5_doFirstGoodSwap_42 : decode cX5_doFirstGoodSwap 42 = .ok (.ireturn, 1) := by decide +kernel
theorem dX5_doFirstGoodSwapOf_0 : decode cX5_doFirstGoodSwapOf 0 = .ok (.iload_n 1, 1) := by decide +kernel
theorem dX5_doFirstGoodSwapOf_1 : decode cX5_doFirstGoodSwapOf 1 = .ok (.iconst 1, 1) := by decide +kernel
theorem dX5_doFirstGoodSwapOf_2 : decode cX5_doFirstGoodSwapOf 2 = .ok (.iadd, 1) := by decide +kernel
theorem dX5_doFirstGoodSwapOf_3 : decode cX5_doFirstGoodSwapOf 3 = .ok (.istore 4, 2) := by decide +kernel
theorem dX5_doFirstGoodSwapOf_5 : decode cX5_doFirstGoodSwapOf 5 = .ok (.iload 4, 2) := by decide +kernel
theorem dX5_doFirstGoodSwapOf_7 : decode cX5_doFirstGoodSwapOf 7 = .ok (.aload_n 0, 1) := by decide +kernel
theorem dX5_doFirstGoodSwapOf_8 : decode cX5_doFirstGoodSwapOf 8 = .ok (.getfield 9, 3) := by decide +kernel
theorem dX5_doFirstGoodSwapOf_11 : decode cX5_doFirstGoodSwapOf 11 = .ok (.getfield 15, 3) := by decide +kernel
theorem dX5_doFirstGoodSwapOf_14 : decode cX5_doFirstGoodSwapOf 14 = .ok (.if_icmp .ge 44, 3) := by decide +kernel
theorem dX5_doFirstGoodSwapOf_17 : decode cX5_doFirstGoodSwapOf 17 = .ok (.aload_n 0, 1) := by decide +kernel
theorem dX5_doFirstGoodSwapOf_18 : decode cX5_doFirstGoodSwapOf 18 = .ok (.getfield 9, 3) := by decide +kernel
theorem dX5_doFirstGoodSwapOf_21 : decode cX5_doFirstGoodSwapOf 21 = .ok (.iload 4, 2) := by decide +kernel
theorem dX5_doFirstGoodSwapOf_23 : decode cX5_doFirstGoodSwapOf 23 = .ok (.invokevirtual 21, 3) := by decide +kernel
theorem dX5_doFirstGoodSwapOf_26 : decode cX5_doFirstGoodSwapOf 26 = .ok (.ifCond .eq 26, 3) := by decide +kernel
theorem dX5_doFirstGoodSwapOf_29 : decode cX5_doFirstGoodSwapOf 29 = .ok (.aload_n 0, 1) := by decide +kernel
theorem dX5_doFirstGoodSwapOf_30 : decode cX5_doFirstGoodSwapOf 30 = .ok (.iload_n 1, 1) := by decide +kernel
theorem dX5_doFirstGoodSwapOf_31 : decode cX5_doFirstGoodSwapOf 31 = .ok (.iload 4, 2) := by decide +kernel
theorem dX5_doFirstGoodSwapOf_33 : decode cX5_doFirstGoodSwapOf 33 = .ok (.lload_n 2, 1) := by decide +kernel
theorem dX5_doFirstGoodSwapOf_34 : decode cX5_doFirstGoodSwapOf 34 = .ok (.invokevirtual 29, 3) := by decide +kernel
theorem dX5_doFirstGoodSwapOf_37 : decode cX5_doFirstGoodSwapOf 37 = .ok (.ifCond .eq 15, 3) := by decide +kernel
theorem dX5_doFirstGoodSwapOf_40 : decode cX5_doFirstGoodSwapOf 40 = .ok (.aload_n 0, 1) := by decide +kernel
theorem dX5_doFirstGoodSwapOf_41 : decode cX5_doFirstGoodSwapOf 41 = .ok (.iload_n 1, 1) := by decide +kernel
theorem dX5_doFirstGoodSwapOf_42 : decode cX5_doFirstGoodSwapOf 42 = .ok (.iload 4, 2) := by decide +kernel
theorem dX5_doFirstGoodSwapOf_44 : decode cX5_doFirstGoodSwapOf 44 = .ok (.invokevirtual 33, 3) := by decide +kernel
theorem dX5_doFirstGoodSwapOf_47 : decode cX5_doFirstGoodSwapOf 47 = .ok (.ifCond .eq 5, 3) := by decide +kernel
theorem dX5_doFirstGoodSwapOf_50 : decode cX5_doFirstGoodSwapOf 50 = .ok (.iconst 1, 1) := by decide +kernel
theorem dX5_doFirstGoodSwapOf_51 : decode cX5_doFirstGoodSwapOf 51 = .ok (.ireturn, 1) := by decide +kernel
theorem dX5_doFirstGoodSwapOf_52 : decode cX5_doFirstGoodSwapOf 52 = .ok (.iinc 4 1, 3) := by decide +kernel
theorem dX5_doFirstGoodSwapOf_55 : decode cX5_doFirstGoodSwapOf 55 = .ok (.goto (-50), 3) := by decide +kernel
theorem dX5_doFirstGoodSwapOf_58 : decode cX5_doFirstGoodSwapOf 58 = .ok (.iconst 0, 1) := by decide +kernel
theorem dX5_doFirstGoodSwapOf_59 : decode cX5_doFirstGoodSwapOf 59 = .ok (.ireturn, 1) := by decide +kernel
theorem dX5_firstGoodPlace_0 : decode cX5_firstGoodPlace 0 = .ok (.iconst 0, 1) := by decide +kernel
theorem dX5_firstGoodPlace_1 : decode cX5_firstGoodPlace 1 = .ok (.istore 7, 2) := by decide +kernel
theorem dX5_firstGoodPlace_3 : decode cX5_firstGoodPlace 3 = .ok (.iload 7, 2) := by decide +kernel
theorem dX5_firstGoodPlace_5 : decode cX5_firstGoodPlace 5 = .ok (.aload_n 0, 1) := by decide +kernel
theorem dX5_firstGoodPlace_6 : decode cX5_firstGoodPlace 6 = .ok (.getfield 9, 3) := by decide +kernel
theorem dX5_firstGoodPlace_9 : decode cX5_firstGoodPlace 9 = .ok (.getfield 76, 3) := by decide +kernel
theorem dX5_firstGoodPlace_12 : decode cX5_firstGoodPlace 12 = .ok (.if_icmp .ge 87, 3) := by decide +kernel
theorem dX5_firstGoodPlace_15 : decode cX5_firstGoodPlace 15 = .ok (.iconst 0, 1) := by decide +kernel
theorem dX5_firstGoodPlace_16 : decode cX5_firstGoodPlace 16 = .ok (.istore 8, 2) := by decide +kernel
theorem dX5_firstGoodPlace_18 : decode cX5_firstGoodPlace 18 = .ok (.iload 8, 2) := by decide +kernel
theorem dX5_firstGoodPlace_20 : decode cX5_firstGoodPlace 20 = .ok (.aload_n 0, 1) := by decide +kernel
theorem dX5_firstGoodPlace_21 : decode cX5_firstGoodPlace 21 = .ok (.getfield 9, 3) := by decide +kernel
theorem dX5_firstGoodPlace_24 : decode cX5_firstGoodPlace 24 = .ok (.getfield 79, 3) := by decide +kernel
theorem dX5_firstGoodPlace_27 : decode cX5_firstGoodPlace 27 = .ok (.iload 7, 2) := by decide +kernel
theorem dX5_firstGoodPlace_29 : decode cX5_firstGoodPlace 29 = .ok (.iaload, 1) := by decide +kernel
theorem dX5_firstGoodPlace_30 : decode cX5_firstGoodPlace 30 = .ok (.if_icmp .ge 63, 3) := by decide +kernel
theorem dX5_firstGoodPlace_33 : decode cX5_firstGoodPlace 33 = .ok (.iload 7, 2) := by decide +kernel
theorem dX5_firstGoodPlace_35 : decode cX5_firstGoodPlace 35 = .ok (.iload 8, 2) := by decide +kernel
theorem dX5_firstGoodPlace_37 : decode cX5_firstGoodPlace 37 = .ok (.invokestatic 82, 3) := by decide +kernel
theorem dX5_firstGoodPlace_40 : decode cX5_firstGoodPlace 40 = .ok (.istore 9, 2) := by decide +kernel
theorem dX5_firstGoodPlace_42 : decode cX5_firstGoodPlace 42 = .ok (.lload 5, 2) := by decide +kernel
theorem dX5_firstGoodPlace_44 : decode cX5_firstGoodPlace 44 = .ok (.aload_n 0, 1) := by decide +kernel
theorem dX5_firstGoodPlace_45 : decode cX5_firstGoodPlace 45 = .ok (.getfield 9, 3) := by decide +kernel
theorem dX5_firstGoodPlace_48 : decode cX5_firstGoodPlace 48 = .ok (.iload_n 1, 1) := by decide +kernel
theorem dX5_firstGoodPlace_49 : decode cX5_firstGoodPlace 49 = .ok (.iload 9, 2) := by decide +kernel
theorem dX5_firstGoodPlace_51 : decode cX5_firstGoodPlace 51 = .ok (.iload_n 2, 1) := by decide +kernel
theorem dX5_firstGoodPlace_52 : decode cX5_firstGoodPlace 52 = .ok (.invokevirtual 68, 3) := by decide +kernel
theorem dX5_firstGoodPlace_55 : decode cX5_firstGoodPlace 55 = .ok (.ladd, 1) := by decide +kernel
theorem dX5_firstGoodPlace_56 : decode cX5_firstGoodPlace 56 = .ok (.lstore 10, 2) := by decide +kernel
theorem dX5_firstGoodPlace_58 : decode cX5_firstGoodPlace 58 = .ok (.lload 10, 2) := by decide +kernel
theorem dX5_firstGoodPlace_60 : decode cX5_firstGoodPlace 60 = .ok (.invokestatic 47, 3) := by decide +kernel
theorem dX5_firstGoodPlace_63 : decode cX5_firstGoodPlace 63 = .ok (.lload_n 3, 1) := by decide +kernel
theorem dX5_firstGoodPlace_64 : decode cX5_firstGoodPlace 64 = .ok (.invokestatic 47, 3) := by decide +kernel
theorem dX5_firstGoodPlace_67 : decode cX5_firstGoodPlace 67 = .ok (.lcmp, 1) := by decide +kernel
theorem dX5_firstGoodPlace_68 : decode cX5_firstGoodPlace 68 = .ok (.ifCond .ge 19, 3) := by decide +kernel
theorem dX5_firstGoodPlace_71 : decode cX5_firstGoodPlace 71 = .ok (.aload_n 0, 1) := by decide +kernel
theorem dX5_firstGoodPlace_72 : decode cX5_firstGoodPlace 72 = .ok (.getfield 9, 3) := by decide +kernel
theorem dX5_firstGoodPlace_75 : decode cX5_firstGoodPlace 75 = .ok (.iload_n 1, 1) := by decide +kernel
theorem dX5_firstGoodPlace_76 : decode cX5_firstGoodPlace 76 = .ok (.iload 9, 2) := by decide +kernel
theorem dX5_firstGoodPlace_78 : decode cX5_firstGoodPlace 78 = .ok (.invokevirtual 57, 3) := by decide +kernel
theorem dX5_firstGoodPlace_81 : decode cX5_firstGoodPlace 81 = .ok (.ifCond .ne 6, 3) := by decide +kernel
theorem dX5_firstGoodPlace_84 : decode cX5_firstGoodPlace 84 = .ok (.iload 9, 2) := by decide +kernel
theorem dX5_firstGoodPlace_86 : decode cX5_firstGoodPlace 86 = .ok (.ireturn, 1) := by decide +kernel
theorem dX5_firstGoodPlace_87 : decode cX5_firstGoodPlace 87 = .ok (.iinc 8 1, 3) := by decide +kernel
theorem dX5_firstGoodPlace_90 : decode cX5_firstGoodPlace 90 = .ok (.goto (-72), 3) := by decide +kernel
theorem dX5_firstGoodPlace_93 : decode cX5_firstGoodPlace 93 = .ok (.iinc 7 1, 3) := by decide +kernel
theorem dX5_firstGoodPlace_96 : decode cX5_firstGoodPlace 96 = .ok (.goto (-93), 3) := by decide +kernel
theorem dX5_firstGoodPlace_99 : decode cX5_firstGoodPlace 99 = .ok (.iconst (-1), 1) := by decide +kernel
theorem dX5_firstGoodPlace_100 : decode cX5_firstGoodPlace 100 = .ok (.ireturn, 1) := by decide +kernel
theorem dX5_init_0 : decode cX5_init 0 = .ok (.aload_n 0, 1) := by decide +kernel
theorem dX5_init_1 : decode cX5_init 1 = .ok (.invokespecial 3, 3) := by decide +kernel
theorem dX5_init_4 : decode cX5_init 4 = .ok (.aload_n 0, 1) := by decide +kernel
theorem dX5_init_5 : decode cX5_init 5 = .ok (.aload_n 1, 1) := by decide +kernel
theorem dX5_init_6 : decode cX5_init 6 = .ok (.putfield 9, 3) := by decide +kernel
theorem dX5_init_9 : decode cX5_init 9 = .ok (.return_, 1) := by decide +kernel
theorem dX5_isNearerSwapped_0 : decode cX5_isNearerSwapped 0 = .ok (.aload_n 0, 1) := by decide +kernel
theorem dX5_isNearerSwapped_1 : decode cX5_isNearerSwapped 1 = .ok (.getfield 9, 3) := by decide +kernel
theorem dX5_isNearerSwapped_4 : decode cX5_isNearerSwapped 4 = .ok (.getfield 37, 3) := by decide +kernel
theorem dX5_isNearerSwapped_7 : decode cX5_isNearerSwapped 7 = .ok (.aload_n 0, 1) := by decide +kernel
theorem dX5_isNearerSwapped_8 : decode cX5_isNearerSwapped 8 = .ok (.getfield 9, 3) := by decide +kernel
theorem dX5_isNearerSwapped_11 : decode cX5_isNearerSwapped 11 = .ok (.getfield 41, 3) := by decide +kernel
theorem dX5_isNearerSwapped_14 : decode cX5_isNearerSwapped 14 = .ok (.iload_n 1, 1) := by decide +kernel
theorem dX5_isNearerSwapped_15 : decode cX5_isNearerSwapped 15 = .ok (.iaload, 1) := by decide +kernel
theorem dX5_isNearerSwapped_16 : decode cX5_isNearerSwapped 16 = .ok (.iaload, 1) := by decide +kernel
theorem dX5_isNearerSwapped_17 : decode cX5_isNearerSwapped 17 = .ok (.i2l, 1) := by decide +kernel
theorem dX5_isNearerSwapped_18 : decode cX5_isNearerSwapped 18 = .ok (.lstore 5, 2) := by decide +kernel
theorem dX5_isNearerSwapped_20 : decode cX5_isNearerSwapped 20 = .ok (.aload_n 0, 1) := by decide +kernel
theorem dX5_isNearerSwapped_21 : decode cX5_isNearerSwapped 21 = .ok (.getfield 9, 3) := by decide +kernel
theorem dX5_isNearerSwapped_24 : decode cX5_isNearerSwapped 24 = .ok (.getfield 37, 3) := by decide +kernel
theorem dX5_isNearerSwapped_27 : decode cX5_isNearerSwapped 27 = .ok (.aload_n 0, 1) := by decide +kernel
theorem dX5_isNearerSwapped_28 : decode cX5_isNearerSwapped 28 = .ok (.getfield 9, 3) := by decide +kernel
theorem dX5_isNearerSwapped_31 : decode cX5_isNearerSwapped 31 = .ok (.getfield 41, 3) := by decide +kernel
theorem dX5_isNearerSwapped_34 : decode cX5_isNearerSwapped 34 = .ok (.iload_n 2, 1) := by decide +kernel
theorem dX5_isNearerSwapped_35 : decode cX5_isNearerSwapped 35 = .ok (.iaload, 1) := by decide +kernel
theorem dX5_isNearerSwapped_36 : decode cX5_isNearerSwapped 36 = .ok (.iaload, 1) := by decide +kernel
theorem dX5_isNearerSwapped_37 : decode cX5_isNearerSwapped 37 = .ok (.i2l, 1) := by decide +kernel
theorem dX5_isNearerSwapped_38 : decode cX5_isNearerSwapped 38 = .ok (.lstore 7, 2) := by decide +kernel
theorem dX5_isNearerSwapped_40 : decode cX5_isNearerSwapped 40 = .ok (.aload_n 0, 1) := by decide +kernel
theorem dX5_isNearerSwapped_41 : decode cX5_isNearerSwapped 41 = .ok (.getfield 9, 3) := by decide +kernel
theorem dX5_isNearerSwapped_44 : decode cX5_isNearerSwapped 44 = .ok (.getfield 44, 3) := by decide +kernel
theorem dX5_isNearerSwapped_47 : decode cX5_isNearerSwapped 47 = .ok (.iload_n 1, 1) := by decide +kernel
theorem dX5_isNearerSwapped_48 : decode cX5_isNearerSwapped 48 = .ok (.iaload, 1) := by decide +kernel
theorem dX5_isNearerSwapped_49 : decode cX5_isNearerSwapped 49 = .ok (.aload_n 0, 1) := by decide +kernel
theorem dX5_isNearerSwapped_50 : decode cX5_isNearerSwapped 50 = .ok (.getfield 9, 3) := by decide +kernel
theorem dX5_isNearerSwapped_53 : decode cX5_isNearerSwapped 53 = .ok (.getfield 44, 3) := by decide +kernel
theorem dX5_isNearerSwapped_56 : decode cX5_isNearerSwapped 56 = .ok (.iload_n 2, 1) := by decide +kernel
theorem dX5_isNearerSwapped_57 : decode cX5_isNearerSwapped 57 = .ok (.iaload, 1) := by decide +kernel
theorem dX5_isNearerSwapped_58 : decode cX5_isNearerSwapped 58 = .ok (.isub, 1) := by decide +kernel
theorem dX5_isNearerSwapped_59 : decode cX5_isNearerSwapped 59 = .ok (.i2l, 1) := by decide +kernel
theorem dX5_isNearerSwapped_60 : decode cX5_isNearerSwapped 60 = .ok (.lload 7, 2) := by decide +kernel
theorem dX5_isNearerSwapped_62 : decode cX5_isNearerSwapped 62 = .ok (.lload 5, 2) := by decide +kernel
theorem dX5_isNearerSwapped_64 : decode cX5_isNearerSwapped 64 = .ok (.lsub, 1) := by decide +kernel
theorem dX5_isNearerSwapped_65 : decode cX5_isNearerSwapped 65 = .ok (.lmul, 1) := by decide +kernel
theorem dX5_isNearerSwapped_66 : decode cX5_isNearerSwapped 66 = .ok (.lstore 9, 2) := by decide +kernel
theorem dX5_isNearerSwapped_68 : decode cX5_isNearerSwapped 68 = .ok (.lload_n 3, 1) := by decide +kernel
theorem dX5_isNearerSwapped_69 : decode cX5_isNearerSwapped 69 = .ok (.lload 9, 2) := by decide +kernel
theorem dX5_isNearerSwapped_71 : decode cX5_isNearerSwapped 71 = .ok (.ladd, 1) := by decide +kernel
theorem dX5_isNearerSwapped_72 : decode cX5_isNearerSwapped 72 = .ok (.invokestatic 47, 3) := by decide +kernel
theorem dX5_isNearerSwapped_75 : decode cX5_isNearerSwapped 75 = .ok (.lload_n 3, 1) := by decide +kernel
theorem dX5_isNearerSwapped_76 : decode cX5_isNearerSwapped 76 = .ok (.invokestatic 47, 3) := by decide +kernel
theorem dX5_isNearerSwapped_79 : decode cX5_isNearerSwapped 79 = .ok (.lcmp, 1) := by decide +kernel
theorem dX5_isNearerSwapped_80 : decode cX5_isNearerSwapped 80 = .ok (.ifCond .ge 7, 3) := by decide +kernel
theorem dX5_isNearerSwapped_83 : decode cX5_isNearerSwapped 83 = .ok (.iconst 1, 1) := by decide +kernel
theorem dX5_isNearerSwapped_84 : decode cX5_isNearerSwapped 84 = .ok (.goto 4, 3) := by decide +kernel
theorem dX5_isNearerSwapped_87 : decode cX5_isNearerSwapped 87 = .ok (.iconst 0, 1) := by decide +kernel
theorem dX5_isNearerSwapped_88 : decode cX5_isNearerSwapped 88 = .ok (.ireturn, 1) := by decide +kernel
theorem dX5_moveIfGood_0 : decode cX5_moveIfGood 0 = .ok (.aload_n 0, 1) := by decide +kernel
theorem dX5_moveIfGood_1 : decode cX5_moveIfGood 1 = .ok (.getfield 9, 3) := by decide +kernel
theorem dX5_moveIfGood_4 : decode cX5_moveIfGood 4 = .ok (.getfield 41, 3) := by decide +kernel
theorem dX5_moveIfGood_7 : decode cX5_moveIfGood 7 = .ok (.iload_n 1, 1) := by decide +kernel
theorem dX5_moveIfGood_8 : decode cX5_moveIfGood 8 = .ok (.iaload, 1) := by decide +kernel
theorem dX5_moveIfGood_9 : decode cX5_moveIfGood 9 = .ok (.istore 5, 2) := by decide +kernel
theorem dX5_moveIfGood_11 : decode cX5_moveIfGood 11 = .ok (.aload_n 0, 1) := by decide +kernel
theorem dX5_moveIfGood_12 : decode cX5_moveIfGood 12 = .ok (.getfield 9, 3) := by decide +kernel
theorem dX5_moveIfGood_15 : decode cX5_moveIfGood 15 = .ok (.iload_n 1, 1) := by decide +kernel
theorem dX5_moveIfGood_16 : decode cX5_moveIfGood 16 = .ok (.invokevirtual 53, 3) := by decide +kernel
theorem dX5_moveIfGood_19 : decode cX5_moveIfGood 19 = .ok (.aload_n 0, 1) := by decide +kernel
theorem dX5_moveIfGood_20 : decode cX5_moveIfGood 20 = .ok (.iload_n 1, 1) := by decide +kernel
theorem dX5_moveIfGood_21 : decode cX5_moveIfGood 21 = .ok (.iload_n 2, 1) := by decide +kernel
theorem dX5_moveIfGood_22 : decode cX5_moveIfGood 22 = .ok (.lload_n 3, 1) := by decide +kernel
theorem dX5_moveIfGood_23 : decode cX5_moveIfGood 23 = .ok (.lload_n 3, 1) := by decide +kernel
theorem dX5_moveIfGood_24 : decode cX5_moveIfGood 24 = .ok (.aload_n 0, 1) := by decide +kernel
theorem dX5_moveIfGood_25 : decode cX5_moveIfGood 25 = .ok (.getfield 9, 3) := by decide +kernel
theorem dX5_moveIfGood_28 : decode cX5_moveIfGood 28 = .ok (.iload_n 1, 1) := by decide +kernel
theorem dX5_moveIfGood_29 : decode cX5_moveIfGood 29 = .ok (.iload 5, 2) := by decide +kernel
theorem dX5_moveIfGood_31 : decode cX5_moveIfGood 31 = .ok (.iload_n 2, 1) := by decide +kernel
theorem dX5_moveIfGood_32 : decode cX5_moveIfGood 32 = .ok (.invokevirtual 68, 3) := by decide +kernel
theorem dX5_moveIfGood_35 : decode cX5_moveIfGood 35 = .ok (.lsub, 1) := by decide +kernel
theorem dX5_moveIfGood_36 : decode cX5_moveIfGood 36 = .ok (.invokevirtual 72, 3) := by decide +kernel
theorem dX5_moveIfGood_39 : decode cX5_moveIfGood 39 = .ok (.istore 6, 2) := by decide +kernel
theorem dX5_moveIfGood_41 : decode cX5_moveIfGood 41 = .ok (.aload_n 0, 1) := by decide +kernel
theorem dX5_moveIfGood_42 : decode cX5_moveIfGood 42 = .ok (.getfield 9, 3) := by decide +kernel
theorem dX5_moveIfGood_45 : decode cX5_moveIfGood 45 = .ok (.iload_n 1, 1) := by decide +kernel
theorem dX5_moveIfGood_46 : decode cX5_moveIfGood 46 = .ok (.iload 6, 2) := by decide +kernel
theorem dX5_moveIfGood_48 : decode cX5_moveIfGood 48 = .ok (.iconst (-1), 1) := by decide +kernel
theorem dX5_moveIfGood_49 : decode cX5_moveIfGood 49 = .ok (.if_icmp .ne 8, 3) := by decide +kernel
theorem dX5_moveIfGood_52 : decode cX5_moveIfGood 52 = .ok (.iload 5, 2) := by decide +kernel
theorem dX5_moveIfGood_54 : decode cX5_moveIfGood 54 = .ok (.goto 5, 3) := by decide +kernel
theorem dX5_moveIfGood_57 : decode cX5_moveIfGood 57 = .ok (.iload 6, 2) := by decide +kernel
theorem dX5_moveIfGood_59 : decode cX5_moveIfGood 59 = .ok (.invokevirtual 61, 3) := by decide +kernel
theorem dX5_moveIfGood_62 : decode cX5_moveIfGood 62 = .ok (.iload 6, 2) := by decide +kernel
theorem dX5_moveIfGood_64 : decode cX5_moveIfGood 64 = .ok (.iconst (-1), 1) := by decide +kernel
theorem dX5_moveIfGood_65 : decode cX5_moveIfGood 65 = .ok (.if_icmp .eq 7, 3) := by decide +kernel
theorem dX5_moveIfGood_68 : decode cX5_moveIfGood 68 = .ok (.iconst 1, 1) := by decide +kernel
theorem dX5_moveIfGood_69 : decode cX5_moveIfGood 69 = .ok (.goto 4, 3) := by decide +kernel
theorem dX5_moveIfGood_72 : decode cX5_moveIfGood 72 = .ok (.iconst 0, 1) := by decide +kernel
theorem dX5_moveIfGood_73 : decode cX5_moveIfGood 73 = .ok (.ireturn, 1) := by decide +kernel
theorem dX5_swapIfBothFit_0 : decode cX5_swapIfBothFit 0 = .ok (.aload_n 0, 1) := by decide +kernel
theorem dX5_swapIfBothFit_1 : decode cX5_swapIfBothFit 1 = .ok (.getfield 9, 3) := by decide +kernel
theorem dX5_swapIfBothFit_4 : decode cX5_swapIfBothFit 4 = .ok (.getfield 41, 3) := by decide +kernel
theorem dX5_swapIfBothFit_7 : decode cX5_swapIfBothFit 7 = .ok (.iload_n 1, 1) := by decide +kernel
theorem dX5_swapIfBothFit_8 : decode cX5_swapIfBothFit 8 = .ok (.iaload, 1) := by decide +kernel
theorem dX5_swapIfBothFit_9 : decode cX5_swapIfBothFit 9 = .ok (.istore_n 3, 1) := by decide +kernel
theorem dX5_swapIfBothFit_10 : decode cX5_swapIfBothFit 10 = .ok (.aload_n 0, 1) := by decide +kernel
theorem dX5_swapIfBothFit_11 : decode cX5_swapIfBothFit 11 = .ok (.getfield 9, 3) := by decide +kernel
theorem dX5_swapIfBothFit_14 : decode cX5_swapIfBothFit 14 = .ok (.getfield 41, 3) := by decide +kernel
theorem dX5_swapIfBothFit_17 : decode cX5_swapIfBothFit 17 = .ok (.iload_n 2, 1) := by decide +kernel
theorem dX5_swapIfBothFit_18 : decode cX5_swapIfBothFit 18 = .ok (.iaload, 1) := by decide +kernel
theorem dX5_swapIfBothFit_19 : decode cX5_swapIfBothFit 19 = .ok (.istore 4, 2) := by decide +kernel
theorem dX5_swapIfBothFit_21 : decode cX5_swapIfBothFit 21 = .ok (.aload_n 0, 1) := by decide +kernel
theorem dX5_swapIfBothFit_22 : decode cX5_swapIfBothFit 22 = .ok (.getfield 9, 3) := by decide +kernel
theorem dX5_swapIfBothFit_25 : decode cX5_swapIfBothFit 25 = .ok (.iload_n 1, 1) := by decide +kernel
theorem dX5_swapIfBothFit_26 : decode cX5_swapIfBothFit 26 = .ok (.invokevirtual 53, 3) := by decide +kernel
theorem dX5_swapIfBothFit_29 : decode cX5_swapIfBothFit 29 = .ok (.aload_n 0, 1) := by decide +kernel
theorem dX5_swapIfBothFit_30 : decode cX5_swapIfBothFit 30 = .ok (.getfield 9, 3) := by decide +kernel
theorem dX5_swapIfBothFit_33 : decode cX5_swapIfBothFit 33 = .ok (.iload_n 2, 1) := by decide +kernel
theorem dX5_swapIfBothFit_34 : decode cX5_swapIfBothFit 34 = .ok (.invokevirtual 53, 3) := by decide +kernel
theorem dX5_swapIfBothFit_37 : decode cX5_swapIfBothFit 37 = .ok (.aload_n 0, 1) := by decide +kernel
theorem dX5_swapIfBothFit_38 : decode cX5_swapIfBothFit 38 = .ok (.getfield 9, 3) := by decide +kernel
theorem dX5_swapIfBothFit_41 : decode cX5_swapIfBothFit 41 = .ok (.iload_n 1, 1) := by decide +kernel
theorem dX5_swapIfBothFit_42 : decode cX5_swapIfBothFit 42 = .ok (.iload 4, 2) := by decide +kernel
theorem dX5_swapIfBothFit_44 : decode cX5_swapIfBothFit 44 = .ok (.invokevirtual 57, 3) := by decide +kernel
theorem dX5_swapIfBothFit_47 : decode cX5_swapIfBothFit 47 = .ok (.ifCond .ne 19, 3) := by decide +kernel
theorem dX5_swapIfBothFit_50 : decode cX5_swapIfBothFit 50 = .ok (.aload_n 0, 1) := by decide +kernel
theorem dX5_swapIfBothFit_51 : decode cX5_swapIfBothFit 51 = .ok (.getfield 9, 3) := by decide +kernel
theorem dX5_swapIfBothFit_54 : decode cX5_swapIfBothFit 54 = .ok (.iload_n 2, 1) := by decide +kernel
theorem dX5_swapIfBothFit_55 : decode cX5_swapIfBothFit 55 = .ok (.iload_n 3, 1) := by decide +kernel
theorem dX5_swapIfBothFit_56 : decode cX5_swapIfBothFit 56 = .ok (.invokevirtual 57, 3) := by decide +kernel
theorem dX5_swapIfBothFit_59 : decode cX5_swapIfBothFit 59 = .ok (.ifCond .ne 7, 3) := by decide +kernel
theorem dX5_swapIfBothFit_62 : decode cX5_swapIfBothFit 62 = .ok (.iconst 1, 1) := by decide +kernel
theorem dX5_swapIfBothFit_63 : decode cX5_swapIfBothFit 63 = .ok (.goto 4, 3) := by decide +kernel
theorem dX5_swapIfBothFit_66 : decode cX5_swapIfBothFit 66 = .ok (.iconst 0, 1) := by decide +kernel
theorem dX5_swapIfBothFit_67 : decode cX5_swapIfBothFit 67 = .ok (.istore 5, 2) := by decide +kernel
theorem dX5_swapIfBothFit_69 : decode cX5_swapIfBothFit 69 = .ok (.aload_n 0, 1) := by decide +kernel
theorem dX5_swapIfBothFit_70 : decode cX5_swapIfBothFit 70 = .ok (.getfield 9, 3) := by decide +kernel
theorem dX5_swapIfBothFit_73 : decode cX5_swapIfBothFit 73 = .ok (.iload_n 1, 1) := by decide +kernel
theorem dX5_swapIfBothFit_74 : decode cX5_swapIfBothFit 74 = .ok (.iload 5, 2) := by decide +kernel
theorem dX5_swapIfBothFit_76 : decode cX5_swapIfBothFit 76 = .ok (.ifCond .eq 8, 3) := by decide +kernel
theorem dX5_swapIfBothFit_79 : decode cX5_swapIfBothFit 79 = .ok (.iload 4, 2) := by decide +kernel
theorem dX5_swapIfBothFit_81 : decode cX5_swapIfBothFit 81 = .ok (.goto 4, 3) := by decide +kernel
theorem dX5_swapIfBothFit_84 : decode cX5_swapIfBothFit 84 = .ok (.iload_n 3, 1) := by decide +kernel
theorem dX5_swapIfBothFit_85 : decode cX5_swapIfBothFit 85 = .ok (.invokevirtual 61, 3) := by decide +kernel
theorem dX5_swapIfBothFit_88 : decode cX5_swapIfBothFit 88 = .ok (.aload_n 0, 1) := by decide +kernel
theorem dX5_swapIfBothFit_89 : decode cX5_swapIfBothFit 89 = .ok (.getfield 9, 3) := by decide +kernel
theorem dX5_swapIfBothFit_92 : decode cX5_swapIfBothFit 92 = .ok (.iload_n 2, 1) := by decide +kernel
theorem dX5_swapIfBothFit_93 : decode cX5_swapIfBothFit 93 = .ok (.iload 5, 2) := by decide +kernel
theorem dX5_swapIfBothFit_95 : decode cX5_swapIfBothFit 95 = .ok (.ifCond .eq 7, 3) := by decide +kernel
theorem dX5_swapIfBothFit_98 : decode cX5_swapIfBothFit 98 = .ok (.iload_n 3, 1) := by decide +kernel
theorem dX5_swapIfBothFit_99 : decode cX5_swapIfBothFit 99 = .ok (.goto 5, 3) := by decide +kernel
theorem dX5_swapIfBothFit_102 : decode cX5_swapIfBothFit 102 = .ok (.iload 4, 2) := by decide +kernel
theorem dX5_swapIfBothFit_104 : decode cX5_swapIfBothFit 104 = .ok (.invokevirtual 61, 3) := by decide +kernel
theorem dX5_swapIfBothFit_107 : decode cX5_swapIfBothFit 107 = .ok (.iload 5, 2) := by decide +kernel
theorem dX5_swapIfBothFit_109 : decode cX5_swapIfBothFit 109 = .ok (.ireturn, 1) := by decide +kernel
theorem dX6_addTank_0 : decode cX6_addTank 0 = .ok (.aload_n 0, 1) := by decide +kernel
theorem dX6_addTank_1 : decode cX6_addTank 1 = .ok (.getfield 21, 3) := by decide +kernel
theorem dX6_addTank_4 : decode cX6_addTank 4 = .ok (.iconst 4, 1) := by decide +kernel
theorem dX6_addTank_5 : decode cX6_addTank 5 = .ok (.if_icmp .lt 6, 3) := by decide +kernel
theorem dX6_addTank_8 : decode cX6_addTank 8 = .ok (.bipush (-4), 2) := by decide +kernel
theorem dX6_addTank_10 : decode cX6_addTank 10 = .ok (.ireturn, 1) := by decide +kernel
theorem dX6_addTank_11 : decode cX6_addTank 11 = .ok (.aload_n 0, 1) := by decide +kernel
theorem dX6_addTank_12 : decode cX6_addTank 12 = .ok (.getfield 11, 3) := by decide +kernel
theorem dX6_addTank_15 : decode cX6_addTank 15 = .ok (.aload_n 0, 1) := by decide +kernel
theorem dX6_addTank_16 : decode cX6_addTank 16 = .ok (.getfield 21, 3) := by decide +kernel
theorem dX6_addTank_19 : decode cX6_addTank 19 = .ok (.iload_n 1, 1) := by decide +kernel
theorem dX6_addTank_20 : decode cX6_addTank 20 = .ok (.iastore, 1) := by decide +kernel
theorem dX6_addTank_21 : decode cX6_addTank 21 = .ok (.aload_n 0, 1) := by decide +kernel
theorem dX6_addTank_22 : decode cX6_addTank 22 = .ok (.getfield 15, 3) := by decide +kernel
theorem dX6_addTank_25 : decode cX6_addTank 25 = .ok (.aload_n 0, 1) := by decide +kernel
theorem dX6_addTank_26 : decode cX6_addTank 26 = .ok (.getfield 21, 3) := by decide +kernel
theorem dX6_addTank_29 : decode cX6_addTank 29 = .ok (.iload_n 2, 1) := by decide +kernel
theorem dX6_addTank_30 : decode cX6_addTank 30 = .ok (.iastore, 1) := by decide +kernel
theorem dX6_addTank_31 : decode cX6_addTank 31 = .ok (.aload_n 0, 1) := by decide +kernel
theorem dX6_addTank_32 : decode cX6_addTank 32 = .ok (.dup, 1) := by decide +kernel
theorem dX6_addTank_33 : decode cX6_addTank 33 = .ok (.getfield 21, 3) := by decide +kernel
theorem dX6_addTank_36 : decode cX6_addTank 36 = .ok (.dup_x1, 1) := by decide +kernel
theorem dX6_addTank_37 : decode cX6_addTank 37 = .ok (.iconst 1, 1) := by decide +kernel
theorem dX6_addTank_38 : decode cX6_addTank 38 = .ok (.iadd, 1) := by decide +kernel
theorem dX6_addTank_39 : decode cX6_addTank 39 = .ok (.putfield 21, 3) := by decide +kernel
theorem dX6_addTank_42 : decode cX6_addTank 42 = .ok (.ireturn, 1) := by decide +kernel
theorem dX6_init_0 : decode cX6_init 0 = .ok (.aload_n 0, 1) := by decide +kernel
theorem dX6_init_1 : decode cX6_init 1 = .ok (.invokespecial 3, 3) := by decide +kernel
theorem dX6_init_4 : decode cX6_init 4 = .ok (.aload_n 0, 1) := by decide +kernel
theorem dX6_init_5 : decode cX6_init 5 = .ok (.iconst 4, 1) := by decide +kernel
theorem dX6_init_6 : decode cX6_init 6 = .ok (.newarray .int, 2) := by decide +kernel
theorem dX6_init_8 : decode cX6_init 8 = .ok (.putfield 11, 3) := by decide +kernel
theorem dX6_init_11 : decode cX6_init 11 = .ok (.aload_n 0, 1) := by decide +kernel
theorem dX6_init_12 : decode cX6_init 12 = .ok (.iconst 4, 1) := by decide +kernel
theorem dX6_init_13 : decode cX6_init 13 = .ok (.newarray .int, 2) := by decide +kernel
theorem dX6_init_15 : decode cX6_init 15 = .ok (.putfield 15, 3) := by decide +kernel
theorem dX6_init_18 : decode cX6_init 18 = .ok (.aload_n 0, 1) := by decide +kernel
theorem dX6_init_19 : decode cX6_init 19 = .ok (.iconst 4, 1) := by decide +kernel
theorem dX6_init_20 : decode cX6_init 20 = .ok (.newarray .int, 2) := by decide +kernel
theorem dX6_init_22 : decode cX6_init 22 = .ok (.putfield 18, 3) := by decide +kernel
theorem dX6_init_25 : decode cX6_init 25 = .ok (.aload_n 0, 1) := by decide +kernel
theorem dX6_init_26 : decode cX6_init 26 = .ok (.iconst 0, 1) := by decide +kernel
theorem dX6_init_27 : decode cX6_init 27 = .ok (.putfield 21, 3) := by decide +kernel
theorem dX6_init_30 : decode cX6_init 30 = .ok (.return_, 1) := by decide +kernel
theorem dX6_momentLeft_0 : decode cX6_momentLeft 0 = .ok (.lconst 0, 1) := by decide +kernel
theorem dX6_momentLeft_1 : decode cX6_momentLeft 1 = .ok (.lstore_n 2, 1) := by decide +kernel
theorem dX6_momentLeft_2 : decode cX6_momentLeft 2 = .ok (.iload_n 1, 1) := by decide +kernel
theorem dX6_momentLeft_3 : decode cX6_momentLeft 3 = .ok (.istore 4, 2) := by decide +kernel
theorem dX6_momentLeft_5 : decode cX6_momentLeft 5 = .ok (.aload_n 0, 1) := by decide +kernel
theorem dX6_momentLeft_6 : decode cX6_momentLeft 6 = .ok (.getfield 21, 3) := by decide +kernel
theorem dX6_momentLeft_9 : decode cX6_momentLeft 9 = .ok (.iconst 1, 1) := by decide +kernel
theorem dX6_momentLeft_10 : decode cX6_momentLeft 10 = .ok (.isub, 1) := by decide +kernel
theorem dX6_momentLeft_11 : decode cX6_momentLeft 11 = .ok (.istore 5, 2) := by decide +kernel
theorem dX6_momentLeft_13 : decode cX6_momentLeft 13 = .ok (.iload 5, 2) := by decide +kernel
theorem dX6_momentLeft_15 : decode cX6_momentLeft 15 = .ok (.ifCond .lt 53, 3) := by decide +kernel
theorem dX6_momentLeft_18 : decode cX6_momentLeft 18 = .ok (.iload 4, 2) := by decide +kernel
theorem dX6_momentLeft_20 : decode cX6_momentLeft 20 = .ok (.aload_n 0, 1) := by decide +kernel
theorem dX6_momentLeft_21 : decode cX6_momentLeft 21 = .ok (.getfield 18, 3) := by decide +kernel
theorem dX6_momentLeft_24 : decode cX6_momentLeft 24 = .ok (.iload 5, 2) := by decide +kernel
theorem dX6_momentLeft_26 : decode cX6_momentLeft 26 = .ok (.iaload, 1) := by decide +kernel
theorem dX6_momentLeft_27 : decode cX6_momentLeft 27 = .ok (.invokestatic 25, 3) := by decide +kernel
theorem dX6_momentLeft_30 : decode cX6_momentLeft 30 = .ok (.istore 6, 2) := by decide +kernel
theorem dX6_momentLeft_32 : decode cX6_momentLeft 32 = .ok (.iload 4, 2) := by decide +kernel
theorem dX6_momentLeft_34 : decode cX6_momentLeft 34 = .ok (.iload 6, 2) := by decide +kernel
theorem dX6_momentLeft_36 : decode cX6_momentLeft 36 = .ok (.isub, 1) := by decide +kernel
theorem dX6_momentLeft_37 : decode cX6_momentLeft 37 = .ok (.istore 4, 2) := by decide +kernel
theorem dX6_momentLeft_39 : decode cX6_momentLeft 39 = .ok (.lload_n 2, 1) := by decide +kernel
theorem dX6_momentLeft_40 : decode cX6_momentLeft 40 = .ok (.aload_n 0, 1) := by decide +kernel
theorem dX6_momentLeft_41 : decode cX6_momentLeft 41 = .ok (.getfield 18, 3) := by decide +kernel
theorem dX6_momentLeft_44 : decode cX6_momentLeft 44 = .ok (.iload 5, 2) := by decide +kernel
theorem dX6_momentLeft_46 : decode cX6_momentLeft 46 = .ok (.iaload, 1) := by decide +kernel
theorem dX6_momentLeft_47 : decode cX6_momentLeft 47 = .ok (.iload 6, 2) := by decide +kernel
theorem dX6_momentLeft_49 : decode cX6_momentLeft 49 = .ok (.isub, 1) := by decide +kernel
theorem dX6_momentLeft_50 : decode cX6_momentLeft 50 = .ok (.i2l, 1) := by decide +kernel
theorem dX6_momentLeft_51 : decode cX6_momentLeft 51 = .ok (.aload_n 0, 1) := by decide +kernel
theorem dX6_momentLeft_52 : decode cX6_momentLeft 52 = .ok (.getfield 11, 3) := by decide +kernel
theorem dX6_momentLeft_55 : decode cX6_momentLeft 55 = .ok (.iload 5, 2) := by decide +kernel
theorem dX6_momentLeft_57 : decode cX6_momentLeft 57 = .ok (.iaload, 1) := by decide +kernel
theorem dX6_momentLeft_58 : decode cX6_momentLeft 58 = .ok (.i2l, 1) := by decide +kernel
theorem dX6_momentLeft_59 : decode cX6_momentLeft 59 = .ok (.lmul, 1) := by decide +kernel
theorem dX6_momentLeft_60 : decode cX6_momentLeft 60 = .ok (.ladd, 1) := by decide +kernel
theorem dX6_momentLeft_61 : decode cX6_momentLeft 61 = .ok (.lstore_n 2, 1) := by decide +kernel
theorem dX6_momentLeft_62 : decode cX6_momentLeft 62 = .ok (.iinc 5 (-1), 3) := by decide +kernel
theorem dX6_momentLeft_65 : decode cX6_momentLeft 65 = .ok (.goto (-52), 3) := by decide +kernel
theorem dX6_momentLeft_68 : decode cX6_momentLeft 68 = .ok (.lload_n 2, 1) := by decide +kernel
theorem dX6_momentLeft_69 : decode cX6_momentLeft 69 = .ok (.lreturn, 1) := by decide +kernel
theorem dX6_nextDryMoment_0 : decode cX6_nextDryMoment 0 = .ok (.iconst 0, 1) := by decide +kernel
theorem dX6_nextDryMoment_1 : decode cX6_nextDryMoment 1 = .ok (.istore_n 2, 1) := by decide +kernel
theorem dX6_nextDryMoment_2 : decode cX6_nextDryMoment 2 = .ok (.aload_n 0, 1) := by decide +kernel
theorem dX6_nextDryMoment_3 : decode cX6_nextDryMoment 3 = .ok (.getfield 21, 3) := by decide +kernel
theorem dX6_nextDryMoment_6 : decode cX6_nextDryMoment 6 = .ok (.iconst 1, 1) := by decide +kernel
theorem dX6_nextDryMoment_7 : decode cX6_nextDryMoment 7 = .ok (.isub, 1) := by decide +kernel
theorem dX6_nextDryMoment_8 : decode cX6_nextDryMoment 8 = .ok (.istore_n 3, 1) := by decide +kernel
theorem dX6_nextDryMoment_9 : decode cX6_nextDryMoment 9 = .ok (.iload_n 3, 1) := by decide +kernel
theorem dX6_nextDryMoment_10 : decode cX6_nextDryMoment 10 = .ok (.ifCond .lt 25, 3) := by decide +kernel
theorem dX6_nextDryMoment_13 : decode cX6_nextDryMoment 13 = .ok (.iload_n 2, 1) := by decide +kernel
theorem dX6_nextDryMoment_14 : decode cX6_nextDryMoment 14 = .ok (.aload_n 0, 1) := by decide +kernel
theorem dX6_nextDryMoment_15 : decode cX6_nextDryMoment 15 = .ok (.getfield 18, 3) := by decide +kernel
theorem dX6_nextDryMoment_18 : decode cX6_nextDryMoment 18 = .ok (.iload_n 3, 1) := by decide +kernel
theorem dX6_nextDryMoment_19 : decode cX6_nextDryMoment 19 = .ok (.iaload, 1) := by decide +kernel
theorem dX6_nextDryMoment_20 : decode cX6_nextDryMoment 20 = .ok (.iadd, 1) := by decide +kernel
theorem dX6_nextDryMoment_21 : decode cX6_nextDryMoment 21 = .ok (.istore_n 2, 1) := by decide +kernel
theorem dX6_nextDryMoment_22 : decode cX6_nextDryMoment 22 = .ok (.iload_n 2, 1) := by decide +kernel
theorem dX6_nextDryMoment_23 : decode cX6_nextDryMoment 23 = .ok (.iload_n 1, 1) := by decide +kernel
theorem dX6_nextDryMoment_24 : decode cX6_nextDryMoment 24 = .ok (.if_icmp .lt 5, 3) := by decide +kernel
theorem dX6_nextDryMoment_27 : decode cX6_nextDryMoment 27 = .ok (.iload_n 2, 1) := by decide +kernel
theorem dX6_nextDryMoment_28 : decode cX6_nextDryMoment 28 = .ok (.ireturn, 1) := by decide +kernel
theorem dX6_nextDryMoment_29 : decode cX6_nextDryMoment 29 = .ok (.iinc 3 (-1), 3) := by decide +kernel
theorem dX6_nextDryMoment_32 : decode cX6_nextDryMoment 32 = .ok (.goto (-23), 3) := by decide +kernel
theorem dX6_nextDryMoment_35 : decode cX6_nextDryMoment 35 = .ok (.iload_n 1, 1) := by decide +kernel
theorem dX6_nextDryMoment_36 : decode cX6_nextDryMoment 36 = .ok (.ireturn, 1) := by decide +kernel
theorem dX6_totalAmount_0 : decode cX6_totalAmount 0 = .ok (.iconst 0, 1) := by decide +kernel
theorem dX6_totalAmount_1 : decode cX6_totalAmount 1 = .ok (.istore_n 1, 1) := by decide +kernel
theorem dX6_totalAmount_2 : decode cX6_totalAmount 2 = .ok (.iconst 0, 1) := by decide +kernel
theorem dX6_totalAmount_3 : decode cX6_totalAmount 3 = .ok (.istore_n 2, 1) := by decide +kernel
theorem dX6_totalAmount_4 : decode cX6_totalAmount 4 = .ok (.iload_n 2, 1) := by decide +kernel
theorem dX6_totalAmount_5 : decode cX6_totalAmount 5 = .ok (.aload_n 0, 1) := by decide +kernel
theorem dX6_totalAmount_6 : decode cX6_totalAmount 6 = .ok (.getfield 21, 3) := by decide +kernel
theorem dX6_totalAmount_9 : decode cX6_totalAmount 9 = .ok (.if_icmp .ge 18, 3) := by decide +kernel
theorem dX6_totalAmount_12 : decode cX6_totalAmount 12 = .ok (.iload_n 1, 1) := by decide +kernel
theorem dX6_totalAmount_13 : decode cX6_totalAmount 13 = .ok (.aload_n 0, 1) := by decide +kernel
theorem dX6_totalAmount_14 : decode cX6_totalAmount 14 = .ok (.getfield 18, 3) := by decide +kernel
theorem dX6_totalAmount_17 : decode cX6_totalAmount 17 = .ok (.iload_n 2, 1) := by decide +kernel
theorem dX6_totalAmount_18 : decode cX6_totalAmount 18 = .ok (.iaload, 1) := by decide +kernel
theorem dX6_totalAmount_19 : decode cX6_totalAmount 19 = .ok (.iadd, 1) := by decide +kernel
theorem dX6_totalAmount_20 : decode cX6_totalAmount 20 = .ok (.istore_n 1, 1) := by decide +kernel
theorem dX6_totalAmount_21 : decode cX6_totalAmount 21 = .ok (.iinc 2 1, 3) := by decide +kernel
theorem dX6_totalAmount_24 : decode cX6_totalAmount 24 = .ok (.goto (-20), 3) := by decide +kernel
theorem dX6_totalAmount_27 : decode cX6_totalAmount 27 = .ok (.iload_n 1, 1) := by decide +kernel
theorem dX6_totalAmount_28 : decode cX6_totalAmount 28 = .ok (.ireturn, 1) := by decide +kernel
theorem dX7_about_0 : decode cX7_about 0 = .ok (.aload_n 0, 1) := by decide +kernel
theorem dX7_about_1 : decode cX7_about 1 = .ok (.getfield 21, 3) := by decide +kernel
theorem dX7_about_4 : decode cX7_about 4 = .ok (.iload_n 1, 1) := by decide +kernel
theorem dX7_about_5 : decode cX7_about 5 = .ok (.invokevirtual 90, 3) := by decide +kernel
theorem dX7_about_8 : decode cX7_about 8 = .ok (.ifCond .ne 5, 3) := by decide +kernel
theorem dX7_about_11 : decode cX7_about 11 = .ok (.iconst (-1), 1) := by decide +kernel
theorem dX7_about_12 : decode cX7_about 12 = .ok (.ireturn, 1) := by decide +kernel
theorem dX7_about_13 : decode cX7_about 13 = .ok (.iload_n 2, 1) := by decide +kernel
theorem dX7_about_14 : decode cX7_about 14 = .ok (.tableswitch 53 0 2 #[26, 35, 44], 26) := by decide +kernel
theorem dX7_about_40 : decode cX7_about 40 = .ok (.aload_n 0, 1) := by decide +kernel
theorem dX7_about_41 : decode cX7_about 41 = .ok (.getfield 21, 3) := by decide +kernel
theorem dX7_about_44 : decode cX7_about 44 = .ok (.iload_n 1, 1) := by decide +kernel
theorem dX7_about_45 : decode cX7_about 45 = .ok (.invokevirtual 192, 3) := by decide +kernel
theorem dX7_about_48 : decode cX7_about 48 = .ok (.ireturn, 1) := by decide +kernel
theorem dX7_about_49 : decode cX7_about 49 = .ok (.aload_n 0, 1) := by decide +kernel
theorem dX7_about_50 : decode cX7_about 50 = .ok (.getfield 21, 3) := by decide +kernel
theorem dX7_about_53 : decode cX7_about 53 = .ok (.iload_n 1, 1) := by decide +kernel
theorem dX7_about_54 : decode cX7_about 54 = .ok (.invokevirtual 195, 3) := by decide +kernel
theorem dX7_about_57 : decode cX7_about 57 = .ok (.ireturn, 1) := by decide +kernel
theorem dX7_about_58 : decode cX7_about 58 = .ok (.aload_n 0, 1) := by decide +kernel
theorem dX7_about_59 : decode cX7_about 59 = .ok (.getfield 21, 3) := by decide +kernel
theorem dX7_about_62 : decode cX7_about 62 = .ok (.iload_n 1, 1) := by decide +kernel
theorem dX7_about_63 : decode cX7_about 63 = .ok (.invokevirtual 198, 3) := by decide +kernel
theorem dX7_about_66 : decode cX7_about 66 = .ok (.ireturn, 1) := by decide +kernel
theorem dX7_about_67 : decode cX7_about 67 = .ok (.iconst (-1), 1) := by decide +kernel
theorem dX7_about_68 : decode cX7_about 68 = .ok (.ireturn, 1) := by decide +kernel
theorem dX7_apart_0 : decode cX7_apart 0 = .ok (.iload_n 1, 1) := by decide +kernel
theorem dX7_apart_1 : decode cX7_apart 1 = .ok (.invokestatic 101, 3) := by decide +kernel
theorem dX7_apart_4 : decode cX7_apart 4 = .ok (.ifCond .eq 10, 3) := by decide +kernel
theorem dX7_apart_7 : decode cX7_apart 7 = .ok (.iload_n 2, 1) := by decide +kernel
theorem dX7_apart_8 : decode cX7_apart 8 = .ok (.invokestatic 101, 3) := by decide +kernel
theorem dX7_apart_11 : decode cX7_apart 11 = .ok (.ifCond .ne 5, 3) := by decide +kernel
theorem dX7_apart_14 : decode cX7_apart 14 = .ok (.iconst (-1), 1) := by decide +kernel
theorem dX7_apart_15 : decode cX7_apart 15 = .ok (.ireturn, 1) := by decide +kernel
theorem dX7_apart_16 : decode cX7_apart 16 = .ok (.iload_n 3, 1) := by decide +kernel
theorem dX7_apart_17 : decode cX7_apart 17 = .ok (.iconst 0, 1) := by decide +kernel
theorem dX7_apart_18 : decode cX7_apart 18 = .ok (.bipush 8, 2) := by decide +kernel
theorem dX7_apart_20 : decode cX7_apart 20 = .ok (.invokestatic 75, 3) := by decide +kernel
theorem dX7_apart_23 : decode cX7_apart 23 = .ok (.ifCond .ne 6, 3) := by decide +kernel
theorem dX7_apart_26 : decode cX7_apart 26 = .ok (.bipush (-2), 2) := by decide +kernel
theorem dX7_apart_28 : decode cX7_apart 28 = .ok (.ireturn, 1) := by decide +kernel
theorem dX7_apart_29 : decode cX7_apart 29 = .ok (.aload_n 0, 1) := by decide +kernel
theorem dX7_apart_30 : decode cX7_apart 30 = .ok (.getfield 21, 3) := by decide +kernel
theorem dX7_apart_33 : decode cX7_apart 33 = .ok (.iload_n 1, 1) := by decide +kernel
theorem dX7_apart_34 : decode cX7_apart 34 = .ok (.iload_n 2, 1) := by decide +kernel
theorem dX7_apart_35 : decode cX7_apart 35 = .ok (.iload_n 3, 1) := by decide +kernel
theorem dX7_apart_36 : decode cX7_apart 36 = .ok (.invokevirtual 104, 3) := by decide +kernel
theorem dX7_apart_39 : decode cX7_apart 39 = .ok (.ireturn, 1) := by decide +kernel
theorem dX7_arrive_0 : decode cX7_arrive 0 = .ok (.iload_n 1, 1) := by decide +kernel
theorem dX7_arrive_1 : decode cX7_arrive 1 = .ok (.invokestatic 107, 3) := by decide +kernel
theorem dX7_arrive_4 : decode cX7_arrive 4 = .ok (.ifCond .eq 14, 3) := by decide +kernel
theorem dX7_arrive_7 : decode cX7_arrive 7 = .ok (.aload_n 0, 1) := by decide +kernel
theorem dX7_arrive_8 : decode cX7_arrive 8 = .ok (.getfield 21, 3) := by decide +kernel
theorem dX7_arrive_11 : decode cX7_arrive 11 = .ok (.iload_n 1, 1) := by decide +kernel
theorem dX7_arrive_12 : decode cX7_arrive 12 = .ok (.invokevirtual 234, 3) := by decide +kernel
theorem dX7_arrive_15 : decode cX7_arrive 15 = .ok (.goto 4, 3) := by decide +kernel
theorem dX7_arrive_18 : decode cX7_arrive 18 = .ok (.iconst (-1), 1) := by decide +kernel
theorem dX7_arrive_19 : decode cX7_arrive 19 = .ok (.ireturn, 1) := by decide +kernel
theorem dX7_best_0 : decode cX7_best 0 = .ok (.iload_n 1, 1) := by decide +kernel
theorem dX7_best_1 : decode cX7_best 1 = .ok (.invokestatic 79, 3) := by decide +kernel
theorem dX7_best_4 : decode cX7_best 4 = .ok (.ifCond .ne 6, 3) := by decide +kernel
theorem dX7_best_7 : decode cX7_best 7 = .ok (.bipush (-2), 2) := by decide +kernel
theorem dX7_best_9 : decode cX7_best 9 = .ok (.ireturn, 1) := by decide +kernel
theorem dX7_best_10 : decode cX7_best 10 = .ok (.aload_n 0, 1) := by decide +kernel
theorem dX7_best_11 : decode cX7_best 11 = .ok (.getfield 70, 3) := by decide +kernel
theorem dX7_best_14 : decode cX7_best 14 = .ok (.invokevirtual 251, 3) := by decide +kernel
theorem dX7_best_17 : decode cX7_best 17 = .ok (.ifCond .ne 6, 3) := by decide +kernel
theorem dX7_best_20 : decode cX7_best 20 = .ok (.bipush (-3), 2) := by decide +kernel
theorem dX7_best_22 : decode cX7_best 22 = .ok (.ireturn, 1) := by decide +kernel
theorem dX7_best_23 : decode cX7_best 23 = .ok (.aload_n 0, 1) := by decide +kernel
theorem dX7_best_24 : decode cX7_best 24 = .ok (.getfield 70, 3) := by decide +kernel
theorem dX7_best_27 : decode cX7_best 27 = .ok (.iload_n 1, 1) := by decide +kernel
theorem dX7_best_28 : decode cX7_best 28 = .ok (.aload_n 0, 1) := by decide +kernel
theorem dX7_best_29 : decode cX7_best 29 = .ok (.iload_n 1, 1) := by decide +kernel
theorem dX7_best_30 : decode cX7_best 30 = .ok (.invokevirtual 237, 3) := by decide +kernel
theorem dX7_best_33 : decode cX7_best 33 = .ok (.invokevirtual 255, 3) := by decide +kernel
theorem dX7_best_36 : decode cX7_best 36 = .ok (.ireturn, 1) := by decide +kernel
theorem dX7_better_0 : decode cX7_better 0 = .ok (.iload_n 1, 1) := by decide +kernel
theorem dX7_better_1 : decode cX7_better 1 = .ok (.invokestatic 79, 3) := by decide +kernel
theorem dX7_better_4 : decode cX7_better 4 = .ok (.ifCond .ne 6, 3) := by decide +kernel
theorem dX7_better_7 : decode cX7_better 7 = .ok (.bipush (-2), 2) := by decide +kernel
theorem dX7_better_9 : decode cX7_better 9 = .ok (.ireturn, 1) := by decide +kernel
theorem dX7_better_10 : decode cX7_better 10 = .ok (.iconst 0, 1) := by decide +kernel
