theorem dX7_isFromTo_0 : decode cX7_isFromTo 0 = .ok (.iload_n 0, 1) := by decide +kernel
theorem dX7_isFromTo_1 : decode cX7_isFromTo 1 = .ok (.iload_n 1, 1) := by decide +kernel
theorem dX7_isFromTo_2 : decode cX7_isFromTo 2 = .ok (.if_icmp .lt 12, 3) := by decide +kernel
theorem dX7_isFromTo_5 : decode cX7_isFromTo 5 = .ok (.iload_n 0, 1) := by decide +kernel
theorem dX7_isFromTo_6 : decode cX7_isFromTo 6 = .ok (.iload_n 2, 1) := by decide +kernel
theorem dX7_isFromTo_7 : decode cX7_isFromTo 7 = .ok (.if_icmp .gt 7, 3) := by decide +kernel
theorem dX7_isFromTo_10 : decode cX7_isFromTo 10 = .ok (.iconst 1, 1) := by decide +kernel
theorem dX7_isFromTo_11 : decode cX7_isFromTo 11 = .ok (.goto 4, 3) := by decide +kernel
theorem dX7_isFromTo_14 : decode cX7_isFromTo 14 = .ok (.iconst 0, 1) := by decide +kernel
theorem dX7_isFromTo_15 : decode cX7_isFromTo 15 = .ok (.ireturn, 1) := by decide +kernel
theorem dX8_isIn_0 : decode cX8_isIn 0 = .ok (.iload_n 0, 1) := by decide +kernel
theorem dX8_isIn_1 : decode cX8_isIn 1 = .ok (.iload_n 1, 1) := by decide +kernel
theorem dX8_isIn_2 : decode cX8_isIn 2 = .ok (.if_icmp .lt 12, 3) := by decide +kernel
theorem dX8_isIn_5 : decode cX8_isIn 5 = .ok (.iload_n 0, 1) := by decide +kernel
theorem dX8_isIn_6 : decode cX8_isIn 6 = .ok (.iload_n 2, 1) := by decide +kernel
theorem dX8_isIn_7 : decode cX8_isIn 7 = .ok (.if_icmp .gt 7, 3) := by decide +kernel
theorem dX8_isIn_10 : decode cX8_isIn 10 = .ok (.iconst 1, 1) := by decide +kernel
theorem dX8_isIn_11 : decode cX8_isIn 11 = .ok (.goto 4, 3) := by decide +kernel
theorem dX8_isIn_14 : decode cX8_isIn 14 = .ok (.iconst 0, 1) := by decide +kernel
theorem dX8_isIn_15 : decode cX8_isIn 15 = .ok (.ireturn, 1) := by decide +kernel
theorem dX7_isArm_0 : decode cX7_isArm 0 = .ok (.iload_n 0, 1) := by decide +kernel
theorem dX7_isArm_1 : decode cX7_isArm 1 = .ok (.iconst 0, 1) := by decide +kernel
theorem dX7_isArm_2 : decode cX7_isArm 2 = .ok (.sipush 5000, 3) := by decide +kernel
theorem dX7_isArm_5 : decode cX7_isArm 5 = .ok (.invokestatic 75, 3) := by decide +kernel
theorem dX7_isArm_8 : decode cX7_isArm 8 = .ok (.ireturn, 1) := by decide +kernel
theorem dX7_isBorne_0 : decode cX7_isBorne 0 = .ok (.iload_n 0, 1) := by decide +kernel
theorem dX7_isBorne_1 : decode cX7_isBorne 1 = .ok (.iconst 0, 1) := by decide +kernel
theorem dX7_isBorne_2 : decode cX7_isBorne 2 = .ok (.sipush 20000, 3) := by decide +kernel
theorem dX7_isBorne_5 : decode cX7_isBorne 5 = .ok (.invokestatic 75, 3) := by decide +kernel
theorem dX7_isBorne_8 : decode cX7_isBorne 8 = .ok (.ireturn, 1) := by decide +kernel
theorem dX7_isKind_0 : decode cX7_isKind 0 = .ok (.iload_n 0, 1) := by decide +kernel
theorem dX7_isKind_1 : decode cX7_isKind 1 = .ok (.iconst 0, 1) := by decide +kernel
theorem dX7_isKind_2 : decode cX7_isKind 2 = .ok (.bipush 7, 2) := by decide +kernel
theorem dX7_isKind_4 : decode cX7_isKind 4 = .ok (.invokestatic 75, 3) := by decide +kernel
theorem dX7_isKind_7 : decode cX7_isKind 7 = .ok (.ireturn, 1) := by decide +kernel
theorem dX7_isStop_0 : decode cX7_isStop 0 = .ok (.iload_n 0, 1) := by decide +kernel
theorem dX7_isStop_1 : decode cX7_isStop 1 = .ok (.iconst 1, 1) := by decide +kernel
theorem dX7_isStop_2 : decode cX7_isStop 2 = .ok (.iconst 4, 1) := by decide +kernel
theorem dX7_isStop_3 : decode cX7_isStop 3 = .ok (.invokestatic 75, 3) := by decide +kernel
theorem dX7_isStop_6 : decode cX7_isStop 6 = .ok (.ireturn, 1) := by decide +kernel
theorem dX8_isArm_0 : decode cX8_isArm 0 = .ok (.iload_n 0, 1) := by decide +kernel
theorem dX8_isArm_1 : decode cX8_isArm 1 = .ok (.iconst 0, 1) := by decide +kernel
theorem dX8_isArm_2 : decode cX8_isArm 2 = .ok (.sipush 5000, 3) := by decide +kernel
theorem dX8_isArm_5 : decode cX8_isArm 5 = .ok (.invokestatic 95, 3) := by decide +kernel
theorem dX8_isArm_8 : decode cX8_isArm 8 = .ok (.ireturn, 1) := by decide +kernel
theorem dX7_isPhase_0 : decode cX7_isPhase 0 = .ok (.iload_n 0, 1) := by decide +kernel
theorem dX7_isPhase_1 : decode cX7_isPhase 1 = .ok (.ifCond .eq 8, 3) := by decide +kernel
theorem dX7_isPhase_4 : decode cX7_isPhase 4 = .ok (.iload_n 0, 1) := by decide +kernel
theorem dX7_isPhase_5 : decode cX7_isPhase 5 = .ok (.iconst 1, 1) := by decide +kernel
theorem dX7_isPhase_6 : decode cX7_isPhase 6 = .ok (.if_icmp .ne 7, 3) := by decide +kernel
theorem dX7_isPhase_9 : decode cX7_isPhase 9 = .ok (.iconst 1, 1) := by decide +kernel
theorem dX7_isPhase_10 : decode cX7_isPhase 10 = .ok (.goto 4, 3) := by decide +kernel
theorem dX7_isPhase_13 : decode cX7_isPhase 13 = .ok (.iconst 0, 1) := by decide +kernel
theorem dX7_isPhase_14 : decode cX7_isPhase 14 = .ok (.ireturn, 1) := by decide +kernel
theorem dX7_limitsOf_0 : decode cX7_limitsOf 0 = .ok (.iload_n 1, 1) := by decide +kernel
theorem dX7_limitsOf_1 : decode cX7_limitsOf 1 = .ok (.ifCond .ne 10, 3) := by decide +kernel
theorem dX7_limitsOf_4 : decode cX7_limitsOf 4 = .ok (.aload_n 0, 1) := by decide +kernel
theorem dX7_limitsOf_5 : decode cX7_limitsOf 5 = .ok (.getfield 42, 3) := by decide +kernel
theorem dX7_limitsOf_8 : decode cX7_limitsOf 8 = .ok (.goto 7, 3) := by decide +kernel
theorem dX7_limitsOf_11 : decode cX7_limitsOf 11 = .ok (.aload_n 0, 1) := by decide +kernel
theorem dX7_limitsOf_12 : decode cX7_limitsOf 12 = .ok (.getfield 46, 3) := by decide +kernel
theorem dX7_limitsOf_15 : decode cX7_limitsOf 15 = .ok (.areturn, 1) := by decide +kernel
theorem dX1_hasHold_0 : decode cX1_hasHold 0 = .ok (.iload_n 1, 1) := by decide +kernel
theorem dX1_hasHold_1 : decode cX1_hasHold 1 = .ok (.ifCond .lt 15, 3) := by decide +kernel
theorem dX1_hasHold_4 : decode cX1_hasHold 4 = .ok (.iload_n 1, 1) := by decide +kernel
theorem dX1_hasHold_5 : decode cX1_hasHold 5 = .ok (.aload_n 0, 1) := by decide +kernel
theorem dX1_hasHold_6 : decode cX1_hasHold 6 = .ok (.getfield 21, 3) := by decide +kernel
theorem dX1_hasHold_9 : decode cX1_hasHold 9 = .ok (.if_icmp .ge 7, 3) := by decide +kernel
theorem dX1_hasHold_12 : decode cX1_hasHold 12 = .ok (.iconst 1, 1) := by decide +kernel
theorem dX1_hasHold_13 : decode cX1_hasHold 13 = .ok (.goto 4, 3) := by decide +kernel
theorem dX1_hasHold_16 : decode cX1_hasHold 16 = .ok (.iconst 0, 1) := by decide +kernel
theorem dX1_hasHold_17 : decode cX1_hasHold 17 = .ok (.ireturn, 1) := by decide +kernel
theorem dX1_hasItem_0 : decode cX1_hasItem 0 = .ok (.iload_n 1, 1) := by decide +kernel
theorem dX1_hasItem_1 : decode cX1_hasItem 1 = .ok (.ifCond .lt 15, 3) := by decide +kernel
theorem dX1_hasItem_4 : decode cX1_hasItem 4 = .ok (.iload_n 1, 1) := by decide +kernel
theorem dX1_hasItem_5 : decode cX1_hasItem 5 = .ok (.aload_n 0, 1) := by decide +kernel
theorem dX1_hasItem_6 : decode cX1_hasItem 6 = .ok (.getfield 49, 3) := by decide +kernel
theorem dX1_hasItem_9 : decode cX1_hasItem 9 = .ok (.if_icmp .ge 7, 3) := by decide +kernel
theorem dX1_hasItem_12 : decode cX1_hasItem 12 = .ok (.iconst 1, 1) := by decide +kernel
theorem dX1_hasItem_13 : decode cX1_hasItem 13 = .ok (.goto 4, 3) := by decide +kernel
theorem dX1_hasItem_16 : decode cX1_hasItem 16 = .ok (.iconst 0, 1) := by decide +kernel
theorem dX1_hasItem_17 : decode cX1_hasItem 17 = .ok (.ireturn, 1) := by decide +kernel
theorem dX1_hasSlot_0 : decode cX1_hasSlot 0 = .ok (.aload_n 0, 1) := by decide +kernel
theorem dX1_hasSlot_1 : decode cX1_hasSlot 1 = .ok (.iload_n 1, 1) := by decide +kernel
theorem dX1_hasSlot_2 : decode cX1_hasSlot 2 = .ok (.invokevirtual 61, 3) := by decide +kernel
theorem dX1_hasSlot_5 : decode cX1_hasSlot 5 = .ok (.ifCond .eq 21, 3) := by decide +kernel
theorem dX1_hasSlot_26 : decode cX1_hasSlot 26 = .ok (.iconst 0, 1) := by decide +kernel
theorem dX1_hasSlot_27 : decode cX1_hasSlot 27 = .ok (.ireturn, 1) := by decide +kernel
theorem dX1_addHold_0 : decode cX1_addHold 0 = .ok (.aload_n 0, 1) := by decide +kernel
theorem dX1_addHold_1 : decode cX1_addHold 1 = .ok (.getfield 21, 3) := by decide +kernel
theorem dX1_addHold_4 : decode cX1_addHold 4 = .ok (.iconst 4, 1) := by decide +kernel
theorem dX1_addHold_5 : decode cX1_addHold 5 = .ok (.if_icmp .lt 6, 3) := by decide +kernel
theorem dX1_addHold_11 : decode cX1_addHold 11 = .ok (.aload_n 0, 1) := by decide +kernel
theorem dX1_addHold_12 : decode cX1_addHold 12 = .ok (.getfield 11, 3) := by decide +kernel
theorem dX1_addHold_15 : decode cX1_addHold 15 = .ok (.aload_n 0, 1) := by decide +kernel
theorem dX1_addHold_16 : decode cX1_addHold 16 = .ok (.getfield 21, 3) := by decide +kernel
theorem dX1_addHold_19 : decode cX1_addHold 19 = .ok (.iload_n 1, 1) := by decide +kernel
theorem dX1_addHold_20 : decode cX1_addHold 20 = .ok (.iastore, 1) := by decide +kernel
theorem dX1_addHold_21 : decode cX1_addHold 21 = .ok (.aload_n 0, 1) := by decide +kernel
theorem dX1_addHold_22 : decode cX1_addHold 22 = .ok (.getfield 15, 3) := by decide +kernel
theorem dX1_addHold_25 : decode cX1_addHold 25 = .ok (.aload_n 0, 1) := by decide +kernel
theorem dX1_addHold_26 : decode cX1_addHold 26 = .ok (.getfield 21, 3) := by decide +kernel
theorem dX1_addHold_29 : decode cX1_addHold 29 = .ok (.iload_n 2, 1) := by decide +kernel
theorem dX1_addHold_30 : decode cX1_addHold 30 = .ok (.iastore, 1) := by decide +kernel
theorem dX1_addHold_31 : decode cX1_addHold 31 = .ok (.aload_n 0, 1) := by decide +kernel
theorem dX1_addHold_32 : decode cX1_addHold 32 = .ok (.dup, 1) := by decide +kernel
theorem dX1_addHold_33 : decode cX1_addHold 33 = .ok (.getfield 21, 3) := by decide +kernel
theorem dX1_addHold_36 : decode cX1_addHold 36 = .ok (.dup_x1, 1) := by decide +kernel
theorem dX1_addHold_37 : decode cX1_addHold 37 = .ok (.iconst 1, 1) := by decide +kernel
theorem dX1_addHold_38 : decode cX1_addHold 38 = .ok (.iadd, 1) := by decide +kernel
theorem dX1_addHold_39 : decode cX1_addHold 39 = .ok (.putfield 21, 3) := by decide +kernel
theorem dX1_addHold_42 : decode cX1_addHold 42 = .ok (.ireturn, 1) := by decide +kernel
theorem dX1_setDistance_0 : decode cX1_setDistance 0 = .ok (.aload_n 0, 1) := by decide +kernel
theorem dX1_setDistance_1 : decode cX1_setDistance 1 = .ok (.getfield 52, 3) := by decide +kernel
theorem dX1_setDistance_4 : decode cX1_setDistance 4 = .ok (.iload_n 1, 1) := by decide +kernel
theorem dX1_setDistance_5 : decode cX1_setDistance 5 = .ok (.bipush 8, 2) := by decide +kernel
theorem dX1_setDistance_7 : decode cX1_setDistance 7 = .ok (.imul, 1) := by decide +kernel
theorem dX1_setDistance_8 : decode cX1_setDistance 8 = .ok (.iload_n 2, 1) := by decide +kernel
theorem dX1_setDistance_9 : decode cX1_setDistance 9 = .ok (.iadd, 1) := by decide +kernel
theorem dX1_setDistance_10 : decode cX1_setDistance 10 = .ok (.iaload, 1) := by decide +kernel
theorem dX1_setDistance_11 : decode cX1_setDistance 11 = .ok (.istore 4, 2) := by decide +kernel
theorem dX1_setDistance_13 : decode cX1_setDistance 13 = .ok (.aload_n 0, 1) := by decide +kernel
theorem dX1_setDistance_14 : decode cX1_setDistance 14 = .ok (.getfield 52, 3) := by decide +kernel
theorem dX1_setDistance_17 : decode cX1_setDistance 17 = .ok (.iload_n 1, 1) := by decide +kernel
theorem dX1_setDistance_18 : decode cX1_setDistance 18 = .ok (.bipush 8, 2) := by decide +kernel
theorem dX1_setDistance_20 : decode cX1_setDistance 20 = .ok (.imul, 1) := by decide +kernel
theorem dX1_setDistance_21 : decode cX1_setDistance 21 = .ok (.iload_n 2, 1) := by decide +kernel
theorem dX1_setDistance_22 : decode cX1_setDistance 22 = .ok (.iadd, 1) := by decide +kernel
theorem dX1_setDistance_23 : decode cX1_setDistance 23 = .ok (.iload_n 3, 1) := by decide +kernel
theorem dX1_setDistance_24 : decode cX1_setDistance 24 = .ok (.iastore, 1) := by decide +kernel
theorem dX1_setDistance_25 : decode cX1_setDistance 25 = .ok (.aload_n 0, 1) := by decide +kernel
theorem dX1_setDistance_26 : decode cX1_setDistance 26 = .ok (.getfield 52, 3) := by decide +kernel
theorem dX1_setDistance_29 : decode cX1_setDistance 29 = .ok (.iload_n 2, 1) := by decide +kernel
theorem dX1_setDistance_30 : decode cX1_setDistance 30 = .ok (.bipush 8, 2) := by decide +kernel
theorem dX1_setDistance_32 : decode cX1_setDistance 32 = .ok (.imul, 1) := by decide +kernel
theorem dX1_setDistance_33 : decode cX1_setDistance 33 = .ok (.iload_n 1, 1) := by decide +kernel
theorem dX1_setDistance_34 : decode cX1_setDistance 34 = .ok (.iadd, 1) := by decide +kernel
theorem dX1_setDistance_35 : decode cX1_setDistance 35 = .ok (.iload_n 3, 1) := by decide +kernel
theorem dX1_setDistance_36 : decode cX1_setDistance 36 = .ok (.iastore, 1) := by decide +kernel
theorem dX1_setDistance_37 : decode cX1_setDistance 37 = .ok (.iload 4, 2) := by decide +kernel
theorem dX1_setDistance_39 : decode cX1_setDistance 39 = .ok (.ireturn, 1) := by decide +kernel
theorem dX1_rankByWeight_0 : decode cX1_rankByWeight 0 = .ok (.iload_n 1, 1) := by decide +kernel
theorem dX1_rankByWeight_1 : decode cX1_rankByWeight 1 = .ok (.istore_n 3, 1) := by decide +kernel
theorem dX1_rankByWeight_2 : decode cX1_rankByWeight 2 = .ok (.iload_n 3, 1) := by decide +kernel
theorem dX1_rankByWeight_3 : decode cX1_rankByWeight 3 = .ok (.ifCond .le 40, 3) := by decide +kernel
theorem dX1_rankByWeight_43 : decode cX1_rankByWeight 43 = .ok (.aload_n 0, 1) := by decide +kernel
theorem dX1_rankByWeight_44 : decode cX1_rankByWeight 44 = .ok (.getfield 46, 3) := by decide +kernel
theorem dX1_rankByWeight_47 : decode cX1_rankByWeight 47 = .ok (.iload_n 3, 1) := by decide +kernel
theorem dX1_rankByWeight_48 : decode cX1_rankByWeight 48 = .ok (.iload_n 1, 1) := by decide +kernel
theorem dX1_rankByWeight_49 : decode cX1_rankByWeight 49 = .ok (.iastore, 1) := by decide +kernel
theorem dX1_rankByWeight_50 : decode cX1_rankByWeight 50 = .ok (.return_, 1) := by decide +kernel
theorem dX1_addItem_0 : decode cX1_addItem 0 = .ok (.aload_n 0, 1) := by decide +kernel
theorem dX1_addItem_1 : decode cX1_addItem 1 = .ok (.getfield 49, 3) := by decide +kernel
theorem dX1_addItem_4 : decode cX1_addItem 4 = .ok (.bipush 40, 2) := by decide +kernel
theorem dX1_addItem_6 : decode cX1_addItem 6 = .ok (.if_icmp .lt 6, 3) := by decide +kernel
theorem dX1_addItem_12 : decode cX1_addItem 12 = .ok (.aload_n 0, 1) := by decide +kernel
theorem dX1_addItem_13 : decode cX1_addItem 13 = .ok (.getfield 34, 3) := by decide +kernel
theorem dX1_addItem_16 : decode cX1_addItem 16 = .ok (.aload_n 0, 1) := by decide +kernel
theorem dX1_addItem_17 : decode cX1_addItem 17 = .ok (.getfield 49, 3) := by decide +kernel
theorem dX1_addItem_20 : decode cX1_addItem 20 = .ok (.iload_n 1, 1) := by decide +kernel
theorem dX1_addItem_21 : decode cX1_addItem 21 = .ok (.iastore, 1) := by decide +kernel
theorem dX1_addItem_22 : decode cX1_addItem 22 = .ok (.aload_n 0, 1) := by decide +kernel
theorem dX1_addItem_23 : decode cX1_addItem 23 = .ok (.getfield 37, 3) := by decide +kernel
theorem dX1_addItem_26 : decode cX1_addItem 26 = .ok (.aload_n 0, 1) := by decide +kernel
theorem dX1_addItem_27 : decode cX1_addItem 27 = .ok (.getfield 49, 3) := by decide +kernel
theorem dX1_addItem_30 : decode cX1_addItem 30 = .ok (.iload_n 2, 1) := by decide +kernel
theorem dX1_addItem_31 : decode cX1_addItem 31 = .ok (.iastore, 1) := by decide +kernel
theorem dX1_addItem_32 : decode cX1_addItem 32 = .ok (.aload_n 0, 1) := by decide +kernel
theorem dX1_addItem_33 : decode cX1_addItem 33 = .ok (.getfield 40, 3) := by decide +kernel
theorem dX1_addItem_36 : decode cX1_addItem 36 = .ok (.aload_n 0, 1) := by decide +kernel
theorem dX1_addItem_37 : decode cX1_addItem 37 = .ok (.getfield 49, 3) := by decide +kernel
theorem dX1_addItem_40 : decode cX1_addItem 40 = .ok (.iload_n 3, 1) := by decide +kernel
theorem dX1_addItem_41 : decode cX1_addItem 41 = .ok (.iastore, 1) := by decide +kernel
theorem dX1_addItem_42 : decode cX1_addItem 42 = .ok (.aload_n 0, 1) := by decide +kernel
theorem dX1_addItem_43 : decode cX1_addItem 43 = .ok (.aload_n 0, 1) := by decide +kernel
theorem dX1_addItem_44 : decode cX1_addItem 44 = .ok (.getfield 49, 3) := by decide +kernel
theorem dX1_addItem_47 : decode cX1_addItem 47 = .ok (.iload_n 1, 1) := by decide +kernel
theorem dX1_addItem_48 : decode cX1_addItem 48 = .ok (.invokevirtual 69, 3) := by decide +kernel
theorem dX1_addItem_51 : decode cX1_addItem 51 = .ok (.aload_n 0, 1) := by decide +kernel
theorem dX1_addItem_52 : decode cX1_addItem 52 = .ok (.dup, 1) := by decide +kernel
theorem dX1_addItem_53 : decode cX1_addItem 53 = .ok (.getfield 49, 3) := by decide +kernel
theorem dX1_addItem_56 : decode cX1_addItem 56 = .ok (.dup_x1, 1) := by decide +kernel
theorem dX1_addItem_57 : decode cX1_addItem 57 = .ok (.iconst 1, 1) := by decide +kernel
theorem dX1_addItem_58 : decode cX1_addItem 58 = .ok (.iadd, 1) := by decide +kernel
theorem dX1_addItem_59 : decode cX1_addItem 59 = .ok (.putfield 49, 3) := by decide +kernel
theorem dX1_addItem_62 : decode cX1_addItem 62 = .ok (.ireturn, 1) := by decide +kernel
theorem dX1_loadedWeight_0 : decode cX1_loadedWeight 0 = .ok (.iconst 0, 1) := by decide +kernel
theorem dX1_loadedWeight_1 : decode cX1_loadedWeight 1 = .ok (.istore_n 1, 1) := by decide +kernel
theorem dX1_loadedWeight_2 : decode cX1_loadedWeight 2 = .ok (.iconst 0, 1) := by decide +kernel
theorem dX1_loadedWeight_3 : decode cX1_loadedWeight 3 = .ok (.istore_n 2, 1) := by decide +kernel
theorem dX1_loadedWeight_4 : decode cX1_loadedWeight 4 = .ok (.iload_n 2, 1) := by decide +kernel
theorem dX1_loadedWeight_5 : decode cX1_loadedWeight 5 = .ok (.aload_n 0, 1) := by decide +kernel
theorem dX1_loadedWeight_6 : decode cX1_loadedWeight 6 = .ok (.getfield 49, 3) := by decide +kernel
theorem dX1_loadedWeight_9 : decode cX1_loadedWeight 9 = .ok (.if_icmp .ge 26, 3) := by decide +kernel
theorem dX1_loadedWeight_35 : decode cX1_loadedWeight 35 = .ok (.iload_n 1, 1) := by decide +kernel
theorem dX1_loadedWeight_36 : decode cX1_loadedWeight 36 = .ok (.ireturn, 1) := by decide +kernel
theorem dX1_loadedMoment_0 : decode cX1_loadedMoment 0 = .ok (.lconst 0, 1) := by decide +kernel
theorem dX1_loadedMoment_1 : decode cX1_loadedMoment 1 = .ok (.lstore_n 1, 1) := by decide +kernel
theorem dX1_loadedMoment_2 : decode cX1_loadedMoment 2 = .ok (.iconst 0, 1) := by decide +kernel
theorem dX1_loadedMoment_3 : decode cX1_loadedMoment 3 = .ok (.istore_n 3, 1) := by decide +kernel
theorem dX1_loadedMoment_4 : decode cX1_loadedMoment 4 = .ok (.iload_n 3, 1) := by decide +kernel
theorem dX1_loadedMoment_5 : decode cX1_loadedMoment 5 = .ok (.aload_n 0, 1) := by decide +kernel
theorem dX1_loadedMoment_6 : decode cX1_loadedMoment 6 = .ok (.getfield 49, 3) := by decide +kernel
theorem dX1_loadedMoment_9 : decode cX1_loadedMoment 9 = .ok (.if_icmp .ge 32, 3) := by decide +kernel
theorem dX1_loadedMoment_41 : decode cX1_loadedMoment 41 = .ok (.lload_n 1, 1) := by decide +kernel
theorem dX1_loadedMoment_42 : decode cX1_loadedMoment 42 = .ok (.lreturn, 1) := by decide +kernel
theorem dX1_pushedInAll_0 : decode cX1_pushedInAll 0 = .ok (.iconst 0, 1) := by decide +kernel
theorem dX1_pushedInAll_1 : decode cX1_pushedInAll 1 = .ok (.istore_n 2, 1) := by decide +kernel
theorem dX1_pushedInAll_2 : decode cX1_pushedInAll 2 = .ok (.iconst 0, 1) := by decide +kernel
theorem dX1_pushedInAll_3 : decode cX1_pushedInAll 3 = .ok (.istore_n 3, 1) := by decide +kernel
theorem dX1_pushedInAll_4 : decode cX1_pushedInAll 4 = .ok (.iload_n 3, 1) := by decide +kernel
theorem dX1_pushedInAll_5 : decode cX1_pushedInAll 5 = .ok (.aload_n 0, 1) := by decide +kernel
theorem dX1_pushedInAll_6 : decode cX1_pushedInAll 6 = .ok (.getfield 21, 3) := by decide +kernel
theorem dX1_pushedInAll_9 : decode cX1_pushedInAll 9 = .ok (.if_icmp .ge 18, 3) := by decide +kernel
theorem dX1_pushedInAll_27 : decode cX1_pushedInAll 27 = .ok (.iload_n 2, 1) := by decide +kernel
theorem dX1_pushedInAll_28 : decode cX1_pushedInAll 28 = .ok (.ireturn, 1) := by decide +kernel
theorem dX1_takeOutAllOf_0 : decode cX1_takeOutAllOf 0 = .ok (.iconst 0, 1) := by decide +kernel
theorem dX1_takeOutAllOf_1 : decode cX1_takeOutAllOf 1 = .ok (.istore_n 2, 1) := by decide +kernel
theorem dX1_takeOutAllOf_2 : decode cX1_takeOutAllOf 2 = .ok (.iconst 0, 1) := by decide +kernel
theorem dX1_takeOutAllOf_3 : decode cX1_takeOutAllOf 3 = .ok (.istore_n 3, 1) := by decide +kernel
theorem dX1_takeOutAllOf_4 : decode cX1_takeOutAllOf 4 = .ok (.iload_n 3, 1) := by decide +kernel
theorem dX1_takeOutAllOf_5 : decode cX1_takeOutAllOf 5 = .ok (.aload_n 0, 1) := by decide +kernel
theorem dX1_takeOutAllOf_6 : decode cX1_takeOutAllOf 6 = .ok (.getfield 49, 3) := by decide +kernel
theorem dX1_takeOutAllOf_9 : decode cX1_takeOutAllOf 9 = .ok (.if_icmp .ge 35, 3) := by decide +kernel
theorem dX1_takeOutAllOf_44 : decode cX1_takeOutAllOf 44 = .ok (.iload_n 2, 1) := by decide +kernel
theorem dX1_takeOutAllOf_45 : decode cX1_takeOutAllOf 45 = .ok (.ireturn, 1) := by decide +kernel
theorem dX1_loadHeaviestFirst_0 : decode cX1_loadHeaviestFirst 0 = .ok (.lload_n 2, 1) := by decide +kernel
theorem dX1_loadHeaviestFirst_1 : decode cX1_loadHeaviestFirst 1 = .ok (.lstore 4, 2) := by decide +kernel
theorem dX1_loadHeaviestFirst_3 : decode cX1_loadHeaviestFirst 3 = .ok (.iconst 0, 1) := by decide +kernel
theorem dX1_loadHeaviestFirst_4 : decode cX1_loadHeaviestFirst 4 = .ok (.istore 6, 2) := by decide +kernel
theorem dX1_loadHeaviestFirst_6 : decode cX1_loadHeaviestFirst 6 = .ok (.iconst 0, 1) := by decide +kernel
theorem dX1_loadHeaviestFirst_7 : decode cX1_loadHeaviestFirst 7 = .ok (.istore 7, 2) := by decide +kernel
theorem dX1_loadHeaviestFirst_9 : decode cX1_loadHeaviestFirst 9 = .ok (.iload 7, 2) := by decide +kernel
theorem dX1_loadHeaviestFirst_11 : decode cX1_loadHeaviestFirst 11 = .ok (.aload_n 0, 1) := by decide +kernel
theorem dX1_loadHeaviestFirst_12 : decode cX1_loadHeaviestFirst 12 = .ok (.getfield 49, 3) := by decide +kernel
theorem dX1_loadHeaviestFirst_15 : decode cX1_loadHeaviestFirst 15 = .ok (.if_icmp .ge 69, 3) := by decide +kernel
theorem dX1_loadHeaviestFirst_84 : decode cX1_loadHeaviestFirst 84 = .ok (.iload 6, 2) := by decide +kernel
theorem dX1_loadHeaviestFirst_86 : decode cX1_loadHeaviestFirst 86 = .ok (.ireturn, 1) := by decide +kernel
theorem dX1_slotsInAll_0 : decode cX1_slotsInAll 0 = .ok (.iconst 0, 1) := by decide +kernel
theorem dX1_slotsInAll_1 : decode cX1_slotsInAll 1 = .ok (.istore_n 1, 1) := by decide +kernel
theorem dX1_slotsInAll_2 : decode cX1_slotsInAll 2 = .ok (.iconst 0, 1) := by decide +kernel
theorem dX1_slotsInAll_3 : decode cX1_slotsInAll 3 = .ok (.istore_n 2, 1) := by decide +kernel
theorem dX1_slotsInAll_4 : decode cX1_slotsInAll 4 = .ok (.iload_n 2, 1) := by decide +kernel
theorem dX1_slotsInAll_5 : decode cX1_slotsInAll 5 = .ok (.aload_n 0, 1) := by decide +kernel
theorem dX1_slotsInAll_6 : decode cX1_slotsInAll 6 = .ok (.getfield 21, 3) := by decide +kernel
theorem dX1_slotsInAll_9 : decode cX1_slotsInAll 9 = .ok (.if_icmp .ge 18, 3) := by decide +kernel
theorem dX1_slotsInAll_27 : decode cX1_slotsInAll 27 = .ok (.iload_n 1, 1) := by decide +kernel
theorem dX1_slotsInAll_28 : decode cX1_slotsInAll 28 = .ok (.ireturn, 1) := by decide +kernel
theorem dX1_loadedInAll_0 : decode cX1_loadedInAll 0 = .ok (.iconst 0, 1) := by decide +kernel
theorem dX1_loadedInAll_1 : decode cX1_loadedInAll 1 = .ok (.istore_n 1, 1) := by decide +kernel
theorem dX1_loadedInAll_2 : decode cX1_loadedInAll 2 = .ok (.iconst 0, 1) := by decide +kernel
theorem dX1_loadedInAll_3 : decode cX1_loadedInAll 3 = .ok (.istore_n 2, 1) := by decide +kernel
theorem dX1_loadedInAll_4 : decode cX1_loadedInAll 4 = .ok (.iload_n 2, 1) := by decide +kernel
theorem dX1_loadedInAll_5 : decode cX1_loadedInAll 5 = .ok (.aload_n 0, 1) := by decide +kernel
theorem dX1_loadedInAll_6 : decode cX1_loadedInAll 6 = .ok (.getfield 49, 3) := by decide +kernel
theorem dX1_loadedInAll_9 : decode cX1_loadedInAll 9 = .ok (.if_icmp .ge 20, 3) := by decide +kernel
theorem dX1_loadedInAll_29 : decode cX1_loadedInAll 29 = .ok (.iload_n 1, 1) := by decide +kernel
theorem dX1_loadedInAll_30 : decode cX1_loadedInAll 30 = .ok (.ireturn, 1) := by decide +kernel
theorem dX0_addRow_0 : decode cX0_addRow 0 = .ok (.aload_n 0, 1) := by decide +kernel
theorem dX0_addRow_1 : decode cX0_addRow 1 = .ok (.getfield 21, 3) := by decide +kernel
theorem dX0_addRow_4 : decode cX0_addRow 4 = .ok (.bipush 10, 2) := by decide +kernel
theorem dX0_addRow_6 : decode cX0_addRow 6 = .ok (.if_icmp .lt 6, 3) := by decide +kernel
theorem dX0_addRow_12 : decode cX0_addRow 12 = .ok (.aload_n 0, 1) := by decide +kernel
theorem dX0_addRow_13 : decode cX0_addRow 13 = .ok (.getfield 11, 3) := by decide +kernel
theorem dX0_addRow_16 : decode cX0_addRow 16 = .ok (.aload_n 0, 1) := by decide +kernel
theorem dX0_addRow_17 : decode cX0_addRow 17 = .ok (.getfield 21, 3) := by decide +kernel
theorem dX0_addRow_20 : decode cX0_addRow 20 = .ok (.iload_n 1, 1) := by decide +kernel
theorem dX0_addRow_21 : decode cX0_addRow 21 = .ok (.iastore, 1) := by decide +kernel
theorem dX0_addRow_22 : decode cX0_addRow 22 = .ok (.aload_n 0, 1) := by decide +kernel
theorem dX0_addRow_23 : decode cX0_addRow 23 = .ok (.getfield 15, 3) := by decide +kernel
theorem dX0_addRow_26 : decode cX0_addRow 26 = .ok (.aload_n 0, 1) := by decide +kernel
theorem dX0_addRow_27 : decode cX0_addRow 27 = .ok (.getfield 21, 3) := by decide +kernel
theorem dX0_addRow_30 : decode cX0_addRow 30 = .ok (.iload_n 2, 1) := by decide +kernel
theorem dX0_addRow_31 : decode cX0_addRow 31 = .ok (.iastore, 1) := by decide +kernel
theorem dX0_addRow_32 : decode cX0_addRow 32 = .ok (.aload_n 0, 1) := by decide +kernel
theorem dX0_addRow_33 : decode cX0_addRow 33 = .ok (.dup, 1) := by decide +kernel
theorem dX0_addRow_34 : decode cX0_addRow 34 = .ok (.getfield 21, 3) := by decide +kernel
theorem dX0_addRow_37 : decode cX0_addRow 37 = .ok (.dup_x1, 1) := by decide +kernel
theorem dX0_addRow_38 : decode cX0_addRow 38 = .ok (.iconst 1, 1) := by decide +kernel
theorem dX0_addRow_39 : decode cX0_addRow 39 = .ok (.iadd, 1) := by decide +kernel
theorem dX0_addRow_40 : decode cX0_addRow 40 = .ok (.putfield 21, 3) := by decide +kernel
theorem dX0_addRow_43 : decode cX0_addRow 43 = .ok (.ireturn, 1) := by decide +kernel
theorem dX0_passengers_0 : decode cX0_passengers 0 = .ok (.iconst 0, 1) := by decide +kernel
theorem dX0_passengers_1 : decode cX0_passengers 1 = .ok (.istore_n 1, 1) := by decide +kernel
theorem dX0_passengers_2 : decode cX0_passengers 2 = .ok (.iconst 0, 1) := by decide +kernel
theorem dX0_passengers_3 : decode cX0_passengers 3 = .ok (.istore_n 2, 1) := by decide +kernel
theorem dX0_passengers_4 : decode cX0_passengers 4 = .ok (.iload_n 2, 1) := by decide +kernel
theorem dX0_passengers_5 : decode cX0_passengers 5 = .ok (.aload_n 0, 1) := by decide +kernel
theorem dX0_passengers_6 : decode cX0_passengers 6 = .ok (.getfield 21, 3) := by decide +kernel
theorem dX0_passengers_9 : decode cX0_passengers 9 = .ok (.if_icmp .ge 18, 3) := by decide +kernel
theorem dX0_passengers_27 : decode cX0_passengers 27 = .ok (.iload_n 1, 1) := by decide +kernel
theorem dX0_passengers_28 : decode cX0_passengers 28 = .ok (.ireturn, 1) := by decide +kernel
theorem dX0_takenWeight_0 : decode cX0_takenWeight 0 = .ok (.aload_n 0, 1) := by decide +kernel
theorem dX0_takenWeight_1 : decode cX0_takenWeight 1 = .ok (.invokevirtual 28, 3) := by decide +kernel
theorem dX0_takenWeight_4 : decode cX0_takenWeight 4 = .ok (.aload_n 0, 1) := by decide +kernel
theorem dX0_takenWeight_5 : decode cX0_takenWeight 5 = .ok (.getfield 25, 3) := by decide +kernel
theorem dX0_takenWeight_8 : decode cX0_takenWeight 8 = .ok (.imul, 1) := by decide +kernel
theorem dX0_takenWeight_9 : decode cX0_takenWeight 9 = .ok (.ireturn, 1) := by decide +kernel
theorem dX0_takenMoment_0 : decode cX0_takenMoment 0 = .ok (.lconst 0, 1) := by decide +kernel
theorem dX0_takenMoment_1 : decode cX0_takenMoment 1 = .ok (.lstore_n 1, 1) := by decide +kernel
theorem dX0_takenMoment_2 : decode cX0_takenMoment 2 = .ok (.iconst 0, 1) := by decide +kernel
theorem dX0_takenMoment_3 : decode cX0_takenMoment 3 = .ok (.istore_n 3, 1) := by decide +kernel
theorem dX0_takenMoment_4 : decode cX0_takenMoment 4 = .ok (.iload_n 3, 1) := by decide +kernel
theorem dX0_takenMoment_5 : decode cX0_takenMoment 5 = .ok (.aload_n 0, 1) := by decide +kernel
theorem dX0_takenMoment_6 : decode cX0_takenMoment 6 = .ok (.getfield 21, 3) := by decide +kernel
theorem dX0_takenMoment_9 : decode cX0_takenMoment 9 = .ok (.if_icmp .ge 26, 3) := by decide +kernel
theorem dX0_takenMoment_35 : decode cX0_takenMoment 35 = .ok (.lload_n 1, 1) := by decide +kernel
theorem dX0_takenMoment_36 : decode cX0_takenMoment 36 = .ok (.lreturn, 1) := by decide +kernel
theorem dX0_nearestRow_0 : decode cX0_nearestRow 0 = .ok (.iconst (-1), 1) := by decide +kernel
theorem dX0_nearestRow_1 : decode cX0_nearestRow 1 = .ok (.istore 4, 2) := by decide +kernel
theorem dX0_nearestRow_3 : decode cX0_nearestRow 3 = .ok (.lconst 0, 1) := by decide +kernel
theorem dX0_nearestRow_4 : decode cX0_nearestRow 4 = .ok (.lstore 5, 2) := by decide +kernel
theorem dX0_nearestRow_6 : decode cX0_nearestRow 6 = .ok (.iconst 0, 1) := by decide +kernel
theorem dX0_nearestRow_7 : decode cX0_nearestRow 7 = .ok (.istore 7, 2) := by decide +kernel
theorem dX0_nearestRow_9 : decode cX0_nearestRow 9 = .ok (.iload 7, 2) := by decide +kernel
theorem dX0_nearestRow_11 : decode cX0_nearestRow 11 = .ok (.aload_n 0, 1) := by decide +kernel
theorem dX0_nearestRow_12 : decode cX0_nearestRow 12 = .ok (.getfield 21, 3) := by decide +kernel
theorem dX0_nearestRow_15 : decode cX0_nearestRow 15 = .ok (.if_icmp .ge 62, 3) := by decide +kernel
theorem dX0_nearestRow_77 : decode cX0_nearestRow 77 = .ok (.iload 4, 2) := by decide +kernel
theorem dX0_nearestRow_79 : decode cX0_nearestRow 79 = .ok (.ireturn, 1) := by decide +kernel
theorem dX0_seatLate_0 : decode cX0_seatLate 0 = .ok (.lload_n 3, 1) := by decide +kernel
theorem dX0_seatLate_1 : decode cX0_seatLate 1 = .ok (.lstore 5, 2) := by decide +kernel
theorem dX0_seatLate_3 : decode cX0_seatLate 3 = .ok (.iconst 0, 1) := by decide +kernel
theorem dX0_seatLate_4 : decode cX0_seatLate 4 = .ok (.istore 7, 2) := by decide +kernel
theorem dX0_seatLate_6 : decode cX0_seatLate 6 = .ok (.iload 7, 2) := by decide +kernel
theorem dX0_seatLate_8 : decode cX0_seatLate 8 = .ok (.iload_n 1, 1) := by decide +kernel
theorem dX0_seatLate_9 : decode cX0_seatLate 9 = .ok (.if_icmp .ge 50, 3) := by decide +kernel
theorem dX0_seatLate_12 : decode cX0_seatLate 12 = .ok (.aload_n 0, 1) := by decide +kernel
theorem dX0_seatLate_13 : decode cX0_seatLate 13 = .ok (.iload_n 2, 1) := by decide +kernel
theorem dX0_seatLate_14 : decode cX0_seatLate 14 = .ok (.lload 5, 2) := by decide +kernel
theorem dX0_seatLate_16 : decode cX0_seatLate 16 = .ok (.invokevirtual 36, 3) := by decide +kernel
theorem dX0_seatLate_19 : decode cX0_seatLate 19 = .ok (.istore 8, 2) := by decide +kernel
theorem dX0_seatLate_21 : decode cX0_seatLate 21 = .ok (.iload 8, 2) := by decide +kernel
theorem dX0_seatLate_23 : decode cX0_seatLate 23 = .ok (.iconst (-1), 1) := by decide +kernel
theorem dX0_seatLate_24 : decode cX0_seatLate 24 = .ok (.if_icmp .ne 6, 3) := by decide +kernel
theorem dX0_seatLate_27 : decode cX0_seatLate 27 = .ok (.iload 7, 2) := by decide +kernel
theorem dX0_seatLate_29 : decode cX0_seatLate 29 = .ok (.ireturn, 1) := by decide +kernel
theorem dX0_seatLate_59 : decode cX0_seatLate 59 = .ok (.iload_n 1, 1) := by decide +kernel
theorem dX0_seatLate_60 : decode cX0_seatLate 60 = .ok (.ireturn, 1) := by decide +kernel
theorem dX6_addTank_0 : decode cX6_addTank 0 = .ok (.aload_n 0, 1) := by decide +kernel
theorem dX6_addTank_1 : decode cX6_addTank 1 = .ok (.getfield 21, 3) := by decide +kernel
theorem dX6_addTank_4 : decode cX6_addTank 4 = .ok (.iconst 4, 1) := by decide +kernel
theorem dX6_addTank_5 : decode cX6_addTank 5 = .ok (.if_icmp .lt 6, 3) := by decide +kernel
theorem dX6_addTank_11 : decode cX6_addTank 11 = .ok (.aload_n 0, 1) := by decide +kernel
theorem dX6_addTank_12 : decode cX6_addTank 12 = .ok (.getfield 11, 3) := by decide +kernel
theorem dX6_addTank_15 : decode cX6_addTank 15 = .ok (.aload_n 0, 1) := by decide +kernel
theorem dX6_addTank_16 : decode cX6_addTank 16 = .ok (.getfield 21, 3) := by decide +kernel
theorem dX6_addTank_19 : decode cX6_addTank 19 = .ok (.iload_n 1, 1) := by decide +kernel
theorem dX6_addTank_20 : decode cX6_addTank 20 = .ok (.iastore, 1) := by decide +kernel
theorem dX6_addTank_21 : decode cX6_addTank 21 = .ok (.aload_n 0, 1) := by decide +kernel
theorem dX6_addTank_22 : decode cX6_addTank 22 = .ok (.getfield 15, 3) := by decide +kernel
theorem dX6_addTank_25 : decode cX6_addTank 25 = .ok (.aload_n 0, 1) := by decide +kernel
theorem dX6_addTank_26 : decode cX6_addTank 26 = .ok (.getfield 21, 3) := by decide +kernel
theorem dX6_addTank_29 : decode cX6_addTank 29 = .ok (.iload_n 2, 1) := by decide +kernel
theorem dX6_addTank_30 : decode cX6_addTank 30 = .ok (.iastore, 1) := by decide +kernel
theorem dX6_addTank_31 : decode cX6_addTank 31 = .ok (.aload_n 0, 1) := by decide +kernel
theorem dX6_addTank_32 : decode cX6_addTank 32 = .ok (.dup, 1) := by decide +kernel
theorem dX6_addTank_33 : decode cX6_addTank 33 = .ok (.getfield 21, 3) := by decide +kernel
theorem dX6_addTank_36 : decode cX6_addTank 36 = .ok (.dup_x1, 1) := by decide +kernel
theorem dX6_addTank_37 : decode cX6_addTank 37 = .ok (.iconst 1, 1) := by decide +kernel
theorem dX6_addTank_38 : decode cX6_addTank 38 = .ok (.iadd, 1) := by decide +kernel
theorem dX6_addTank_39 : decode cX6_addTank 39 = .ok (.putfield 21, 3) := by decide +kernel
theorem dX6_addTank_42 : decode cX6_addTank 42 = .ok (.ireturn, 1) := by decide +kernel
theorem dX6_totalAmount_0 : decode cX6_totalAmount 0 = .ok (.iconst 0, 1) := by decide +kernel
theorem dX6_totalAmount_1 : decode cX6_totalAmount 1 = .ok (.istore_n 1, 1) := by decide +kernel
theorem dX6_totalAmount_2 : decode cX6_totalAmount 2 = .ok (.iconst 0, 1) := by decide +kernel
theorem dX6_totalAmount_3 : decode cX6_totalAmount 3 = .ok (.istore_n 2, 1) := by decide +kernel
theorem dX6_totalAmount_4 : decode cX6_totalAmount 4 = .ok (.iload_n 2, 1) := by decide +kernel
theorem dX6_totalAmount_5 : decode cX6_totalAmount 5 = .ok (.aload_n 0, 1) := by decide +kernel
theorem dX6_totalAmount_6 : decode cX6_totalAmount 6 = .ok (.getfield 21, 3) := by decide +kernel
theorem dX6_totalAmount_9 : decode cX6_totalAmount 9 = .ok (.if_icmp .ge 18, 3) := by decide +kernel
theorem dX6_totalAmount_27 : decode cX6_totalAmount 27 = .ok (.iload_n 1, 1) := by decide +kernel
theorem dX6_totalAmount_28 : decode cX6_totalAmount 28 = .ok (.ireturn, 1) := by decide +kernel
theorem dX6_momentLeft_0 : decode cX6_momentLeft 0 = .ok (.lconst 0, 1) := by decide +kernel
theorem dX6_momentLeft_1 : decode cX6_momentLeft 1 = .ok (.lstore_n 2, 1) := by decide +kernel
theorem dX6_momentLeft_2 : decode cX6_momentLeft 2 = .ok (.iload_n 1, 1) := by decide +kernel
theorem dX6_momentLeft_3 : decode cX6_momentLeft 3 = .ok (.istore 4, 2) := by decide +kernel
theorem dX6_momentLeft_5 : decode cX6_momentLeft 5 = .ok (.aload_n 0, 1) := by decide +kernel
theorem dX6_momentLeft_6 : decode cX6_momentLeft 6 = .ok (.getfield 21, 3) := by decide +kernel
theorem dX6_momentLeft_9 : decode cX6_momentLeft 9 = .ok (.iconst 1, 1) := by decide +kernel
theorem dX6_momentLeft_10 : decode cX6_momentLeft 10 = .ok (.isub, 1) := by decide +kernel
theorem dX6_momentLeft_11 : decode cX6_momentLeft 11 = .ok (.istore 5, 2) := by decide +kernel
theorem dX6_momentLeft_13 : decode cX6_momentLeft 13 = .ok (.iload 5, 2) := by decide +kernel
theorem dX6_momentLeft_15 : decode cX6_momentLeft 15 = .ok (.ifCond .lt 53, 3) := by decide +kernel
theorem dX6_momentLeft_68 : decode cX6_momentLeft 68 = .ok (.lload_n 2, 1) := by decide +kernel
theorem dX6_momentLeft_69 : decode cX6_momentLeft 69 = .ok (.lreturn, 1) := by decide +kernel
theorem dX3_lastWeight_0 : decode cX3_lastWeight 0 = .ok (.aload_n 0, 1) := by decide +kernel
theorem dX3_lastWeight_1 : decode cX3_lastWeight 1 = .ok (.getfield 21, 3) := by decide +kernel
theorem dX3_lastWeight_4 : decode cX3_lastWeight 4 = .ok (.ifCond .ne 7, 3) := by decide +kernel
theorem dX3_lastWeight_7 : decode cX3_lastWeight 7 = .ok (.iconst 0, 1) := by decide +kernel
theorem dX3_lastWeight_8 : decode cX3_lastWeight 8 = .ok (.goto 14, 3) := by decide +kernel
theorem dX3_lastWeight_22 : decode cX3_lastWeight 22 = .ok (.ireturn, 1) := by decide +kernel
theorem dX3_addPoint_0 : decode cX3_addPoint 0 = .ok (.aload_n 0, 1) := by decide +kernel
theorem dX3_addPoint_1 : decode cX3_addPoint 1 = .ok (.getfield 21, 3) := by decide +kernel
theorem dX3_addPoint_4 : decode cX3_addPoint 4 = .ok (.bipush 10, 2) := by decide +kernel
theorem dX3_addPoint_6 : decode cX3_addPoint 6 = .ok (.if_icmp .lt 6, 3) := by decide +kernel
theorem dX3_addPoint_12 : decode cX3_addPoint 12 = .ok (.aload_n 0, 1) := by decide +kernel
theorem dX3_addPoint_13 : decode cX3_addPoint 13 = .ok (.getfield 11, 3) := by decide +kernel
theorem dX3_addPoint_16 : decode cX3_addPoint 16 = .ok (.aload_n 0, 1) := by decide +kernel
theorem dX3_addPoint_17 : decode cX3_addPoint 17 = .ok (.getfield 21, 3) := by decide +kernel
theorem dX3_addPoint_20 : decode cX3_addPoint 20 = .ok (.iload_n 1, 1) := by decide +kernel
theorem dX3_addPoint_21 : decode cX3_addPoint 21 = .ok (.iastore, 1) := by decide +kernel
theorem dX3_addPoint_22 : decode cX3_addPoint 22 = .ok (.aload_n 0, 1) := by decide +kernel
theorem dX3_addPoint_23 : decode cX3_addPoint 23 = .ok (.getfield 15, 3) := by decide +kernel
theorem dX3_addPoint_26 : decode cX3_addPoint 26 = .ok (.aload_n 0, 1) := by decide +kernel
theorem dX3_addPoint_27 : decode cX3_addPoint 27 = .ok (.getfield 21, 3) := by decide +kernel
theorem dX3_addPoint_30 : decode cX3_addPoint 30 = .ok (.iload_n 2, 1) := by decide +kernel
theorem dX3_addPoint_31 : decode cX3_addPoint 31 = .ok (.iastore, 1) := by decide +kernel
theorem dX3_addPoint_32 : decode cX3_addPoint 32 = .ok (.aload_n 0, 1) := by decide +kernel
theorem dX3_addPoint_33 : decode cX3_addPoint 33 = .ok (.getfield 18, 3) := by decide +kernel
theorem dX3_addPoint_36 : decode cX3_addPoint 36 = .ok (.aload_n 0, 1) := by decide +kernel
theorem dX3_addPoint_37 : decode cX3_addPoint 37 = .ok (.getfield 21, 3) := by decide +kernel
theorem dX3_addPoint_40 : decode cX3_addPoint 40 = .ok (.iload_n 3, 1) := by decide +kernel
theorem dX3_addPoint_41 : decode cX3_addPoint 41 = .ok (.iastore, 1) := by decide +kernel
theorem dX3_addPoint_42 : decode cX3_addPoint 42 = .ok (.aload_n 0, 1) := by decide +kernel
theorem dX3_addPoint_43 : decode cX3_addPoint 43 = .ok (.dup, 1) := by decide +kernel
theorem dX3_addPoint_44 : decode cX3_addPoint 44 = .ok (.getfield 21, 3) := by decide +kernel
theorem dX3_addPoint_47 : decode cX3_addPoint 47 = .ok (.iconst 1, 1) := by decide +kernel
theorem dX3_addPoint_48 : decode cX3_addPoint 48 = .ok (.iadd, 1) := by decide +kernel
theorem dX3_addPoint_49 : decode cX3_addPoint 49 = .ok (.dup_x1, 1) := by decide +kernel
theorem dX3_addPoint_50 : decode cX3_addPoint 50 = .ok (.putfield 21, 3) := by decide +kernel
theorem dX3_addPoint_53 : decode cX3_addPoint 53 = .ok (.ireturn, 1) := by decide +kernel
theorem dX5_doFirstGoodSwap_0 : decode cX5_doFirstGoodSwap 0 = .ok (.iconst 0, 1) := by decide +kernel
theorem dX5_doFirstGoodSwap_1 : decode cX5_doFirstGoodSwap 1 = .ok (.istore_n 3, 1) := by decide +kernel
theorem dX5_doFirstGoodSwap_2 : decode cX5_doFirstGoodSwap 2 = .ok (.iload_n 3, 1) := by decide +kernel
theorem dX5_doFirstGoodSwap_3 : decode cX5_doFirstGoodSwap 3 = .ok (.aload_n 0, 1) := by decide +kernel
theorem dX5_doFirstGoodSwap_4 : decode cX5_doFirstGoodSwap 4 = .ok (.getfield 9, 3) := by decide +kernel
theorem dX5_doFirstGoodSwap_7 : decode cX5_doFirstGoodSwap 7 = .ok (.getfield 15, 3) := by decide +kernel
theorem dX5_doFirstGoodSwap_10 : decode cX5_doFirstGoodSwap 10 = .ok (.if_icmp .ge 31, 3) := by decide +kernel
theorem dX5_doFirstGoodSwap_41 : decode cX5_doFirstGoodSwap 41 = .ok (.iconst 0, 1) := by decide +kernel
theorem dX5_doFirstGoodSwap_42 : decode cX5_doFirstGoodSwap 42 = .ok (.ireturn, 1) := by decide +kernel
theorem dX5_doFirstGoodMove_0 : decode cX5_doFirstGoodMove 0 = .ok (.iconst 0, 1) := by decide +kernel
theorem dX5_doFirstGoodMove_1 : decode cX5_doFirstGoodMove 1 = .ok (.istore 4, 2) := by decide +kernel
theorem dX5_doFirstGoodMove_3 : decode cX5_doFirstGoodMove 3 = .ok (.iload 4, 2) := by decide +kernel
theorem dX5_doFirstGoodMove_5 : decode cX5_doFirstGoodMove 5 = .ok (.aload_n 0, 1) := by decide +kernel
theorem dX5_doFirstGoodMove_6 : decode cX5_doFirstGoodMove 6 = .ok (.getfield 9, 3) := by decide +kernel
theorem dX5_doFirstGoodMove_9 : decode cX5_doFirstGoodMove 9 = .ok (.getfield 15, 3) := by decide +kernel
theorem dX5_doFirstGoodMove_12 : decode cX5_doFirstGoodMove 12 = .ok (.if_icmp .ge 34, 3) := by decide +kernel
theorem dX5_doFirstGoodMove_46 : decode cX5_doFirstGoodMove 46 = .ok (.iconst 0, 1) := by decide +kernel
theorem dX5_doFirstGoodMove_47 : decode cX5_doFirstGoodMove 47 = .ok (.ireturn, 1) := by decide +kernel
theorem dX4_gatherWaiting_0 : decode cX4_gatherWaiting 0 = .ok (.aload_n 0, 1) := by decide +kernel
theorem dX4_gatherWaiting_1 : decode cX4_gatherWaiting 1 = .ok (.iconst 0, 1) := by decide +kernel
theorem dX4_gatherWaiting_2 : decode cX4_gatherWaiting 2 = .ok (.putfield 21, 3) := by decide +kernel
theorem dX4_gatherWaiting_5 : decode cX4_gatherWaiting 5 = .ok (.iconst 0, 1) := by decide +kernel
theorem dX4_gatherWaiting_6 : decode cX4_gatherWaiting 6 = .ok (.istore_n 1, 1) := by decide +kernel
theorem dX4_gatherWaiting_7 : decode cX4_gatherWaiting 7 = .ok (.iload_n 1, 1) := by decide +kernel
theorem dX4_gatherWaiting_8 : decode cX4_gatherWaiting 8 = .ok (.aload_n 0, 1) := by decide +kernel
theorem dX4_gatherWaiting_9 : decode cX4_gatherWaiting 9 = .ok (.getfield 42, 3) := by decide +kernel
theorem dX4_gatherWaiting_12 : decode cX4_gatherWaiting 12 = .ok (.getfield 53, 3) := by decide +kernel
theorem dX4_gatherWaiting_15 : decode cX4_gatherWaiting 15 = .ok (.if_icmp .ge 47, 3) := by decide +kernel
theorem dX4_gatherWaiting_62 : decode cX4_gatherWaiting 62 = .ok (.iconst 1, 1) := by decide +kernel
theorem dX4_gatherWaiting_63 : decode cX4_gatherWaiting 63 = .ok (.ireturn, 1) := by decide +kernel
theorem dX4_gatherFree_0 : decode cX4_gatherFree 0 = .ok (.aload_n 0, 1) := by decide +kernel
theorem dX4_gatherFree_1 : decode cX4_gatherFree 1 = .ok (.iconst 0, 1) := by decide +kernel
theorem dX4_gatherFree_2 : decode cX4_gatherFree 2 = .ok (.putfield 25, 3) := by decide +kernel
theorem dX4_gatherFree_5 : decode cX4_gatherFree 5 = .ok (.iconst 0, 1) := by decide +kernel
theorem dX4_gatherFree_6 : decode cX4_gatherFree 6 = .ok (.istore_n 1, 1) := by decide +kernel
theorem dX4_gatherFree_7 : decode cX4_gatherFree 7 = .ok (.iload_n 1, 1) := by decide +kernel
theorem dX4_gatherFree_8 : decode cX4_gatherFree 8 = .ok (.aload_n 0, 1) := by decide +kernel
theorem dX4_gatherFree_9 : decode cX4_gatherFree 9 = .ok (.getfield 42, 3) := by decide +kernel
theorem dX4_gatherFree_12 : decode cX4_gatherFree 12 = .ok (.getfield 62, 3) := by decide +kernel
theorem dX4_gatherFree_15 : decode cX4_gatherFree 15 = .ok (.if_icmp .ge 77, 3) := by decide +kernel
theorem dX4_gatherFree_92 : decode cX4_gatherFree 92 = .ok (.iconst 1, 1) := by decide +kernel
theorem dX4_gatherFree_93 : decode cX4_gatherFree 93 = .ok (.ireturn, 1) := by decide +kernel
theorem dX4_gather_0 : decode cX4_gather 0 = .ok (.aload_n 0, 1) := by decide +kernel
theorem dX4_gather_1 : decode cX4_gather 1 = .ok (.invokevirtual 46, 3) := by decide +kernel
theorem dX4_gather_4 : decode cX4_gather 4 = .ok (.ifCond .eq 21, 3) := by decide +kernel
theorem dX4_gather_7 : decode cX4_gather 7 = .ok (.aload_n 0, 1) := by decide +kernel
theorem dX4_gather_8 : decode cX4_gather 8 = .ok (.invokevirtual 50, 3) := by decide +kernel
theorem dX4_gather_11 : decode cX4_gather 11 = .ok (.ifCond .eq 14, 3) := by decide +kernel
theorem dX4_gather_14 : decode cX4_gather 14 = .ok (.aload_n 0, 1) := by decide +kernel
theorem dX4_gather_15 : decode cX4_gather 15 = .ok (.getfield 21, 3) := by decide +kernel
theorem dX4_gather_18 : decode cX4_gather 18 = .ok (.ifCond .le 7, 3) := by decide +kernel
theorem dX4_gather_25 : decode cX4_gather 25 = .ok (.iconst 0, 1) := by decide +kernel
theorem dX4_gather_26 : decode cX4_gather 26 = .ok (.ireturn, 1) := by decide +kernel
theorem dX7_dryWeight_0 : decode cX7_dryWeight 0 = .ok (.aload_n 0, 1) := by decide +kernel
theorem dX7_dryWeight_1 : decode cX7_dryWeight 1 = .ok (.getfield 9, 3) := by decide +kernel
theorem dX7_dryWeight_4 : decode cX7_dryWeight 4 = .ok (.aload_n 0, 1) := by decide +kernel
theorem dX7_dryWeight_5 : decode cX7_dryWeight 5 = .ok (.getfield 21, 3) := by decide +kernel
theorem dX7_dryWeight_8 : decode cX7_dryWeight 8 = .ok (.invokevirtual 277, 3) := by decide +kernel
theorem dX7_dryWeight_11 : decode cX7_dryWeight 11 = .ok (.iadd, 1) := by decide +kernel
theorem dX7_dryWeight_12 : decode cX7_dryWeight 12 = .ok (.aload_n 0, 1) := by decide +kernel
theorem dX7_dryWeight_13 : decode cX7_dryWeight 13 = .ok (.getfield 28, 3) := by decide +kernel
theorem dX7_dryWeight_16 : decode cX7_dryWeight 16 = .ok (.invokevirtual 280, 3) := by decide +kernel
theorem dX7_dryWeight_19 : decode cX7_dryWeight 19 = .ok (.iadd, 1) := by decide +kernel
theorem dX7_dryWeight_20 : decode cX7_dryWeight 20 = .ok (.ireturn, 1) := by decide +kernel
theorem dX7_dryMoment_0 : decode cX7_dryMoment 0 = .ok (.aload_n 0, 1) := by decide +kernel
theorem dX7_dryMoment_1 : decode cX7_dryMoment 1 = .ok (.getfield 9, 3) := by decide +kernel
theorem dX7_dryMoment_4 : decode cX7_dryMoment 4 = .ok (.i2l, 1) := by decide +kernel
theorem dX7_dryMoment_5 : decode cX7_dryMoment 5 = .ok (.aload_n 0, 1) := by decide +kernel
theorem dX7_dryMoment_6 : decode cX7_dryMoment 6 = .ok (.getfield 15, 3) := by decide +kernel
theorem dX7_dryMoment_9 : decode cX7_dryMoment 9 = .ok (.i2l, 1) := by decide +kernel
theorem dX7_dryMoment_10 : decode cX7_dryMoment 10 = .ok (.lmul, 1) := by decide +kernel
theorem dX7_dryMoment_11 : decode cX7_dryMoment 11 = .ok (.aload_n 0, 1) := by decide +kernel
theorem dX7_dryMoment_12 : decode cX7_dryMoment 12 = .ok (.getfield 21, 3) := by decide +kernel
theorem dX7_dryMoment_15 : decode cX7_dryMoment 15 = .ok (.invokevirtual 283, 3) := by decide +kernel
theorem dX7_dryMoment_18 : decode cX7_dryMoment 18 = .ok (.ladd, 1) := by decide +kernel
theorem dX7_dryMoment_19 : decode cX7_dryMoment 19 = .ok (.aload_n 0, 1) := by decide +kernel
theorem dX7_dryMoment_20 : decode cX7_dryMoment 20 = .ok (.getfield 28, 3) := by decide +kernel
theorem dX7_dryMoment_23 : decode cX7_dryMoment 23 = .ok (.invokevirtual 286, 3) := by decide +kernel
theorem dX7_dryMoment_26 : decode cX7_dryMoment 26 = .ok (.ladd, 1) := by decide +kernel
theorem dX7_dryMoment_27 : decode cX7_dryMoment 27 = .ok (.lreturn, 1) := by decide +kernel
theorem dX7_lean_0 : decode cX7_lean 0 = .ok (.aload_n 0, 1) := by decide +kernel
theorem dX7_lean_1 : decode cX7_lean 1 = .ok (.invokevirtual 207, 3) := by decide +kernel
theorem dX7_lean_4 : decode cX7_lean 4 = .ok (.iload_n 1, 1) := by decide +kernel
theorem dX7_lean_5 : decode cX7_lean 5 = .ok (.i2l, 1) := by decide +kernel
theorem dX7_lean_6 : decode cX7_lean 6 = .ok (.aload_n 0, 1) := by decide +kernel
theorem dX7_lean_7 : decode cX7_lean 7 = .ok (.invokevirtual 201, 3) := by decide +kernel
theorem dX7_lean_10 : decode cX7_lean 10 = .ok (.i2l, 1) := by decide +kernel
theorem dX7_lean_11 : decode cX7_lean 11 = .ok (.lmul, 1) := by decide +kernel
theorem dX7_lean_12 : decode cX7_lean 12 = .ok (.lsub, 1) := by decide +kernel
theorem dX7_lean_13 : decode cX7_lean 13 = .ok (.lreturn, 1) := by decide +kernel
theorem dX8_isHold_0 : decode cX8_isHold 0 = .ok (.iload_n 1, 1) := by decide +kernel
theorem dX8_isHold_1 : decode cX8_isHold 1 = .ok (.iconst 0, 1) := by decide +kernel
theorem dX8_isHold_2 : decode cX8_isHold 2 = .ok (.aload_n 0, 1) := by decide +kernel
theorem dX8_isHold_3 : decode cX8_isHold 3 = .ok (.getfield 99, 3) := by decide +kernel
theorem dX8_isHold_6 : decode cX8_isHold 6 = .ok (.iconst 1, 1) := by decide +kernel
theorem dX8_isHold_7 : decode cX8_isHold 7 = .ok (.isub, 1) := by decide +kernel
theorem dX8_isHold_8 : decode cX8_isHold 8 = .ok (.invokestatic 95, 3) := by decide +kernel
theorem dX8_isHold_11 : decode cX8_isHold 11 = .ok (.ireturn, 1) := by decide +kernel
theorem dX8_isItem_0 : decode cX8_isItem 0 = .ok (.iload_n 1, 1) := by decide +kernel
theorem dX8_isItem_1 : decode cX8_isItem 1 = .ok (.iconst 0, 1) := by decide +kernel
theorem dX8_isItem_2 : decode cX8_isItem 2 = .ok (.aload_n 0, 1) := by decide +kernel
theorem dX8_isItem_3 : decode cX8_isItem 3 = .ok (.getfield 106, 3) := by decide +kernel
theorem dX8_isItem_6 : decode cX8_isItem 6 = .ok (.iconst 1, 1) := by decide +kernel
theorem dX8_isItem_7 : decode cX8_isItem 7 = .ok (.isub, 1) := by decide +kernel
theorem dX8_isItem_8 : decode cX8_isItem 8 = .ok (.invokestatic 95, 3) := by decide +kernel
theorem dX8_isItem_11 : decode cX8_isItem 11 = .ok (.ireturn, 1) := by decide +kernel
theorem dX8_isSlot_0 : decode cX8_isSlot 0 = .ok (.aload_n 0, 1) := by decide +kernel
theorem dX8_isSlot_1 : decode cX8_isSlot 1 = .ok (.iload_n 1, 1) := by decide +kernel
theorem dX8_isSlot_2 : decode cX8_isSlot 2 = .ok (.invokevirtual 102, 3) := by decide +kernel
theorem dX8_isSlot_5 : decode cX8_isSlot 5 = .ok (.ifCond .eq 23, 3) := by decide +kernel
theorem dX8_isSlot_28 : decode cX8_isSlot 28 = .ok (.iconst 0, 1) := by decide +kernel
theorem dX8_isSlot_29 : decode cX8_isSlot 29 = .ok (.ireturn, 1) := by decide +kernel
theorem dX8_dryWeight_0 : decode cX8_dryWeight 0 = .ok (.aload_n 0, 1) := by decide +kernel
theorem dX8_dryWeight_1 : decode cX8_dryWeight 1 = .ok (.getfield 15, 3) := by decide +kernel
theorem dX8_dryWeight_4 : decode cX8_dryWeight 4 = .ok (.istore_n 1, 1) := by decide +kernel
theorem dX8_dryWeight_5 : decode cX8_dryWeight 5 = .ok (.iconst 0, 1) := by decide +kernel
theorem dX8_dryWeight_6 : decode cX8_dryWeight 6 = .ok (.istore_n 2, 1) := by decide +kernel
theorem dX8_dryWeight_7 : decode cX8_dryWeight 7 = .ok (.iload_n 2, 1) := by decide +kernel
theorem dX8_dryWeight_8 : decode cX8_dryWeight 8 = .ok (.aload_n 0, 1) := by decide +kernel
theorem dX8_dryWeight_9 : decode cX8_dryWeight 9 = .ok (.getfield 99, 3) := by decide +kernel
theorem dX8_dryWeight_12 : decode cX8_dryWeight 12 = .ok (.if_icmp .ge 17, 3) := by decide +kernel
theorem dX8_dryWeight_29 : decode cX8_dryWeight 29 = .ok (.iconst 0, 1) := by decide +kernel
theorem dX8_dryWeight_30 : decode cX8_dryWeight 30 = .ok (.istore_n 2, 1) := by decide +kernel
theorem dX8_dryWeight_31 : decode cX8_dryWeight 31 = .ok (.iload_n 2, 1) := by decide +kernel
theorem dX8_dryWeight_32 : decode cX8_dryWeight 32 = .ok (.aload_n 0, 1) := by decide +kernel
theorem dX8_dryWeight_33 : decode cX8_dryWeight 33 = .ok (.getfield 116, 3) := by decide +kernel
theorem dX8_dryWeight_36 : decode cX8_dryWeight 36 = .ok (.if_icmp .ge 23, 3) := by decide +kernel
theorem dX8_dryWeight_59 : decode cX8_dryWeight 59 = .ok (.iload_n 1, 1) := by decide +kernel
theorem dX8_dryWeight_60 : decode cX8_dryWeight 60 = .ok (.ireturn, 1) := by decide +kernel
theorem dX8_dryMoment_0 : decode cX8_dryMoment 0 = .ok (.aload_n 0, 1) := by decide +kernel
theorem dX8_dryMoment_1 : decode cX8_dryMoment 1 = .ok (.getfield 15, 3) := by decide +kernel
theorem dX8_dryMoment_4 : decode cX8_dryMoment 4 = .ok (.i2l, 1) := by decide +kernel
theorem dX8_dryMoment_5 : decode cX8_dryMoment 5 = .ok (.aload_n 0, 1) := by decide +kernel
theorem dX8_dryMoment_6 : decode cX8_dryMoment 6 = .ok (.getfield 113, 3) := by decide +kernel
theorem dX8_dryMoment_9 : decode cX8_dryMoment 9 = .ok (.i2l, 1) := by decide +kernel
theorem dX8_dryMoment_10 : decode cX8_dryMoment 10 = .ok (.lmul, 1) := by decide +kernel
theorem dX8_dryMoment_11 : decode cX8_dryMoment 11 = .ok (.lstore_n 1, 1) := by decide +kernel
theorem dX8_dryMoment_12 : decode cX8_dryMoment 12 = .ok (.iconst 0, 1) := by decide +kernel
theorem dX8_dryMoment_13 : decode cX8_dryMoment 13 = .ok (.istore_n 3, 1) := by decide +kernel
theorem dX8_dryMoment_14 : decode cX8_dryMoment 14 = .ok (.iload_n 3, 1) := by decide +kernel
theorem dX8_dryMoment_15 : decode cX8_dryMoment 15 = .ok (.aload_n 0, 1) := by decide +kernel
theorem dX8_dryMoment_16 : decode cX8_dryMoment 16 = .ok (.getfield 99, 3) := by decide +kernel
theorem dX8_dryMoment_19 : decode cX8_dryMoment 19 = .ok (.if_icmp .ge 58, 3) := by decide +kernel
theorem dX8_dryMoment_77 : decode cX8_dryMoment 77 = .ok (.iconst 0, 1) := by decide +kernel
theorem dX8_dryMoment_78 : decode cX8_dryMoment 78 = .ok (.istore_n 3, 1) := by decide +kernel
theorem dX8_dryMoment_79 : decode cX8_dryMoment 79 = .ok (.iload_n 3, 1) := by decide +kernel
theorem dX8_dryMoment_80 : decode cX8_dryMoment 80 = .ok (.aload_n 0, 1) := by decide +kernel
theorem dX8_dryMoment_81 : decode cX8_dryMoment 81 = .ok (.getfield 116, 3) := by decide +kernel
theorem dX8_dryMoment_84 : decode cX8_dryMoment 84 = .ok (.if_icmp .ge 33, 3) := by decide +kernel
theorem dX8_dryMoment_117 : decode cX8_dryMoment 117 = .ok (.lload_n 1, 1) := by decide +kernel
theorem dX8_dryMoment_118 : decode cX8_dryMoment 118 = .ok (.lreturn, 1) := by decide +kernel
theorem dX8_allFuel_0 : decode cX8_allFuel 0 = .ok (.iconst 0, 1) := by decide +kernel
theorem dX8_allFuel_1 : decode cX8_allFuel 1 = .ok (.istore_n 1, 1) := by decide +kernel
theorem dX8_allFuel_2 : decode cX8_allFuel 2 = .ok (.iconst 0, 1) := by decide +kernel
theorem dX8_allFuel_3 : decode cX8_allFuel 3 = .ok (.istore_n 2, 1) := by decide +kernel
theorem dX8_allFuel_4 : decode cX8_allFuel 4 = .ok (.iload_n 2, 1) := by decide +kernel
theorem dX8_allFuel_5 : decode cX8_allFuel 5 = .ok (.aload_n 0, 1) := by decide +kernel
theorem dX8_allFuel_6 : decode cX8_allFuel 6 = .ok (.getfield 119, 3) := by decide +kernel
theorem dX8_allFuel_9 : decode cX8_allFuel 9 = .ok (.if_icmp .ge 18, 3) := by decide +kernel
theorem dX8_allFuel_27 : decode cX8_allFuel 27 = .ok (.iload_n 1, 1) := by decide +kernel
theorem dX8_allFuel_28 : decode cX8_allFuel 28 = .ok (.ireturn, 1) := by decide +kernel
theorem dX8_fuelMoment_0 : decode cX8_fuelMoment 0 = .ok (.lconst 0, 1) := by decide +kernel
theorem dX8_fuelMoment_1 : decode cX8_fuelMoment 1 = .ok (.lstore_n 2, 1) := by decide +kernel
theorem dX8_fuelMoment_2 : decode cX8_fuelMoment 2 = .ok (.iload_n 1, 1) := by decide +kernel
theorem dX8_fuelMoment_3 : decode cX8_fuelMoment 3 = .ok (.istore 4, 2) := by decide +kernel
theorem dX8_fuelMoment_5 : decode cX8_fuelMoment 5 = .ok (.aload_n 0, 1) := by decide +kernel
theorem dX8_fuelMoment_6 : decode cX8_fuelMoment 6 = .ok (.getfield 119, 3) := by decide +kernel
theorem dX8_fuelMoment_9 : decode cX8_fuelMoment 9 = .ok (.iconst 1, 1) := by decide +kernel
theorem dX8_fuelMoment_10 : decode cX8_fuelMoment 10 = .ok (.isub, 1) := by decide +kernel
theorem dX8_fuelMoment_11 : decode cX8_fuelMoment 11 = .ok (.istore 5, 2) := by decide +kernel
theorem dX8_fuelMoment_13 : decode cX8_fuelMoment 13 = .ok (.iload 5, 2) := by decide +kernel
theorem dX8_fuelMoment_15 : decode cX8_fuelMoment 15 = .ok (.ifCond .lt 65, 3) := by decide +kernel
theorem dX8_fuelMoment_80 : decode cX8_fuelMoment 80 = .ok (.lload_n 2, 1) := by decide +kernel
theorem dX8_fuelMoment_81 : decode cX8_fuelMoment 81 = .ok (.lreturn, 1) := by decide +kernel
theorem dX8_pushedAt_0 : decode cX8_pushedAt 0 = .ok (.iconst 0, 1) := by decide +kernel
theorem dX8_pushedAt_1 : decode cX8_pushedAt 1 = .ok (.istore_n 2, 1) := by decide +kernel
theorem dX8_pushedAt_2 : decode cX8_pushedAt 2 = .ok (.iconst 0, 1) := by decide +kernel
theorem dX8_pushedAt_3 : decode cX8_pushedAt 3 = .ok (.istore_n 3, 1) := by decide +kernel
theorem dX8_pushedAt_4 : decode cX8_pushedAt 4 = .ok (.iload_n 3, 1) := by decide +kernel
theorem dX8_pushedAt_5 : decode cX8_pushedAt 5 = .ok (.aload_n 0, 1) := by decide +kernel
theorem dX8_pushedAt_6 : decode cX8_pushedAt 6 = .ok (.getfield 99, 3) := by decide +kernel
theorem dX8_pushedAt_9 : decode cX8_pushedAt 9 = .ok (.if_icmp .ge 97, 3) := by decide +kernel
theorem dX8_pushedAt_106 : decode cX8_pushedAt 106 = .ok (.iload_n 2, 1) := by decide +kernel
theorem dX8_pushedAt_107 : decode cX8_pushedAt 107 = .ok (.ireturn, 1) := by decide +kernel
theorem dX8_pushedAll_0 : decode cX8_pushedAll 0 = .ok (.iconst 0, 1) := by decide +kernel
theorem dX8_pushedAll_1 : decode cX8_pushedAll 1 = .ok (.istore_n 1, 1) := by decide +kernel
theorem dX8_pushedAll_2 : decode cX8_pushedAll 2 = .ok (.iconst 1, 1) := by decide +kernel
theorem dX8_pushedAll_3 : decode cX8_pushedAll 3 = .ok (.istore_n 2, 1) := by decide +kernel
theorem dX8_pushedAll_4 : decode cX8_pushedAll 4 = .ok (.iload_n 2, 1) := by decide +kernel
theorem dX8_pushedAll_5 : decode cX8_pushedAll 5 = .ok (.iconst 5, 1) := by decide +kernel
theorem dX8_pushedAll_6 : decode cX8_pushedAll 6 = .ok (.if_icmp .ge 17, 3) := by decide +kernel
theorem dX8_pushedAll_9 : decode cX8_pushedAll 9 = .ok (.iload_n 1, 1) := by decide +kernel
theorem dX8_pushedAll_10 : decode cX8_pushedAll 10 = .ok (.aload_n 0, 1) := by decide +kernel
theorem dX8_pushedAll_11 : decode cX8_pushedAll 11 = .ok (.iload_n 2, 1) := by decide +kernel
theorem dX8_pushedAll_12 : decode cX8_pushedAll 12 = .ok (.invokevirtual 179, 3) := by decide +kernel
theorem dX8_pushedAll_15 : decode cX8_pushedAll 15 = .ok (.iadd, 1) := by decide +kernel
theorem dX8_pushedAll_16 : decode cX8_pushedAll 16 = .ok (.istore_n 1, 1) := by decide +kernel
theorem dX8_pushedAll_17 : decode cX8_pushedAll 17 = .ok (.iinc 2 1, 3) := by decide +kernel
theorem dX8_pushedAll_20 : decode cX8_pushedAll 20 = .ok (.goto (-16), 3) := by decide +kernel
theorem dX8_pushedAll_23 : decode cX8_pushedAll 23 = .ok (.iload_n 1, 1) := by decide +kernel
theorem dX8_pushedAll_24 : decode cX8_pushedAll 24 = .ok (.ireturn, 1) := by decide +kernel
theorem dX8_far_0 : decode cX8_far 0 = .ok (.aload_n 0, 1) := by decide +kernel
theorem dX8_far_1 : decode cX8_far 1 = .ok (.iload_n 2, 1) := by decide +kernel
theorem dX8_far_2 : decode cX8_far 2 = .ok (.putfield 185, 3) := by decide +kernel
theorem dX8_far_5 : decode cX8_far 5 = .ok (.aload_n 0, 1) := by decide +kernel
theorem dX8_far_6 : decode cX8_far 6 = .ok (.lload_n 3, 1) := by decide +kernel
theorem dX8_far_7 : decode cX8_far 7 = .ok (.iload_n 1, 1) := by decide +kernel
theorem dX8_far_8 : decode cX8_far 8 = .ok (.i2l, 1) := by decide +kernel
theorem dX8_far_9 : decode cX8_far 9 = .ok (.iload_n 2, 1) := by decide +kernel
theorem dX8_far_10 : decode cX8_far 10 = .ok (.i2l, 1) := by decide +kernel
theorem dX8_far_11 : decode cX8_far 11 = .ok (.lmul, 1) := by decide +kernel
theorem dX8_far_12 : decode cX8_far 12 = .ok (.lsub, 1) := by decide +kernel
theorem dX8_far_13 : decode cX8_far 13 = .ok (.putfield 188, 3) := by decide +kernel
theorem dX8_far_16 : decode cX8_far 16 = .ok (.aload_n 0, 1) := by decide +kernel
theorem dX8_far_17 : decode cX8_far 17 = .ok (.aload_n 0, 1) := by decide +kernel
theorem dX8_far_18 : decode cX8_far 18 = .ok (.getfield 188, 3) := by decide +kernel
theorem dX8_far_21 : decode cX8_far 21 = .ok (.lconst 0, 1) := by decide +kernel
theorem dX8_far_22 : decode cX8_far 22 = .ok (.lcmp, 1) := by decide +kernel
theorem dX8_far_23 : decode cX8_far 23 = .ok (.ifCond .ge 11, 3) := by decide +kernel
theorem dX8_far_26 : decode cX8_far 26 = .ok (.aload_n 0, 1) := by decide +kernel
theorem dX8_far_27 : decode cX8_far 27 = .ok (.getfield 188, 3) := by decide +kernel
theorem dX8_far_30 : decode cX8_far 30 = .ok (.lneg, 1) := by decide +kernel
theorem dX8_far_31 : decode cX8_far 31 = .ok (.goto 7, 3) := by decide +kernel
theorem dX8_far_34 : decode cX8_far 34 = .ok (.aload_n 0, 1) := by decide +kernel
theorem dX8_far_35 : decode cX8_far 35 = .ok (.getfield 188, 3) := by decide +kernel
theorem dX8_far_38 : decode cX8_far 38 = .ok (.putfield 188, 3) := by decide +kernel
theorem dX8_far_41 : decode cX8_far 41 = .ok (.return_, 1) := by decide +kernel
theorem dX8_betters_0 : decode cX8_betters 0 = .ok (.aload_n 0, 1) := by decide +kernel
theorem dX8_betters_1 : decode cX8_betters 1 = .ok (.iload_n 1, 1) := by decide +kernel
theorem dX8_betters_2 : decode cX8_betters 2 = .ok (.aload_n 0, 1) := by decide +kernel
theorem dX8_betters_3 : decode cX8_betters 3 = .ok (.invokevirtual 153, 3) := by decide +kernel
theorem dX8_betters_6 : decode cX8_betters 6 = .ok (.aload_n 0, 1) := by decide +kernel
theorem dX8_betters_7 : decode cX8_betters 7 = .ok (.invokevirtual 160, 3) := by decide +kernel
theorem dX8_betters_10 : decode cX8_betters 10 = .ok (.invokevirtual 192, 3) := by decide +kernel
theorem dX8_betters_13 : decode cX8_betters 13 = .ok (.aload_n 0, 1) := by decide +kernel
theorem dX8_betters_14 : decode cX8_betters 14 = .ok (.aload_n 0, 1) := by decide +kernel
theorem dX8_betters_15 : decode cX8_betters 15 = .ok (.getfield 188, 3) := by decide +kernel
theorem dX8_betters_18 : decode cX8_betters 18 = .ok (.putfield 199, 3) := by decide +kernel
theorem dX8_betters_21 : decode cX8_betters 21 = .ok (.aload_n 0, 1) := by decide +kernel
theorem dX8_betters_22 : decode cX8_betters 22 = .ok (.aload_n 0, 1) := by decide +kernel
theorem dX8_betters_23 : decode cX8_betters 23 = .ok (.getfield 185, 3) := by decide +kernel
theorem dX8_betters_26 : decode cX8_betters 26 = .ok (.putfield 202, 3) := by decide +kernel
theorem dX8_betters_29 : decode cX8_betters 29 = .ok (.iconst 0, 1) := by decide +kernel
theorem dX8_betters_30 : decode cX8_betters 30 = .ok (.istore_n 2, 1) := by decide +kernel
theorem dX8_betters_31 : decode cX8_betters 31 = .ok (.iload_n 2, 1) := by decide +kernel
theorem dX8_betters_32 : decode cX8_betters 32 = .ok (.aload_n 0, 1) := by decide +kernel
theorem dX8_betters_33 : decode cX8_betters 33 = .ok (.getfield 106, 3) := by decide +kernel
theorem dX8_betters_36 : decode cX8_betters 36 = .ok (.if_icmp .ge 59, 3) := by decide +kernel
theorem dX8_betters_95 : decode cX8_betters 95 = .ok (.iconst 0, 1) := by decide +kernel
theorem dX8_betters_96 : decode cX8_betters 96 = .ok (.istore_n 2, 1) := by decide +kernel
theorem dX8_betters_97 : decode cX8_betters 97 = .ok (.iload_n 2, 1) := by decide +kernel
theorem dX8_betters_98 : decode cX8_betters 98 = .ok (.aload_n 0, 1) := by decide +kernel
theorem dX8_betters_99 : decode cX8_betters 99 = .ok (.getfield 106, 3) := by decide +kernel
theorem dX8_betters_102 : decode cX8_betters 102 = .ok (.if_icmp .ge 60, 3) := by decide +kernel
theorem dX8_betters_162 : decode cX8_betters 162 = .ok (.iconst 0, 1) := by decide +kernel
theorem dX8_betters_163 : decode cX8_betters 163 = .ok (.ireturn, 1) := by decide +kernel
theorem dX7_empty_0 : decode cX7_empty 0 = .ok (.iload_n 1, 1) := by decide +kernel
theorem dX7_empty_1 : decode cX7_empty 1 = .ok (.sipush 1000, 3) := by decide +kernel
theorem dX7_empty_4 : decode cX7_empty 4 = .ok (.ldc 74, 2) := by decide +kernel
theorem dX7_empty_6 : decode cX7_empty 6 = .ok (.invokestatic 75, 3) := by decide +kernel
theorem dX7_empty_9 : decode cX7_empty 9 = .ok (.ifCond .eq 10, 3) := by decide +kernel
theorem dX7_empty_12 : decode cX7_empty 12 = .ok (.iload_n 2, 1) := by decide +kernel
theorem dX7_empty_13 : decode cX7_empty 13 = .ok (.invokestatic 79, 3) := by decide +kernel
theorem dX7_empty_16 : decode cX7_empty 16 = .ok (.ifCond .ne 6, 3) := by decide +kernel
theorem dX7_empty_19 : decode cX7_empty 19 = .ok (.bipush (-2), 2) := by decide +kernel
theorem dX7_empty_21 : decode cX7_empty 21 = .ok (.ireturn, 1) := by decide +kernel
theorem dX7_empty_22 : decode cX7_empty 22 = .ok (.aload_n 0, 1) := by decide +kernel
theorem dX7_empty_23 : decode cX7_empty 23 = .ok (.iload_n 1, 1) := by decide +kernel
theorem dX7_empty_24 : decode cX7_empty 24 = .ok (.putfield 9, 3) := by decide +kernel
theorem dX7_empty_27 : decode cX7_empty 27 = .ok (.aload_n 0, 1) := by decide +kernel
theorem dX7_empty_28 : decode cX7_empty 28 = .ok (.iload_n 2, 1) := by decide +kernel
theorem dX7_empty_29 : decode cX7_empty 29 = .ok (.putfield 15, 3) := by decide +kernel
theorem dX7_empty_32 : decode cX7_empty 32 = .ok (.iconst 0, 1) := by decide +kernel
theorem dX7_empty_33 : decode cX7_empty 33 = .ok (.ireturn, 1) := by decide +kernel
theorem dX8_empty_0 : decode cX8_empty 0 = .ok (.iload_n 1, 1) := by decide +kernel
theorem dX8_empty_1 : decode cX8_empty 1 = .ok (.sipush 1000, 3) := by decide +kernel
theorem dX8_empty_4 : decode cX8_empty 4 = .ok (.ldc 109, 2) := by decide +kernel
theorem dX8_empty_6 : decode cX8_empty 6 = .ok (.invokestatic 95, 3) := by decide +kernel
theorem dX8_empty_9 : decode cX8_empty 9 = .ok (.ifCond .eq 10, 3) := by decide +kernel
theorem dX8_empty_12 : decode cX8_empty 12 = .ok (.iload_n 2, 1) := by decide +kernel
theorem dX8_empty_13 : decode cX8_empty 13 = .ok (.invokestatic 110, 3) := by decide +kernel
theorem dX8_empty_16 : decode cX8_empty 16 = .ok (.ifCond .ne 6, 3) := by decide +kernel
theorem dX8_empty_19 : decode cX8_empty 19 = .ok (.bipush (-2), 2) := by decide +kernel
theorem dX8_empty_21 : decode cX8_empty 21 = .ok (.ireturn, 1) := by decide +kernel
theorem dX8_empty_22 : decode cX8_empty 22 = .ok (.aload_n 0, 1) := by decide +kernel
theorem dX8_empty_23 : decode cX8_empty 23 = .ok (.iload_n 1, 1) := by decide +kernel
theorem dX8_empty_24 : decode cX8_empty 24 = .ok (.putfield 15, 3) := by decide +kernel
theorem dX8_empty_27 : decode cX8_empty 27 = .ok (.aload_n 0, 1) := by decide +kernel
theorem dX8_empty_28 : decode cX8_empty 28 = .ok (.iload_n 2, 1) := by decide +kernel
theorem dX8_empty_29 : decode cX8_empty 29 = .ok (.putfield 113, 3) := by decide +kernel
theorem dX8_empty_32 : decode cX8_empty 32 = .ok (.iconst 0, 1) := by decide +kernel
theorem dX8_empty_33 : decode cX8_empty 33 = .ok (.ireturn, 1) := by decide +kernel
theorem dX7_hold_0 : decode cX7_hold 0 = .ok (.iload_n 1, 1) := by decide +kernel
theorem dX7_hold_1 : decode cX7_hold 1 = .ok (.invokestatic 83, 3) := by decide +kernel
theorem dX7_hold_4 : decode cX7_hold 4 = .ok (.ifCond .eq 10, 3) := by decide +kernel
theorem dX7_hold_7 : decode cX7_hold 7 = .ok (.iload_n 2, 1) := by decide +kernel
theorem dX7_hold_8 : decode cX7_hold 8 = .ok (.invokestatic 83, 3) := by decide +kernel
theorem dX7_hold_11 : decode cX7_hold 11 = .ok (.ifCond .ne 6, 3) := by decide +kernel
theorem dX7_hold_14 : decode cX7_hold 14 = .ok (.bipush (-2), 2) := by decide +kernel
theorem dX7_hold_16 : decode cX7_hold 16 = .ok (.ireturn, 1) := by decide +kernel
theorem dX7_hold_17 : decode cX7_hold 17 = .ok (.aload_n 0, 1) := by decide +kernel
theorem dX7_hold_18 : decode cX7_hold 18 = .ok (.getfield 21, 3) := by decide +kernel
theorem dX7_hold_21 : decode cX7_hold 21 = .ok (.iload_n 1, 1) := by decide +kernel
theorem dX7_hold_22 : decode cX7_hold 22 = .ok (.iload_n 2, 1) := by decide +kernel
theorem dX7_hold_23 : decode cX7_hold 23 = .ok (.invokevirtual 86, 3) := by decide +kernel
theorem dX7_hold_26 : decode cX7_hold 26 = .ok (.ireturn, 1) := by decide +kernel
theorem dX8_hold_0 : decode cX8_hold 0 = .ok (.iload_n 1, 1) := by decide +kernel
theorem dX8_hold_1 : decode cX8_hold 1 = .ok (.iconst 0, 1) := by decide +kernel
theorem dX8_hold_2 : decode cX8_hold 2 = .ok (.sipush 20000, 3) := by decide +kernel
theorem dX8_hold_5 : decode cX8_hold 5 = .ok (.invokestatic 95, 3) := by decide +kernel
theorem dX8_hold_8 : decode cX8_hold 8 = .ok (.ifCond .eq 14, 3) := by decide +kernel
theorem dX8_hold_11 : decode cX8_hold 11 = .ok (.iload_n 2, 1) := by decide +kernel
theorem dX8_hold_12 : decode cX8_hold 12 = .ok (.iconst 0, 1) := by decide +kernel
theorem dX8_hold_13 : decode cX8_hold 13 = .ok (.sipush 20000, 3) := by decide +kernel
theorem dX8_hold_16 : decode cX8_hold 16 = .ok (.invokestatic 95, 3) := by decide +kernel
theorem dX8_hold_19 : decode cX8_hold 19 = .ok (.ifCond .ne 6, 3) := by decide +kernel
theorem dX8_hold_22 : decode cX8_hold 22 = .ok (.bipush (-2), 2) := by decide +kernel
theorem dX8_hold_24 : decode cX8_hold 24 = .ok (.ireturn, 1) := by decide +kernel
theorem dX8_hold_25 : decode cX8_hold 25 = .ok (.aload_n 0, 1) := by decide +kernel
theorem dX8_hold_26 : decode cX8_hold 26 = .ok (.getfield 99, 3) := by decide +kernel
theorem dX8_hold_29 : decode cX8_hold 29 = .ok (.iconst 4, 1) := by decide +kernel
theorem dX8_hold_30 : decode cX8_hold 30 = .ok (.if_icmp .ne 6, 3) := by decide +kernel
theorem dX8_hold_36 : decode cX8_hold 36 = .ok (.aload_n 0, 1) := by decide +kernel
theorem dX8_hold_37 : decode cX8_hold 37 = .ok (.getfield 18, 3) := by decide +kernel
theorem dX8_hold_40 : decode cX8_hold 40 = .ok (.aload_n 0, 1) := by decide +kernel
theorem dX8_hold_41 : decode cX8_hold 41 = .ok (.getfield 99, 3) := by decide +kernel
theorem dX8_hold_44 : decode cX8_hold 44 = .ok (.iload_n 1, 1) := by decide +kernel
theorem dX8_hold_45 : decode cX8_hold 45 = .ok (.iastore, 1) := by decide +kernel
theorem dX8_hold_46 : decode cX8_hold 46 = .ok (.aload_n 0, 1) := by decide +kernel
theorem dX8_hold_47 : decode cX8_hold 47 = .ok (.getfield 22, 3) := by decide +kernel
theorem dX8_hold_50 : decode cX8_hold 50 = .ok (.aload_n 0, 1) := by decide +kernel
theorem dX8_hold_51 : decode cX8_hold 51 = .ok (.getfield 99, 3) := by decide +kernel
theorem dX8_hold_54 : decode cX8_hold 54 = .ok (.iload_n 2, 1) := by decide +kernel
theorem dX8_hold_55 : decode cX8_hold 55 = .ok (.iastore, 1) := by decide +kernel
theorem dX8_hold_56 : decode cX8_hold 56 = .ok (.aload_n 0, 1) := by decide +kernel
theorem dX8_hold_57 : decode cX8_hold 57 = .ok (.dup, 1) := by decide +kernel
theorem dX8_hold_58 : decode cX8_hold 58 = .ok (.getfield 99, 3) := by decide +kernel
theorem dX8_hold_61 : decode cX8_hold 61 = .ok (.iconst 1, 1) := by decide +kernel
theorem dX8_hold_62 : decode cX8_hold 62 = .ok (.iadd, 1) := by decide +kernel
theorem dX8_hold_63 : decode cX8_hold 63 = .ok (.putfield 99, 3) := by decide +kernel
theorem dX8_hold_66 : decode cX8_hold 66 = .ok (.aload_n 0, 1) := by decide +kernel
theorem dX8_hold_67 : decode cX8_hold 67 = .ok (.getfield 99, 3) := by decide +kernel
theorem dX8_hold_70 : decode cX8_hold 70 = .ok (.iconst 1, 1) := by decide +kernel
theorem dX8_hold_71 : decode cX8_hold 71 = .ok (.isub, 1) := by decide +kernel
theorem dX8_hold_72 : decode cX8_hold 72 = .ok (.ireturn, 1) := by decide +kernel
theorem dX7_slot_0 : decode cX7_slot 0 = .ok (.aload_n 0, 1) := by decide +kernel
theorem dX7_slot_1 : decode cX7_slot 1 = .ok (.getfield 21, 3) := by decide +kernel
theorem dX7_slot_4 : decode cX7_slot 4 = .ok (.iload_n 1, 1) := by decide +kernel
theorem dX7_slot_5 : decode cX7_slot 5 = .ok (.invokevirtual 90, 3) := by decide +kernel
theorem dX7_slot_8 : decode cX7_slot 8 = .ok (.ifCond .ne 5, 3) := by decide +kernel
theorem dX7_slot_11 : decode cX7_slot 11 = .ok (.iconst (-1), 1) := by decide +kernel
theorem dX7_slot_12 : decode cX7_slot 12 = .ok (.ireturn, 1) := by decide +kernel
theorem dX8_slot_0 : decode cX8_slot 0 = .ok (.aload_n 0, 1) := by decide +kernel
theorem dX8_slot_1 : decode cX8_slot 1 = .ok (.iload_n 1, 1) := by decide +kernel
theorem dX8_slot_2 : decode cX8_slot 2 = .ok (.invokevirtual 102, 3) := by decide +kernel
theorem dX8_slot_5 : decode cX8_slot 5 = .ok (.ifCond .ne 5, 3) := by decide +kernel
theorem dX8_slot_8 : decode cX8_slot 8 = .ok (.iconst (-1), 1) := by decide +kernel
theorem dX8_slot_9 : decode cX8_slot 9 = .ok (.ireturn, 1) := by decide +kernel
theorem dX7_apart_0 : decode cX7_apart 0 = .ok (.iload_n 1, 1) := by decide +kernel
theorem dX7_apart_1 : decode cX7_apart 1 = .ok (.invokestatic 101, 3) := by decide +kernel
theorem dX7_apart_4 : decode cX7_apart 4 = .ok (.ifCond .eq 10, 3) := by decide +kernel
theorem dX7_apart_7 : decode cX7_apart 7 = .ok (.iload_n 2, 1) := by decide +kernel
theorem dX7_apart_8 : decode cX7_apart 8 = .ok (.invokestatic 101, 3) := by decide +kernel
theorem dX7_apart_11 : decode cX7_apart 11 = .ok (.ifCond .ne 5, 3) := by decide +kernel
theorem dX7_apart_14 : decode cX7_apart 14 = .ok (.iconst (-1), 1) := by decide +kernel
theorem dX7_apart_15 : decode cX7_apart 15 = .ok (.ireturn, 1) := by decide +kernel
theorem dX7_apart_16 : decode cX7_apart 16 = .ok (.iload_n 3, 1) := by decide +kernel
theorem dX7_apart_17 : decode cX7_apart 17 = .ok (.iconst 0, 1) := by decide +kernel
theorem dX7_apart_18 : decode cX7_apart 18 = .ok (.bipush 8, 2) := by decide +kernel
theorem dX7_apart_20 : decode cX7_apart 20 = .ok (.invokestatic 75, 3) := by decide +kernel
theorem dX7_apart_23 : decode cX7_apart 23 = .ok (.ifCond .ne 6, 3) := by decide +kernel
theorem dX7_apart_26 : decode cX7_apart 26 = .ok (.bipush (-2), 2) := by decide +kernel
theorem dX7_apart_28 : decode cX7_apart 28 = .ok (.ireturn, 1) := by decide +kernel
theorem dX7_apart_29 : decode cX7_apart 29 = .ok (.aload_n 0, 1) := by decide +kernel
theorem dX7_apart_30 : decode cX7_apart 30 = .ok (.getfield 21, 3) := by decide +kernel
theorem dX7_apart_33 : decode cX7_apart 33 = .ok (.iload_n 1, 1) := by decide +kernel
theorem dX7_apart_34 : decode cX7_apart 34 = .ok (.iload_n 2, 1) := by decide +kernel
theorem dX7_apart_35 : decode cX7_apart 35 = .ok (.iload_n 3, 1) := by decide +kernel
theorem dX7_apart_36 : decode cX7_apart 36 = .ok (.invokevirtual 104, 3) := by decide +kernel
theorem dX7_apart_39 : decode cX7_apart 39 = .ok (.ireturn, 1) := by decide +kernel
theorem dX8_apart_0 : decode cX8_apart 0 = .ok (.iload_n 1, 1) := by decide +kernel
theorem dX8_apart_1 : decode cX8_apart 1 = .ok (.iconst 0, 1) := by decide +kernel
theorem dX8_apart_2 : decode cX8_apart 2 = .ok (.bipush 7, 2) := by decide +kernel
theorem dX8_apart_4 : decode cX8_apart 4 = .ok (.invokestatic 95, 3) := by decide +kernel
theorem dX8_apart_7 : decode cX8_apart 7 = .ok (.ifCond .eq 13, 3) := by decide +kernel
theorem dX8_apart_10 : decode cX8_apart 10 = .ok (.iload_n 2, 1) := by decide +kernel
theorem dX8_apart_11 : decode cX8_apart 11 = .ok (.iconst 0, 1) := by decide +kernel
theorem dX8_apart_12 : decode cX8_apart 12 = .ok (.bipush 7, 2) := by decide +kernel
theorem dX8_apart_14 : decode cX8_apart 14 = .ok (.invokestatic 95, 3) := by decide +kernel
theorem dX8_apart_17 : decode cX8_apart 17 = .ok (.ifCond .ne 5, 3) := by decide +kernel
theorem dX8_apart_20 : decode cX8_apart 20 = .ok (.iconst (-1), 1) := by decide +kernel
theorem dX8_apart_21 : decode cX8_apart 21 = .ok (.ireturn, 1) := by decide +kernel
theorem dX8_apart_22 : decode cX8_apart 22 = .ok (.iload_n 3, 1) := by decide +kernel
theorem dX8_apart_23 : decode cX8_apart 23 = .ok (.iconst 0, 1) := by decide +kernel
theorem dX8_apart_24 : decode cX8_apart 24 = .ok (.bipush 8, 2) := by decide +kernel
theorem dX8_apart_26 : decode cX8_apart 26 = .ok (.invokestatic 95, 3) := by decide +kernel
theorem dX8_apart_29 : decode cX8_apart 29 = .ok (.ifCond .ne 6, 3) := by decide +kernel
theorem dX8_apart_32 : decode cX8_apart 32 = .ok (.bipush (-2), 2) := by decide +kernel
theorem dX8_apart_34 : decode cX8_apart 34 = .ok (.ireturn, 1) := by decide +kernel
theorem dX8_apart_35 : decode cX8_apart 35 = .ok (.aload_n 0, 1) := by decide +kernel
theorem dX8_apart_36 : decode cX8_apart 36 = .ok (.getfield 37, 3) := by decide +kernel
theorem dX8_apart_39 : decode cX8_apart 39 = .ok (.bipush 8, 2) := by decide +kernel
theorem dX8_apart_41 : decode cX8_apart 41 = .ok (.iload_n 1, 1) := by decide +kernel
theorem dX8_apart_42 : decode cX8_apart 42 = .ok (.imul, 1) := by decide +kernel
theorem dX8_apart_43 : decode cX8_apart 43 = .ok (.iload_n 2, 1) := by decide +kernel
theorem dX8_apart_44 : decode cX8_apart 44 = .ok (.iadd, 1) := by decide +kernel
theorem dX8_apart_45 : decode cX8_apart 45 = .ok (.iaload, 1) := by decide +kernel
theorem dX8_apart_46 : decode cX8_apart 46 = .ok (.istore 4, 2) := by decide +kernel
theorem dX8_apart_48 : decode cX8_apart 48 = .ok (.aload_n 0, 1) := by decide +kernel
theorem dX8_apart_49 : decode cX8_apart 49 = .ok (.getfield 37, 3) := by decide +kernel
theorem dX8_apart_52 : decode cX8_apart 52 = .ok (.bipush 8, 2) := by decide +kernel
theorem dX8_apart_54 : decode cX8_apart 54 = .ok (.iload_n 1, 1) := by decide +kernel
theorem dX8_apart_55 : decode cX8_apart 55 = .ok (.imul, 1) := by decide +kernel
theorem dX8_apart_56 : decode cX8_apart 56 = .ok (.iload_n 2, 1) := by decide +kernel
theorem dX8_apart_57 : decode cX8_apart 57 = .ok (.iadd, 1) := by decide +kernel
theorem dX8_apart_58 : decode cX8_apart 58 = .ok (.iload_n 3, 1) := by decide +kernel
theorem dX8_apart_59 : decode cX8_apart 59 = .ok (.iastore, 1) := by decide +kernel
theorem dX8_apart_60 : decode cX8_apart 60 = .ok (.aload_n 0, 1) := by decide +kernel
theorem dX8_apart_61 : decode cX8_apart 61 = .ok (.getfield 37, 3) := by decide +kernel
theorem dX8_apart_64 : decode cX8_apart 64 = .ok (.bipush 8, 2) := by decide +kernel
theorem dX8_apart_66 : decode cX8_apart 66 = .ok (.iload_n 2, 1) := by decide +kernel
theorem dX8_apart_67 : decode cX8_apart 67 = .ok (.imul, 1) := by decide +kernel
theorem dX8_apart_68 : decode cX8_apart 68 = .ok (.iload_n 1, 1) := by decide +kernel
theorem dX8_apart_69 : decode cX8_apart 69 = .ok (.iadd, 1) := by decide +kernel
theorem dX8_apart_70 : decode cX8_apart 70 = .ok (.iload_n 3, 1) := by decide +kernel
theorem dX8_apart_71 : decode cX8_apart 71 = .ok (.iastore, 1) := by decide +kernel
theorem dX8_apart_72 : decode cX8_apart 72 = .ok (.iload 4, 2) := by decide +kernel
theorem dX8_apart_74 : decode cX8_apart 74 = .ok (.ireturn, 1) := by decide +kernel
theorem dX7_item_0 : decode cX7_item 0 = .ok (.iload_n 1, 1) := by decide +kernel
theorem dX7_item_1 : decode cX7_item 1 = .ok (.iconst 1, 1) := by decide +kernel
theorem dX7_item_2 : decode cX7_item 2 = .ok (.sipush 5000, 3) := by decide +kernel
theorem dX7_item_5 : decode cX7_item 5 = .ok (.invokestatic 75, 3) := by decide +kernel
theorem dX7_item_8 : decode cX7_item 8 = .ok (.ifCond .ne 6, 3) := by decide +kernel
theorem dX7_item_11 : decode cX7_item 11 = .ok (.bipush (-2), 2) := by decide +kernel
theorem dX7_item_13 : decode cX7_item 13 = .ok (.ireturn, 1) := by decide +kernel
theorem dX7_item_14 : decode cX7_item 14 = .ok (.iload_n 2, 1) := by decide +kernel
theorem dX7_item_15 : decode cX7_item 15 = .ok (.invokestatic 101, 3) := by decide +kernel
theorem dX7_item_18 : decode cX7_item 18 = .ok (.ifCond .eq 10, 3) := by decide +kernel
theorem dX7_item_21 : decode cX7_item 21 = .ok (.iload_n 3, 1) := by decide +kernel
theorem dX7_item_22 : decode cX7_item 22 = .ok (.invokestatic 107, 3) := by decide +kernel
theorem dX7_item_25 : decode cX7_item 25 = .ok (.ifCond .ne 5, 3) := by decide +kernel
theorem dX7_item_28 : decode cX7_item 28 = .ok (.iconst (-1), 1) := by decide +kernel
theorem dX7_item_29 : decode cX7_item 29 = .ok (.ireturn, 1) := by decide +kernel
theorem dX7_item_30 : decode cX7_item 30 = .ok (.aload_n 0, 1) := by decide +kernel
theorem dX7_item_31 : decode cX7_item 31 = .ok (.getfield 21, 3) := by decide +kernel
theorem dX7_item_34 : decode cX7_item 34 = .ok (.iload_n 1, 1) := by decide +kernel
theorem dX7_item_35 : decode cX7_item 35 = .ok (.iload_n 2, 1) := by decide +kernel
theorem dX7_item_36 : decode cX7_item 36 = .ok (.iload_n 3, 1) := by decide +kernel
theorem dX7_item_37 : decode cX7_item 37 = .ok (.invokevirtual 110, 3) := by decide +kernel
theorem dX7_item_40 : decode cX7_item 40 = .ok (.ireturn, 1) := by decide +kernel
theorem dX8_item_0 : decode cX8_item 0 = .ok (.iload_n 1, 1) := by decide +kernel
theorem dX8_item_1 : decode cX8_item 1 = .ok (.iconst 1, 1) := by decide +kernel
theorem dX8_item_2 : decode cX8_item 2 = .ok (.sipush 5000, 3) := by decide +kernel
theorem dX8_item_5 : decode cX8_item 5 = .ok (.invokestatic 95, 3) := by decide +kernel
theorem dX8_item_8 : decode cX8_item 8 = .ok (.ifCond .ne 6, 3) := by decide +kernel
theorem dX8_item_11 : decode cX8_item 11 = .ok (.bipush (-2), 2) := by decide +kernel
theorem dX8_item_13 : decode cX8_item 13 = .ok (.ireturn, 1) := by decide +kernel
theorem dX8_item_14 : decode cX8_item 14 = .ok (.iload_n 2, 1) := by decide +kernel
theorem dX8_item_15 : decode cX8_item 15 = .ok (.iconst 0, 1) := by decide +kernel
theorem dX8_item_16 : decode cX8_item 16 = .ok (.bipush 7, 2) := by decide +kernel
theorem dX8_item_18 : decode cX8_item 18 = .ok (.invokestatic 95, 3) := by decide +kernel
theorem dX8_item_21 : decode cX8_item 21 = .ok (.ifCond .eq 12, 3) := by decide +kernel
theorem dX8_item_24 : decode cX8_item 24 = .ok (.iload_n 3, 1) := by decide +kernel
theorem dX8_item_25 : decode cX8_item 25 = .ok (.iconst 1, 1) := by decide +kernel
theorem dX8_item_26 : decode cX8_item 26 = .ok (.iconst 4, 1) := by decide +kernel
theorem dX8_item_27 : decode cX8_item 27 = .ok (.invokestatic 95, 3) := by decide +kernel
theorem dX8_item_30 : decode cX8_item 30 = .ok (.ifCond .ne 5, 3) := by decide +kernel
theorem dX8_item_33 : decode cX8_item 33 = .ok (.iconst (-1), 1) := by decide +kernel
theorem dX8_item_34 : decode cX8_item 34 = .ok (.ireturn, 1) := by decide +kernel
theorem dX8_item_35 : decode cX8_item 35 = .ok (.aload_n 0, 1) := by decide +kernel
theorem dX8_item_36 : decode cX8_item 36 = .ok (.getfield 106, 3) := by decide +kernel
theorem dX8_item_39 : decode cX8_item 39 = .ok (.bipush 40, 2) := by decide +kernel
theorem dX8_item_41 : decode cX8_item 41 = .ok (.if_icmp .ne 6, 3) := by decide +kernel
theorem dX8_item_47 : decode cX8_item 47 = .ok (.aload_n 0, 1) := by decide +kernel
theorem dX8_item_48 : decode cX8_item 48 = .ok (.getfield 40, 3) := by decide +kernel
theorem dX8_item_51 : decode cX8_item 51 = .ok (.aload_n 0, 1) := by decide +kernel
theorem dX8_item_52 : decode cX8_item 52 = .ok (.getfield 106, 3) := by decide +kernel
theorem dX8_item_55 : decode cX8_item 55 = .ok (.iload_n 1, 1) := by decide +kernel
theorem dX8_item_56 : decode cX8_item 56 = .ok (.iastore, 1) := by decide +kernel
theorem dX8_item_57 : decode cX8_item 57 = .ok (.aload_n 0, 1) := by decide +kernel
theorem dX8_item_58 : decode cX8_item 58 = .ok (.getfield 43, 3) := by decide +kernel
theorem dX8_item_61 : decode cX8_item 61 = .ok (.aload_n 0, 1) := by decide +kernel
theorem dX8_item_62 : decode cX8_item 62 = .ok (.getfield 106, 3) := by decide +kernel
theorem dX8_item_65 : decode cX8_item 65 = .ok (.iload_n 2, 1) := by decide +kernel
theorem dX8_item_66 : decode cX8_item 66 = .ok (.iastore, 1) := by decide +kernel
theorem dX8_item_67 : decode cX8_item 67 = .ok (.aload_n 0, 1) := by decide +kernel
theorem dX8_item_68 : decode cX8_item 68 = .ok (.getfield 46, 3) := by decide +kernel
theorem dX8_item_71 : decode cX8_item 71 = .ok (.aload_n 0, 1) := by decide +kernel
theorem dX8_item_72 : decode cX8_item 72 = .ok (.getfield 106, 3) := by decide +kernel
theorem dX8_item_75 : decode cX8_item 75 = .ok (.iload_n 3, 1) := by decide +kernel
theorem dX8_item_76 : decode cX8_item 76 = .ok (.iastore, 1) := by decide +kernel
theorem dX8_item_77 : decode cX8_item 77 = .ok (.aload_n 0, 1) := by decide +kernel
theorem dX8_item_78 : decode cX8_item 78 = .ok (.getfield 49, 3) := by decide +kernel
theorem dX8_item_81 : decode cX8_item 81 = .ok (.aload_n 0, 1) := by decide +kernel
theorem dX8_item_82 : decode cX8_item 82 = .ok (.getfield 106, 3) := by decide +kernel
theorem dX8_item_85 : decode cX8_item 85 = .ok (.iconst (-1), 1) := by decide +kernel
theorem dX8_item_86 : decode cX8_item 86 = .ok (.iastore, 1) := by decide +kernel
theorem dX8_item_87 : decode cX8_item 87 = .ok (.aload_n 0, 1) := by decide +kernel
theorem dX8_item_88 : decode cX8_item 88 = .ok (.dup, 1) := by decide +kernel
theorem dX8_item_89 : decode cX8_item 89 = .ok (.getfield 106, 3) := by decide +kernel
theorem dX8_item_92 : decode cX8_item 92 = .ok (.iconst 1, 1) := by decide +kernel
theorem dX8_item_93 : decode cX8_item 93 = .ok (.iadd, 1) := by decide +kernel
theorem dX8_item_94 : decode cX8_item 94 = .ok (.putfield 106, 3) := by decide +kernel
theorem dX8_item_97 : decode cX8_item 97 = .ok (.aload_n 0, 1) := by decide +kernel
theorem dX8_item_98 : decode cX8_item 98 = .ok (.getfield 106, 3) := by decide +kernel
theorem dX8_item_101 : decode cX8_item 101 = .ok (.iconst 1, 1) := by decide +kernel
theorem dX8_item_102 : decode cX8_item 102 = .ok (.isub, 1) := by decide +kernel
theorem dX8_item_103 : decode cX8_item 103 = .ok (.ireturn, 1) := by decide +kernel
theorem dX7_row_0 : decode cX7_row 0 = .ok (.iload_n 1, 1) := by decide +kernel
theorem dX7_row_1 : decode cX7_row 1 = .ok (.invokestatic 79, 3) := by decide +kernel
theorem dX7_row_4 : decode cX7_row 4 = .ok (.ifCond .eq 13, 3) := by decide +kernel
theorem dX7_row_7 : decode cX7_row 7 = .ok (.iload_n 2, 1) := by decide +kernel
theorem dX7_row_8 : decode cX7_row 8 = .ok (.iconst 1, 1) := by decide +kernel
theorem dX7_row_9 : decode cX7_row 9 = .ok (.bipush 8, 2) := by decide +kernel
theorem dX7_row_11 : decode cX7_row 11 = .ok (.invokestatic 75, 3) := by decide +kernel
theorem dX7_row_14 : decode cX7_row 14 = .ok (.ifCond .ne 6, 3) := by decide +kernel
theorem dX7_row_17 : decode cX7_row 17 = .ok (.bipush (-2), 2) := by decide +kernel
theorem dX7_row_19 : decode cX7_row 19 = .ok (.ireturn, 1) := by decide +kernel
theorem dX7_row_20 : decode cX7_row 20 = .ok (.aload_n 0, 1) := by decide +kernel
theorem dX7_row_21 : decode cX7_row 21 = .ok (.getfield 28, 3) := by decide +kernel
theorem dX7_row_24 : decode cX7_row 24 = .ok (.iload_n 1, 1) := by decide +kernel
theorem dX7_row_25 : decode cX7_row 25 = .ok (.iload_n 2, 1) := by decide +kernel
theorem dX7_row_26 : decode cX7_row 26 = .ok (.invokevirtual 113, 3) := by decide +kernel
theorem dX7_row_29 : decode cX7_row 29 = .ok (.ireturn, 1) := by decide +kernel
theorem dX8_row_0 : decode cX8_row 0 = .ok (.iload_n 1, 1) := by decide +kernel
theorem dX8_row_1 : decode cX8_row 1 = .ok (.invokestatic 110, 3) := by decide +kernel
theorem dX8_row_4 : decode cX8_row 4 = .ok (.ifCond .eq 13, 3) := by decide +kernel
theorem dX8_row_7 : decode cX8_row 7 = .ok (.iload_n 2, 1) := by decide +kernel
theorem dX8_row_8 : decode cX8_row 8 = .ok (.iconst 1, 1) := by decide +kernel
theorem dX8_row_9 : decode cX8_row 9 = .ok (.bipush 8, 2) := by decide +kernel
theorem dX8_row_11 : decode cX8_row 11 = .ok (.invokestatic 95, 3) := by decide +kernel
theorem dX8_row_14 : decode cX8_row 14 = .ok (.ifCond .ne 6, 3) := by decide +kernel
theorem dX8_row_17 : decode cX8_row 17 = .ok (.bipush (-2), 2) := by decide +kernel
theorem dX8_row_19 : decode cX8_row 19 = .ok (.ireturn, 1) := by decide +kernel
theorem dX8_row_20 : decode cX8_row 20 = .ok (.aload_n 0, 1) := by decide +kernel
theorem dX8_row_21 : decode cX8_row 21 = .ok (.getfield 116, 3) := by decide +kernel
theorem dX8_row_24 : decode cX8_row 24 = .ok (.bipush 10, 2) := by decide +kernel
theorem dX8_row_26 : decode cX8_row 26 = .ok (.if_icmp .ne 6, 3) := by decide +kernel
theorem dX8_row_32 : decode cX8_row 32 = .ok (.aload_n 0, 1) := by decide +kernel
theorem dX8_row_33 : decode cX8_row 33 = .ok (.getfield 52, 3) := by decide +kernel
theorem dX8_row_36 : decode cX8_row 36 = .ok (.aload_n 0, 1) := by decide +kernel
theorem dX8_row_37 : decode cX8_row 37 = .ok (.getfield 116, 3) := by decide +kernel
theorem dX8_row_40 : decode cX8_row 40 = .ok (.iload_n 1, 1) := by decide +kernel
theorem dX8_row_41 : decode cX8_row 41 = .ok (.iastore, 1) := by decide +kernel
theorem dX8_row_42 : decode cX8_row 42 = .ok (.aload_n 0, 1) := by decide +kernel
theorem dX8_row_43 : decode cX8_row 43 = .ok (.getfield 55, 3) := by decide +kernel
theorem dX8_row_46 : decode cX8_row 46 = .ok (.aload_n 0, 1) := by decide +kernel
theorem dX8_row_47 : decode cX8_row 47 = .ok (.getfield 116, 3) := by decide +kernel
theorem dX8_row_50 : decode cX8_row 50 = .ok (.iload_n 2, 1) := by decide +kernel
theorem dX8_row_51 : decode cX8_row 51 = .ok (.iastore, 1) := by decide +kernel
theorem dX8_row_52 : decode cX8_row 52 = .ok (.aload_n 0, 1) := by decide +kernel
theorem dX8_row_53 : decode cX8_row 53 = .ok (.dup, 1) := by decide +kernel
theorem dX8_row_54 : decode cX8_row 54 = .ok (.getfield 116, 3) := by decide +kernel
theorem dX8_row_57 : decode cX8_row 57 = .ok (.iconst 1, 1) := by decide +kernel
theorem dX8_row_58 : decode cX8_row 58 = .ok (.iadd, 1) := by decide +kernel
theorem dX8_row_59 : decode cX8_row 59 = .ok (.putfield 116, 3) := by decide +kernel
theorem dX8_row_62 : decode cX8_row 62 = .ok (.aload_n 0, 1) := by decide +kernel
theorem dX8_row_63 : decode cX8_row 63 = .ok (.getfield 116, 3) := by decide +kernel
theorem dX8_row_66 : decode cX8_row 66 = .ok (.iconst 1, 1) := by decide +kernel
theorem dX8_row_67 : decode cX8_row 67 = .ok (.isub, 1) := by decide +kernel
theorem dX8_row_68 : decode cX8_row 68 = .ok (.ireturn, 1) := by decide +kernel
theorem dX7_tank_0 : decode cX7_tank 0 = .ok (.iload_n 1, 1) := by decide +kernel
theorem dX7_tank_1 : decode cX7_tank 1 = .ok (.invokestatic 79, 3) := by decide +kernel
theorem dX7_tank_4 : decode cX7_tank 4 = .ok (.ifCond .eq 10, 3) := by decide +kernel
theorem dX7_tank_7 : decode cX7_tank 7 = .ok (.iload_n 2, 1) := by decide +kernel
theorem dX7_tank_8 : decode cX7_tank 8 = .ok (.invokestatic 83, 3) := by decide +kernel
theorem dX7_tank_11 : decode cX7_tank 11 = .ok (.ifCond .ne 6, 3) := by decide +kernel
theorem dX7_tank_14 : decode cX7_tank 14 = .ok (.bipush (-2), 2) := by decide +kernel
theorem dX7_tank_16 : decode cX7_tank 16 = .ok (.ireturn, 1) := by decide +kernel
theorem dX7_tank_17 : decode cX7_tank 17 = .ok (.aload_n 0, 1) := by decide +kernel
theorem dX7_tank_18 : decode cX7_tank 18 = .ok (.getfield 35, 3) := by decide +kernel
theorem dX7_tank_21 : decode cX7_tank 21 = .ok (.iload_n 1, 1) := by decide +kernel
theorem dX7_tank_22 : decode cX7_tank 22 = .ok (.iload_n 2, 1) := by decide +kernel
theorem dX7_tank_23 : decode cX7_tank 23 = .ok (.invokevirtual 116, 3) := by decide +kernel
theorem dX7_tank_26 : decode cX7_tank 26 = .ok (.ireturn, 1) := by decide +kernel
theorem dX8_tank_0 : decode cX8_tank 0 = .ok (.iload_n 1, 1) := by decide +kernel
theorem dX8_tank_1 : decode cX8_tank 1 = .ok (.invokestatic 110, 3) := by decide +kernel
theorem dX8_tank_4 : decode cX8_tank 4 = .ok (.ifCond .eq 14, 3) := by decide +kernel
theorem dX8_tank_7 : decode cX8_tank 7 = .ok (.iload_n 2, 1) := by decide +kernel
theorem dX8_tank_8 : decode cX8_tank 8 = .ok (.iconst 0, 1) := by decide +kernel
theorem dX8_tank_9 : decode cX8_tank 9 = .ok (.sipush 20000, 3) := by decide +kernel
theorem dX8_tank_12 : decode cX8_tank 12 = .ok (.invokestatic 95, 3) := by decide +kernel
theorem dX8_tank_15 : decode cX8_tank 15 = .ok (.ifCond .ne 6, 3) := by decide +kernel
theorem dX8_tank_18 : decode cX8_tank 18 = .ok (.bipush (-2), 2) := by decide +kernel
theorem dX8_tank_20 : decode cX8_tank 20 = .ok (.ireturn, 1) := by decide +kernel
theorem dX8_tank_21 : decode cX8_tank 21 = .ok (.aload_n 0, 1) := by decide +kernel
theorem dX8_tank_22 : decode cX8_tank 22 = .ok (.getfield 119, 3) := by decide +kernel
theorem dX8_tank_25 : decode cX8_tank 25 = .ok (.iconst 4, 1) := by decide +kernel
theorem dX8_tank_26 : decode cX8_tank 26 = .ok (.if_icmp .ne 6, 3) := by decide +kernel
theorem dX8_tank_32 : decode cX8_tank 32 = .ok (.aload_n 0, 1) := by decide +kernel
theorem dX8_tank_33 : decode cX8_tank 33 = .ok (.getfield 61, 3) := by decide +kernel
theorem dX8_tank_36 : decode cX8_tank 36 = .ok (.aload_n 0, 1) := by decide +kernel
theorem dX8_tank_37 : decode cX8_tank 37 = .ok (.getfield 119, 3) := by decide +kernel
theorem dX8_tank_40 : decode cX8_tank 40 = .ok (.iload_n 1, 1) := by decide +kernel
theorem dX8_tank_41 : decode cX8_tank 41 = .ok (.iastore, 1) := by decide +kernel
theorem dX8_tank_42 : decode cX8_tank 42 = .ok (.aload_n 0, 1) := by decide +kernel
theorem dX8_tank_43 : decode cX8_tank 43 = .ok (.getfield 64, 3) := by decide +kernel
theorem dX8_tank_46 : decode cX8_tank 46 = .ok (.aload_n 0, 1) := by decide +kernel
theorem dX8_tank_47 : decode cX8_tank 47 = .ok (.getfield 119, 3) := by decide +kernel
theorem dX8_tank_50 : decode cX8_tank 50 = .ok (.iload_n 2, 1) := by decide +kernel
theorem dX8_tank_51 : decode cX8_tank 51 = .ok (.iastore, 1) := by decide +kernel
theorem dX8_tank_52 : decode cX8_tank 52 = .ok (.aload_n 0, 1) := by decide +kernel
theorem dX8_tank_53 : decode cX8_tank 53 = .ok (.dup, 1) := by decide +kernel
theorem dX8_tank_54 : decode cX8_tank 54 = .ok (.getfield 119, 3) := by decide +kernel
theorem dX8_tank_57 : decode cX8_tank 57 = .ok (.iconst 1, 1) := by decide +kernel
theorem dX8_tank_58 : decode cX8_tank 58 = .ok (.iadd, 1) := by decide +kernel
theorem dX8_tank_59 : decode cX8_tank 59 = .ok (.putfield 119, 3) := by decide +kernel
theorem dX8_tank_62 : decode cX8_tank 62 = .ok (.aload_n 0, 1) := by decide +kernel
theorem dX8_tank_63 : decode cX8_tank 63 = .ok (.getfield 119, 3) := by decide +kernel
theorem dX8_tank_66 : decode cX8_tank 66 = .ok (.iconst 1, 1) := by decide +kernel
theorem dX8_tank_67 : decode cX8_tank 67 = .ok (.isub, 1) := by decide +kernel
theorem dX8_tank_68 : decode cX8_tank 68 = .ok (.ireturn, 1) := by decide +kernel
theorem dX7_person_0 : decode cX7_person 0 = .ok (.iload_n 1, 1) := by decide +kernel
theorem dX7_person_1 : decode cX7_person 1 = .ok (.bipush 50, 2) := by decide +kernel
theorem dX7_person_3 : decode cX7_person 3 = .ok (.sipush 150, 3) := by decide +kernel
theorem dX7_person_6 : decode cX7_person 6 = .ok (.invokestatic 75, 3) := by decide +kernel
theorem dX7_person_9 : decode cX7_person 9 = .ok (.ifCond .ne 6, 3) := by decide +kernel
theorem dX7_person_12 : decode cX7_person 12 = .ok (.bipush (-2), 2) := by decide +kernel
theorem dX7_person_14 : decode cX7_person 14 = .ok (.ireturn, 1) := by decide +kernel
theorem dX7_person_15 : decode cX7_person 15 = .ok (.aload_n 0, 1) := by decide +kernel
theorem dX7_person_16 : decode cX7_person 16 = .ok (.getfield 28, 3) := by decide +kernel
theorem dX7_person_19 : decode cX7_person 19 = .ok (.getfield 119, 3) := by decide +kernel
theorem dX7_person_22 : decode cX7_person 22 = .ok (.istore_n 2, 1) := by decide +kernel
theorem dX7_person_23 : decode cX7_person 23 = .ok (.aload_n 0, 1) := by decide +kernel
theorem dX7_person_24 : decode cX7_person 24 = .ok (.getfield 28, 3) := by decide +kernel
theorem dX7_person_27 : decode cX7_person 27 = .ok (.iload_n 1, 1) := by decide +kernel
theorem dX7_person_28 : decode cX7_person 28 = .ok (.putfield 119, 3) := by decide +kernel
theorem dX7_person_31 : decode cX7_person 31 = .ok (.iload_n 2, 1) := by decide +kernel
theorem dX7_person_32 : decode cX7_person 32 = .ok (.ireturn, 1) := by decide +kernel
theorem dX8_person_0 : decode cX8_person 0 = .ok (.iload_n 1, 1) := by decide +kernel
theorem dX8_person_1 : decode cX8_person 1 = .ok (.bipush 50, 2) := by decide +kernel
theorem dX8_person_3 : decode cX8_person 3 = .ok (.sipush 150, 3) := by decide +kernel
theorem dX8_person_6 : decode cX8_person 6 = .ok (.invokestatic 95, 3) := by decide +kernel
theorem dX8_person_9 : decode cX8_person 9 = .ok (.ifCond .ne 6, 3) := by decide +kernel
theorem dX8_person_12 : decode cX8_person 12 = .ok (.bipush (-2), 2) := by decide +kernel
theorem dX8_person_14 : decode cX8_person 14 = .ok (.ireturn, 1) := by decide +kernel
theorem dX8_person_15 : decode cX8_person 15 = .ok (.aload_n 0, 1) := by decide +kernel
theorem dX8_person_16 : decode cX8_person 16 = .ok (.getfield 70, 3) := by decide +kernel
theorem dX8_person_19 : decode cX8_person 19 = .ok (.istore_n 2, 1) := by decide +kernel
theorem dX8_person_20 : decode cX8_person 20 = .ok (.aload_n 0, 1) := by decide +kernel
theorem dX8_person_21 : decode cX8_person 21 = .ok (.iload_n 1, 1) := by decide +kernel
theorem dX8_person_22 : decode cX8_person 22 = .ok (.putfield 70, 3) := by decide +kernel
theorem dX8_person_25 : decode cX8_person 25 = .ok (.iload_n 2, 1) := by decide +kernel
theorem dX8_person_26 : decode cX8_person 26 = .ok (.ireturn, 1) := by decide +kernel
theorem dX7_seat_0 : decode cX7_seat 0 = .ok (.iload_n 1, 1) := by decide +kernel
theorem dX7_seat_1 : decode cX7_seat 1 = .ok (.iconst 0, 1) := by decide +kernel
theorem dX7_seat_2 : decode cX7_seat 2 = .ok (.aload_n 0, 1) := by decide +kernel
theorem dX7_seat_3 : decode cX7_seat 3 = .ok (.getfield 28, 3) := by decide +kernel
theorem dX7_seat_6 : decode cX7_seat 6 = .ok (.getfield 122, 3) := by decide +kernel
theorem dX7_seat_9 : decode cX7_seat 9 = .ok (.iconst 1, 1) := by decide +kernel
theorem dX7_seat_10 : decode cX7_seat 10 = .ok (.isub, 1) := by decide +kernel
theorem dX7_seat_11 : decode cX7_seat 11 = .ok (.invokestatic 75, 3) := by decide +kernel
theorem dX7_seat_14 : decode cX7_seat 14 = .ok (.ifCond .ne 5, 3) := by decide +kernel
theorem dX7_seat_17 : decode cX7_seat 17 = .ok (.iconst (-1), 1) := by decide +kernel
theorem dX7_seat_18 : decode cX7_seat 18 = .ok (.ireturn, 1) := by decide +kernel
theorem dX8_seat_0 : decode cX8_seat 0 = .ok (.iload_n 1, 1) := by decide +kernel
theorem dX8_seat_1 : decode cX8_seat 1 = .ok (.iconst 0, 1) := by decide +kernel
theorem dX8_seat_2 : decode cX8_seat 2 = .ok (.aload_n 0, 1) := by decide +kernel
theorem dX8_seat_3 : decode cX8_seat 3 = .ok (.getfield 116, 3) := by decide +kernel
theorem dX8_seat_6 : decode cX8_seat 6 = .ok (.iconst 1, 1) := by decide +kernel
theorem dX8_seat_7 : decode cX8_seat 7 = .ok (.isub, 1) := by decide +kernel
theorem dX8_seat_8 : decode cX8_seat 8 = .ok (.invokestatic 95, 3) := by decide +kernel
theorem dX8_seat_11 : decode cX8_seat 11 = .ok (.ifCond .ne 5, 3) := by decide +kernel
theorem dX8_seat_14 : decode cX8_seat 14 = .ok (.iconst (-1), 1) := by decide +kernel
theorem dX8_seat_15 : decode cX8_seat 15 = .ok (.ireturn, 1) := by decide +kernel
theorem dX7_fuel_0 : decode cX7_fuel 0 = .ok (.iload_n 1, 1) := by decide +kernel
theorem dX7_fuel_1 : decode cX7_fuel 1 = .ok (.iconst 0, 1) := by decide +kernel
theorem dX7_fuel_2 : decode cX7_fuel 2 = .ok (.aload_n 0, 1) := by decide +kernel
theorem dX7_fuel_3 : decode cX7_fuel 3 = .ok (.getfield 35, 3) := by decide +kernel
theorem dX7_fuel_6 : decode cX7_fuel 6 = .ok (.getfield 132, 3) := by decide +kernel
theorem dX7_fuel_9 : decode cX7_fuel 9 = .ok (.iconst 1, 1) := by decide +kernel
theorem dX7_fuel_10 : decode cX7_fuel 10 = .ok (.isub, 1) := by decide +kernel
theorem dX7_fuel_11 : decode cX7_fuel 11 = .ok (.invokestatic 75, 3) := by decide +kernel
theorem dX7_fuel_14 : decode cX7_fuel 14 = .ok (.ifCond .ne 5, 3) := by decide +kernel
theorem dX7_fuel_17 : decode cX7_fuel 17 = .ok (.iconst (-1), 1) := by decide +kernel
theorem dX7_fuel_18 : decode cX7_fuel 18 = .ok (.ireturn, 1) := by decide +kernel
theorem dX8_fuel_0 : decode cX8_fuel 0 = .ok (.iload_n 1, 1) := by decide +kernel
theorem dX8_fuel_1 : decode cX8_fuel 1 = .ok (.iconst 0, 1) := by decide +kernel
theorem dX8_fuel_2 : decode cX8_fuel 2 = .ok (.aload_n 0, 1) := by decide +kernel
theorem dX8_fuel_3 : decode cX8_fuel 3 = .ok (.getfield 119, 3) := by decide +kernel
theorem dX8_fuel_6 : decode cX8_fuel 6 = .ok (.iconst 1, 1) := by decide +kernel
theorem dX8_fuel_7 : decode cX8_fuel 7 = .ok (.isub, 1) := by decide +kernel
theorem dX8_fuel_8 : decode cX8_fuel 8 = .ok (.invokestatic 95, 3) := by decide +kernel
theorem dX8_fuel_11 : decode cX8_fuel 11 = .ok (.ifCond .ne 5, 3) := by decide +kernel
theorem dX8_fuel_14 : decode cX8_fuel 14 = .ok (.iconst (-1), 1) := by decide +kernel
theorem dX8_fuel_15 : decode cX8_fuel 15 = .ok (.ireturn, 1) := by decide +kernel
theorem dX7_point_0 : decode cX7_point 0 = .ok (.iload_n 1, 1) := by decide +kernel
theorem dX7_point_1 : decode cX7_point 1 = .ok (.invokestatic 141, 3) := by decide +kernel
theorem dX7_point_4 : decode cX7_point 4 = .ok (.ifCond .ne 5, 3) := by decide +kernel
theorem dX7_point_7 : decode cX7_point 7 = .ok (.iconst (-1), 1) := by decide +kernel
theorem dX7_point_8 : decode cX7_point 8 = .ok (.ireturn, 1) := by decide +kernel
theorem dX7_point_9 : decode cX7_point 9 = .ok (.aload_n 0, 1) := by decide +kernel
theorem dX7_point_10 : decode cX7_point 10 = .ok (.iload_n 1, 1) := by decide +kernel
theorem dX7_point_11 : decode cX7_point 11 = .ok (.invokevirtual 144, 3) := by decide +kernel
theorem dX7_point_14 : decode cX7_point 14 = .ok (.astore 5, 2) := by decide +kernel
theorem dX7_point_16 : decode cX7_point 16 = .ok (.iload_n 2, 1) := by decide +kernel
theorem dX7_point_17 : decode cX7_point 17 = .ok (.aload 5, 2) := by decide +kernel
theorem dX7_point_19 : decode cX7_point 19 = .ok (.invokevirtual 148, 3) := by decide +kernel
theorem dX7_point_22 : decode cX7_point 22 = .ok (.iconst 1, 1) := by decide +kernel
theorem dX7_point_23 : decode cX7_point 23 = .ok (.iadd, 1) := by decide +kernel
theorem dX7_point_24 : decode cX7_point 24 = .ok (.ldc 152, 2) := by decide +kernel
theorem dX7_point_26 : decode cX7_point 26 = .ok (.invokestatic 75, 3) := by decide +kernel
theorem dX7_point_29 : decode cX7_point 29 = .ok (.ifCond .ne 6, 3) := by decide +kernel
theorem dX7_point_32 : decode cX7_point 32 = .ok (.bipush (-2), 2) := by decide +kernel
theorem dX7_point_34 : decode cX7_point 34 = .ok (.ireturn, 1) := by decide +kernel
theorem dX7_point_35 : decode cX7_point 35 = .ok (.iload_n 3, 1) := by decide +kernel
theorem dX7_point_36 : decode cX7_point 36 = .ok (.invokestatic 79, 3) := by decide +kernel
theorem dX7_point_39 : decode cX7_point 39 = .ok (.ifCond .eq 17, 3) := by decide +kernel
theorem dX7_point_42 : decode cX7_point 42 = .ok (.iload 4, 2) := by decide +kernel
theorem dX7_point_44 : decode cX7_point 44 = .ok (.invokestatic 79, 3) := by decide +kernel
theorem dX7_point_47 : decode cX7_point 47 = .ok (.ifCond .eq 9, 3) := by decide +kernel
theorem dX7_point_50 : decode cX7_point 50 = .ok (.iload_n 3, 1) := by decide +kernel
theorem dX7_point_51 : decode cX7_point 51 = .ok (.iload 4, 2) := by decide +kernel
theorem dX7_point_53 : decode cX7_point 53 = .ok (.if_icmp .le 6, 3) := by decide +kernel
theorem dX7_point_56 : decode cX7_point 56 = .ok (.bipush (-2), 2) := by decide +kernel
theorem dX7_point_58 : decode cX7_point 58 = .ok (.ireturn, 1) := by decide +kernel
theorem dX7_point_59 : decode cX7_point 59 = .ok (.aload 5, 2) := by decide +kernel
theorem dX7_point_61 : decode cX7_point 61 = .ok (.iload_n 2, 1) := by decide +kernel
theorem dX7_point_62 : decode cX7_point 62 = .ok (.iload_n 3, 1) := by decide +kernel
theorem dX7_point_63 : decode cX7_point 63 = .ok (.iload 4, 2) := by decide +kernel
theorem dX7_point_65 : decode cX7_point 65 = .ok (.invokevirtual 153, 3) := by decide +kernel
theorem dX7_point_68 : decode cX7_point 68 = .ok (.ireturn, 1) := by decide +kernel
theorem dX8_point_0 : decode cX8_point 0 = .ok (.iload_n 1, 1) := by decide +kernel
theorem dX8_point_1 : decode cX8_point 1 = .ok (.iconst 0, 1) := by decide +kernel
theorem dX8_point_2 : decode cX8_point 2 = .ok (.iconst 1, 1) := by decide +kernel
theorem dX8_point_3 : decode cX8_point 3 = .ok (.invokestatic 95, 3) := by decide +kernel
theorem dX8_point_6 : decode cX8_point 6 = .ok (.ifCond .ne 5, 3) := by decide +kernel
theorem dX8_point_9 : decode cX8_point 9 = .ok (.iconst (-1), 1) := by decide +kernel
theorem dX8_point_10 : decode cX8_point 10 = .ok (.ireturn, 1) := by decide +kernel
theorem dX8_point_11 : decode cX8_point 11 = .ok (.aload_n 0, 1) := by decide +kernel
theorem dX8_point_12 : decode cX8_point 12 = .ok (.getfield 73, 3) := by decide +kernel
theorem dX8_point_15 : decode cX8_point 15 = .ok (.iload_n 1, 1) := by decide +kernel
theorem dX8_point_16 : decode cX8_point 16 = .ok (.iaload, 1) := by decide +kernel
theorem dX8_point_17 : decode cX8_point 17 = .ok (.istore 5, 2) := by decide +kernel
theorem dX8_point_19 : decode cX8_point 19 = .ok (.iload_n 2, 1) := by decide +kernel
theorem dX8_point_20 : decode cX8_point 20 = .ok (.iconst 1, 1) := by decide +kernel
theorem dX8_point_21 : decode cX8_point 21 = .ok (.ldc 122, 2) := by decide +kernel
theorem dX8_point_23 : decode cX8_point 23 = .ok (.invokestatic 95, 3) := by decide +kernel
theorem dX8_point_26 : decode cX8_point 26 = .ok (.ifCond .eq 47, 3) := by decide +kernel
theorem dX8_point_29 : decode cX8_point 29 = .ok (.iload 5, 2) := by decide +kernel
theorem dX8_point_31 : decode cX8_point 31 = .ok (.ifCond .le 21, 3) := by decide +kernel
theorem dX8_point_52 : decode cX8_point 52 = .ok (.iload_n 3, 1) := by decide +kernel
theorem dX8_point_53 : decode cX8_point 53 = .ok (.invokestatic 110, 3) := by decide +kernel
theorem dX8_point_56 : decode cX8_point 56 = .ok (.ifCond .eq 17, 3) := by decide +kernel
theorem dX8_point_59 : decode cX8_point 59 = .ok (.iload 4, 2) := by decide +kernel
theorem dX8_point_61 : decode cX8_point 61 = .ok (.invokestatic 110, 3) := by decide +kernel
theorem dX8_point_64 : decode cX8_point 64 = .ok (.ifCond .eq 9, 3) := by decide +kernel
theorem dX8_point_67 : decode cX8_point 67 = .ok (.iload_n 3, 1) := by decide +kernel
theorem dX8_point_68 : decode cX8_point 68 = .ok (.iload 4, 2) := by decide +kernel
theorem dX8_point_70 : decode cX8_point 70 = .ok (.if_icmp .le 6, 3) := by decide +kernel
theorem dX8_point_73 : decode cX8_point 73 = .ok (.bipush (-2), 2) := by decide +kernel
theorem dX8_point_75 : decode cX8_point 75 = .ok (.ireturn, 1) := by decide +kernel
theorem dX8_point_76 : decode cX8_point 76 = .ok (.iload 5, 2) := by decide +kernel
theorem dX8_point_78 : decode cX8_point 78 = .ok (.bipush 10, 2) := by decide +kernel
theorem dX8_point_80 : decode cX8_point 80 = .ok (.if_icmp .ne 6, 3) := by decide +kernel
theorem dX8_point_86 : decode cX8_point 86 = .ok (.aload_n 0, 1) := by decide +kernel
theorem dX8_point_87 : decode cX8_point 87 = .ok (.getfield 76, 3) := by decide +kernel
theorem dX8_point_90 : decode cX8_point 90 = .ok (.bipush 10, 2) := by decide +kernel
theorem dX8_point_92 : decode cX8_point 92 = .ok (.iload_n 1, 1) := by decide +kernel
theorem dX8_point_93 : decode cX8_point 93 = .ok (.imul, 1) := by decide +kernel
theorem dX8_point_94 : decode cX8_point 94 = .ok (.iload 5, 2) := by decide +kernel
theorem dX8_point_96 : decode cX8_point 96 = .ok (.iadd, 1) := by decide +kernel
theorem dX8_point_97 : decode cX8_point 97 = .ok (.iload_n 2, 1) := by decide +kernel
theorem dX8_point_98 : decode cX8_point 98 = .ok (.iastore, 1) := by decide +kernel
theorem dX8_point_99 : decode cX8_point 99 = .ok (.aload_n 0, 1) := by decide +kernel
theorem dX8_point_100 : decode cX8_point 100 = .ok (.getfield 79, 3) := by decide +kernel
theorem dX8_point_103 : decode cX8_point 103 = .ok (.bipush 10, 2) := by decide +kernel
theorem dX8_point_105 : decode cX8_point 105 = .ok (.iload_n 1, 1) := by decide +kernel
theorem dX8_point_106 : decode cX8_point 106 = .ok (.imul, 1) := by decide +kernel
theorem dX8_point_107 : decode cX8_point 107 = .ok (.iload 5, 2) := by decide +kernel
theorem dX8_point_109 : decode cX8_point 109 = .ok (.iadd, 1) := by decide +kernel
theorem dX8_point_110 : decode cX8_point 110 = .ok (.iload_n 3, 1) := by decide +kernel
theorem dX8_point_111 : decode cX8_point 111 = .ok (.iastore, 1) := by decide +kernel
theorem dX8_point_112 : decode cX8_point 112 = .ok (.aload_n 0, 1) := by decide +kernel
theorem dX8_point_113 : decode cX8_point 113 = .ok (.getfield 82, 3) := by decide +kernel
theorem dX8_point_116 : decode cX8_point 116 = .ok (.bipush 10, 2) := by decide +kernel
theorem dX8_point_118 : decode cX8_point 118 = .ok (.iload_n 1, 1) := by decide +kernel
theorem dX8_point_119 : decode cX8_point 119 = .ok (.imul, 1) := by decide +kernel
theorem dX8_point_120 : decode cX8_point 120 = .ok (.iload 5, 2) := by decide +kernel
theorem dX8_point_122 : decode cX8_point 122 = .ok (.iadd, 1) := by decide +kernel
theorem dX8_point_123 : decode cX8_point 123 = .ok (.iload 4, 2) := by decide +kernel
theorem dX8_point_125 : decode cX8_point 125 = .ok (.iastore, 1) := by decide +kernel
theorem dX8_point_126 : decode cX8_point 126 = .ok (.aload_n 0, 1) := by decide +kernel
theorem dX8_point_127 : decode cX8_point 127 = .ok (.getfield 73, 3) := by decide +kernel
theorem dX8_point_130 : decode cX8_point 130 = .ok (.iload_n 1, 1) := by decide +kernel
theorem dX8_point_131 : decode cX8_point 131 = .ok (.dup2, 1) := by decide +kernel
theorem dX8_point_132 : decode cX8_point 132 = .ok (.iaload, 1) := by decide +kernel
theorem dX8_point_133 : decode cX8_point 133 = .ok (.iconst 1, 1) := by decide +kernel
theorem dX8_point_134 : decode cX8_point 134 = .ok (.iadd, 1) := by decide +kernel
theorem dX8_point_135 : decode cX8_point 135 = .ok (.iastore, 1) := by decide +kernel
theorem dX8_point_136 : decode cX8_point 136 = .ok (.aload_n 0, 1) := by decide +kernel
theorem dX8_point_137 : decode cX8_point 137 = .ok (.getfield 73, 3) := by decide +kernel
theorem dX8_point_140 : decode cX8_point 140 = .ok (.iload_n 1, 1) := by decide +kernel
theorem dX8_point_141 : decode cX8_point 141 = .ok (.iaload, 1) := by decide +kernel
theorem dX8_point_142 : decode cX8_point 142 = .ok (.ireturn, 1) := by decide +kernel
theorem dX7_wipe_0 : decode cX7_wipe 0 = .ok (.iload_n 1, 1) := by decide +kernel
theorem dX7_wipe_1 : decode cX7_wipe 1 = .ok (.invokestatic 141, 3) := by decide +kernel
theorem dX7_wipe_4 : decode cX7_wipe 4 = .ok (.ifCond .ne 5, 3) := by decide +kernel
theorem dX7_wipe_7 : decode cX7_wipe 7 = .ok (.iconst (-1), 1) := by decide +kernel
theorem dX7_wipe_8 : decode cX7_wipe 8 = .ok (.ireturn, 1) := by decide +kernel
theorem dX7_wipe_9 : decode cX7_wipe 9 = .ok (.aload_n 0, 1) := by decide +kernel
theorem dX7_wipe_10 : decode cX7_wipe 10 = .ok (.iload_n 1, 1) := by decide +kernel
theorem dX7_wipe_11 : decode cX7_wipe 11 = .ok (.invokevirtual 144, 3) := by decide +kernel
theorem dX7_wipe_14 : decode cX7_wipe 14 = .ok (.astore_n 2, 1) := by decide +kernel
theorem dX7_wipe_15 : decode cX7_wipe 15 = .ok (.aload_n 2, 1) := by decide +kernel
theorem dX7_wipe_16 : decode cX7_wipe 16 = .ok (.getfield 156, 3) := by decide +kernel
theorem dX7_wipe_19 : decode cX7_wipe 19 = .ok (.istore_n 3, 1) := by decide +kernel
theorem dX7_wipe_20 : decode cX7_wipe 20 = .ok (.aload_n 2, 1) := by decide +kernel
theorem dX7_wipe_21 : decode cX7_wipe 21 = .ok (.iconst 0, 1) := by decide +kernel
theorem dX7_wipe_22 : decode cX7_wipe 22 = .ok (.putfield 156, 3) := by decide +kernel
theorem dX7_wipe_25 : decode cX7_wipe 25 = .ok (.iload_n 3, 1) := by decide +kernel
theorem dX7_wipe_26 : decode cX7_wipe 26 = .ok (.ireturn, 1) := by decide +kernel
theorem dX8_wipe_0 : decode cX8_wipe 0 = .ok (.iload_n 1, 1) := by decide +kernel
theorem dX8_wipe_1 : decode cX8_wipe 1 = .ok (.iconst 0, 1) := by decide +kernel
theorem dX8_wipe_2 : decode cX8_wipe 2 = .ok (.iconst 1, 1) := by decide +kernel
theorem dX8_wipe_3 : decode cX8_wipe 3 = .ok (.invokestatic 95, 3) := by decide +kernel
theorem dX8_wipe_6 : decode cX8_wipe 6 = .ok (.ifCond .ne 5, 3) := by decide +kernel
theorem dX8_wipe_9 : decode cX8_wipe 9 = .ok (.iconst (-1), 1) := by decide +kernel
theorem dX8_wipe_10 : decode cX8_wipe 10 = .ok (.ireturn, 1) := by decide +kernel
theorem dX8_wipe_11 : decode cX8_wipe 11 = .ok (.aload_n 0, 1) := by decide +kernel
theorem dX8_wipe_12 : decode cX8_wipe 12 = .ok (.getfield 73, 3) := by decide +kernel
theorem dX8_wipe_15 : decode cX8_wipe 15 = .ok (.iload_n 1, 1) := by decide +kernel
theorem dX8_wipe_16 : decode cX8_wipe 16 = .ok (.iaload, 1) := by decide +kernel
theorem dX8_wipe_17 : decode cX8_wipe 17 = .ok (.istore_n 2, 1) := by decide +kernel
theorem dX8_wipe_18 : decode cX8_wipe 18 = .ok (.aload_n 0, 1) := by decide +kernel
theorem dX8_wipe_19 : decode cX8_wipe 19 = .ok (.getfield 73, 3) := by decide +kernel
theorem dX8_wipe_22 : decode cX8_wipe 22 = .ok (.iload_n 1, 1) := by decide +kernel
theorem dX8_wipe_23 : decode cX8_wipe 23 = .ok (.iconst 0, 1) := by decide +kernel
theorem dX8_wipe_24 : decode cX8_wipe 24 = .ok (.iastore, 1) := by decide +kernel
theorem dX8_wipe_25 : decode cX8_wipe 25 = .ok (.iload_n 2, 1) := by decide +kernel
theorem dX8_wipe_26 : decode cX8_wipe 26 = .ok (.ireturn, 1) := by decide +kernel
theorem dX7_fits_0 : decode cX7_fits 0 = .ok (.aload_n 0, 1) := by decide +kernel
theorem dX7_fits_1 : decode cX7_fits 1 = .ok (.getfield 21, 3) := by decide +kernel
theorem dX7_fits_4 : decode cX7_fits 4 = .ok (.iload_n 1, 1) := by decide +kernel
theorem dX7_fits_5 : decode cX7_fits 5 = .ok (.invokevirtual 159, 3) := by decide +kernel
theorem dX7_fits_8 : decode cX7_fits 8 = .ok (.ifCond .eq 15, 3) := by decide +kernel
theorem dX7_fits_23 : decode cX7_fits 23 = .ok (.iconst (-1), 1) := by decide +kernel
theorem dX7_fits_24 : decode cX7_fits 24 = .ok (.ireturn, 1) := by decide +kernel
theorem dX8_fits_0 : decode cX8_fits 0 = .ok (.aload_n 0, 1) := by decide +kernel
theorem dX8_fits_1 : decode cX8_fits 1 = .ok (.iload_n 1, 1) := by decide +kernel
theorem dX8_fits_2 : decode cX8_fits 2 = .ok (.invokevirtual 130, 3) := by decide +kernel
theorem dX8_fits_5 : decode cX8_fits 5 = .ok (.ifCond .eq 12, 3) := by decide +kernel
theorem dX8_fits_17 : decode cX8_fits 17 = .ok (.iconst (-1), 1) := by decide +kernel
theorem dX8_fits_18 : decode cX8_fits 18 = .ok (.ireturn, 1) := by decide +kernel
theorem dX7_load_0 : decode cX7_load 0 = .ok (.aload_n 0, 1) := by decide +kernel
theorem dX7_load_1 : decode cX7_load 1 = .ok (.iload_n 1, 1) := by decide +kernel
theorem dX7_load_2 : decode cX7_load 2 = .ok (.iload_n 2, 1) := by decide +kernel
theorem dX7_load_3 : decode cX7_load 3 = .ok (.iload_n 3, 1) := by decide +kernel
theorem dX7_load_4 : decode cX7_load 4 = .ok (.invokevirtual 175, 3) := by decide +kernel
theorem dX7_load_7 : decode cX7_load 7 = .ok (.istore 4, 2) := by decide +kernel
theorem dX7_load_9 : decode cX7_load 9 = .ok (.iload 4, 2) := by decide +kernel
theorem dX7_load_11 : decode cX7_load 11 = .ok (.ifCond .ne 16, 3) := by decide +kernel
theorem dX7_load_27 : decode cX7_load 27 = .ok (.iload 4, 2) := by decide +kernel
theorem dX7_load_29 : decode cX7_load 29 = .ok (.ireturn, 1) := by decide +kernel
theorem dX8_load_0 : decode cX8_load 0 = .ok (.aload_n 0, 1) := by decide +kernel
theorem dX8_load_1 : decode cX8_load 1 = .ok (.iload_n 1, 1) := by decide +kernel
theorem dX8_load_2 : decode cX8_load 2 = .ok (.iload_n 2, 1) := by decide +kernel
theorem dX8_load_3 : decode cX8_load 3 = .ok (.iload_n 3, 1) := by decide +kernel
theorem dX8_load_4 : decode cX8_load 4 = .ok (.invokevirtual 141, 3) := by decide +kernel
theorem dX8_load_7 : decode cX8_load 7 = .ok (.istore 4, 2) := by decide +kernel
theorem dX8_load_9 : decode cX8_load 9 = .ok (.iload 4, 2) := by decide +kernel
theorem dX8_load_11 : decode cX8_load 11 = .ok (.ifCond .ne 14, 3) := by decide +kernel
theorem dX8_load_25 : decode cX8_load 25 = .ok (.iload 4, 2) := by decide +kernel
theorem dX8_load_27 : decode cX8_load 27 = .ok (.ireturn, 1) := by decide +kernel
theorem dX7_unload_0 : decode cX7_unload 0 = .ok (.aload_n 0, 1) := by decide +kernel
theorem dX7_unload_1 : decode cX7_unload 1 = .ok (.getfield 21, 3) := by decide +kernel
theorem dX7_unload_4 : decode cX7_unload 4 = .ok (.iload_n 1, 1) := by decide +kernel
theorem dX7_unload_5 : decode cX7_unload 5 = .ok (.invokevirtual 159, 3) := by decide +kernel
theorem dX7_unload_8 : decode cX7_unload 8 = .ok (.ifCond .ne 5, 3) := by decide +kernel
theorem dX7_unload_11 : decode cX7_unload 11 = .ok (.iconst (-1), 1) := by decide +kernel
theorem dX7_unload_12 : decode cX7_unload 12 = .ok (.ireturn, 1) := by decide +kernel
theorem dX8_unload_0 : decode cX8_unload 0 = .ok (.aload_n 0, 1) := by decide +kernel
theorem dX8_unload_1 : decode cX8_unload 1 = .ok (.iload_n 1, 1) := by decide +kernel
theorem dX8_unload_2 : decode cX8_unload 2 = .ok (.invokevirtual 130, 3) := by decide +kernel
theorem dX8_unload_5 : decode cX8_unload 5 = .ok (.ifCond .ne 5, 3) := by decide +kernel
theorem dX8_unload_8 : decode cX8_unload 8 = .ok (.iconst (-1), 1) := by decide +kernel
theorem dX8_unload_9 : decode cX8_unload 9 = .ok (.ireturn, 1) := by decide +kernel
theorem dX7_where_0 : decode cX7_where 0 = .ok (.aload_n 0, 1) := by decide +kernel
theorem dX7_where_1 : decode cX7_where 1 = .ok (.getfield 21, 3) := by decide +kernel
theorem dX7_where_4 : decode cX7_where 4 = .ok (.iload_n 1, 1) := by decide +kernel
theorem dX7_where_5 : decode cX7_where 5 = .ok (.invokevirtual 159, 3) := by decide +kernel
theorem dX7_where_8 : decode cX7_where 8 = .ok (.ifCond .eq 15, 3) := by decide +kernel
theorem dX7_where_23 : decode cX7_where 23 = .ok (.iconst (-1), 1) := by decide +kernel
theorem dX7_where_24 : decode cX7_where 24 = .ok (.ireturn, 1) := by decide +kernel
theorem dX8_where_0 : decode cX8_where 0 = .ok (.aload_n 0, 1) := by decide +kernel
theorem dX8_where_1 : decode cX8_where 1 = .ok (.iload_n 1, 1) := by decide +kernel
theorem dX8_where_2 : decode cX8_where 2 = .ok (.invokevirtual 130, 3) := by decide +kernel
theorem dX8_where_5 : decode cX8_where 5 = .ok (.ifCond .eq 12, 3) := by decide +kernel
theorem dX8_where_17 : decode cX8_where 17 = .ok (.iconst (-1), 1) := by decide +kernel
theorem dX8_where_18 : decode cX8_where 18 = .ok (.ireturn, 1) := by decide +kernel
theorem dX7_in_0 : decode cX7_in 0 = .ok (.aload_n 0, 1) := by decide +kernel
theorem dX7_in_1 : decode cX7_in 1 = .ok (.getfield 21, 3) := by decide +kernel
theorem dX7_in_4 : decode cX7_in 4 = .ok (.iload_n 1, 1) := by decide +kernel
theorem dX7_in_5 : decode cX7_in 5 = .ok (.iload_n 2, 1) := by decide +kernel
theorem dX7_in_6 : decode cX7_in 6 = .ok (.invokevirtual 162, 3) := by decide +kernel
theorem dX7_in_9 : decode cX7_in 9 = .ok (.ifCond .eq 19, 3) := by decide +kernel
theorem dX7_in_28 : decode cX7_in 28 = .ok (.iconst (-1), 1) := by decide +kernel
theorem dX7_in_29 : decode cX7_in 29 = .ok (.ireturn, 1) := by decide +kernel
theorem dX8_in_0 : decode cX8_in 0 = .ok (.aload_n 0, 1) := by decide +kernel
theorem dX8_in_1 : decode cX8_in 1 = .ok (.iload_n 1, 1) := by decide +kernel
theorem dX8_in_2 : decode cX8_in 2 = .ok (.iload_n 2, 1) := by decide +kernel
theorem dX8_in_3 : decode cX8_in 3 = .ok (.invokevirtual 133, 3) := by decide +kernel
theorem dX8_in_6 : decode cX8_in 6 = .ok (.ifCond .eq 17, 3) := by decide +kernel
theorem dX8_in_23 : decode cX8_in 23 = .ok (.iconst (-1), 1) := by decide +kernel
theorem dX8_in_24 : decode cX8_in 24 = .ok (.ireturn, 1) := by decide +kernel
theorem dX7_about_0 : decode cX7_about 0 = .ok (.aload_n 0, 1) := by decide +kernel
theorem dX7_about_1 : decode cX7_about 1 = .ok (.getfield 21, 3) := by decide +kernel
theorem dX7_about_4 : decode cX7_about 4 = .ok (.iload_n 1, 1) := by decide +kernel
theorem dX7_about_5 : decode cX7_about 5 = .ok (.invokevirtual 90, 3) := by decide +kernel
theorem dX7_about_8 : decode cX7_about 8 = .ok (.ifCond .ne 5, 3) := by decide +kernel
theorem dX7_about_11 : decode cX7_about 11 = .ok (.iconst (-1), 1) := by decide +kernel
theorem dX7_about_12 : decode cX7_about 12 = .ok (.ireturn, 1) := by decide +kernel
theorem dX8_about_0 : decode cX8_about 0 = .ok (.aload_n 0, 1) := by decide +kernel
theorem dX8_about_1 : decode cX8_about 1 = .ok (.iload_n 1, 1) := by decide +kernel
theorem dX8_about_2 : decode cX8_about 2 = .ok (.invokevirtual 102, 3) := by decide +kernel
theorem dX8_about_5 : decode cX8_about 5 = .ok (.ifCond .ne 5, 3) := by decide +kernel
theorem dX8_about_8 : decode cX8_about 8 = .ok (.iconst (-1), 1) := by decide +kernel
theorem dX8_about_9 : decode cX8_about 9 = .ok (.ireturn, 1) := by decide +kernel
theorem dX7_weight_0 : decode cX7_weight 0 = .ok (.iload_n 1, 1) := by decide +kernel
theorem dX7_weight_1 : decode cX7_weight 1 = .ok (.tableswitch 53 0 2 #[27, 32, 45], 27) := by decide +kernel
theorem dX7_weight_28 : decode cX7_weight 28 = .ok (.aload_n 0, 1) := by decide +kernel
theorem dX7_weight_29 : decode cX7_weight 29 = .ok (.invokevirtual 201, 3) := by decide +kernel
theorem dX7_weight_32 : decode cX7_weight 32 = .ok (.ireturn, 1) := by decide +kernel
theorem dX7_weight_33 : decode cX7_weight 33 = .ok (.aload_n 0, 1) := by decide +kernel
theorem dX7_weight_34 : decode cX7_weight 34 = .ok (.invokevirtual 201, 3) := by decide +kernel
theorem dX7_weight_37 : decode cX7_weight 37 = .ok (.aload_n 0, 1) := by decide +kernel
theorem dX7_weight_38 : decode cX7_weight 38 = .ok (.getfield 35, 3) := by decide +kernel
theorem dX7_weight_41 : decode cX7_weight 41 = .ok (.invokevirtual 204, 3) := by decide +kernel
theorem dX7_weight_44 : decode cX7_weight 44 = .ok (.iadd, 1) := by decide +kernel
theorem dX7_weight_45 : decode cX7_weight 45 = .ok (.ireturn, 1) := by decide +kernel
theorem dX7_weight_46 : decode cX7_weight 46 = .ok (.aload_n 0, 1) := by decide +kernel
theorem dX7_weight_47 : decode cX7_weight 47 = .ok (.getfield 35, 3) := by decide +kernel
theorem dX7_weight_50 : decode cX7_weight 50 = .ok (.invokevirtual 204, 3) := by decide +kernel
theorem dX7_weight_53 : decode cX7_weight 53 = .ok (.ireturn, 1) := by decide +kernel
theorem dX7_weight_54 : decode cX7_weight 54 = .ok (.iconst (-1), 1) := by decide +kernel
theorem dX7_weight_55 : decode cX7_weight 55 = .ok (.ireturn, 1) := by decide +kernel
theorem dX8_weight_0 : decode cX8_weight 0 = .ok (.iload_n 1, 1) := by decide +kernel
theorem dX8_weight_1 : decode cX8_weight 1 = .ok (.tableswitch 47 0 2 #[27, 32, 42], 27) := by decide +kernel
theorem dX8_weight_28 : decode cX8_weight 28 = .ok (.aload_n 0, 1) := by decide +kernel
theorem dX8_weight_29 : decode cX8_weight 29 = .ok (.invokevirtual 153, 3) := by decide +kernel
theorem dX8_weight_32 : decode cX8_weight 32 = .ok (.ireturn, 1) := by decide +kernel
theorem dX8_weight_33 : decode cX8_weight 33 = .ok (.aload_n 0, 1) := by decide +kernel
theorem dX8_weight_34 : decode cX8_weight 34 = .ok (.invokevirtual 153, 3) := by decide +kernel
theorem dX8_weight_37 : decode cX8_weight 37 = .ok (.aload_n 0, 1) := by decide +kernel
theorem dX8_weight_38 : decode cX8_weight 38 = .ok (.invokevirtual 157, 3) := by decide +kernel
theorem dX8_weight_41 : decode cX8_weight 41 = .ok (.iadd, 1) := by decide +kernel
theorem dX8_weight_42 : decode cX8_weight 42 = .ok (.ireturn, 1) := by decide +kernel
theorem dX8_weight_43 : decode cX8_weight 43 = .ok (.aload_n 0, 1) := by decide +kernel
theorem dX8_weight_44 : decode cX8_weight 44 = .ok (.invokevirtual 157, 3) := by decide +kernel
theorem dX8_weight_47 : decode cX8_weight 47 = .ok (.ireturn, 1) := by decide +kernel
theorem dX8_weight_48 : decode cX8_weight 48 = .ok (.iconst (-1), 1) := by decide +kernel
theorem dX8_weight_49 : decode cX8_weight 49 = .ok (.ireturn, 1) := by decide +kernel
theorem dX7_moment_0 : decode cX7_moment 0 = .ok (.iload_n 1, 1) := by decide +kernel
theorem dX7_moment_1 : decode cX7_moment 1 = .ok (.tableswitch 55 0 2 #[27, 32, 46], 27) := by decide +kernel
theorem dX7_moment_28 : decode cX7_moment 28 = .ok (.aload_n 0, 1) := by decide +kernel
theorem dX7_moment_29 : decode cX7_moment 29 = .ok (.invokevirtual 207, 3) := by decide +kernel
theorem dX7_moment_32 : decode cX7_moment 32 = .ok (.lreturn, 1) := by decide +kernel
theorem dX7_moment_33 : decode cX7_moment 33 = .ok (.aload_n 0, 1) := by decide +kernel
theorem dX7_moment_34 : decode cX7_moment 34 = .ok (.invokevirtual 207, 3) := by decide +kernel
theorem dX7_moment_37 : decode cX7_moment 37 = .ok (.aload_n 0, 1) := by decide +kernel
theorem dX7_moment_38 : decode cX7_moment 38 = .ok (.getfield 35, 3) := by decide +kernel
theorem dX7_moment_41 : decode cX7_moment 41 = .ok (.iconst 0, 1) := by decide +kernel
theorem dX7_moment_42 : decode cX7_moment 42 = .ok (.invokevirtual 211, 3) := by decide +kernel
theorem dX7_moment_45 : decode cX7_moment 45 = .ok (.ladd, 1) := by decide +kernel
theorem dX7_moment_46 : decode cX7_moment 46 = .ok (.lreturn, 1) := by decide +kernel
theorem dX7_moment_47 : decode cX7_moment 47 = .ok (.aload_n 0, 1) := by decide +kernel
theorem dX7_moment_48 : decode cX7_moment 48 = .ok (.getfield 35, 3) := by decide +kernel
theorem dX7_moment_51 : decode cX7_moment 51 = .ok (.iconst 0, 1) := by decide +kernel
theorem dX7_moment_52 : decode cX7_moment 52 = .ok (.invokevirtual 211, 3) := by decide +kernel
theorem dX7_moment_55 : decode cX7_moment 55 = .ok (.lreturn, 1) := by decide +kernel
theorem dX7_moment_56 : decode cX7_moment 56 = .ok (.ldc2_w 215, 3) := by decide +kernel
theorem dX7_moment_59 : decode cX7_moment 59 = .ok (.lreturn, 1) := by decide +kernel
theorem dX8_moment_0 : decode cX8_moment 0 = .ok (.iload_n 1, 1) := by decide +kernel
theorem dX8_moment_1 : decode cX8_moment 1 = .ok (.tableswitch 49 0 2 #[27, 32, 43], 27) := by decide +kernel
theorem dX8_moment_28 : decode cX8_moment 28 = .ok (.aload_n 0, 1) := by decide +kernel
theorem dX8_moment_29 : decode cX8_moment 29 = .ok (.invokevirtual 160, 3) := by decide +kernel
theorem dX8_moment_32 : decode cX8_moment 32 = .ok (.lreturn, 1) := by decide +kernel
theorem dX8_moment_33 : decode cX8_moment 33 = .ok (.aload_n 0, 1) := by decide +kernel
theorem dX8_moment_34 : decode cX8_moment 34 = .ok (.invokevirtual 160, 3) := by decide +kernel
theorem dX8_moment_37 : decode cX8_moment 37 = .ok (.aload_n 0, 1) := by decide +kernel
theorem dX8_moment_38 : decode cX8_moment 38 = .ok (.iconst 0, 1) := by decide +kernel
theorem dX8_moment_39 : decode cX8_moment 39 = .ok (.invokevirtual 164, 3) := by decide +kernel
theorem dX8_moment_42 : decode cX8_moment 42 = .ok (.ladd, 1) := by decide +kernel
theorem dX8_moment_43 : decode cX8_moment 43 = .ok (.lreturn, 1) := by decide +kernel
theorem dX8_moment_44 : decode cX8_moment 44 = .ok (.aload_n 0, 1) := by decide +kernel
theorem dX8_moment_45 : decode cX8_moment 45 = .ok (.iconst 0, 1) := by decide +kernel
theorem dX8_moment_46 : decode cX8_moment 46 = .ok (.invokevirtual 164, 3) := by decide +kernel
theorem dX8_moment_49 : decode cX8_moment 49 = .ok (.lreturn, 1) := by decide +kernel
theorem dX8_moment_50 : decode cX8_moment 50 = .ok (.ldc2_w 168, 3) := by decide +kernel
theorem dX8_moment_53 : decode cX8_moment 53 = .ok (.lreturn, 1) := by decide +kernel
theorem dX7_burnt_0 : decode cX7_burnt 0 = .ok (.iload_n 1, 1) := by decide +kernel
theorem dX7_burnt_1 : decode cX7_burnt 1 = .ok (.iconst 0, 1) := by decide +kernel
theorem dX7_burnt_2 : decode cX7_burnt 2 = .ok (.aload_n 0, 1) := by decide +kernel
theorem dX7_burnt_3 : decode cX7_burnt 3 = .ok (.getfield 35, 3) := by decide +kernel
theorem dX7_burnt_6 : decode cX7_burnt 6 = .ok (.invokevirtual 204, 3) := by decide +kernel
theorem dX7_burnt_9 : decode cX7_burnt 9 = .ok (.invokestatic 75, 3) := by decide +kernel
theorem dX7_burnt_12 : decode cX7_burnt 12 = .ok (.ifCond .ne 7, 3) := by decide +kernel
theorem dX7_burnt_15 : decode cX7_burnt 15 = .ok (.ldc2_w 215, 3) := by decide +kernel
theorem dX7_burnt_18 : decode cX7_burnt 18 = .ok (.lreturn, 1) := by decide +kernel
theorem dX7_burnt_19 : decode cX7_burnt 19 = .ok (.iload_n 2, 1) := by decide +kernel
theorem dX7_burnt_20 : decode cX7_burnt 20 = .ok (.lookupswitch 58 #[(0, 28), (1, 42)], 28) := by decide +kernel
theorem dX7_burnt_48 : decode cX7_burnt 48 = .ok (.aload_n 0, 1) := by decide +kernel
theorem dX7_burnt_49 : decode cX7_burnt 49 = .ok (.invokevirtual 207, 3) := by decide +kernel
theorem dX7_burnt_52 : decode cX7_burnt 52 = .ok (.aload_n 0, 1) := by decide +kernel
theorem dX7_burnt_53 : decode cX7_burnt 53 = .ok (.getfield 35, 3) := by decide +kernel
theorem dX7_burnt_56 : decode cX7_burnt 56 = .ok (.iload_n 1, 1) := by decide +kernel
theorem dX7_burnt_57 : decode cX7_burnt 57 = .ok (.invokevirtual 211, 3) := by decide +kernel
theorem dX7_burnt_60 : decode cX7_burnt 60 = .ok (.ladd, 1) := by decide +kernel
theorem dX7_burnt_61 : decode cX7_burnt 61 = .ok (.lreturn, 1) := by decide +kernel
theorem dX7_burnt_62 : decode cX7_burnt 62 = .ok (.aload_n 0, 1) := by decide +kernel
theorem dX7_burnt_63 : decode cX7_burnt 63 = .ok (.invokevirtual 201, 3) := by decide +kernel
theorem dX7_burnt_66 : decode cX7_burnt 66 = .ok (.aload_n 0, 1) := by decide +kernel
theorem dX7_burnt_67 : decode cX7_burnt 67 = .ok (.getfield 35, 3) := by decide +kernel
theorem dX7_burnt_70 : decode cX7_burnt 70 = .ok (.invokevirtual 204, 3) := by decide +kernel
theorem dX7_burnt_73 : decode cX7_burnt 73 = .ok (.iadd, 1) := by decide +kernel
theorem dX7_burnt_74 : decode cX7_burnt 74 = .ok (.iload_n 1, 1) := by decide +kernel
theorem dX7_burnt_75 : decode cX7_burnt 75 = .ok (.isub, 1) := by decide +kernel
theorem dX7_burnt_76 : decode cX7_burnt 76 = .ok (.i2l, 1) := by decide +kernel
theorem dX7_burnt_77 : decode cX7_burnt 77 = .ok (.lreturn, 1) := by decide +kernel
theorem dX7_burnt_78 : decode cX7_burnt 78 = .ok (.ldc2_w 215, 3) := by decide +kernel
theorem dX7_burnt_81 : decode cX7_burnt 81 = .ok (.lreturn, 1) := by decide +kernel
theorem dX8_burnt_0 : decode cX8_burnt 0 = .ok (.iload_n 1, 1) := by decide +kernel
theorem dX8_burnt_1 : decode cX8_burnt 1 = .ok (.iconst 0, 1) := by decide +kernel
theorem dX8_burnt_2 : decode cX8_burnt 2 = .ok (.aload_n 0, 1) := by decide +kernel
theorem dX8_burnt_3 : decode cX8_burnt 3 = .ok (.invokevirtual 157, 3) := by decide +kernel
theorem dX8_burnt_6 : decode cX8_burnt 6 = .ok (.invokestatic 95, 3) := by decide +kernel
theorem dX8_burnt_9 : decode cX8_burnt 9 = .ok (.ifCond .ne 7, 3) := by decide +kernel
theorem dX8_burnt_12 : decode cX8_burnt 12 = .ok (.ldc2_w 168, 3) := by decide +kernel
theorem dX8_burnt_15 : decode cX8_burnt 15 = .ok (.lreturn, 1) := by decide +kernel
theorem dX8_burnt_16 : decode cX8_burnt 16 = .ok (.iload_n 2, 1) := by decide +kernel
theorem dX8_burnt_17 : decode cX8_burnt 17 = .ok (.ifCond .ne 16, 3) := by decide +kernel
theorem dX8_burnt_20 : decode cX8_burnt 20 = .ok (.aload_n 0, 1) := by decide +kernel
theorem dX8_burnt_21 : decode cX8_burnt 21 = .ok (.invokevirtual 160, 3) := by decide +kernel
theorem dX8_burnt_24 : decode cX8_burnt 24 = .ok (.aload_n 0, 1) := by decide +kernel
theorem dX8_burnt_25 : decode cX8_burnt 25 = .ok (.iload_n 1, 1) := by decide +kernel
theorem dX8_burnt_26 : decode cX8_burnt 26 = .ok (.invokevirtual 164, 3) := by decide +kernel
theorem dX8_burnt_29 : decode cX8_burnt 29 = .ok (.ladd, 1) := by decide +kernel
theorem dX8_burnt_30 : decode cX8_burnt 30 = .ok (.goto 26, 3) := by decide +kernel
theorem dX8_burnt_33 : decode cX8_burnt 33 = .ok (.iload_n 2, 1) := by decide +kernel
theorem dX8_burnt_34 : decode cX8_burnt 34 = .ok (.iconst 1, 1) := by decide +kernel
theorem dX8_burnt_35 : decode cX8_burnt 35 = .ok (.if_icmp .ne 18, 3) := by decide +kernel
theorem dX8_burnt_38 : decode cX8_burnt 38 = .ok (.aload_n 0, 1) := by decide +kernel
theorem dX8_burnt_39 : decode cX8_burnt 39 = .ok (.invokevirtual 153, 3) := by decide +kernel
theorem dX8_burnt_42 : decode cX8_burnt 42 = .ok (.aload_n 0, 1) := by decide +kernel
theorem dX8_burnt_43 : decode cX8_burnt 43 = .ok (.invokevirtual 157, 3) := by decide +kernel
theorem dX8_burnt_46 : decode cX8_burnt 46 = .ok (.iadd, 1) := by decide +kernel
theorem dX8_burnt_47 : decode cX8_burnt 47 = .ok (.iload_n 1, 1) := by decide +kernel
theorem dX8_burnt_48 : decode cX8_burnt 48 = .ok (.isub, 1) := by decide +kernel
theorem dX8_burnt_49 : decode cX8_burnt 49 = .ok (.i2l, 1) := by decide +kernel
theorem dX8_burnt_50 : decode cX8_burnt 50 = .ok (.goto 6, 3) := by decide +kernel
theorem dX8_burnt_53 : decode cX8_burnt 53 = .ok (.ldc2_w 168, 3) := by decide +kernel
theorem dX8_burnt_56 : decode cX8_burnt 56 = .ok (.lreturn, 1) := by decide +kernel
theorem dX7_within_0 : decode cX7_within 0 = .ok (.iload_n 1, 1) := by decide +kernel
theorem dX7_within_1 : decode cX7_within 1 = .ok (.invokestatic 141, 3) := by decide +kernel
theorem dX7_within_4 : decode cX7_within 4 = .ok (.ifCond .ne 5, 3) := by decide +kernel
theorem dX7_within_7 : decode cX7_within 7 = .ok (.iconst (-1), 1) := by decide +kernel
theorem dX7_within_8 : decode cX7_within 8 = .ok (.ireturn, 1) := by decide +kernel
theorem dX7_within_9 : decode cX7_within 9 = .ok (.aload_n 0, 1) := by decide +kernel
